set_option maxRecDepth 20000 in
theorem ggX4_init_X3_init : GoodIn wsX4_init wsX3_init := goodIn_r _ [21, 22, 2, 3, 23, 24, 25, 26, 55, 56, 57, 58, 59, 60] (by decide +kernel) (by decide +kernel)
set_option maxRecDepth 20000 in
theorem gX4_init_X3_init_n11 : GoodIn wsX4_init (wsX3_init) := ggX4_init_X3_init
set_option maxRecDepth 20000 in
theorem ggX4_init_X2_init : GoodIn wsX4_init wsX2_init := goodIn_r _ [29, 30, 2, 3, 31, 32, 23, 33, 34, 35, 36, 65, 66, 67, 68, 69, 70] (by decide +kernel) (by decide +kernel)
set_option maxRecDepth 20000 in
theorem gX4_init_X2_init : GoodIn wsX4_init (wsX2_init) := ggX4_init_X2_init
set_option maxRecDepth 20000 in
theorem ggX4_init_X1_init : GoodIn wsX4_init wsX1_init := goodIn_r _ [39, 40, 2, 3, 31, 41, 23, 42, 43, 44, 45, 46, 71, 72, 73, 74, 75, 76, 77, 78] (by decide +kernel) (by decide +kernel)
set_option maxRecDepth 20000 in
theorem gX4_init_X1_init : GoodIn wsX4_init (wsX1_init) := ggX4_init_X1_init
set_option maxRecDepth 20000 in
theorem ggX4_init_X0_init : GoodIn wsX4_init wsX0_init := goodIn_r _ [49, 50, 2, 3, 23, 51, 52, 53, 54, 79, 80, 81, 82, 83, 84, 85, 86] (by decide +kernel) (by decide +kernel)
set_option maxRecDepth 20000 in
theorem gX4_init_X0_init : GoodIn wsX4_init (wsX0_init) := ggX4_init_X0_init
theorem dX4_init_0 : decode cX4_init 0 = .ok (.aload_n 0, 1) := by decide +kernel
theorem dX4_init_1 : decode cX4_init 1 = .ok (.invokespecial 3, 3) := by decide +kernel
theorem dX4_init_4 : decode cX4_init 4 = .ok (.aload_n 0, 1) := by decide +kernel
theorem dX4_init_5 : decode cX4_init 5 = .ok (.new 9, 3) := by decide +kernel
theorem dX4_init_8 : decode cX4_init 8 = .ok (.dup, 1) := by decide +kernel
theorem dX4_init_9 : decode cX4_init 9 = .ok (.invokespecial 11, 3) := by decide +kernel
theorem dX4_init_12 : decode cX4_init 12 = .ok (.putfield 12, 3) := by decide +kernel
theorem dX4_init_15 : decode cX4_init 15 = .ok (.aload_n 0, 1) := by decide +kernel
theorem dX4_init_16 : decode cX4_init 16 = .ok (.new 16, 3) := by decide +kernel
theorem dX4_init_19 : decode cX4_init 19 = .ok (.dup, 1) := by decide +kernel
theorem dX4_init_20 : decode cX4_init 20 = .ok (.aload_n 0, 1) := by decide +kernel
theorem dX4_init_21 : decode cX4_init 21 = .ok (.getfield 12, 3) := by decide +kernel
theorem dX4_init_24 : decode cX4_init 24 = .ok (.invokespecial 18, 3) := by decide +kernel
theorem dX4_init_27 : decode cX4_init 27 = .ok (.putfield 21, 3) := by decide +kernel
theorem dX4_init_30 : decode cX4_init 30 = .ok (.aload_n 0, 1) := by decide +kernel
theorem dX4_init_31 : decode cX4_init 31 = .ok (.new 25, 3) := by decide +kernel
theorem dX4_init_34 : decode cX4_init 34 = .ok (.dup, 1) := by decide +kernel
theorem dX4_init_35 : decode cX4_init 35 = .ok (.aload_n 0, 1) := by decide +kernel
theorem dX4_init_36 : decode cX4_init 36 = .ok (.getfield 12, 3) := by decide +kernel
theorem dX4_init_39 : decode cX4_init 39 = .ok (.invokespecial 27, 3) := by decide +kernel
theorem dX4_init_42 : decode cX4_init 42 = .ok (.putfield 28, 3) := by decide +kernel
theorem dX4_init_45 : decode cX4_init 45 = .ok (.aload_n 0, 1) := by decide +kernel
theorem dX4_init_46 : decode cX4_init 46 = .ok (.new 32, 3) := by decide +kernel
theorem dX4_init_49 : decode cX4_init 49 = .ok (.dup, 1) := by decide +kernel
theorem dX4_init_50 : decode cX4_init 50 = .ok (.aload_n 0, 1) := by decide +kernel
theorem dX4_init_51 : decode cX4_init 51 = .ok (.getfield 12, 3) := by decide +kernel
theorem dX4_init_54 : decode cX4_init 54 = .ok (.invokespecial 34, 3) := by decide +kernel
theorem dX4_init_57 : decode cX4_init 57 = .ok (.putfield 35, 3) := by decide +kernel
theorem dX4_init_60 : decode cX4_init 60 = .ok (.return_, 1) := by decide +kernel
set_option maxRecDepth 20000 in
theorem ggX4_addPart_X4_needTool : GoodIn wsX4_addPart wsX4_needTool := goodIn_ca (goodIn_r _ [8, 9, 10] (by decide +kernel) (by decide +kernel)) (goodIn_sub (fun _ h => List.mem_cons_of_mem _ (List.mem_append_right _ h)) (by decide +kernel))
set_option maxRecDepth 20000 in
theorem gX4_addPart_X4_needTool : GoodIn wsX4_addPart (wsV RX4 39 RX4 yX4_needTool wsX4_needTool) := goodIn_app (goodIn_of _ (by decide +kernel)) ggX4_addPart_X4_needTool
set_option maxRecDepth 20000 in
theorem ggX4_addPart_X3_count : GoodIn wsX4_addPart wsX3_count := goodIn_r _ [15, 16, 56, 57, 58, 59, 60, 61] (by decide +kernel) (by decide +kernel)
set_option maxRecDepth 20000 in
theorem gX4_addPart_X3_count : GoodIn wsX4_addPart (wsV RX4 43 RX3 yX3_count wsX3_count) := goodIn_app (goodIn_of _ (by decide +kernel)) ggX4_addPart_X3_count
set_option maxRecDepth 20000 in
theorem ggX4_addPart_X4_productIsTold : GoodIn wsX4_addPart wsX4_productIsTold := goodIn_r _ [20, 21, 22, 23, 24, 25, 26, 27, 28, 29, 30, 31, 32, 33, 34, 35, 36, 37, 38, 39, 40, 41, 42, 43, 44, 45, 46, 52, 53, 54, 55, 62, 63, 64, 65, 66, 67, 68, 69, 70, 71, 72, 73, 74, 75, 76, 77, 78, 79, 80, 81, 82, 83] (by decide +kernel) (by decide +kernel)
set_option maxRecDepth 20000 in
theorem gX4_addPart_X4_productIsTold : GoodIn wsX4_addPart (wsV RX4 54 RX4 yX4_productIsTold wsX4_productIsTold) := goodIn_app (goodIn_of _ (by decide +kernel)) ggX4_addPart_X4_productIsTold
set_option maxRecDepth 20000 in
theorem ggX4_addPart_X3_add : GoodIn wsX4_addPart wsX3_add := goodIn_r _ [50, 16, 51, 56, 57, 58, 59, 60, 61] (by decide +kernel) (by decide +kernel)
set_option maxRecDepth 20000 in
theorem gX4_addPart_X3_add : GoodIn wsX4_addPart (wsV RX4 57 RX3 yX3_add wsX3_add) := goodIn_app (goodIn_of _ (by decide +kernel)) ggX4_addPart_X3_add
theorem dX4_addPart_0 : decode cX4_addPart 0 = .ok (.aload_n 0, 1) := by decide +kernel
theorem dX4_addPart_1 : decode cX4_addPart 1 = .ok (.iload_n 1, 1) := by decide +kernel
theorem dX4_addPart_2 : decode cX4_addPart 2 = .ok (.invokevirtual 39, 3) := by decide +kernel
theorem dX4_addPart_5 : decode cX4_addPart 5 = .ok (.aload_n 0, 1) := by decide +kernel
theorem dX4_addPart_6 : decode cX4_addPart 6 = .ok (.getfield 12, 3) := by decide +kernel
theorem dX4_addPart_9 : decode cX4_addPart 9 = .ok (.invokevirtual 43, 3) := by decide +kernel
theorem dX4_addPart_12 : decode cX4_addPart 12 = .ok (.bipush 8, 2) := by decide +kernel
theorem dX4_addPart_14 : decode cX4_addPart 14 = .ok (.if_icmp .lt 13, 3) := by decide +kernel
theorem dX4_addPart_17 : decode cX4_addPart 17 = .ok (.new 47, 3) := by decide +kernel
theorem dX4_addPart_20 : decode cX4_addPart 20 = .ok (.dup, 1) := by decide +kernel
theorem dX4_addPart_21 : decode cX4_addPart 21 = .ok (.ldc 49, 2) := by decide +kernel
theorem dX4_addPart_23 : decode cX4_addPart 23 = .ok (.invokespecial 51, 3) := by decide +kernel
theorem dX4_addPart_26 : decode cX4_addPart 26 = .ok (.athrow, 1) := by decide +kernel
theorem dX4_addPart_27 : decode cX4_addPart 27 = .ok (.aload_n 0, 1) := by decide +kernel
theorem dX4_addPart_28 : decode cX4_addPart 28 = .ok (.invokevirtual 54, 3) := by decide +kernel
theorem dX4_addPart_31 : decode cX4_addPart 31 = .ok (.aload_n 0, 1) := by decide +kernel
theorem dX4_addPart_32 : decode cX4_addPart 32 = .ok (.getfield 12, 3) := by decide +kernel
theorem dX4_addPart_35 : decode cX4_addPart 35 = .ok (.iload_n 1, 1) := by decide +kernel
theorem dX4_addPart_36 : decode cX4_addPart 36 = .ok (.invokevirtual 57, 3) := by decide +kernel
theorem dX4_addPart_39 : decode cX4_addPart 39 = .ok (.ireturn, 1) := by decide +kernel
set_option maxRecDepth 20000 in
theorem ggX4_setTool_X4_needPart : GoodIn wsX4_setTool wsX4_needPart := goodIn_ca (goodIn_r _ [6, 7, 8, 1, 9, 10, 11, 12, 13, 14, 56, 57, 58, 59, 60, 61, 62, 63, 64, 65] (by decide +kernel) (by decide +kernel)) (goodIn_sub (fun _ h => List.mem_cons_of_mem _ (List.mem_append_left _ (List.mem_append_right _ h))) (by decide +kernel))
set_option maxRecDepth 20000 in
theorem gX4_setTool_X4_needPart : GoodIn wsX4_setTool (wsV RX4 61 RX4 yX4_needPart wsX4_needPart) := goodIn_app (goodIn_of _ (by decide +kernel)) ggX4_setTool_X4_needPart
set_option maxRecDepth 20000 in
theorem ggX4_setTool_X4_needTool : GoodIn wsX4_setTool wsX4_needTool := goodIn_ca (goodIn_r _ [18, 19, 20] (by decide +kernel) (by decide +kernel)) (goodIn_sub (fun _ h => List.mem_cons_of_mem _ (List.mem_append_right _ h)) (by decide +kernel))
set_option maxRecDepth 20000 in
theorem gX4_setTool_X4_needTool : GoodIn wsX4_setTool (wsV RX4 39 RX4 yX4_needTool wsX4_needTool) := goodIn_app (goodIn_of _ (by decide +kernel)) ggX4_setTool_X4_needTool
set_option maxRecDepth 20000 in
theorem ggX4_setTool_X4_productIsTold : GoodIn wsX4_setTool wsX4_productIsTold := goodIn_r _ [24, 25, 26, 27, 28, 29, 30, 31, 32, 33, 34, 35, 36, 37, 38, 39, 40, 41, 42, 43, 44, 45, 46, 47, 48, 49, 50, 56, 57, 58, 59, 66, 67, 68, 69, 70, 71, 72, 73, 74, 75, 76, 77, 78, 79, 80, 81, 82, 83, 84, 85, 86, 87] (by decide +kernel) (by decide +kernel)
set_option maxRecDepth 20000 in
theorem gX4_setTool_X4_productIsTold : GoodIn wsX4_setTool (wsV RX4 54 RX4 yX4_productIsTold wsX4_productIsTold) := goodIn_app (goodIn_of _ (by decide +kernel)) ggX4_setTool_X4_productIsTold
set_option maxRecDepth 20000 in
theorem ggX4_setTool_X3_changeTool : GoodIn wsX4_setTool wsX3_changeTool := goodIn_r _ [54, 55, 60, 61, 62, 63, 64, 65] (by decide +kernel) (by decide +kernel)
set_option maxRecDepth 20000 in
theorem gX4_setTool_X3_changeTool : GoodIn wsX4_setTool (wsV RX4 64 RX3 yX3_changeTool wsX3_changeTool) := goodIn_app (goodIn_of _ (by decide +kernel)) ggX4_setTool_X3_changeTool
theorem dX4_setTool_0 : decode cX4_setTool 0 = .ok (.aload_n 0, 1) := by decide +kernel
theorem dX4_setTool_1 : decode cX4_setTool 1 = .ok (.iload_n 1, 1) := by decide +kernel
theorem dX4_setTool_2 : decode cX4_setTool 2 = .ok (.invokevirtual 61, 3) := by decide +kernel
theorem dX4_setTool_5 : decode cX4_setTool 5 = .ok (.aload_n 0, 1) := by decide +kernel
theorem dX4_setTool_6 : decode cX4_setTool 6 = .ok (.iload_n 2, 1) := by decide +kernel
theorem dX4_setTool_7 : decode cX4_setTool 7 = .ok (.invokevirtual 39, 3) := by decide +kernel
theorem dX4_setTool_10 : decode cX4_setTool 10 = .ok (.aload_n 0, 1) := by decide +kernel
theorem dX4_setTool_11 : decode cX4_setTool 11 = .ok (.invokevirtual 54, 3) := by decide +kernel
theorem dX4_setTool_14 : decode cX4_setTool 14 = .ok (.aload_n 0, 1) := by decide +kernel
theorem dX4_setTool_15 : decode cX4_setTool 15 = .ok (.getfield 12, 3) := by decide +kernel
theorem dX4_setTool_18 : decode cX4_setTool 18 = .ok (.iload_n 1, 1) := by decide +kernel
theorem dX4_setTool_19 : decode cX4_setTool 19 = .ok (.iload_n 2, 1) := by decide +kernel
theorem dX4_setTool_20 : decode cX4_setTool 20 = .ok (.invokevirtual 64, 3) := by decide +kernel
theorem dX4_setTool_23 : decode cX4_setTool 23 = .ok (.ireturn, 1) := by decide +kernel
set_option maxRecDepth 20000 in
theorem ggX4_contact_X4_needPart : GoodIn wsX4_contact wsX4_needPart := goodIn_ca (goodIn_r _ [6, 7, 8, 1, 9, 10, 11, 12, 13, 14, 66, 67, 68, 69, 70, 71, 72, 73, 74, 75] (by decide +kernel) (by decide +kernel)) (goodIn_sub (fun _ h => List.mem_cons_of_mem _ (List.mem_append_left _ (List.mem_append_right _ h))) (by decide +kernel))
set_option maxRecDepth 20000 in
theorem gX4_contact_X4_needPart : GoodIn wsX4_contact (wsV RX4 61 RX4 yX4_needPart wsX4_needPart) := goodIn_app (goodIn_of _ (by decide +kernel)) ggX4_contact_X4_needPart
set_option maxRecDepth 20000 in
theorem ggX4_contact_X4_needDifferent : GoodIn wsX4_contact wsX4_needDifferent := goodIn_ca (goodIn_r _ [18, 19, 20] (by decide +kernel) (by decide +kernel)) (goodIn_sub (fun _ h => List.mem_cons_of_mem _ (List.mem_append_right _ h)) (by decide +kernel))
set_option maxRecDepth 20000 in
theorem gX4_contact_X4_needDifferent : GoodIn wsX4_contact (wsV RX4 68 RX4 yX4_needDifferent wsX4_needDifferent) := goodIn_app (goodIn_of _ (by decide +kernel)) ggX4_contact_X4_needDifferent
set_option maxRecDepth 20000 in
theorem ggX4_contact_X4_productIsTold : GoodIn wsX4_contact wsX4_productIsTold := goodIn_r _ [24, 25, 26, 27, 28, 29, 30, 31, 32, 33, 34, 35, 36, 37, 38, 39, 40, 41, 42, 43, 44, 45, 46, 47, 48, 49, 50, 66, 67, 68, 69, 76, 77, 78, 79, 80, 81, 82, 83, 84, 85, 86, 87, 88, 89, 90, 91, 92, 93, 94, 95, 96, 97] (by decide +kernel) (by decide +kernel)
set_option maxRecDepth 20000 in
theorem gX4_contact_X4_productIsTold : GoodIn wsX4_contact (wsV RX4 54 RX4 yX4_productIsTold wsX4_productIsTold) := goodIn_app (goodIn_of _ (by decide +kernel)) ggX4_contact_X4_productIsTold
set_option maxRecDepth 20000 in
theorem ggX4_contact_X3_tellContact : GoodIn wsX4_contact wsX3_tellContact := goodIn_r _ [54, 55, 56, 57, 12, 58, 59, 60, 61, 62, 63, 64, 65, 70, 71, 72, 73, 74, 75] (by decide +kernel) (by decide +kernel)
set_option maxRecDepth 20000 in
theorem gX4_contact_X3_tellContact : GoodIn wsX4_contact (wsV RX4 72 RX3 yX3_tellContact wsX3_tellContact) := goodIn_app (goodIn_of _ (by decide +kernel)) ggX4_contact_X3_tellContact
theorem dX4_contact_0 : decode cX4_contact 0 = .ok (.aload_n 0, 1) := by decide +kernel
theorem dX4_contact_1 : decode cX4_contact 1 = .ok (.iload_n 1, 1) := by decide +kernel
theorem dX4_contact_2 : decode cX4_contact 2 = .ok (.invokevirtual 61, 3) := by decide +kernel
theorem dX4_contact_5 : decode cX4_contact 5 = .ok (.aload_n 0, 1) := by decide +kernel
theorem dX4_contact_6 : decode cX4_contact 6 = .ok (.iload_n 2, 1) := by decide +kernel
theorem dX4_contact_7 : decode cX4_contact 7 = .ok (.invokevirtual 61, 3) := by decide +kernel
theorem dX4_contact_10 : decode cX4_contact 10 = .ok (.aload_n 0, 1) := by decide +kernel
theorem dX4_contact_11 : decode cX4_contact 11 = .ok (.iload_n 1, 1) := by decide +kernel
theorem dX4_contact_12 : decode cX4_contact 12 = .ok (.iload_n 2, 1) := by decide +kernel
theorem dX4_contact_13 : decode cX4_contact 13 = .ok (.invokevirtual 68, 3) := by decide +kernel
theorem dX4_contact_16 : decode cX4_contact 16 = .ok (.aload_n 0, 1) := by decide +kernel
theorem dX4_contact_17 : decode cX4_contact 17 = .ok (.invokevirtual 54, 3) := by decide +kernel
theorem dX4_contact_20 : decode cX4_contact 20 = .ok (.aload_n 0, 1) := by decide +kernel
theorem dX4_contact_21 : decode cX4_contact 21 = .ok (.getfield 12, 3) := by decide +kernel
theorem dX4_contact_24 : decode cX4_contact 24 = .ok (.iload_n 1, 1) := by decide +kernel
theorem dX4_contact_25 : decode cX4_contact 25 = .ok (.iload_n 2, 1) := by decide +kernel
theorem dX4_contact_26 : decode cX4_contact 26 = .ok (.iload_n 3, 1) := by decide +kernel
theorem dX4_contact_27 : decode cX4_contact 27 = .ok (.invokevirtual 72, 3) := by decide +kernel
theorem dX4_contact_30 : decode cX4_contact 30 = .ok (.ireturn, 1) := by decide +kernel
set_option maxRecDepth 20000 in
theorem ggX4_hinder_X4_needPart : GoodIn wsX4_hinder wsX4_needPart := goodIn_ca (goodIn_r _ [6, 7, 8, 1, 9, 10, 11, 12, 13, 14, 73, 74, 75, 76, 77, 78, 79, 80, 81, 82] (by decide +kernel) (by decide +kernel)) (goodIn_sub (fun _ h => List.mem_cons_of_mem _ (List.mem_append_left _ (List.mem_append_right _ h))) (by decide +kernel))
set_option maxRecDepth 20000 in
theorem gX4_hinder_X4_needPart : GoodIn wsX4_hinder (wsV RX4 61 RX4 yX4_needPart wsX4_needPart) := goodIn_app (goodIn_of _ (by decide +kernel)) ggX4_hinder_X4_needPart
set_option maxRecDepth 20000 in
theorem ggX4_hinder_X4_needDirection : GoodIn wsX4_hinder wsX4_needDirection := goodIn_ca (goodIn_r _ [18, 7, 8] (by decide +kernel) (by decide +kernel)) (goodIn_sub (fun _ h => List.mem_cons_of_mem _ (List.mem_append_left _ (List.mem_append_right _ h))) (by decide +kernel))
set_option maxRecDepth 20000 in
theorem gX4_hinder_X4_needDirection : GoodIn wsX4_hinder (wsV RX4 76 RX4 yX4_needDirection wsX4_needDirection) := goodIn_app (goodIn_of _ (by decide +kernel)) ggX4_hinder_X4_needDirection
set_option maxRecDepth 20000 in
theorem ggX4_hinder_X4_needDifferent : GoodIn wsX4_hinder wsX4_needDifferent := goodIn_ca (goodIn_r _ [22, 23, 24] (by decide +kernel) (by decide +kernel)) (goodIn_sub (fun _ h => List.mem_cons_of_mem _ (List.mem_append_right _ h)) (by decide +kernel))
set_option maxRecDepth 20000 in
theorem gX4_hinder_X4_needDifferent : GoodIn wsX4_hinder (wsV RX4 68 RX4 yX4_needDifferent wsX4_needDifferent) := goodIn_app (goodIn_of _ (by decide +kernel)) ggX4_hinder_X4_needDifferent
set_option maxRecDepth 20000 in
theorem ggX4_hinder_X4_productIsTold : GoodIn wsX4_hinder wsX4_productIsTold := goodIn_r _ [28, 29, 30, 31, 32, 33, 34, 35, 36, 37, 38, 39, 40, 41, 42, 43, 44, 45, 46, 47, 48, 49, 50, 51, 52, 53, 54, 73, 74, 75, 76, 83, 84, 85, 86, 87, 88, 89, 90, 91, 92, 93, 94, 95, 96, 97, 98, 99, 100, 101, 102, 103, 104] (by decide +kernel) (by decide +kernel)
set_option maxRecDepth 20000 in
theorem gX4_hinder_X4_productIsTold : GoodIn wsX4_hinder (wsV RX4 54 RX4 yX4_productIsTold wsX4_productIsTold) := goodIn_app (goodIn_of _ (by decide +kernel)) ggX4_hinder_X4_productIsTold
set_option maxRecDepth 20000 in
theorem ggX4_hinder_X3_tellHindered : GoodIn wsX4_hinder wsX3_tellHindered := goodIn_r _ [58, 59, 60, 61, 12, 62, 63, 64, 65, 66, 67, 68, 69, 70, 71, 72, 77, 78, 79, 80, 81, 82] (by decide +kernel) (by decide +kernel)
set_option maxRecDepth 20000 in
theorem gX4_hinder_X3_tellHindered : GoodIn wsX4_hinder (wsV RX4 79 RX3 yX3_tellHindered wsX3_tellHindered) := goodIn_app (goodIn_of _ (by decide +kernel)) ggX4_hinder_X3_tellHindered
theorem dX4_hinder_0 : decode cX4_hinder 0 = .ok (.aload_n 0, 1) := by decide +kernel
theorem dX4_hinder_1 : decode cX4_hinder 1 = .ok (.iload_n 1, 1) := by decide +kernel
theorem dX4_hinder_2 : decode cX4_hinder 2 = .ok (.invokevirtual 61, 3) := by decide +kernel
theorem dX4_hinder_5 : decode cX4_hinder 5 = .ok (.aload_n 0, 1) := by decide +kernel
theorem dX4_hinder_6 : decode cX4_hinder 6 = .ok (.iload_n 2, 1) := by decide +kernel
theorem dX4_hinder_7 : decode cX4_hinder 7 = .ok (.invokevirtual 76, 3) := by decide +kernel
theorem dX4_hinder_10 : decode cX4_hinder 10 = .ok (.aload_n 0, 1) := by decide +kernel
theorem dX4_hinder_11 : decode cX4_hinder 11 = .ok (.iload_n 3, 1) := by decide +kernel
theorem dX4_hinder_12 : decode cX4_hinder 12 = .ok (.invokevirtual 61, 3) := by decide +kernel
theorem dX4_hinder_15 : decode cX4_hinder 15 = .ok (.aload_n 0, 1) := by decide +kernel
theorem dX4_hinder_16 : decode cX4_hinder 16 = .ok (.iload_n 1, 1) := by decide +kernel
theorem dX4_hinder_17 : decode cX4_hinder 17 = .ok (.iload_n 3, 1) := by decide +kernel
theorem dX4_hinder_18 : decode cX4_hinder 18 = .ok (.invokevirtual 68, 3) := by decide +kernel
theorem dX4_hinder_21 : decode cX4_hinder 21 = .ok (.aload_n 0, 1) := by decide +kernel
theorem dX4_hinder_22 : decode cX4_hinder 22 = .ok (.invokevirtual 54, 3) := by decide +kernel
theorem dX4_hinder_25 : decode cX4_hinder 25 = .ok (.aload_n 0, 1) := by decide +kernel
theorem dX4_hinder_26 : decode cX4_hinder 26 = .ok (.getfield 12, 3) := by decide +kernel
theorem dX4_hinder_29 : decode cX4_hinder 29 = .ok (.iload_n 1, 1) := by decide +kernel
theorem dX4_hinder_30 : decode cX4_hinder 30 = .ok (.iload_n 2, 1) := by decide +kernel
theorem dX4_hinder_31 : decode cX4_hinder 31 = .ok (.iload_n 3, 1) := by decide +kernel
theorem dX4_hinder_32 : decode cX4_hinder 32 = .ok (.iload 4, 2) := by decide +kernel
theorem dX4_hinder_34 : decode cX4_hinder 34 = .ok (.invokevirtual 79, 3) := by decide +kernel
theorem dX4_hinder_37 : decode cX4_hinder 37 = .ok (.ireturn, 1) := by decide +kernel
set_option maxRecDepth 20000 in
theorem ggX4_setBase_X4_needPart : GoodIn wsX4_setBase wsX4_needPart := goodIn_ca (goodIn_r _ [6, 7, 8, 1, 9, 10, 11, 12, 13, 14, 50, 51, 52, 53, 54, 55, 56, 57, 58, 59] (by decide +kernel) (by decide +kernel)) (goodIn_sub (fun _ h => List.mem_cons_of_mem _ (List.mem_append_right _ h)) (by decide +kernel))
set_option maxRecDepth 20000 in
theorem gX4_setBase_X4_needPart : GoodIn wsX4_setBase (wsV RX4 61 RX4 yX4_needPart wsX4_needPart) := goodIn_app (goodIn_of _ (by decide +kernel)) ggX4_setBase_X4_needPart
set_option maxRecDepth 20000 in
theorem ggX4_setBase_X4_productIsTold : GoodIn wsX4_setBase wsX4_productIsTold := goodIn_r _ [18, 19, 20, 21, 22, 23, 24, 25, 26, 27, 28, 29, 30, 31, 32, 33, 34, 35, 36, 37, 38, 39, 40, 41, 42, 43, 44, 50, 51, 52, 53, 60, 61, 62, 63, 64, 65, 66, 67, 68, 69, 70, 71, 72, 73, 74, 75, 76, 77, 78, 79, 80, 81] (by decide +kernel) (by decide +kernel)
set_option maxRecDepth 20000 in
theorem gX4_setBase_X4_productIsTold : GoodIn wsX4_setBase (wsV RX4 54 RX4 yX4_productIsTold wsX4_productIsTold) := goodIn_app (goodIn_of _ (by decide +kernel)) ggX4_setBase_X4_productIsTold
set_option maxRecDepth 20000 in
theorem ggX4_setBase_X3_changeBase : GoodIn wsX4_setBase wsX3_changeBase := goodIn_r _ [48, 49, 54, 55, 56, 57, 58, 59] (by decide +kernel) (by decide +kernel)
set_option maxRecDepth 20000 in
theorem gX4_setBase_X3_changeBase : GoodIn wsX4_setBase (wsV RX4 83 RX3 yX3_changeBase wsX3_changeBase) := goodIn_app (goodIn_of _ (by decide +kernel)) ggX4_setBase_X3_changeBase
theorem dX4_setBase_0 : decode cX4_setBase 0 = .ok (.aload_n 0, 1) := by decide +kernel
theorem dX4_setBase_1 : decode cX4_setBase 1 = .ok (.iload_n 1, 1) := by decide +kernel
theorem dX4_setBase_2 : decode cX4_setBase 2 = .ok (.invokevirtual 61, 3) := by decide +kernel
theorem dX4_setBase_5 : decode cX4_setBase 5 = .ok (.aload_n 0, 1) := by decide +kernel
theorem dX4_setBase_6 : decode cX4_setBase 6 = .ok (.invokevirtual 54, 3) := by decide +kernel
theorem dX4_setBase_9 : decode cX4_setBase 9 = .ok (.aload_n 0, 1) := by decide +kernel
theorem dX4_setBase_10 : decode cX4_setBase 10 = .ok (.getfield 12, 3) := by decide +kernel
theorem dX4_setBase_13 : decode cX4_setBase 13 = .ok (.iload_n 1, 1) := by decide +kernel
theorem dX4_setBase_14 : decode cX4_setBase 14 = .ok (.invokevirtual 83, 3) := by decide +kernel
theorem dX4_setBase_17 : decode cX4_setBase 17 = .ok (.ireturn, 1) := by decide +kernel
set_option maxRecDepth 20000 in
theorem ggX4_askSteady_X4_productIsTold : GoodIn wsX4_askSteady wsX4_productIsTold := goodIn_r _ [6, 7, 8, 9, 10, 11, 12, 13, 14, 15, 16, 17, 18, 19, 20, 21, 22, 23, 24, 25, 26, 27, 28, 29, 30, 31, 32, 39, 40, 41, 42, 43, 44, 45, 46, 47, 48, 49, 50, 51, 52, 53, 54, 55, 56, 57, 58, 59, 60, 61, 62, 63, 64] (by decide +kernel) (by decide +kernel)
set_option maxRecDepth 20000 in
theorem gX4_askSteady_X4_productIsTold : GoodIn wsX4_askSteady (wsV RX4 54 RX4 yX4_productIsTold wsX4_productIsTold) := goodIn_app (goodIn_of _ (by decide +kernel)) ggX4_askSteady_X4_productIsTold
set_option maxRecDepth 20000 in
theorem ggX4_askSteady_X3_changeSteadyAsked : GoodIn wsX4_askSteady wsX3_changeSteadyAsked := goodIn_r _ [37, 38, 65, 66, 67, 68, 69, 70] (by decide +kernel) (by decide +kernel)
set_option maxRecDepth 20000 in
theorem gX4_askSteady_X3_changeSteadyAsked : GoodIn wsX4_askSteady (wsV RX4 86 RX3 yX3_changeSteadyAsked wsX3_changeSteadyAsked) := goodIn_app (goodIn_of _ (by decide +kernel)) ggX4_askSteady_X3_changeSteadyAsked
theorem dX4_askSteady_0 : decode cX4_askSteady 0 = .ok (.aload_n 0, 1) := by decide +kernel
theorem dX4_askSteady_1 : decode cX4_askSteady 1 = .ok (.invokevirtual 54, 3) := by decide +kernel
theorem dX4_askSteady_4 : decode cX4_askSteady 4 = .ok (.aload_n 0, 1) := by decide +kernel
theorem dX4_askSteady_5 : decode cX4_askSteady 5 = .ok (.getfield 12, 3) := by decide +kernel
theorem dX4_askSteady_8 : decode cX4_askSteady 8 = .ok (.iload_n 1, 1) := by decide +kernel
theorem dX4_askSteady_9 : decode cX4_askSteady 9 = .ok (.invokevirtual 86, 3) := by decide +kernel
theorem dX4_askSteady_12 : decode cX4_askSteady 12 = .ok (.ireturn, 1) := by decide +kernel
set_option maxRecDepth 20000 in
theorem ggX4_parts_X3_count : GoodIn wsX4_parts wsX3_count := goodIn_r _ [6, 7, 12, 13, 14, 15, 16, 17] (by decide +kernel) (by decide +kernel)
set_option maxRecDepth 20000 in
theorem gX4_parts_X3_count : GoodIn wsX4_parts (wsV RX4 43 RX3 yX3_count wsX3_count) := goodIn_app (goodIn_of _ (by decide +kernel)) ggX4_parts_X3_count
theorem dX4_parts_0 : decode cX4_parts 0 = .ok (.aload_n 0, 1) := by decide +kernel
theorem dX4_parts_1 : decode cX4_parts 1 = .ok (.getfield 12, 3) := by decide +kernel
theorem dX4_parts_4 : decode cX4_parts 4 = .ok (.invokevirtual 43, 3) := by decide +kernel
theorem dX4_parts_7 : decode cX4_parts 7 = .ok (.ireturn, 1) := by decide +kernel
set_option maxRecDepth 20000 in
theorem ggX4_isConnected_X4_needSet : GoodIn wsX4_isConnected wsX4_needSet := goodIn_ca (goodIn_r _ [6, 7, 8, 1, 9, 10, 11, 12, 13, 14, 23, 24, 25, 26, 27, 28, 29, 30, 31, 32] (by decide +kernel) (by decide +kernel)) (goodIn_sub (fun _ h => List.mem_cons_of_mem _ (List.mem_append_right _ h)) (by decide +kernel))
set_option maxRecDepth 20000 in
theorem gX4_isConnected_X4_needSet : GoodIn wsX4_isConnected (wsV RX4 90 RX4 yX4_needSet wsX4_needSet) := goodIn_app (goodIn_of _ (by decide +kernel)) ggX4_isConnected_X4_needSet
set_option maxRecDepth 20000 in
theorem ggX4_isConnected_X3_connected : GoodIn wsX4_isConnected wsX3_connected := goodIn_r _ [18, 19, 20, 21, 12, 22, 27, 28, 29, 30, 31, 32] (by decide +kernel) (by decide +kernel)
set_option maxRecDepth 20000 in
theorem gX4_isConnected_X3_connected : GoodIn wsX4_isConnected (wsV RX4 93 RX3 yX3_connected wsX3_connected) := goodIn_app (goodIn_of _ (by decide +kernel)) ggX4_isConnected_X3_connected
theorem dX4_isConnected_0 : decode cX4_isConnected 0 = .ok (.aload_n 0, 1) := by decide +kernel
theorem dX4_isConnected_1 : decode cX4_isConnected 1 = .ok (.iload_n 1, 1) := by decide +kernel
theorem dX4_isConnected_2 : decode cX4_isConnected 2 = .ok (.invokevirtual 90, 3) := by decide +kernel
theorem dX4_isConnected_5 : decode cX4_isConnected 5 = .ok (.aload_n 0, 1) := by decide +kernel
theorem dX4_isConnected_6 : decode cX4_isConnected 6 = .ok (.getfield 12, 3) := by decide +kernel
theorem dX4_isConnected_9 : decode cX4_isConnected 9 = .ok (.iload_n 1, 1) := by decide +kernel
theorem dX4_isConnected_10 : decode cX4_isConnected 10 = .ok (.invokevirtual 93, 3) := by decide +kernel
theorem dX4_isConnected_13 : decode cX4_isConnected 13 = .ok (.ireturn, 1) := by decide +kernel
set_option maxRecDepth 20000 in
theorem ggX4_isSteady_X4_needSet : GoodIn wsX4_isSteady wsX4_needSet := goodIn_ca (goodIn_r _ [6, 7, 8, 1, 9, 10, 11, 12, 13, 14, 24, 25, 26, 27, 28, 29, 30, 31, 32, 33] (by decide +kernel) (by decide +kernel)) (goodIn_sub (fun _ h => List.mem_cons_of_mem _ (List.mem_append_right _ h)) (by decide +kernel))
set_option maxRecDepth 20000 in
theorem gX4_isSteady_X4_needSet : GoodIn wsX4_isSteady (wsV RX4 90 RX4 yX4_needSet wsX4_needSet) := goodIn_app (goodIn_of _ (by decide +kernel)) ggX4_isSteady_X4_needSet
set_option maxRecDepth 20000 in
theorem ggX4_isSteady_X3_steady : GoodIn wsX4_isSteady wsX3_steady := goodIn_r _ [18, 19, 20, 21, 22, 12, 23, 28, 29, 30, 31, 32, 33] (by decide +kernel) (by decide +kernel)
set_option maxRecDepth 20000 in
theorem gX4_isSteady_X3_steady : GoodIn wsX4_isSteady (wsV RX4 97 RX3 yX3_steady wsX3_steady) := goodIn_app (goodIn_of _ (by decide +kernel)) ggX4_isSteady_X3_steady
theorem dX4_isSteady_0 : decode cX4_isSteady 0 = .ok (.aload_n 0, 1) := by decide +kernel
theorem dX4_isSteady_1 : decode cX4_isSteady 1 = .ok (.iload_n 1, 1) := by decide +kernel
theorem dX4_isSteady_2 : decode cX4_isSteady 2 = .ok (.invokevirtual 90, 3) := by decide +kernel
theorem dX4_isSteady_5 : decode cX4_isSteady 5 = .ok (.aload_n 0, 1) := by decide +kernel
theorem dX4_isSteady_6 : decode cX4_isSteady 6 = .ok (.getfield 12, 3) := by decide +kernel
theorem dX4_isSteady_9 : decode cX4_isSteady 9 = .ok (.iload_n 1, 1) := by decide +kernel
theorem dX4_isSteady_10 : decode cX4_isSteady 10 = .ok (.invokevirtual 97, 3) := by decide +kernel
theorem dX4_isSteady_13 : decode cX4_isSteady 13 = .ok (.ireturn, 1) := by decide +kernel
set_option maxRecDepth 20000 in
theorem ggX4_free_X4_needPart : GoodIn wsX4_free wsX4_needPart := goodIn_ca (goodIn_r _ [6, 7, 8, 1, 9, 10, 11, 12, 13, 14, 34, 35, 36, 37, 38, 39, 40, 41, 42, 43] (by decide +kernel) (by decide +kernel)) (goodIn_sub (fun _ h => List.mem_cons_of_mem _ (List.mem_append_left _ (List.mem_append_right _ h))) (by decide +kernel))
set_option maxRecDepth 20000 in
theorem gX4_free_X4_needPart : GoodIn wsX4_free (wsV RX4 61 RX4 yX4_needPart wsX4_needPart) := goodIn_app (goodIn_of _ (by decide +kernel)) ggX4_free_X4_needPart
set_option maxRecDepth 20000 in
theorem ggX4_free_X4_needSetWith : GoodIn wsX4_free wsX4_needSetWith := goodIn_ca (goodIn_r _ [18, 19, 20, 21, 22, 23, 5, 24, 1, 25, 26, 27, 12, 28, 14, 34, 35, 36, 37, 38, 39, 40, 41, 42, 43] (by decide +kernel) (by decide +kernel)) (goodIn_sub (fun _ h => List.mem_cons_of_mem _ (List.mem_append_right _ h)) (by decide +kernel))
set_option maxRecDepth 20000 in
theorem gX4_free_X4_needSetWith : GoodIn wsX4_free (wsV RX4 100 RX4 yX4_needSetWith wsX4_needSetWith) := goodIn_app (goodIn_of _ (by decide +kernel)) ggX4_free_X4_needSetWith
set_option maxRecDepth 20000 in
theorem ggX4_free_X3_freeDirections : GoodIn wsX4_free wsX3_freeDirections := goodIn_r _ [32, 33, 38, 39, 40, 41, 42, 43] (by decide +kernel) (by decide +kernel)
set_option maxRecDepth 20000 in
theorem gX4_free_X3_freeDirections : GoodIn wsX4_free (wsV RX4 103 RX3 yX3_freeDirections wsX3_freeDirections) := goodIn_app (goodIn_of _ (by decide +kernel)) ggX4_free_X3_freeDirections
theorem dX4_free_0 : decode cX4_free 0 = .ok (.aload_n 0, 1) := by decide +kernel
theorem dX4_free_1 : decode cX4_free 1 = .ok (.iload_n 2, 1) := by decide +kernel
theorem dX4_free_2 : decode cX4_free 2 = .ok (.invokevirtual 61, 3) := by decide +kernel
theorem dX4_free_5 : decode cX4_free 5 = .ok (.aload_n 0, 1) := by decide +kernel
theorem dX4_free_6 : decode cX4_free 6 = .ok (.iload_n 1, 1) := by decide +kernel
theorem dX4_free_7 : decode cX4_free 7 = .ok (.iload_n 2, 1) := by decide +kernel
theorem dX4_free_8 : decode cX4_free 8 = .ok (.invokevirtual 100, 3) := by decide +kernel
theorem dX4_free_11 : decode cX4_free 11 = .ok (.aload_n 0, 1) := by decide +kernel
theorem dX4_free_12 : decode cX4_free 12 = .ok (.getfield 12, 3) := by decide +kernel
theorem dX4_free_15 : decode cX4_free 15 = .ok (.iload_n 1, 1) := by decide +kernel
theorem dX4_free_16 : decode cX4_free 16 = .ok (.iload_n 2, 1) := by decide +kernel
theorem dX4_free_17 : decode cX4_free 17 = .ok (.invokevirtual 103, 3) := by decide +kernel
theorem dX4_free_20 : decode cX4_free 20 = .ok (.ireturn, 1) := by decide +kernel
set_option maxRecDepth 20000 in
theorem ggX4_canTake_X4_needPart : GoodIn wsX4_canTake wsX4_needPart := goodIn_ca (goodIn_r _ [6, 7, 8, 1, 9, 10, 11, 12, 13, 14, 56, 57, 58, 59, 60, 61, 62, 63, 64, 65] (by decide +kernel) (by decide +kernel)) (goodIn_sub (fun _ h => List.mem_cons_of_mem _ (List.mem_append_left _ (List.mem_append_right _ h))) (by decide +kernel))
set_option maxRecDepth 20000 in
theorem gX4_canTake_X4_needPart : GoodIn wsX4_canTake (wsV RX4 61 RX4 yX4_needPart wsX4_needPart) := goodIn_app (goodIn_of _ (by decide +kernel)) ggX4_canTake_X4_needPart
set_option maxRecDepth 20000 in
theorem ggX4_canTake_X4_needSetWith : GoodIn wsX4_canTake wsX4_needSetWith := goodIn_ca (goodIn_r _ [18, 19, 20, 21, 22, 23, 5, 24, 1, 25, 26, 27, 12, 28, 14, 56, 57, 58, 59, 60, 61, 62, 63, 64, 65] (by decide +kernel) (by decide +kernel)) (goodIn_sub (fun _ h => List.mem_cons_of_mem _ (List.mem_append_right _ h)) (by decide +kernel))
set_option maxRecDepth 20000 in
theorem gX4_canTake_X4_needSetWith : GoodIn wsX4_canTake (wsV RX4 100 RX4 yX4_needSetWith wsX4_needSetWith) := goodIn_app (goodIn_of _ (by decide +kernel)) ggX4_canTake_X4_needSetWith
set_option maxRecDepth 20000 in
theorem ggX4_canTake_X3_takeable : GoodIn wsX4_canTake wsX3_takeable := goodIn_r _ [32, 33, 34, 35, 12, 36, 37, 38, 39, 40, 41, 42, 43, 44, 45, 46, 47, 48, 49, 50, 51, 52, 53, 54, 55, 60, 61, 62, 63, 64, 65] (by decide +kernel) (by decide +kernel)
set_option maxRecDepth 20000 in
theorem gX4_canTake_X3_takeable : GoodIn wsX4_canTake (wsV RX4 106 RX3 yX3_takeable wsX3_takeable) := goodIn_app (goodIn_of _ (by decide +kernel)) ggX4_canTake_X3_takeable
theorem dX4_canTake_0 : decode cX4_canTake 0 = .ok (.aload_n 0, 1) := by decide +kernel
theorem dX4_canTake_1 : decode cX4_canTake 1 = .ok (.iload_n 2, 1) := by decide +kernel
theorem dX4_canTake_2 : decode cX4_canTake 2 = .ok (.invokevirtual 61, 3) := by decide +kernel
theorem dX4_canTake_5 : decode cX4_canTake 5 = .ok (.aload_n 0, 1) := by decide +kernel
theorem dX4_canTake_6 : decode cX4_canTake 6 = .ok (.iload_n 1, 1) := by decide +kernel
theorem dX4_canTake_7 : decode cX4_canTake 7 = .ok (.iload_n 2, 1) := by decide +kernel
theorem dX4_canTake_8 : decode cX4_canTake 8 = .ok (.invokevirtual 100, 3) := by decide +kernel
theorem dX4_canTake_11 : decode cX4_canTake 11 = .ok (.aload_n 0, 1) := by decide +kernel
theorem dX4_canTake_12 : decode cX4_canTake 12 = .ok (.getfield 12, 3) := by decide +kernel
theorem dX4_canTake_15 : decode cX4_canTake 15 = .ok (.iload_n 1, 1) := by decide +kernel
theorem dX4_canTake_16 : decode cX4_canTake 16 = .ok (.iload_n 2, 1) := by decide +kernel
theorem dX4_canTake_17 : decode cX4_canTake 17 = .ok (.invokevirtual 106, 3) := by decide +kernel
theorem dX4_canTake_20 : decode cX4_canTake 20 = .ok (.ireturn, 1) := by decide +kernel
set_option maxRecDepth 20000 in
theorem ggX4_movesWith_X4_needPart : GoodIn wsX4_movesWith wsX4_needPart := goodIn_ca (goodIn_r _ [6, 7, 8, 1, 9, 10, 11, 12, 13, 14, 31, 32, 33, 34, 35, 36, 37, 38, 39, 40] (by decide +kernel) (by decide +kernel)) (goodIn_sub (fun _ h => List.mem_cons_of_mem _ (List.mem_append_right _ h)) (by decide +kernel))
set_option maxRecDepth 20000 in
theorem gX4_movesWith_X4_needPart : GoodIn wsX4_movesWith (wsV RX4 61 RX4 yX4_needPart wsX4_needPart) := goodIn_app (goodIn_of _ (by decide +kernel)) ggX4_movesWith_X4_needPart
set_option maxRecDepth 20000 in
theorem ggX4_movesWith_X4_needDirection : GoodIn wsX4_movesWith wsX4_needDirection := goodIn_ca (goodIn_r _ [18, 7, 8] (by decide +kernel) (by decide +kernel)) (goodIn_sub (fun _ h => List.mem_cons_of_mem _ (List.mem_append_right _ h)) (by decide +kernel))
set_option maxRecDepth 20000 in
theorem gX4_movesWith_X4_needDirection : GoodIn wsX4_movesWith (wsV RX4 76 RX4 yX4_needDirection wsX4_needDirection) := goodIn_app (goodIn_of _ (by decide +kernel)) ggX4_movesWith_X4_needDirection
set_option maxRecDepth 20000 in
theorem ggX4_movesWith_X3_movingWith : GoodIn wsX4_movesWith wsX3_movingWith := goodIn_r _ [22, 23, 24, 25, 26, 12, 27, 14, 28, 29, 30, 35, 36, 37, 38, 39, 40] (by decide +kernel) (by decide +kernel)
set_option maxRecDepth 20000 in
theorem gX4_movesWith_X3_movingWith : GoodIn wsX4_movesWith (wsV RX4 110 RX3 yX3_movingWith wsX3_movingWith) := goodIn_app (goodIn_of _ (by decide +kernel)) ggX4_movesWith_X3_movingWith
theorem dX4_movesWith_0 : decode cX4_movesWith 0 = .ok (.aload_n 0, 1) := by decide +kernel
theorem dX4_movesWith_1 : decode cX4_movesWith 1 = .ok (.iload_n 1, 1) := by decide +kernel
theorem dX4_movesWith_2 : decode cX4_movesWith 2 = .ok (.invokevirtual 61, 3) := by decide +kernel
theorem dX4_movesWith_5 : decode cX4_movesWith 5 = .ok (.aload_n 0, 1) := by decide +kernel
theorem dX4_movesWith_6 : decode cX4_movesWith 6 = .ok (.iload_n 2, 1) := by decide +kernel
theorem dX4_movesWith_7 : decode cX4_movesWith 7 = .ok (.invokevirtual 76, 3) := by decide +kernel
theorem dX4_movesWith_10 : decode cX4_movesWith 10 = .ok (.aload_n 0, 1) := by decide +kernel
theorem dX4_movesWith_11 : decode cX4_movesWith 11 = .ok (.getfield 12, 3) := by decide +kernel
theorem dX4_movesWith_14 : decode cX4_movesWith 14 = .ok (.iload_n 1, 1) := by decide +kernel
theorem dX4_movesWith_15 : decode cX4_movesWith 15 = .ok (.iload_n 2, 1) := by decide +kernel
theorem dX4_movesWith_16 : decode cX4_movesWith 16 = .ok (.invokevirtual 110, 3) := by decide +kernel
theorem dX4_movesWith_19 : decode cX4_movesWith 19 = .ok (.ireturn, 1) := by decide +kernel
set_option maxRecDepth 20000 in
theorem ggX4_boundTo_X4_needPart : GoodIn wsX4_boundTo wsX4_needPart := goodIn_ca (goodIn_r _ [6, 7, 8, 1, 9, 10, 11, 12, 13, 14, 38, 39, 40, 41, 42, 43, 44, 45, 46, 47] (by decide +kernel) (by decide +kernel)) (goodIn_sub (fun _ h => List.mem_cons_of_mem _ (List.mem_append_right _ h)) (by decide +kernel))
set_option maxRecDepth 20000 in
theorem gX4_boundTo_X4_needPart : GoodIn wsX4_boundTo (wsV RX4 61 RX4 yX4_needPart wsX4_needPart) := goodIn_app (goodIn_of _ (by decide +kernel)) ggX4_boundTo_X4_needPart
set_option maxRecDepth 20000 in
theorem ggX4_boundTo_X4_needDirection : GoodIn wsX4_boundTo wsX4_needDirection := goodIn_ca (goodIn_r _ [18, 7, 8] (by decide +kernel) (by decide +kernel)) (goodIn_sub (fun _ h => List.mem_cons_of_mem _ (List.mem_append_right _ h)) (by decide +kernel))
set_option maxRecDepth 20000 in
theorem gX4_boundTo_X4_needDirection : GoodIn wsX4_boundTo (wsV RX4 76 RX4 yX4_needDirection wsX4_needDirection) := goodIn_app (goodIn_of _ (by decide +kernel)) ggX4_boundTo_X4_needDirection
set_option maxRecDepth 20000 in
theorem ggX4_boundTo_X3_boundWith : GoodIn wsX4_boundTo wsX3_boundWith := goodIn_r _ [22, 23, 24, 25, 12, 26, 27, 28, 29, 30, 31, 14, 32, 33, 34, 35, 36, 37, 42, 43, 44, 45, 46, 47] (by decide +kernel) (by decide +kernel)
set_option maxRecDepth 20000 in
theorem gX4_boundTo_X3_boundWith : GoodIn wsX4_boundTo (wsV RX4 113 RX3 yX3_boundWith wsX3_boundWith) := goodIn_app (goodIn_of _ (by decide +kernel)) ggX4_boundTo_X3_boundWith
theorem dX4_boundTo_0 : decode cX4_boundTo 0 = .ok (.aload_n 0, 1) := by decide +kernel
theorem dX4_boundTo_1 : decode cX4_boundTo 1 = .ok (.iload_n 1, 1) := by decide +kernel
theorem dX4_boundTo_2 : decode cX4_boundTo 2 = .ok (.invokevirtual 61, 3) := by decide +kernel
theorem dX4_boundTo_5 : decode cX4_boundTo 5 = .ok (.aload_n 0, 1) := by decide +kernel
theorem dX4_boundTo_6 : decode cX4_boundTo 6 = .ok (.iload_n 2, 1) := by decide +kernel
theorem dX4_boundTo_7 : decode cX4_boundTo 7 = .ok (.invokevirtual 76, 3) := by decide +kernel
theorem dX4_boundTo_10 : decode cX4_boundTo 10 = .ok (.aload_n 0, 1) := by decide +kernel
theorem dX4_boundTo_11 : decode cX4_boundTo 11 = .ok (.getfield 12, 3) := by decide +kernel
theorem dX4_boundTo_14 : decode cX4_boundTo 14 = .ok (.iload_n 1, 1) := by decide +kernel
theorem dX4_boundTo_15 : decode cX4_boundTo 15 = .ok (.iload_n 2, 1) := by decide +kernel
theorem dX4_boundTo_16 : decode cX4_boundTo 16 = .ok (.invokevirtual 113, 3) := by decide +kernel
theorem dX4_boundTo_19 : decode cX4_boundTo 19 = .ok (.ireturn, 1) := by decide +kernel
set_option maxRecDepth 20000 in
theorem ggX4_groups_X4_needDirection : GoodIn wsX4_groups wsX4_needDirection := goodIn_ca (goodIn_r _ [6, 7, 8] (by decide +kernel) (by decide +kernel)) (goodIn_sub (fun _ h => List.mem_cons_of_mem _ (List.mem_append_right _ h)) (by decide +kernel))
set_option maxRecDepth 20000 in
theorem gX4_groups_X4_needDirection : GoodIn wsX4_groups (wsV RX4 76 RX4 yX4_needDirection wsX4_needDirection) := goodIn_app (goodIn_of _ (by decide +kernel)) ggX4_groups_X4_needDirection
set_option maxRecDepth 20000 in
theorem ggX4_groups_X3_boundGroups : GoodIn wsX4_groups wsX3_boundGroups := goodIn_r _ [13, 14, 15, 16, 17, 12, 18, 19, 20, 21, 22, 23, 24, 25, 26, 27, 28, 29, 30, 31, 32, 33, 38, 39, 40, 41, 42, 43] (by decide +kernel) (by decide +kernel)
set_option maxRecDepth 20000 in
theorem gX4_groups_X3_boundGroups : GoodIn wsX4_groups (wsV RX4 116 RX3 yX3_boundGroups wsX3_boundGroups) := goodIn_app (goodIn_of _ (by decide +kernel)) ggX4_groups_X3_boundGroups
theorem dX4_groups_0 : decode cX4_groups 0 = .ok (.aload_n 0, 1) := by decide +kernel
theorem dX4_groups_1 : decode cX4_groups 1 = .ok (.iload_n 1, 1) := by decide +kernel
theorem dX4_groups_2 : decode cX4_groups 2 = .ok (.invokevirtual 76, 3) := by decide +kernel
theorem dX4_groups_5 : decode cX4_groups 5 = .ok (.aload_n 0, 1) := by decide +kernel
theorem dX4_groups_6 : decode cX4_groups 6 = .ok (.getfield 12, 3) := by decide +kernel
theorem dX4_groups_9 : decode cX4_groups 9 = .ok (.iload_n 1, 1) := by decide +kernel
theorem dX4_groups_10 : decode cX4_groups 10 = .ok (.invokevirtual 116, 3) := by decide +kernel
theorem dX4_groups_13 : decode cX4_groups 13 = .ok (.ireturn, 1) := by decide +kernel
set_option maxRecDepth 20000 in
theorem ggX4_splits_X4_needSet : GoodIn wsX4_splits wsX4_needSet := goodIn_ca (goodIn_r _ [6, 7, 8, 9, 10, 11, 12, 13, 14, 15, 68, 69, 70, 71, 72, 73, 74, 75, 76, 77] (by decide +kernel) (by decide +kernel)) (goodIn_sub (fun _ h => List.mem_cons_of_mem _ (List.mem_append_right _ h)) (by decide +kernel))
set_option maxRecDepth 20000 in
theorem gX4_splits_X4_needSet : GoodIn wsX4_splits (wsV RX4 90 RX4 yX4_needSet wsX4_needSet) := goodIn_app (goodIn_of _ (by decide +kernel)) ggX4_splits_X4_needSet
set_option maxRecDepth 20000 in
theorem ggX4_splits_X2_splitsOf : GoodIn wsX4_splits wsX2_splitsOf := goodIn_r _ [20, 21, 22, 23, 24, 19, 25, 26, 27, 28, 29, 11, 12, 13, 14, 15, 30, 31, 32, 33, 34, 35, 36, 37, 38, 39, 40, 41, 42, 43, 44, 45, 46, 47, 48, 49, 50, 51, 52, 53, 54, 55, 56, 57, 58, 59, 60, 61, 62, 63, 64, 65, 66, 67, 78, 79, 80, 81, 82, 83, 72, 73, 74, 75, 76, 77] (by decide +kernel) (by decide +kernel)
set_option maxRecDepth 20000 in
theorem gX4_splits_X2_splitsOf : GoodIn wsX4_splits (wsV RX4 119 RX2 yX2_splitsOf wsX2_splitsOf) := goodIn_app (goodIn_of _ (by decide +kernel)) ggX4_splits_X2_splitsOf
theorem dX4_splits_0 : decode cX4_splits 0 = .ok (.aload_n 0, 1) := by decide +kernel
theorem dX4_splits_1 : decode cX4_splits 1 = .ok (.iload_n 1, 1) := by decide +kernel
theorem dX4_splits_2 : decode cX4_splits 2 = .ok (.invokevirtual 90, 3) := by decide +kernel
theorem dX4_splits_5 : decode cX4_splits 5 = .ok (.aload_n 0, 1) := by decide +kernel
theorem dX4_splits_6 : decode cX4_splits 6 = .ok (.getfield 21, 3) := by decide +kernel
theorem dX4_splits_9 : decode cX4_splits 9 = .ok (.iload_n 1, 1) := by decide +kernel
theorem dX4_splits_10 : decode cX4_splits 10 = .ok (.invokevirtual 119, 3) := by decide +kernel
theorem dX4_splits_13 : decode cX4_splits 13 = .ok (.ireturn, 1) := by decide +kernel
set_option maxRecDepth 20000 in
theorem ggX4_ways_X4_needParts : GoodIn wsX4_ways wsX4_needParts := goodIn_ca (goodIn_r _ [7, 8, 9, 2, 10, 11, 12, 13, 14, 15, 72, 73, 74, 75, 76, 77, 78, 79, 80, 81] (by decide +kernel) (by decide +kernel)) (goodIn_sub (fun _ h => List.mem_cons_of_mem _ (List.mem_append_right _ h)) (by decide +kernel))
set_option maxRecDepth 20000 in
theorem gX4_ways_X4_needParts : GoodIn wsX4_ways (wsV RX4 122 RX4 yX4_needParts wsX4_needParts) := goodIn_app (goodIn_of _ (by decide +kernel)) ggX4_ways_X4_needParts
set_option maxRecDepth 20000 in
theorem ggX4_ways_X3_all : GoodIn wsX4_ways wsX3_all := goodIn_r _ [19, 15, 76, 77, 78, 79, 80, 81] (by decide +kernel) (by decide +kernel)
set_option maxRecDepth 20000 in
theorem gX4_ways_X3_all : GoodIn wsX4_ways (wsV RX4 125 RX3 yX3_all wsX3_all) := goodIn_app (goodIn_of _ (by decide +kernel)) ggX4_ways_X3_all
set_option maxRecDepth 20000 in
theorem ggX4_ways_X2_waysOf : GoodIn wsX4_ways wsX2_waysOf := goodIn_r _ [24, 25, 26, 27, 28, 23, 29, 30, 31, 32, 33, 17, 18, 13, 19, 15, 34, 35, 36, 37, 38, 39, 40, 41, 42, 43, 44, 45, 46, 47, 48, 49, 50, 51, 52, 53, 54, 55, 56, 57, 58, 59, 60, 61, 62, 63, 64, 65, 66, 67, 68, 69, 70, 71, 82, 83, 84, 85, 86, 87, 76, 77, 78, 79, 80, 81] (by decide +kernel) (by decide +kernel)
set_option maxRecDepth 20000 in
theorem gX4_ways_X2_waysOf : GoodIn wsX4_ways (wsV RX4 128 RX2 yX2_waysOf wsX2_waysOf) := goodIn_app (goodIn_of _ (by decide +kernel)) ggX4_ways_X2_waysOf
theorem dX4_ways_0 : decode cX4_ways 0 = .ok (.aload_n 0, 1) := by decide +kernel
theorem dX4_ways_1 : decode cX4_ways 1 = .ok (.invokevirtual 122, 3) := by decide +kernel
theorem dX4_ways_4 : decode cX4_ways 4 = .ok (.aload_n 0, 1) := by decide +kernel
theorem dX4_ways_5 : decode cX4_ways 5 = .ok (.getfield 21, 3) := by decide +kernel
theorem dX4_ways_8 : decode cX4_ways 8 = .ok (.aload_n 0, 1) := by decide +kernel
theorem dX4_ways_9 : decode cX4_ways 9 = .ok (.getfield 12, 3) := by decide +kernel
theorem dX4_ways_12 : decode cX4_ways 12 = .ok (.invokevirtual 125, 3) := by decide +kernel
theorem dX4_ways_15 : decode cX4_ways 15 = .ok (.invokevirtual 128, 3) := by decide +kernel
theorem dX4_ways_18 : decode cX4_ways 18 = .ok (.ireturn, 1) := by decide +kernel
set_option maxRecDepth 20000 in
theorem ggX4_leastDepth_X4_needParts : GoodIn wsX4_leastDepth wsX4_needParts := goodIn_ca (goodIn_r _ [7, 8, 9, 2, 10, 11, 12, 13, 14, 15, 72, 73, 74, 75, 76, 77, 78, 79, 80, 81] (by decide +kernel) (by decide +kernel)) (goodIn_sub (fun _ h => List.mem_cons_of_mem _ (List.mem_append_right _ h)) (by decide +kernel))
set_option maxRecDepth 20000 in
theorem gX4_leastDepth_X4_needParts : GoodIn wsX4_leastDepth (wsV RX4 122 RX4 yX4_needParts wsX4_needParts) := goodIn_app (goodIn_of _ (by decide +kernel)) ggX4_leastDepth_X4_needParts
set_option maxRecDepth 20000 in
theorem ggX4_leastDepth_X3_all : GoodIn wsX4_leastDepth wsX3_all := goodIn_r _ [19, 15, 76, 77, 78, 79, 80, 81] (by decide +kernel) (by decide +kernel)
set_option maxRecDepth 20000 in
theorem gX4_leastDepth_X3_all : GoodIn wsX4_leastDepth (wsV RX4 125 RX3 yX3_all wsX3_all) := goodIn_app (goodIn_of _ (by decide +kernel)) ggX4_leastDepth_X3_all
set_option maxRecDepth 20000 in
theorem ggX4_leastDepth_X2_leastDepthOf : GoodIn wsX4_leastDepth wsX2_leastDepthOf := goodIn_r _ [24, 25, 26, 27, 28, 23, 29, 30, 31, 32, 33, 17, 18, 13, 19, 15, 34, 35, 36, 37, 38, 39, 40, 41, 42, 43, 44, 45, 46, 47, 48, 49, 50, 51, 52, 53, 54, 55, 56, 57, 58, 59, 60, 61, 62, 63, 64, 65, 66, 67, 68, 69, 70, 71, 82, 83, 84, 85, 86, 87, 76, 77, 78, 79, 80, 81] (by decide +kernel) (by decide +kernel)
set_option maxRecDepth 20000 in
theorem gX4_leastDepth_X2_leastDepthOf : GoodIn wsX4_leastDepth (wsV RX4 131 RX2 yX2_leastDepthOf wsX2_leastDepthOf) := goodIn_app (goodIn_of _ (by decide +kernel)) ggX4_leastDepth_X2_leastDepthOf
theorem dX4_leastDepth_0 : decode cX4_leastDepth 0 = .ok (.aload_n 0, 1) := by decide +kernel
theorem dX4_leastDepth_1 : decode cX4_leastDepth 1 = .ok (.invokevirtual 122, 3) := by decide +kernel
theorem dX4_leastDepth_4 : decode cX4_leastDepth 4 = .ok (.aload_n 0, 1) := by decide +kernel
theorem dX4_leastDepth_5 : decode cX4_leastDepth 5 = .ok (.getfield 21, 3) := by decide +kernel
theorem dX4_leastDepth_8 : decode cX4_leastDepth 8 = .ok (.aload_n 0, 1) := by decide +kernel
theorem dX4_leastDepth_9 : decode cX4_leastDepth 9 = .ok (.getfield 12, 3) := by decide +kernel
theorem dX4_leastDepth_12 : decode cX4_leastDepth 12 = .ok (.invokevirtual 125, 3) := by decide +kernel
theorem dX4_leastDepth_15 : decode cX4_leastDepth 15 = .ok (.invokevirtual 131, 3) := by decide +kernel
theorem dX4_leastDepth_18 : decode cX4_leastDepth 18 = .ok (.ireturn, 1) := by decide +kernel
set_option maxRecDepth 20000 in
theorem ggX4_orders_X4_needParts : GoodIn wsX4_orders wsX4_needParts := goodIn_ca (goodIn_r _ [6, 7, 8, 9, 10, 11, 12, 13, 14, 15, 97, 98, 99, 100, 101, 102, 103, 104, 105, 106] (by decide +kernel) (by decide +kernel)) (goodIn_sub (fun _ h => List.mem_cons_of_mem _ (List.mem_append_right _ h)) (by decide +kernel))
set_option maxRecDepth 20000 in
theorem gX4_orders_X4_needParts : GoodIn wsX4_orders (wsV RX4 122 RX4 yX4_needParts wsX4_needParts) := goodIn_app (goodIn_of _ (by decide +kernel)) ggX4_orders_X4_needParts
set_option maxRecDepth 20000 in
theorem ggX4_orders_X1_possible : GoodIn wsX4_orders wsX1_possible := goodIn_r _ [20, 21, 22, 23, 24, 19, 25, 26, 27, 28, 29, 30, 31, 32, 33, 34, 13, 35, 15, 36, 37, 38, 39, 40, 41, 42, 43, 44, 45, 46, 47, 48, 49, 50, 51, 52, 53, 54, 55, 56, 57, 58, 59, 11, 12, 14, 60, 61, 62, 63, 64, 65, 66, 67, 68, 69, 70, 71, 72, 73, 74, 75, 76, 77, 78, 79, 80, 81, 82, 83, 84, 85, 86, 87, 88, 89, 90, 91, 92, 93, 94, 95, 96, 107, 108, 109, 110, 111, 112, 113, 114, 101, 102, 103, 104, 105, 106] (by decide +kernel) (by decide +kernel)
set_option maxRecDepth 20000 in
theorem gX4_orders_X1_possible : GoodIn wsX4_orders (wsV RX4 134 RX1 yX1_possible wsX1_possible) := goodIn_app (goodIn_of _ (by decide +kernel)) ggX4_orders_X1_possible
theorem dX4_orders_0 : decode cX4_orders 0 = .ok (.aload_n 0, 1) := by decide +kernel
theorem dX4_orders_1 : decode cX4_orders 1 = .ok (.invokevirtual 122, 3) := by decide +kernel
theorem dX4_orders_4 : decode cX4_orders 4 = .ok (.aload_n 0, 1) := by decide +kernel
theorem dX4_orders_5 : decode cX4_orders 5 = .ok (.getfield 28, 3) := by decide +kernel
theorem dX4_orders_8 : decode cX4_orders 8 = .ok (.invokevirtual 134, 3) := by decide +kernel
theorem dX4_orders_11 : decode cX4_orders 11 = .ok (.ireturn, 1) := by decide +kernel
set_option maxRecDepth 20000 in
theorem ggX4_fewestChanges_X4_needParts : GoodIn wsX4_fewestChanges wsX4_needParts := goodIn_ca (goodIn_r _ [6, 7, 8, 9, 10, 11, 12, 13, 14, 15, 100, 101, 102, 103, 104, 105, 106, 107, 108, 109] (by decide +kernel) (by decide +kernel)) (goodIn_sub (fun _ h => List.mem_cons_of_mem _ (List.mem_append_right _ h)) (by decide +kernel))
set_option maxRecDepth 20000 in
theorem gX4_fewestChanges_X4_needParts : GoodIn wsX4_fewestChanges (wsV RX4 122 RX4 yX4_needParts wsX4_needParts) := goodIn_app (goodIn_of _ (by decide +kernel)) ggX4_fewestChanges_X4_needParts
set_option maxRecDepth 20000 in
theorem ggX4_fewestChanges_X1_fewestBySets : GoodIn wsX4_fewestChanges wsX1_fewestBySets := goodIn_r _ [20, 21, 22, 23, 24, 19, 25, 26, 27, 28, 29, 30, 31, 32, 33, 34, 13, 35, 15, 36, 37, 38, 39, 40, 41, 42, 43, 44, 45, 46, 47, 48, 49, 50, 51, 52, 53, 54, 55, 56, 57, 58, 59, 11, 12, 14, 60, 61, 62, 63, 64, 65, 66, 67, 68, 69, 70, 71, 72, 73, 74, 75, 76, 77, 78, 79, 80, 81, 82, 83, 84, 85, 86, 87, 88, 89, 90, 91, 92, 93, 94, 95, 96, 97, 98, 99, 110, 111, 112, 113, 114, 115, 116, 117, 104, 105, 106, 107, 108, 109] (by decide +kernel) (by decide +kernel)
set_option maxRecDepth 20000 in
theorem gX4_fewestChanges_X1_fewestBySets : GoodIn wsX4_fewestChanges (wsV RX4 137 RX1 yX1_fewestBySets wsX1_fewestBySets) := goodIn_app (goodIn_of _ (by decide +kernel)) ggX4_fewestChanges_X1_fewestBySets
theorem dX4_fewestChanges_0 : decode cX4_fewestChanges 0 = .ok (.aload_n 0, 1) := by decide +kernel
theorem dX4_fewestChanges_1 : decode cX4_fewestChanges 1 = .ok (.invokevirtual 122, 3) := by decide +kernel
theorem dX4_fewestChanges_4 : decode cX4_fewestChanges 4 = .ok (.aload_n 0, 1) := by decide +kernel
theorem dX4_fewestChanges_5 : decode cX4_fewestChanges 5 = .ok (.getfield 28, 3) := by decide +kernel
theorem dX4_fewestChanges_8 : decode cX4_fewestChanges 8 = .ok (.invokevirtual 137, 3) := by decide +kernel
theorem dX4_fewestChanges_11 : decode cX4_fewestChanges 11 = .ok (.ireturn, 1) := by decide +kernel
set_option maxRecDepth 20000 in
theorem ggX4_fewestByListing_X4_needParts : GoodIn wsX4_fewestByListing wsX4_needParts := goodIn_ca (goodIn_r _ [9, 1, 2, 3, 10, 11, 12, 13, 14, 15, 103, 104, 105, 106, 107, 108, 109, 110, 111, 112] (by decide +kernel) (by decide +kernel)) (goodIn_sub (fun _ h => List.mem_cons_of_mem _ (List.mem_append_right _ h)) (by decide +kernel))
set_option maxRecDepth 20000 in
theorem gX4_fewestByListing_X4_needParts : GoodIn wsX4_fewestByListing (wsV RX4 122 RX4 yX4_needParts wsX4_needParts) := goodIn_app (goodIn_of _ (by decide +kernel)) ggX4_fewestByListing_X4_needParts
set_option maxRecDepth 20000 in
theorem ggX4_fewestByListing_X3_count : GoodIn wsX4_fewestByListing wsX3_count := goodIn_r _ [14, 15, 107, 108, 109, 110, 111, 112] (by decide +kernel) (by decide +kernel)
set_option maxRecDepth 20000 in
theorem gX4_fewestByListing_X3_count : GoodIn wsX4_fewestByListing (wsV RX4 43 RX3 yX3_count wsX3_count) := goodIn_app (goodIn_of _ (by decide +kernel)) ggX4_fewestByListing_X3_count
set_option maxRecDepth 20000 in
theorem ggX4_fewestByListing_X1_fewestListed : GoodIn wsX4_fewestByListing wsX1_fewestListed := goodIn_r _ [20, 21, 22, 23, 19, 24, 25, 26, 27, 28, 29, 30, 31, 32, 33, 34, 13, 35, 15, 36, 37, 38, 39, 40, 41, 42, 43, 44, 45, 46, 47, 48, 49, 50, 51, 52, 53, 54, 55, 56, 57, 58, 59, 11, 12, 14, 60, 61, 62, 63, 64, 65, 66, 67, 68, 69, 70, 71, 72, 73, 74, 75, 76, 77, 78, 79, 80, 81, 82, 83, 84, 85, 86, 87, 88, 89, 90, 91, 92, 93, 94, 95, 96, 97, 98, 99, 100, 101, 102, 113, 114, 115, 116, 117, 118, 119, 120, 107, 108, 109, 110, 111, 112] (by decide +kernel) (by decide +kernel)
set_option maxRecDepth 20000 in
theorem gX4_fewestByListing_X1_fewestListed : GoodIn wsX4_fewestByListing (wsV RX4 142 RX1 yX1_fewestListed wsX1_fewestListed) := goodIn_app (goodIn_of _ (by decide +kernel)) ggX4_fewestByListing_X1_fewestListed
theorem dX4_fewestByListing_0 : decode cX4_fewestByListing 0 = .ok (.aload_n 0, 1) := by decide +kernel
theorem dX4_fewestByListing_1 : decode cX4_fewestByListing 1 = .ok (.invokevirtual 122, 3) := by decide +kernel
theorem dX4_fewestByListing_4 : decode cX4_fewestByListing 4 = .ok (.aload_n 0, 1) := by decide +kernel
theorem dX4_fewestByListing_5 : decode cX4_fewestByListing 5 = .ok (.getfield 12, 3) := by decide +kernel
theorem dX4_fewestByListing_8 : decode cX4_fewestByListing 8 = .ok (.invokevirtual 43, 3) := by decide +kernel
theorem dX4_fewestByListing_11 : decode cX4_fewestByListing 11 = .ok (.bipush 7, 2) := by decide +kernel
theorem dX4_fewestByListing_13 : decode cX4_fewestByListing 13 = .ok (.if_icmp .le 13, 3) := by decide +kernel
theorem dX4_fewestByListing_16 : decode cX4_fewestByListing 16 = .ok (.new 47, 3) := by decide +kernel
theorem dX4_fewestByListing_19 : decode cX4_fewestByListing 19 = .ok (.dup, 1) := by decide +kernel
theorem dX4_fewestByListing_20 : decode cX4_fewestByListing 20 = .ok (.ldc 140, 2) := by decide +kernel
theorem dX4_fewestByListing_22 : decode cX4_fewestByListing 22 = .ok (.invokespecial 51, 3) := by decide +kernel
theorem dX4_fewestByListing_25 : decode cX4_fewestByListing 25 = .ok (.athrow, 1) := by decide +kernel
theorem dX4_fewestByListing_26 : decode cX4_fewestByListing 26 = .ok (.aload_n 0, 1) := by decide +kernel
theorem dX4_fewestByListing_27 : decode cX4_fewestByListing 27 = .ok (.getfield 28, 3) := by decide +kernel
theorem dX4_fewestByListing_30 : decode cX4_fewestByListing 30 = .ok (.invokevirtual 142, 3) := by decide +kernel
theorem dX4_fewestByListing_33 : decode cX4_fewestByListing 33 = .ok (.ireturn, 1) := by decide +kernel
set_option maxRecDepth 20000 in
theorem ggX4_orderAt_X1_bestAt : GoodIn wsX4_orderAt wsX1_bestAt := goodIn_r _ [8, 9, 10, 11, 12, 13, 14, 15, 16, 17, 18, 19, 20, 7, 21, 22, 23, 24, 25, 26, 27, 28, 29, 30, 31, 32, 33, 34, 35, 36, 37, 38, 39, 40, 41, 42, 43, 44, 45, 46, 47, 48, 49, 50, 51, 52, 53, 54, 55, 56, 57, 58, 59, 60, 61, 62, 63, 64, 65, 66, 67, 68, 69, 70, 71, 72, 73, 74, 75, 76, 77, 78, 79, 80, 81, 82, 83, 84, 85, 86, 87, 88, 89, 94, 95, 96, 97, 98, 99, 100, 101, 102, 103, 104, 105, 106, 107] (by decide +kernel) (by decide +kernel)
set_option maxRecDepth 20000 in
theorem gX4_orderAt_X1_bestAt : GoodIn wsX4_orderAt (wsV RX4 145 RX1 yX1_bestAt wsX1_bestAt) := goodIn_app (goodIn_of _ (by decide +kernel)) ggX4_orderAt_X1_bestAt
theorem dX4_orderAt_0 : decode cX4_orderAt 0 = .ok (.aload_n 0, 1) := by decide +kernel
theorem dX4_orderAt_1 : decode cX4_orderAt 1 = .ok (.getfield 28, 3) := by decide +kernel
theorem dX4_orderAt_4 : decode cX4_orderAt 4 = .ok (.iload_n 1, 1) := by decide +kernel
theorem dX4_orderAt_5 : decode cX4_orderAt 5 = .ok (.invokevirtual 145, 3) := by decide +kernel
theorem dX4_orderAt_8 : decode cX4_orderAt 8 = .ok (.istore_n 2, 1) := by decide +kernel
theorem dX4_orderAt_9 : decode cX4_orderAt 9 = .ok (.iload_n 2, 1) := by decide +kernel
theorem dX4_orderAt_10 : decode cX4_orderAt 10 = .ok (.iconst (-1), 1) := by decide +kernel
theorem dX4_orderAt_11 : decode cX4_orderAt 11 = .ok (.if_icmp .ne 13, 3) := by decide +kernel
theorem dX4_orderAt_14 : decode cX4_orderAt 14 = .ok (.new 148, 3) := by decide +kernel
theorem dX4_orderAt_17 : decode cX4_orderAt 17 = .ok (.dup, 1) := by decide +kernel
theorem dX4_orderAt_18 : decode cX4_orderAt 18 = .ok (.ldc 150, 2) := by decide +kernel
theorem dX4_orderAt_20 : decode cX4_orderAt 20 = .ok (.invokespecial 152, 3) := by decide +kernel
theorem dX4_orderAt_23 : decode cX4_orderAt 23 = .ok (.athrow, 1) := by decide +kernel
theorem dX4_orderAt_24 : decode cX4_orderAt 24 = .ok (.iload_n 2, 1) := by decide +kernel
theorem dX4_orderAt_25 : decode cX4_orderAt 25 = .ok (.ireturn, 1) := by decide +kernel
set_option maxRecDepth 20000 in
theorem ggX4_setJams_X4_needPart : GoodIn wsX4_setJams wsX4_needPart := goodIn_ca (goodIn_r _ [8, 9, 10, 11, 12, 13, 14, 15, 16, 17, 24, 25, 26, 27, 28, 29, 30, 31, 32, 33] (by decide +kernel) (by decide +kernel)) (goodIn_sub (fun _ h => List.mem_cons_of_mem _ (List.mem_append_right _ h)) (by decide +kernel))
set_option maxRecDepth 20000 in
theorem gX4_setJams_X4_needPart : GoodIn wsX4_setJams (wsV RX4 61 RX4 yX4_needPart wsX4_needPart) := goodIn_app (goodIn_of _ (by decide +kernel)) ggX4_setJams_X4_needPart
set_option maxRecDepth 20000 in
theorem ggX4_setJams_X0_changeJams : GoodIn wsX4_setJams wsX0_changeJams := goodIn_r _ [22, 23, 34, 35, 36, 37, 38, 39, 40, 41] (by decide +kernel) (by decide +kernel)
set_option maxRecDepth 20000 in
theorem gX4_setJams_X0_changeJams : GoodIn wsX4_setJams (wsV RX4 158 RX0 yX0_changeJams wsX0_changeJams) := goodIn_app (goodIn_of _ (by decide +kernel)) ggX4_setJams_X0_changeJams
theorem dX4_setJams_0 : decode cX4_setJams 0 = .ok (.aload_n 0, 1) := by decide +kernel
theorem dX4_setJams_1 : decode cX4_setJams 1 = .ok (.iload_n 1, 1) := by decide +kernel
theorem dX4_setJams_2 : decode cX4_setJams 2 = .ok (.invokevirtual 61, 3) := by decide +kernel
theorem dX4_setJams_5 : decode cX4_setJams 5 = .ok (.iload_n 2, 1) := by decide +kernel
theorem dX4_setJams_6 : decode cX4_setJams 6 = .ok (.ifCond .lt 8, 3) := by decide +kernel
theorem dX4_setJams_9 : decode cX4_setJams 9 = .ok (.iload_n 2, 1) := by decide +kernel
theorem dX4_setJams_10 : decode cX4_setJams 10 = .ok (.iconst 5, 1) := by decide +kernel
theorem dX4_setJams_11 : decode cX4_setJams 11 = .ok (.if_icmp .le 13, 3) := by decide +kernel
theorem dX4_setJams_14 : decode cX4_setJams 14 = .ok (.new 153, 3) := by decide +kernel
theorem dX4_setJams_17 : decode cX4_setJams 17 = .ok (.dup, 1) := by decide +kernel
theorem dX4_setJams_18 : decode cX4_setJams 18 = .ok (.ldc 155, 2) := by decide +kernel
theorem dX4_setJams_20 : decode cX4_setJams 20 = .ok (.invokespecial 157, 3) := by decide +kernel
theorem dX4_setJams_23 : decode cX4_setJams 23 = .ok (.athrow, 1) := by decide +kernel
theorem dX4_setJams_24 : decode cX4_setJams 24 = .ok (.aload_n 0, 1) := by decide +kernel
theorem dX4_setJams_25 : decode cX4_setJams 25 = .ok (.getfield 35, 3) := by decide +kernel
theorem dX4_setJams_28 : decode cX4_setJams 28 = .ok (.iload_n 1, 1) := by decide +kernel
theorem dX4_setJams_29 : decode cX4_setJams 29 = .ok (.iload_n 2, 1) := by decide +kernel
theorem dX4_setJams_30 : decode cX4_setJams 30 = .ok (.invokevirtual 158, 3) := by decide +kernel
theorem dX4_setJams_33 : decode cX4_setJams 33 = .ok (.ireturn, 1) := by decide +kernel
set_option maxRecDepth 20000 in
theorem ggX4_begin_X4_needParts : GoodIn wsX4_begin wsX4_needParts := goodIn_ca (goodIn_r _ [10, 1, 2, 5, 11, 12, 13, 14, 15, 16, 116, 117, 118, 119, 120, 121, 122, 123, 124, 125] (by decide +kernel) (by decide +kernel)) (goodIn_sub (fun _ h => List.mem_cons_of_mem _ (List.mem_append_right _ h)) (by decide +kernel))
set_option maxRecDepth 20000 in
theorem gX4_begin_X4_needParts : GoodIn wsX4_begin (wsV RX4 122 RX4 yX4_needParts wsX4_needParts) := goodIn_app (goodIn_of _ (by decide +kernel)) ggX4_begin_X4_needParts
set_option maxRecDepth 20000 in
theorem ggX4_begin_X1_fewestBySets : GoodIn wsX4_begin wsX1_fewestBySets := goodIn_r _ [21, 22, 23, 24, 25, 20, 26, 27, 28, 29, 30, 31, 32, 33, 34, 35, 14, 36, 16, 37, 38, 39, 40, 41, 42, 43, 44, 45, 46, 47, 48, 49, 50, 51, 52, 53, 54, 55, 56, 57, 58, 59, 60, 12, 13, 15, 61, 62, 63, 64, 65, 66, 67, 68, 69, 70, 71, 72, 73, 74, 75, 76, 77, 78, 79, 80, 81, 82, 83, 84, 85, 86, 87, 88, 89, 90, 91, 92, 93, 94, 95, 96, 97, 98, 99, 100, 126, 127, 128, 129, 130, 131, 132, 133, 120, 121, 122, 123, 124, 125] (by decide +kernel) (by decide +kernel)
set_option maxRecDepth 20000 in
theorem gX4_begin_X1_fewestBySets : GoodIn wsX4_begin (wsV RX4 137 RX1 yX1_fewestBySets wsX1_fewestBySets) := goodIn_app (goodIn_of _ (by decide +kernel)) ggX4_begin_X1_fewestBySets
set_option maxRecDepth 20000 in
theorem ggX4_begin_X0_start : GoodIn wsX4_begin wsX0_start := goodIn_r _ [105, 106, 107, 108, 109, 104, 110, 111, 112, 113, 114, 115, 134, 135, 136, 137, 138, 139, 140, 141] (by decide +kernel) (by decide +kernel)
set_option maxRecDepth 20000 in
theorem gX4_begin_X0_start : GoodIn wsX4_begin (wsV RX4 163 RX0 yX0_start wsX0_start) := goodIn_app (goodIn_of _ (by decide +kernel)) ggX4_begin_X0_start
set_option maxRecDepth 20000 in
theorem ggX4_begin_X3_count : GoodIn wsX4_begin wsX3_count := goodIn_r _ [15, 16, 120, 121, 122, 123, 124, 125] (by decide +kernel) (by decide +kernel)
set_option maxRecDepth 20000 in
theorem gX4_begin_X3_count : GoodIn wsX4_begin (wsV RX4 43 RX3 yX3_count wsX3_count) := goodIn_app (goodIn_of _ (by decide +kernel)) ggX4_begin_X3_count
theorem dX4_begin_0 : decode cX4_begin 0 = .ok (.aload_n 0, 1) := by decide +kernel
theorem dX4_begin_1 : decode cX4_begin 1 = .ok (.invokevirtual 122, 3) := by decide +kernel
theorem dX4_begin_4 : decode cX4_begin 4 = .ok (.aload_n 0, 1) := by decide +kernel
theorem dX4_begin_5 : decode cX4_begin 5 = .ok (.getfield 28, 3) := by decide +kernel
theorem dX4_begin_8 : decode cX4_begin 8 = .ok (.invokevirtual 137, 3) := by decide +kernel
theorem dX4_begin_11 : decode cX4_begin 11 = .ok (.iconst (-1), 1) := by decide +kernel
theorem dX4_begin_12 : decode cX4_begin 12 = .ok (.if_icmp .ne 13, 3) := by decide +kernel
theorem dX4_begin_15 : decode cX4_begin 15 = .ok (.new 47, 3) := by decide +kernel
theorem dX4_begin_18 : decode cX4_begin 18 = .ok (.dup, 1) := by decide +kernel
theorem dX4_begin_19 : decode cX4_begin 19 = .ok (.ldc 161, 2) := by decide +kernel
theorem dX4_begin_21 : decode cX4_begin 21 = .ok (.invokespecial 51, 3) := by decide +kernel
theorem dX4_begin_24 : decode cX4_begin 24 = .ok (.athrow, 1) := by decide +kernel
theorem dX4_begin_25 : decode cX4_begin 25 = .ok (.aload_n 0, 1) := by decide +kernel
theorem dX4_begin_26 : decode cX4_begin 26 = .ok (.getfield 35, 3) := by decide +kernel
theorem dX4_begin_29 : decode cX4_begin 29 = .ok (.invokevirtual 163, 3) := by decide +kernel
theorem dX4_begin_32 : decode cX4_begin 32 = .ok (.aload_n 0, 1) := by decide +kernel
theorem dX4_begin_33 : decode cX4_begin 33 = .ok (.getfield 12, 3) := by decide +kernel
theorem dX4_begin_36 : decode cX4_begin 36 = .ok (.invokevirtual 43, 3) := by decide +kernel
theorem dX4_begin_39 : decode cX4_begin 39 = .ok (.ireturn, 1) := by decide +kernel
set_option maxRecDepth 20000 in
theorem ggX4_step_X0_nextPlace : GoodIn wsX4_step wsX0_nextPlace := goodIn_r _ [9, 10, 11, 130, 131, 132, 133, 134, 135, 136, 137] (by decide +kernel) (by decide +kernel)
set_option maxRecDepth 20000 in
theorem gX4_step_X0_nextPlace : GoodIn wsX4_step (wsV RX4 166 RX0 yX0_nextPlace wsX0_nextPlace) := goodIn_app (goodIn_of _ (by decide +kernel)) ggX4_step_X0_nextPlace
set_option maxRecDepth 20000 in
theorem ggX4_step_X1_bestAt : GoodIn wsX4_step wsX1_bestAt := goodIn_r _ [16, 17, 18, 19, 20, 21, 22, 23, 24, 25, 26, 27, 28, 15, 29, 30, 31, 32, 33, 34, 35, 36, 37, 38, 39, 40, 41, 42, 43, 44, 45, 46, 47, 48, 49, 50, 51, 52, 53, 54, 55, 56, 57, 58, 59, 60, 61, 62, 63, 64, 65, 66, 67, 68, 69, 70, 71, 72, 73, 74, 75, 76, 77, 78, 79, 80, 81, 82, 83, 84, 85, 86, 87, 88, 89, 90, 91, 92, 93, 94, 95, 96, 97, 138, 139, 140, 141, 142, 143, 144, 145, 146, 147, 148, 149, 150, 151] (by decide +kernel) (by decide +kernel)
set_option maxRecDepth 20000 in
theorem gX4_step_X1_bestAt : GoodIn wsX4_step (wsV RX4 145 RX1 yX1_bestAt wsX1_bestAt) := goodIn_app (goodIn_of _ (by decide +kernel)) ggX4_step_X1_bestAt
set_option maxRecDepth 20000 in
theorem ggX4_step_X0_tryToPutIn : GoodIn wsX4_step wsX0_tryToPutIn := goodIn_r _ [101, 102, 103, 104, 105, 83, 84, 23, 85, 86, 106, 107, 108, 8, 109, 110, 111, 112, 113, 114, 115, 116, 117, 118, 119, 120, 121, 122, 123, 124, 11, 125, 63, 64, 65, 56, 130, 131, 132, 133, 134, 135, 136, 137, 146, 147, 148, 149, 150, 151] (by decide +kernel) (by decide +kernel)
set_option maxRecDepth 20000 in
theorem gX4_step_X0_tryToPutIn : GoodIn wsX4_step (wsV RX4 171 RX0 yX0_tryToPutIn wsX0_tryToPutIn) := goodIn_app (goodIn_of _ (by decide +kernel)) ggX4_step_X0_tryToPutIn
theorem dX4_step_0 : decode cX4_step 0 = .ok (.aload_n 0, 1) := by decide +kernel
theorem dX4_step_1 : decode cX4_step 1 = .ok (.getfield 28, 3) := by decide +kernel
theorem dX4_step_4 : decode cX4_step 4 = .ok (.aload_n 0, 1) := by decide +kernel
theorem dX4_step_5 : decode cX4_step 5 = .ok (.getfield 35, 3) := by decide +kernel
theorem dX4_step_8 : decode cX4_step 8 = .ok (.invokevirtual 166, 3) := by decide +kernel
theorem dX4_step_11 : decode cX4_step 11 = .ok (.invokevirtual 145, 3) := by decide +kernel
theorem dX4_step_14 : decode cX4_step 14 = .ok (.istore_n 1, 1) := by decide +kernel
theorem dX4_step_15 : decode cX4_step 15 = .ok (.iload_n 1, 1) := by decide +kernel
theorem dX4_step_16 : decode cX4_step 16 = .ok (.iconst (-1), 1) := by decide +kernel
theorem dX4_step_17 : decode cX4_step 17 = .ok (.if_icmp .ne 13, 3) := by decide +kernel
theorem dX4_step_20 : decode cX4_step 20 = .ok (.new 47, 3) := by decide +kernel
theorem dX4_step_23 : decode cX4_step 23 = .ok (.dup, 1) := by decide +kernel
theorem dX4_step_24 : decode cX4_step 24 = .ok (.ldc 169, 2) := by decide +kernel
theorem dX4_step_26 : decode cX4_step 26 = .ok (.invokespecial 51, 3) := by decide +kernel
theorem dX4_step_29 : decode cX4_step 29 = .ok (.athrow, 1) := by decide +kernel
theorem dX4_step_30 : decode cX4_step 30 = .ok (.aload_n 0, 1) := by decide +kernel
theorem dX4_step_31 : decode cX4_step 31 = .ok (.getfield 35, 3) := by decide +kernel
theorem dX4_step_34 : decode cX4_step 34 = .ok (.iload_n 1, 1) := by decide +kernel
theorem dX4_step_35 : decode cX4_step 35 = .ok (.invokevirtual 171, 3) := by decide +kernel
theorem dX4_step_38 : decode cX4_step 38 = .ok (.ifCond .eq 7, 3) := by decide +kernel
theorem dX4_step_41 : decode cX4_step 41 = .ok (.iload_n 1, 1) := by decide +kernel
theorem dX4_step_42 : decode cX4_step 42 = .ok (.goto 4, 3) := by decide +kernel
theorem dX4_step_45 : decode cX4_step 45 = .ok (.iconst (-1), 1) := by decide +kernel
theorem dX4_step_46 : decode cX4_step 46 = .ok (.ireturn, 1) := by decide +kernel
set_option maxRecDepth 20000 in
theorem ggX4_stepBack_X0_lastPlace : GoodIn wsX4_stepBack wsX0_lastPlace := goodIn_r _ [9, 10, 107, 108, 109, 110, 111, 112, 113, 114] (by decide +kernel) (by decide +kernel)
set_option maxRecDepth 20000 in
theorem gX4_stepBack_X0_lastPlace : GoodIn wsX4_stepBack (wsV RX4 174 RX0 yX0_lastPlace wsX0_lastPlace) := goodIn_app (goodIn_of _ (by decide +kernel)) ggX4_stepBack_X0_lastPlace
set_option maxRecDepth 20000 in
theorem ggX4_stepBack_X1_bestAt : GoodIn wsX4_stepBack wsX1_bestAt := goodIn_r _ [15, 16, 17, 18, 19, 20, 21, 22, 23, 24, 25, 26, 27, 14, 28, 29, 30, 31, 32, 33, 34, 35, 36, 37, 38, 39, 40, 41, 42, 43, 44, 45, 46, 47, 48, 49, 50, 51, 52, 53, 54, 55, 56, 57, 58, 59, 60, 61, 62, 63, 64, 65, 66, 67, 68, 69, 70, 71, 72, 73, 74, 75, 76, 77, 78, 79, 80, 81, 82, 83, 84, 85, 86, 87, 88, 89, 90, 91, 92, 93, 94, 95, 96, 115, 116, 117, 118, 119, 120, 121, 122, 123, 124, 125, 126, 127, 128] (by decide +kernel) (by decide +kernel)
set_option maxRecDepth 20000 in
theorem gX4_stepBack_X1_bestAt : GoodIn wsX4_stepBack (wsV RX4 145 RX1 yX1_bestAt wsX1_bestAt) := goodIn_app (goodIn_of _ (by decide +kernel)) ggX4_stepBack_X1_bestAt
set_option maxRecDepth 20000 in
theorem ggX4_stepBack_X0_takeOut : GoodIn wsX4_stepBack wsX0_takeOut := goodIn_r _ [100, 101, 10, 102, 107, 108, 109, 110, 111, 112, 113, 114] (by decide +kernel) (by decide +kernel)
set_option maxRecDepth 20000 in
theorem gX4_stepBack_X0_takeOut : GoodIn wsX4_stepBack (wsV RX4 179 RX0 yX0_takeOut wsX0_takeOut) := goodIn_app (goodIn_of _ (by decide +kernel)) ggX4_stepBack_X0_takeOut
theorem dX4_stepBack_0 : decode cX4_stepBack 0 = .ok (.aload_n 0, 1) := by decide +kernel
theorem dX4_stepBack_1 : decode cX4_stepBack 1 = .ok (.getfield 28, 3) := by decide +kernel
theorem dX4_stepBack_4 : decode cX4_stepBack 4 = .ok (.aload_n 0, 1) := by decide +kernel
theorem dX4_stepBack_5 : decode cX4_stepBack 5 = .ok (.getfield 35, 3) := by decide +kernel
theorem dX4_stepBack_8 : decode cX4_stepBack 8 = .ok (.invokevirtual 174, 3) := by decide +kernel
theorem dX4_stepBack_11 : decode cX4_stepBack 11 = .ok (.invokevirtual 145, 3) := by decide +kernel
theorem dX4_stepBack_14 : decode cX4_stepBack 14 = .ok (.istore_n 1, 1) := by decide +kernel
theorem dX4_stepBack_15 : decode cX4_stepBack 15 = .ok (.iload_n 1, 1) := by decide +kernel
theorem dX4_stepBack_16 : decode cX4_stepBack 16 = .ok (.iconst (-1), 1) := by decide +kernel
theorem dX4_stepBack_17 : decode cX4_stepBack 17 = .ok (.if_icmp .ne 13, 3) := by decide +kernel
theorem dX4_stepBack_20 : decode cX4_stepBack 20 = .ok (.new 47, 3) := by decide +kernel
theorem dX4_stepBack_23 : decode cX4_stepBack 23 = .ok (.dup, 1) := by decide +kernel
theorem dX4_stepBack_24 : decode cX4_stepBack 24 = .ok (.ldc 177, 2) := by decide +kernel
theorem dX4_stepBack_26 : decode cX4_stepBack 26 = .ok (.invokespecial 51, 3) := by decide +kernel
theorem dX4_stepBack_29 : decode cX4_stepBack 29 = .ok (.athrow, 1) := by decide +kernel
theorem dX4_stepBack_30 : decode cX4_stepBack 30 = .ok (.aload_n 0, 1) := by decide +kernel
theorem dX4_stepBack_31 : decode cX4_stepBack 31 = .ok (.getfield 35, 3) := by decide +kernel
theorem dX4_stepBack_34 : decode cX4_stepBack 34 = .ok (.iload_n 1, 1) := by decide +kernel
theorem dX4_stepBack_35 : decode cX4_stepBack 35 = .ok (.invokevirtual 179, 3) := by decide +kernel
theorem dX4_stepBack_38 : decode cX4_stepBack 38 = .ok (.iload_n 1, 1) := by decide +kernel
theorem dX4_stepBack_39 : decode cX4_stepBack 39 = .ok (.ireturn, 1) := by decide +kernel
set_option maxRecDepth 20000 in
theorem ggX4_built_X0_partsIn : GoodIn wsX4_built wsX0_partsIn := goodIn_r _ [6, 7, 12, 13, 14, 15, 16, 17, 18, 19] (by decide +kernel) (by decide +kernel)
set_option maxRecDepth 20000 in
theorem gX4_built_X0_partsIn : GoodIn wsX4_built (wsV RX4 182 RX0 yX0_partsIn wsX0_partsIn) := goodIn_app (goodIn_of _ (by decide +kernel)) ggX4_built_X0_partsIn
theorem dX4_built_0 : decode cX4_built 0 = .ok (.aload_n 0, 1) := by decide +kernel
theorem dX4_built_1 : decode cX4_built 1 = .ok (.getfield 35, 3) := by decide +kernel
theorem dX4_built_4 : decode cX4_built 4 = .ok (.invokevirtual 182, 3) := by decide +kernel
theorem dX4_built_7 : decode cX4_built 7 = .ok (.ireturn, 1) := by decide +kernel
set_option maxRecDepth 20000 in
theorem ggX4_clock_X0_timeSinceStart : GoodIn wsX4_clock wsX0_timeSinceStart := goodIn_r _ [6, 7, 12, 13, 14, 15, 16, 17, 18, 19] (by decide +kernel) (by decide +kernel)
set_option maxRecDepth 20000 in
theorem gX4_clock_X0_timeSinceStart : GoodIn wsX4_clock (wsV RX4 185 RX0 yX0_timeSinceStart wsX0_timeSinceStart) := goodIn_app (goodIn_of _ (by decide +kernel)) ggX4_clock_X0_timeSinceStart
theorem dX4_clock_0 : decode cX4_clock 0 = .ok (.aload_n 0, 1) := by decide +kernel
theorem dX4_clock_1 : decode cX4_clock 1 = .ok (.getfield 35, 3) := by decide +kernel
theorem dX4_clock_4 : decode cX4_clock 4 = .ok (.invokevirtual 185, 3) := by decide +kernel
theorem dX4_clock_7 : decode cX4_clock 7 = .ok (.ireturn, 1) := by decide +kernel
set_option maxRecDepth 20000 in
theorem ggX4_mounted_X0_toolMounted : GoodIn wsX4_mounted wsX0_toolMounted := goodIn_r _ [6, 7, 12, 13, 14, 15, 16, 17, 18, 19] (by decide +kernel) (by decide +kernel)
set_option maxRecDepth 20000 in
theorem gX4_mounted_X0_toolMounted : GoodIn wsX4_mounted (wsV RX4 188 RX0 yX0_toolMounted wsX0_toolMounted) := goodIn_app (goodIn_of _ (by decide +kernel)) ggX4_mounted_X0_toolMounted
theorem dX4_mounted_0 : decode cX4_mounted 0 = .ok (.aload_n 0, 1) := by decide +kernel
theorem dX4_mounted_1 : decode cX4_mounted 1 = .ok (.getfield 35, 3) := by decide +kernel
theorem dX4_mounted_4 : decode cX4_mounted 4 = .ok (.invokevirtual 188, 3) := by decide +kernel
theorem dX4_mounted_7 : decode cX4_mounted 7 = .ok (.ireturn, 1) := by decide +kernel
set_option maxRecDepth 20000 in
theorem ggX4_isBypassed_X4_needPart : GoodIn wsX4_isBypassed wsX4_needPart := goodIn_ca (goodIn_r _ [6, 7, 8, 9, 10, 11, 12, 13, 14, 15, 22, 23, 24, 25, 26, 27, 28, 29, 30, 31] (by decide +kernel) (by decide +kernel)) (goodIn_sub (fun _ h => List.mem_cons_of_mem _ (List.mem_append_right _ h)) (by decide +kernel))
set_option maxRecDepth 20000 in
theorem gX4_isBypassed_X4_needPart : GoodIn wsX4_isBypassed (wsV RX4 61 RX4 yX4_needPart wsX4_needPart) := goodIn_app (goodIn_of _ (by decide +kernel)) ggX4_isBypassed_X4_needPart
set_option maxRecDepth 20000 in
theorem ggX4_isBypassed_X0_bypassed : GoodIn wsX4_isBypassed wsX0_bypassed := goodIn_r _ [20, 21, 32, 33, 34, 35, 36, 37, 38, 39] (by decide +kernel) (by decide +kernel)
set_option maxRecDepth 20000 in
theorem gX4_isBypassed_X0_bypassed : GoodIn wsX4_isBypassed (wsV RX4 191 RX0 yX0_bypassed wsX0_bypassed) := goodIn_app (goodIn_of _ (by decide +kernel)) ggX4_isBypassed_X0_bypassed
theorem dX4_isBypassed_0 : decode cX4_isBypassed 0 = .ok (.aload_n 0, 1) := by decide +kernel
theorem dX4_isBypassed_1 : decode cX4_isBypassed 1 = .ok (.iload_n 1, 1) := by decide +kernel
theorem dX4_isBypassed_2 : decode cX4_isBypassed 2 = .ok (.invokevirtual 61, 3) := by decide +kernel
theorem dX4_isBypassed_5 : decode cX4_isBypassed 5 = .ok (.aload_n 0, 1) := by decide +kernel
theorem dX4_isBypassed_6 : decode cX4_isBypassed 6 = .ok (.getfield 35, 3) := by decide +kernel
theorem dX4_isBypassed_9 : decode cX4_isBypassed 9 = .ok (.iload_n 1, 1) := by decide +kernel
theorem dX4_isBypassed_10 : decode cX4_isBypassed 10 = .ok (.invokevirtual 191, 3) := by decide +kernel
theorem dX4_isBypassed_13 : decode cX4_isBypassed 13 = .ok (.ireturn, 1) := by decide +kernel
set_option maxRecDepth 20000 in
theorem ggX4_productIsTold_X2_forget : GoodIn wsX4_productIsTold wsX2_forget := goodIn_r _ [8, 9, 31, 32, 33, 34, 35, 36] (by decide +kernel) (by decide +kernel)
set_option maxRecDepth 20000 in
theorem gX4_productIsTold_X2_forget : GoodIn wsX4_productIsTold (wsV RX4 194 RX2 yX2_forget wsX2_forget) := goodIn_app (goodIn_of _ (by decide +kernel)) ggX4_productIsTold_X2_forget
set_option maxRecDepth 20000 in
theorem ggX4_productIsTold_X1_forget : GoodIn wsX4_productIsTold wsX1_forget := goodIn_r _ [14, 15, 37, 38, 39, 40, 41, 42, 43, 44] (by decide +kernel) (by decide +kernel)
set_option maxRecDepth 20000 in
theorem gX4_productIsTold_X1_forget : GoodIn wsX4_productIsTold (wsV RX4 197 RX1 yX1_forget wsX1_forget) := goodIn_app (goodIn_of _ (by decide +kernel)) ggX4_productIsTold_X1_forget
set_option maxRecDepth 20000 in
theorem ggX4_productIsTold_X0_halt : GoodIn wsX4_productIsTold wsX0_halt := goodIn_r _ [20, 21, 22, 23, 24, 25, 26, 45, 46, 47, 48, 49, 50, 51, 52] (by decide +kernel) (by decide +kernel)
set_option maxRecDepth 20000 in
theorem gX4_productIsTold_X0_halt : GoodIn wsX4_productIsTold (wsV RX4 198 RX0 yX0_halt wsX0_halt) := goodIn_app (goodIn_of _ (by decide +kernel)) ggX4_productIsTold_X0_halt
theorem dX4_productIsTold_0 : decode cX4_productIsTold 0 = .ok (.aload_n 0, 1) := by decide +kernel
theorem dX4_productIsTold_1 : decode cX4_productIsTold 1 = .ok (.getfield 21, 3) := by decide +kernel
theorem dX4_productIsTold_4 : decode cX4_productIsTold 4 = .ok (.invokevirtual 194, 3) := by decide +kernel
theorem dX4_productIsTold_7 : decode cX4_productIsTold 7 = .ok (.aload_n 0, 1) := by decide +kernel
theorem dX4_productIsTold_8 : decode cX4_productIsTold 8 = .ok (.getfield 28, 3) := by decide +kernel
theorem dX4_productIsTold_11 : decode cX4_productIsTold 11 = .ok (.invokevirtual 197, 3) := by decide +kernel
theorem dX4_productIsTold_14 : decode cX4_productIsTold 14 = .ok (.aload_n 0, 1) := by decide +kernel
theorem dX4_productIsTold_15 : decode cX4_productIsTold 15 = .ok (.getfield 35, 3) := by decide +kernel
theorem dX4_productIsTold_18 : decode cX4_productIsTold 18 = .ok (.invokevirtual 198, 3) := by decide +kernel
theorem dX4_productIsTold_21 : decode cX4_productIsTold 21 = .ok (.return_, 1) := by decide +kernel
set_option maxRecDepth 20000 in
theorem ggX4_needPart_X3_count : GoodIn wsX4_needPart wsX3_count := goodIn_r _ [8, 9, 14, 15, 16, 17, 18, 19] (by decide +kernel) (by decide +kernel)
set_option maxRecDepth 20000 in
theorem gX4_needPart_X3_count : GoodIn wsX4_needPart (wsV RX4 43 RX3 yX3_count wsX3_count) := goodIn_app (goodIn_of _ (by decide +kernel)) ggX4_needPart_X3_count
theorem dX4_needPart_0 : decode cX4_needPart 0 = .ok (.iload_n 1, 1) := by decide +kernel
theorem dX4_needPart_1 : decode cX4_needPart 1 = .ok (.ifCond .lt 14, 3) := by decide +kernel
theorem dX4_needPart_4 : decode cX4_needPart 4 = .ok (.iload_n 1, 1) := by decide +kernel
theorem dX4_needPart_5 : decode cX4_needPart 5 = .ok (.aload_n 0, 1) := by decide +kernel
theorem dX4_needPart_6 : decode cX4_needPart 6 = .ok (.getfield 12, 3) := by decide +kernel
theorem dX4_needPart_9 : decode cX4_needPart 9 = .ok (.invokevirtual 43, 3) := by decide +kernel
theorem dX4_needPart_12 : decode cX4_needPart 12 = .ok (.if_icmp .lt 13, 3) := by decide +kernel
theorem dX4_needPart_15 : decode cX4_needPart 15 = .ok (.new 148, 3) := by decide +kernel
theorem dX4_needPart_18 : decode cX4_needPart 18 = .ok (.dup, 1) := by decide +kernel
theorem dX4_needPart_19 : decode cX4_needPart 19 = .ok (.ldc 201, 2) := by decide +kernel
theorem dX4_needPart_21 : decode cX4_needPart 21 = .ok (.invokespecial 152, 3) := by decide +kernel
theorem dX4_needPart_24 : decode cX4_needPart 24 = .ok (.athrow, 1) := by decide +kernel
theorem dX4_needPart_25 : decode cX4_needPart 25 = .ok (.return_, 1) := by decide +kernel
theorem dX4_needDirection_0 : decode cX4_needDirection 0 = .ok (.iload_n 1, 1) := by decide +kernel
theorem dX4_needDirection_1 : decode cX4_needDirection 1 = .ok (.ifCond .lt 9, 3) := by decide +kernel
theorem dX4_needDirection_4 : decode cX4_needDirection 4 = .ok (.iload_n 1, 1) := by decide +kernel
theorem dX4_needDirection_5 : decode cX4_needDirection 5 = .ok (.bipush 6, 2) := by decide +kernel
theorem dX4_needDirection_7 : decode cX4_needDirection 7 = .ok (.if_icmp .lt 13, 3) := by decide +kernel
theorem dX4_needDirection_10 : decode cX4_needDirection 10 = .ok (.new 148, 3) := by decide +kernel
theorem dX4_needDirection_13 : decode cX4_needDirection 13 = .ok (.dup, 1) := by decide +kernel
theorem dX4_needDirection_14 : decode cX4_needDirection 14 = .ok (.ldc 203, 2) := by decide +kernel
theorem dX4_needDirection_16 : decode cX4_needDirection 16 = .ok (.invokespecial 152, 3) := by decide +kernel
theorem dX4_needDirection_19 : decode cX4_needDirection 19 = .ok (.athrow, 1) := by decide +kernel
theorem dX4_needDirection_20 : decode cX4_needDirection 20 = .ok (.return_, 1) := by decide +kernel
theorem dX4_needTool_0 : decode cX4_needTool 0 = .ok (.iload_n 1, 1) := by decide +kernel
theorem dX4_needTool_1 : decode cX4_needTool 1 = .ok (.ifCond .lt 8, 3) := by decide +kernel
theorem dX4_needTool_4 : decode cX4_needTool 4 = .ok (.iload_n 1, 1) := by decide +kernel
theorem dX4_needTool_5 : decode cX4_needTool 5 = .ok (.iconst 4, 1) := by decide +kernel
theorem dX4_needTool_6 : decode cX4_needTool 6 = .ok (.if_icmp .lt 13, 3) := by decide +kernel
theorem dX4_needTool_9 : decode cX4_needTool 9 = .ok (.new 153, 3) := by decide +kernel
theorem dX4_needTool_12 : decode cX4_needTool 12 = .ok (.dup, 1) := by decide +kernel
theorem dX4_needTool_13 : decode cX4_needTool 13 = .ok (.ldc 205, 2) := by decide +kernel
theorem dX4_needTool_15 : decode cX4_needTool 15 = .ok (.invokespecial 157, 3) := by decide +kernel
theorem dX4_needTool_18 : decode cX4_needTool 18 = .ok (.athrow, 1) := by decide +kernel
theorem dX4_needTool_19 : decode cX4_needTool 19 = .ok (.return_, 1) := by decide +kernel
theorem dX4_needDifferent_0 : decode cX4_needDifferent 0 = .ok (.iload_n 1, 1) := by decide +kernel
theorem dX4_needDifferent_1 : decode cX4_needDifferent 1 = .ok (.iload_n 2, 1) := by decide +kernel
theorem dX4_needDifferent_2 : decode cX4_needDifferent 2 = .ok (.if_icmp .ne 13, 3) := by decide +kernel
theorem dX4_needDifferent_5 : decode cX4_needDifferent 5 = .ok (.new 153, 3) := by decide +kernel
theorem dX4_needDifferent_8 : decode cX4_needDifferent 8 = .ok (.dup, 1) := by decide +kernel
theorem dX4_needDifferent_9 : decode cX4_needDifferent 9 = .ok (.ldc 207, 2) := by decide +kernel
theorem dX4_needDifferent_11 : decode cX4_needDifferent 11 = .ok (.invokespecial 157, 3) := by decide +kernel
theorem dX4_needDifferent_14 : decode cX4_needDifferent 14 = .ok (.athrow, 1) := by decide +kernel
theorem dX4_needDifferent_15 : decode cX4_needDifferent 15 = .ok (.return_, 1) := by decide +kernel
set_option maxRecDepth 20000 in
theorem ggX4_needSet_X3_all : GoodIn wsX4_needSet wsX3_all := goodIn_r _ [8, 9, 14, 15, 16, 17, 18, 19] (by decide +kernel) (by decide +kernel)
set_option maxRecDepth 20000 in
theorem gX4_needSet_X3_all : GoodIn wsX4_needSet (wsV RX4 125 RX3 yX3_all wsX3_all) := goodIn_app (goodIn_of _ (by decide +kernel)) ggX4_needSet_X3_all
theorem dX4_needSet_0 : decode cX4_needSet 0 = .ok (.iload_n 1, 1) := by decide +kernel
theorem dX4_needSet_1 : decode cX4_needSet 1 = .ok (.ifCond .eq 17, 3) := by decide +kernel
theorem dX4_needSet_4 : decode cX4_needSet 4 = .ok (.iload_n 1, 1) := by decide +kernel
theorem dX4_needSet_5 : decode cX4_needSet 5 = .ok (.aload_n 0, 1) := by decide +kernel
theorem dX4_needSet_6 : decode cX4_needSet 6 = .ok (.getfield 12, 3) := by decide +kernel
theorem dX4_needSet_9 : decode cX4_needSet 9 = .ok (.invokevirtual 125, 3) := by decide +kernel
theorem dX4_needSet_12 : decode cX4_needSet 12 = .ok (.iconst (-1), 1) := by decide +kernel
theorem dX4_needSet_13 : decode cX4_needSet 13 = .ok (.ixor, 1) := by decide +kernel
theorem dX4_needSet_14 : decode cX4_needSet 14 = .ok (.iand, 1) := by decide +kernel
theorem dX4_needSet_15 : decode cX4_needSet 15 = .ok (.ifCond .eq 13, 3) := by decide +kernel
theorem dX4_needSet_18 : decode cX4_needSet 18 = .ok (.new 153, 3) := by decide +kernel
theorem dX4_needSet_21 : decode cX4_needSet 21 = .ok (.dup, 1) := by decide +kernel
theorem dX4_needSet_22 : decode cX4_needSet 22 = .ok (.ldc 209, 2) := by decide +kernel
theorem dX4_needSet_24 : decode cX4_needSet 24 = .ok (.invokespecial 157, 3) := by decide +kernel
theorem dX4_needSet_27 : decode cX4_needSet 27 = .ok (.athrow, 1) := by decide +kernel
theorem dX4_needSet_28 : decode cX4_needSet 28 = .ok (.return_, 1) := by decide +kernel
set_option maxRecDepth 20000 in
theorem ggX4_needSetWith_X4_needSet : GoodIn wsX4_needSetWith wsX4_needSet := goodIn_ca (goodIn_r _ [7, 1, 2, 8, 9, 10, 11, 12, 13, 14, 15, 16, 17, 18, 19, 20, 21, 22, 23, 24] (by decide +kernel) (by decide +kernel)) (goodIn_sub (fun _ h => List.mem_cons_of_mem _ (List.mem_append_right _ h)) (by decide +kernel))
set_option maxRecDepth 20000 in
theorem gX4_needSetWith_X4_needSet : GoodIn wsX4_needSetWith (wsV RX4 90 RX4 yX4_needSet wsX4_needSet) := goodIn_app (goodIn_of _ (by decide +kernel)) ggX4_needSetWith_X4_needSet
theorem dX4_needSetWith_0 : decode cX4_needSetWith 0 = .ok (.aload_n 0, 1) := by decide +kernel
theorem dX4_needSetWith_1 : decode cX4_needSetWith 1 = .ok (.iload_n 1, 1) := by decide +kernel
theorem dX4_needSetWith_2 : decode cX4_needSetWith 2 = .ok (.invokevirtual 90, 3) := by decide +kernel
theorem dX4_needSetWith_5 : decode cX4_needSetWith 5 = .ok (.iload_n 1, 1) := by decide +kernel
theorem dX4_needSetWith_6 : decode cX4_needSetWith 6 = .ok (.iconst 1, 1) := by decide +kernel
theorem dX4_needSetWith_7 : decode cX4_needSetWith 7 = .ok (.iload_n 2, 1) := by decide +kernel
theorem dX4_needSetWith_8 : decode cX4_needSetWith 8 = .ok (.ishl, 1) := by decide +kernel
theorem dX4_needSetWith_9 : decode cX4_needSetWith 9 = .ok (.iand, 1) := by decide +kernel
theorem dX4_needSetWith_10 : decode cX4_needSetWith 10 = .ok (.ifCond .ne 13, 3) := by decide +kernel
theorem dX4_needSetWith_13 : decode cX4_needSetWith 13 = .ok (.new 153, 3) := by decide +kernel
theorem dX4_needSetWith_16 : decode cX4_needSetWith 16 = .ok (.dup, 1) := by decide +kernel
theorem dX4_needSetWith_17 : decode cX4_needSetWith 17 = .ok (.ldc 211, 2) := by decide +kernel
theorem dX4_needSetWith_19 : decode cX4_needSetWith 19 = .ok (.invokespecial 157, 3) := by decide +kernel
theorem dX4_needSetWith_22 : decode cX4_needSetWith 22 = .ok (.athrow, 1) := by decide +kernel
theorem dX4_needSetWith_23 : decode cX4_needSetWith 23 = .ok (.return_, 1) := by decide +kernel
set_option maxRecDepth 20000 in
theorem ggX4_needParts_X3_count : GoodIn wsX4_needParts wsX3_count := goodIn_r _ [8, 9, 14, 15, 16, 17, 18, 19] (by decide +kernel) (by decide +kernel)
set_option maxRecDepth 20000 in
theorem gX4_needParts_X3_count : GoodIn wsX4_needParts (wsV RX4 43 RX3 yX3_count wsX3_count) := goodIn_app (goodIn_of _ (by decide +kernel)) ggX4_needParts_X3_count
theorem dX4_needParts_0 : decode cX4_needParts 0 = .ok (.aload_n 0, 1) := by decide +kernel
theorem dX4_needParts_1 : decode cX4_needParts 1 = .ok (.getfield 12, 3) := by decide +kernel
theorem dX4_needParts_4 : decode cX4_needParts 4 = .ok (.invokevirtual 43, 3) := by decide +kernel
theorem dX4_needParts_7 : decode cX4_needParts 7 = .ok (.ifCond .ne 13, 3) := by decide +kernel
theorem dX4_needParts_10 : decode cX4_needParts 10 = .ok (.new 47, 3) := by decide +kernel
theorem dX4_needParts_13 : decode cX4_needParts 13 = .ok (.dup, 1) := by decide +kernel
theorem dX4_needParts_14 : decode cX4_needParts 14 = .ok (.ldc 213, 2) := by decide +kernel
theorem dX4_needParts_16 : decode cX4_needParts 16 = .ok (.invokespecial 51, 3) := by decide +kernel
theorem dX4_needParts_19 : decode cX4_needParts 19 = .ok (.athrow, 1) := by decide +kernel
theorem dX4_needParts_20 : decode cX4_needParts 20 = .ok (.return_, 1) := by decide +kernel
