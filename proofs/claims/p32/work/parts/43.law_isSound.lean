set_option maxRecDepth 20000 in
theorem ggL_isSound_X4_isConnected : GoodIn wsL_isSound wsX4_isConnected := goodIn_ca (goodIn_r _ [5, 6, 7, 8, 9, 4, 10, 11, 12, 13, 14, 15, 16, 17, 18, 19, 20, 21, 22, 23, 24, 25, 26, 37, 38, 39, 40, 41, 42, 43, 44, 45, 46] (by decide +kernel) (by decide +kernel)) (goodIn_sub (fun _ h => List.mem_cons_of_mem _ (List.mem_append_right _ h)) (by decide +kernel))
set_option maxRecDepth 20000 in
theorem gL_isSound_X4_isConnected : GoodIn wsL_isSound (wsV RL 59 RX4 yX4_isConnected wsX4_isConnected) := goodIn_app (goodIn_of _ (by decide +kernel)) ggL_isSound_X4_isConnected
set_option maxRecDepth 20000 in
theorem ggL_isSound_X4_isSteady : GoodIn wsL_isSound wsX4_isSteady := goodIn_ca (goodIn_r _ [30, 6, 7, 8, 9, 4, 10, 11, 12, 13, 14, 15, 16, 17, 18, 31, 32, 33, 34, 35, 36, 24, 25, 26, 37, 38, 39, 40, 41, 42, 43, 44, 45, 46] (by decide +kernel) (by decide +kernel)) (goodIn_sub (fun _ h => List.mem_cons_of_mem _ (List.mem_append_right _ h)) (by decide +kernel))
set_option maxRecDepth 20000 in
theorem gL_isSound_X4_isSteady : GoodIn wsL_isSound (wsV RL 63 RX4 yX4_isSteady wsX4_isSteady) := goodIn_app (goodIn_of _ (by decide +kernel)) ggL_isSound_X4_isSteady
theorem dL_isSound_0 : decode cL_isSound 0 = .ok (.iload_n 2, 1) := by decide +kernel
theorem dL_isSound_1 : decode cL_isSound 1 = .ok (.ifCond .eq 26, 3) := by decide +kernel
theorem dL_isSound_4 : decode cL_isSound 4 = .ok (.aload_n 0, 1) := by decide +kernel
theorem dL_isSound_5 : decode cL_isSound 5 = .ok (.iload_n 2, 1) := by decide +kernel
theorem dL_isSound_6 : decode cL_isSound 6 = .ok (.invokevirtual 59, 3) := by decide +kernel
theorem dL_isSound_9 : decode cL_isSound 9 = .ok (.ifCond .eq 22, 3) := by decide +kernel
theorem dL_isSound_12 : decode cL_isSound 12 = .ok (.aload_n 1, 1) := by decide +kernel
theorem dL_isSound_13 : decode cL_isSound 13 = .ok (.bipush 58, 2) := by decide +kernel
theorem dL_isSound_15 : decode cL_isSound 15 = .ok (.iaload, 1) := by decide +kernel
theorem dL_isSound_16 : decode cL_isSound 16 = .ok (.ifCond .eq 11, 3) := by decide +kernel
theorem dL_isSound_19 : decode cL_isSound 19 = .ok (.aload_n 0, 1) := by decide +kernel
theorem dL_isSound_20 : decode cL_isSound 20 = .ok (.iload_n 2, 1) := by decide +kernel
theorem dL_isSound_21 : decode cL_isSound 21 = .ok (.invokevirtual 63, 3) := by decide +kernel
theorem dL_isSound_24 : decode cL_isSound 24 = .ok (.ifCond .eq 7, 3) := by decide +kernel
theorem dL_isSound_27 : decode cL_isSound 27 = .ok (.iconst 1, 1) := by decide +kernel
theorem dL_isSound_28 : decode cL_isSound 28 = .ok (.goto 4, 3) := by decide +kernel
theorem dL_isSound_31 : decode cL_isSound 31 = .ok (.iconst 0, 1) := by decide +kernel
theorem dL_isSound_32 : decode cL_isSound 32 = .ok (.ireturn, 1) := by decide +kernel
