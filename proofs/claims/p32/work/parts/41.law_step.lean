set_option maxRecDepth 20000 in
theorem ggL_step_X4_addPart : GoodIn wsL_step wsX4_addPart := goodIn_ca (goodIn_ca (goodIn_r _ [5, 6, 7, 8, 9, 10, 11, 4, 12, 13, 14, 15, 16, 17, 18, 19, 20, 21, 22, 23, 24, 25, 26, 27, 28, 29, 30, 31, 32, 33, 34, 35, 36, 37, 38, 39, 40, 41, 42, 43, 44, 45, 46, 47, 48, 49, 50, 51, 52, 53, 54, 55, 184, 185, 186, 187, 188, 189, 190, 191, 192, 193, 194, 195, 196, 197, 198, 199, 200, 201, 202, 203, 204, 205, 206, 207, 208, 209, 210, 211, 212, 213, 214, 215] (by decide +kernel) (by decide +kernel)) (goodIn_sub (fun _ h => List.mem_cons_of_mem _ (List.mem_append_left _ (List.mem_append_left _ (List.mem_append_right _ h)))) (by decide +kernel))) (goodIn_sub (fun _ h => List.mem_cons_of_mem _ (List.mem_append_left _ (List.mem_append_right _ h))) (by decide +kernel))
set_option maxRecDepth 20000 in
theorem gL_step_X4_addPart : GoodIn wsL_step (wsV RL 10 RX4 yX4_addPart wsX4_addPart) := goodIn_app (goodIn_of _ (by decide +kernel)) ggL_step_X4_addPart
set_option maxRecDepth 20000 in
theorem ggL_step_X4_parts : GoodIn wsL_step wsX4_parts := goodIn_r _ [59, 8, 15, 16, 17, 18, 19, 20, 184, 185, 186, 187, 188, 189, 190, 191, 192, 193] (by decide +kernel) (by decide +kernel)
set_option maxRecDepth 20000 in
theorem gL_step_X4_parts : GoodIn wsL_step (wsV RL 16 RX4 yX4_parts wsX4_parts) := goodIn_app (goodIn_of _ (by decide +kernel)) ggL_step_X4_parts
set_option maxRecDepth 20000 in
theorem ggL_step_X4_built : GoodIn wsL_step wsX4_built := goodIn_r _ [63, 27, 64, 65, 66, 43, 67, 47, 184, 185, 186, 187, 208, 209, 210, 211, 212, 213, 214, 215] (by decide +kernel) (by decide +kernel)
set_option maxRecDepth 20000 in
theorem gL_step_X4_built : GoodIn wsL_step (wsV RL 20 RX4 yX4_built wsX4_built) := goodIn_app (goodIn_of _ (by decide +kernel)) ggL_step_X4_built
set_option maxRecDepth 20000 in
theorem ggL_step_X4_mounted : GoodIn wsL_step wsX4_mounted := goodIn_r _ [71, 27, 72, 73, 74, 43, 75, 49, 184, 185, 186, 187, 208, 209, 210, 211, 212, 213, 214, 215] (by decide +kernel) (by decide +kernel)
set_option maxRecDepth 20000 in
theorem gL_step_X4_mounted : GoodIn wsL_step (wsV RL 23 RX4 yX4_mounted wsX4_mounted) := goodIn_app (goodIn_of _ (by decide +kernel)) ggL_step_X4_mounted
set_option maxRecDepth 20000 in
theorem ggL_step_X4_setTool : GoodIn wsL_step wsX4_setTool := goodIn_ca (goodIn_ca (goodIn_r _ [79, 8, 80, 81, 82, 4, 83, 84, 85, 15, 16, 17, 18, 19, 20, 9, 10, 11, 12, 13, 14, 21, 22, 23, 24, 25, 26, 27, 28, 29, 30, 31, 32, 33, 34, 35, 36, 37, 38, 39, 40, 41, 42, 43, 44, 45, 46, 47, 48, 49, 50, 86, 87, 88, 89, 55, 184, 185, 186, 187, 188, 189, 190, 191, 192, 193, 194, 195, 196, 197, 198, 199, 200, 201, 202, 203, 204, 205, 206, 207, 208, 209, 210, 211, 212, 213, 214, 215] (by decide +kernel) (by decide +kernel)) (goodIn_sub (fun _ h => List.mem_cons_of_mem _ (List.mem_append_right _ h)) (by decide +kernel))) (goodIn_sub (fun _ h => List.mem_cons_of_mem _ (List.mem_append_left _ (List.mem_append_right _ h))) (by decide +kernel))
set_option maxRecDepth 20000 in
theorem gL_step_X4_setTool : GoodIn wsL_step (wsV RL 28 RX4 yX4_setTool wsX4_setTool) := goodIn_app (goodIn_of _ (by decide +kernel)) ggL_step_X4_setTool
set_option maxRecDepth 20000 in
theorem ggL_step_X4_movesWith : GoodIn wsL_step wsX4_movesWith := goodIn_ca (goodIn_r _ [93, 8, 80, 81, 82, 4, 83, 84, 85, 15, 16, 17, 18, 19, 20, 94, 95, 96, 97, 98, 99, 100, 101, 102, 103, 104, 105, 106, 107, 108, 109, 184, 185, 186, 187, 188, 189, 190, 191, 192, 193] (by decide +kernel) (by decide +kernel)) (goodIn_sub (fun _ h => List.mem_cons_of_mem _ (List.mem_append_right _ h)) (by decide +kernel))
set_option maxRecDepth 20000 in
theorem gL_step_X4_movesWith : GoodIn wsL_step (wsV RL 32 RX4 yX4_movesWith wsX4_movesWith) := goodIn_app (goodIn_of _ (by decide +kernel)) ggL_step_X4_movesWith
set_option maxRecDepth 20000 in
theorem ggL_step_X4_contact : GoodIn wsL_step wsX4_contact := goodIn_ca (goodIn_ca (goodIn_r _ [113, 8, 80, 81, 82, 4, 83, 84, 85, 15, 16, 17, 18, 19, 20, 114, 115, 116, 117, 13, 14, 21, 22, 23, 24, 25, 26, 27, 28, 29, 30, 31, 32, 33, 34, 35, 36, 37, 38, 39, 40, 41, 42, 43, 44, 45, 46, 47, 48, 49, 50, 118, 119, 120, 121, 122, 123, 124, 125, 126, 127, 128, 129, 130, 131, 132, 184, 185, 186, 187, 188, 189, 190, 191, 192, 193, 194, 195, 196, 197, 198, 199, 200, 201, 202, 203, 204, 205, 206, 207, 208, 209, 210, 211, 212, 213, 214, 215] (by decide +kernel) (by decide +kernel)) (goodIn_sub (fun _ h => List.mem_cons_of_mem _ (List.mem_append_right _ h)) (by decide +kernel))) (goodIn_sub (fun _ h => List.mem_cons_of_mem _ (List.mem_append_left _ (List.mem_append_right _ h))) (by decide +kernel))
set_option maxRecDepth 20000 in
theorem gL_step_X4_contact : GoodIn wsL_step (wsV RL 35 RX4 yX4_contact wsX4_contact) := goodIn_app (goodIn_of _ (by decide +kernel)) ggL_step_X4_contact
set_option maxRecDepth 20000 in
theorem ggL_step_L_ones : GoodIn wsL_step wsL_ones := goodIn_r _ [136] (by decide +kernel) (by decide +kernel)
set_option maxRecDepth 20000 in
theorem gL_step_L_ones : GoodIn wsL_step (va_wsS RL 39 yL_ones wsL_ones) := goodIn_app (goodIn_of _ (by decide +kernel)) ggL_step_L_ones
set_option maxRecDepth 20000 in
theorem ggL_step_X4_boundTo : GoodIn wsL_step wsX4_boundTo := goodIn_ca (goodIn_r _ [140, 8, 80, 81, 82, 4, 83, 84, 85, 15, 16, 17, 18, 19, 20, 94, 95, 96, 97, 141, 142, 143, 144, 145, 99, 100, 101, 102, 103, 104, 105, 106, 107, 108, 109, 146, 147, 148, 184, 185, 186, 187, 188, 189, 190, 191, 192, 193] (by decide +kernel) (by decide +kernel)) (goodIn_sub (fun _ h => List.mem_cons_of_mem _ (List.mem_append_right _ h)) (by decide +kernel))
set_option maxRecDepth 20000 in
theorem gL_step_X4_boundTo : GoodIn wsL_step (wsV RL 42 RX4 yX4_boundTo wsX4_boundTo) := goodIn_app (goodIn_of _ (by decide +kernel)) ggL_step_X4_boundTo
set_option maxRecDepth 20000 in
theorem ggL_step_X4_hinder : GoodIn wsL_step wsX4_hinder := goodIn_ca (goodIn_ca (goodIn_r _ [152, 8, 80, 81, 82, 4, 83, 84, 85, 15, 16, 17, 18, 19, 20, 94, 95, 96, 97, 114, 115, 116, 117, 13, 14, 21, 22, 23, 24, 25, 26, 27, 28, 29, 30, 31, 32, 33, 34, 35, 36, 37, 38, 39, 40, 41, 42, 43, 44, 45, 46, 47, 48, 49, 50, 153, 154, 155, 156, 102, 146, 147, 148, 123, 124, 125, 126, 127, 128, 129, 130, 131, 132, 184, 185, 186, 187, 188, 189, 190, 191, 192, 193, 194, 195, 196, 197, 198, 199, 200, 201, 202, 203, 204, 205, 206, 207, 208, 209, 210, 211, 212, 213, 214, 215] (by decide +kernel) (by decide +kernel)) (goodIn_sub (fun _ h => List.mem_cons_of_mem _ (List.mem_append_right _ h)) (by decide +kernel))) (goodIn_sub (fun _ h => List.mem_cons_of_mem _ (List.mem_append_left _ (List.mem_append_right _ h))) (by decide +kernel))
set_option maxRecDepth 20000 in
theorem gL_step_X4_hinder : GoodIn wsL_step (wsV RL 45 RX4 yX4_hinder wsX4_hinder) := goodIn_app (goodIn_of _ (by decide +kernel)) ggL_step_X4_hinder
set_option maxRecDepth 20000 in
theorem ggL_step_X4_setBase : GoodIn wsL_step wsX4_setBase := goodIn_ca (goodIn_r _ [160, 8, 80, 81, 82, 4, 83, 84, 85, 15, 16, 17, 18, 19, 20, 21, 22, 23, 24, 25, 26, 27, 28, 29, 30, 31, 32, 33, 34, 35, 36, 37, 38, 39, 40, 41, 42, 43, 44, 45, 46, 47, 48, 49, 50, 161, 162, 163, 164, 165, 184, 185, 186, 187, 188, 189, 190, 191, 192, 193, 194, 195, 196, 197, 198, 199, 200, 201, 202, 203, 204, 205, 206, 207, 208, 209, 210, 211, 212, 213, 214, 215] (by decide +kernel) (by decide +kernel)) (goodIn_sub (fun _ h => List.mem_cons_of_mem _ (List.mem_append_right _ h)) (by decide +kernel))
set_option maxRecDepth 20000 in
theorem gL_step_X4_setBase : GoodIn wsL_step (wsV RL 49 RX4 yX4_setBase wsX4_setBase) := goodIn_app (goodIn_of _ (by decide +kernel)) ggL_step_X4_setBase
set_option maxRecDepth 20000 in
theorem ggL_step_X4_askSteady : GoodIn wsL_step wsX4_askSteady := goodIn_r _ [169, 8, 21, 22, 23, 4, 24, 25, 26, 27, 28, 29, 30, 31, 32, 33, 34, 35, 36, 37, 38, 39, 40, 41, 42, 43, 44, 45, 46, 47, 48, 49, 50, 170, 171, 172, 18, 173, 174, 184, 185, 186, 187, 194, 195, 196, 197, 198, 199, 200, 201, 202, 203, 204, 205, 206, 207, 208, 209, 210, 211, 212, 213, 214, 215, 188, 189, 190, 191, 192, 193] (by decide +kernel) (by decide +kernel)
set_option maxRecDepth 20000 in
theorem gL_step_X4_askSteady : GoodIn wsL_step (wsV RL 52 RX4 yX4_askSteady wsX4_askSteady) := goodIn_app (goodIn_of _ (by decide +kernel)) ggL_step_X4_askSteady
set_option maxRecDepth 20000 in
theorem ggL_step_X4_setJams : GoodIn wsL_step wsX4_setJams := goodIn_ca (goodIn_ca (goodIn_r _ [178, 13, 14, 27, 80, 81, 82, 4, 83, 84, 85, 8, 15, 16, 17, 18, 19, 20, 179, 180, 181, 43, 182, 183, 184, 185, 186, 187, 188, 189, 190, 191, 192, 193, 208, 209, 210, 211, 212, 213, 214, 215] (by decide +kernel) (by decide +kernel)) (goodIn_sub (fun _ h => List.mem_cons_of_mem _ (List.mem_append_left _ (List.mem_append_right _ h))) (by decide +kernel))) (goodIn_sub (fun _ h => List.mem_cons_of_mem _ (List.mem_append_right _ h)) (by decide +kernel))
set_option maxRecDepth 20000 in
theorem gL_step_X4_setJams : GoodIn wsL_step (wsV RL 56 RX4 yX4_setJams wsX4_setJams) := goodIn_app (goodIn_of _ (by decide +kernel)) ggL_step_X4_setJams
theorem dL_step_0 : decode cL_step 0 = .ok (.aload_n 1, 1) := by decide +kernel
theorem dL_step_1 : decode cL_step 1 = .ok (.bipush 56, 2) := by decide +kernel
theorem dL_step_3 : decode cL_step 3 = .ok (.iaload, 1) := by decide +kernel
theorem dL_step_4 : decode cL_step 4 = .ok (.istore 5, 2) := by decide +kernel
theorem dL_step_6 : decode cL_step 6 = .ok (.iload 5, 2) := by decide +kernel
theorem dL_step_8 : decode cL_step 8 = .ok (.ifCond .eq 17, 3) := by decide +kernel
theorem dL_step_11 : decode cL_step 11 = .ok (.iload_n 2, 1) := by decide +kernel
theorem dL_step_12 : decode cL_step 12 = .ok (.bipush 10, 2) := by decide +kernel
theorem dL_step_14 : decode cL_step 14 = .ok (.irem, 1) := by decide +kernel
theorem dL_step_15 : decode cL_step 15 = .ok (.ifCond .ne 62, 3) := by decide +kernel
theorem dL_step_18 : decode cL_step 18 = .ok (.iload 5, 2) := by decide +kernel
theorem dL_step_20 : decode cL_step 20 = .ok (.bipush 6, 2) := by decide +kernel
theorem dL_step_22 : decode cL_step 22 = .ok (.if_icmp .ge 55, 3) := by decide +kernel
theorem dL_step_25 : decode cL_step 25 = .ok (.aload_n 1, 1) := by decide +kernel
theorem dL_step_26 : decode cL_step 26 = .ok (.bipush 56, 2) := by decide +kernel
theorem dL_step_28 : decode cL_step 28 = .ok (.dup2, 1) := by decide +kernel
theorem dL_step_29 : decode cL_step 29 = .ok (.iaload, 1) := by decide +kernel
theorem dL_step_30 : decode cL_step 30 = .ok (.iconst 1, 1) := by decide +kernel
theorem dL_step_31 : decode cL_step 31 = .ok (.iadd, 1) := by decide +kernel
theorem dL_step_32 : decode cL_step 32 = .ok (.iastore, 1) := by decide +kernel
theorem dL_step_33 : decode cL_step 33 = .ok (.aload_n 0, 1) := by decide +kernel
theorem dL_step_34 : decode cL_step 34 = .ok (.iload_n 3, 1) := by decide +kernel
theorem dL_step_35 : decode cL_step 35 = .ok (.iconst 4, 1) := by decide +kernel
theorem dL_step_36 : decode cL_step 36 = .ok (.irem, 1) := by decide +kernel
theorem dL_step_37 : decode cL_step 37 = .ok (.invokevirtual 10, 3) := by decide +kernel
theorem dL_step_40 : decode cL_step 40 = .ok (.iload 5, 2) := by decide +kernel
theorem dL_step_42 : decode cL_step 42 = .ok (.if_icmp .ne 33, 3) := by decide +kernel
theorem dL_step_45 : decode cL_step 45 = .ok (.aload_n 0, 1) := by decide +kernel
theorem dL_step_46 : decode cL_step 46 = .ok (.invokevirtual 16, 3) := by decide +kernel
theorem dL_step_49 : decode cL_step 49 = .ok (.iload 5, 2) := by decide +kernel
theorem dL_step_51 : decode cL_step 51 = .ok (.iconst 1, 1) := by decide +kernel
theorem dL_step_52 : decode cL_step 52 = .ok (.iadd, 1) := by decide +kernel
theorem dL_step_53 : decode cL_step 53 = .ok (.if_icmp .ne 22, 3) := by decide +kernel
theorem dL_step_56 : decode cL_step 56 = .ok (.aload_n 0, 1) := by decide +kernel
theorem dL_step_57 : decode cL_step 57 = .ok (.invokevirtual 20, 3) := by decide +kernel
theorem dL_step_60 : decode cL_step 60 = .ok (.ifCond .ne 15, 3) := by decide +kernel
theorem dL_step_63 : decode cL_step 63 = .ok (.aload_n 0, 1) := by decide +kernel
theorem dL_step_64 : decode cL_step 64 = .ok (.invokevirtual 23, 3) := by decide +kernel
theorem dL_step_67 : decode cL_step 67 = .ok (.iconst (-1), 1) := by decide +kernel
theorem dL_step_68 : decode cL_step 68 = .ok (.if_icmp .ne 7, 3) := by decide +kernel
theorem dL_step_71 : decode cL_step 71 = .ok (.iconst 1, 1) := by decide +kernel
theorem dL_step_72 : decode cL_step 72 = .ok (.goto 4, 3) := by decide +kernel
theorem dL_step_75 : decode cL_step 75 = .ok (.iconst 0, 1) := by decide +kernel
theorem dL_step_76 : decode cL_step 76 = .ok (.ireturn, 1) := by decide +kernel
theorem dL_step_77 : decode cL_step 77 = .ok (.iload_n 3, 1) := by decide +kernel
theorem dL_step_78 : decode cL_step 78 = .ok (.iload 5, 2) := by decide +kernel
theorem dL_step_80 : decode cL_step 80 = .ok (.irem, 1) := by decide +kernel
theorem dL_step_81 : decode cL_step 81 = .ok (.istore 6, 2) := by decide +kernel
theorem dL_step_83 : decode cL_step 83 = .ok (.iload 4, 2) := by decide +kernel
theorem dL_step_85 : decode cL_step 85 = .ok (.iload 5, 2) := by decide +kernel
theorem dL_step_87 : decode cL_step 87 = .ok (.irem, 1) := by decide +kernel
theorem dL_step_88 : decode cL_step 88 = .ok (.istore 7, 2) := by decide +kernel
theorem dL_step_90 : decode cL_step 90 = .ok (.iload_n 2, 1) := by decide +kernel
theorem dL_step_91 : decode cL_step 91 = .ok (.bipush 10, 2) := by decide +kernel
theorem dL_step_93 : decode cL_step 93 = .ok (.irem, 1) := by decide +kernel
theorem dL_step_94 : decode cL_step 94 = .ok (.tableswitch 502 1 8 #[46, 92, 92, 92, 238, 238, 414, 443], 46) := by decide +kernel
theorem dL_step_140 : decode cL_step 140 = .ok (.aload_n 0, 1) := by decide +kernel
theorem dL_step_141 : decode cL_step 141 = .ok (.iload 6, 2) := by decide +kernel
theorem dL_step_143 : decode cL_step 143 = .ok (.iload 4, 2) := by decide +kernel
theorem dL_step_145 : decode cL_step 145 = .ok (.iconst 4, 1) := by decide +kernel
theorem dL_step_146 : decode cL_step 146 = .ok (.irem, 1) := by decide +kernel
theorem dL_step_147 : decode cL_step 147 = .ok (.invokevirtual 28, 3) := by decide +kernel
theorem dL_step_150 : decode cL_step 150 = .ok (.istore 8, 2) := by decide +kernel
theorem dL_step_152 : decode cL_step 152 = .ok (.iload 8, 2) := by decide +kernel
theorem dL_step_154 : decode cL_step 154 = .ok (.ifCond .lt 30, 3) := by decide +kernel
theorem dL_step_157 : decode cL_step 157 = .ok (.iload 8, 2) := by decide +kernel
theorem dL_step_159 : decode cL_step 159 = .ok (.iconst 3, 1) := by decide +kernel
theorem dL_step_160 : decode cL_step 160 = .ok (.if_icmp .gt 24, 3) := by decide +kernel
theorem dL_step_163 : decode cL_step 163 = .ok (.aload_n 0, 1) := by decide +kernel
theorem dL_step_164 : decode cL_step 164 = .ok (.iload 6, 2) := by decide +kernel
theorem dL_step_166 : decode cL_step 166 = .ok (.iload 4, 2) := by decide +kernel
theorem dL_step_168 : decode cL_step 168 = .ok (.iconst 4, 1) := by decide +kernel
theorem dL_step_169 : decode cL_step 169 = .ok (.irem, 1) := by decide +kernel
theorem dL_step_170 : decode cL_step 170 = .ok (.invokevirtual 28, 3) := by decide +kernel
theorem dL_step_173 : decode cL_step 173 = .ok (.iload 4, 2) := by decide +kernel
theorem dL_step_175 : decode cL_step 175 = .ok (.iconst 4, 1) := by decide +kernel
theorem dL_step_176 : decode cL_step 176 = .ok (.irem, 1) := by decide +kernel
theorem dL_step_177 : decode cL_step 177 = .ok (.if_icmp .ne 7, 3) := by decide +kernel
theorem dL_step_180 : decode cL_step 180 = .ok (.iconst 1, 1) := by decide +kernel
theorem dL_step_181 : decode cL_step 181 = .ok (.goto 4, 3) := by decide +kernel
theorem dL_step_184 : decode cL_step 184 = .ok (.iconst 0, 1) := by decide +kernel
theorem dL_step_185 : decode cL_step 185 = .ok (.ireturn, 1) := by decide +kernel
theorem dL_step_186 : decode cL_step 186 = .ok (.iload 6, 2) := by decide +kernel
theorem dL_step_188 : decode cL_step 188 = .ok (.iload 7, 2) := by decide +kernel
theorem dL_step_190 : decode cL_step 190 = .ok (.if_icmp .ne 27, 3) := by decide +kernel
theorem dL_step_193 : decode cL_step 193 = .ok (.aload_n 0, 1) := by decide +kernel
theorem dL_step_194 : decode cL_step 194 = .ok (.iload 6, 2) := by decide +kernel
theorem dL_step_196 : decode cL_step 196 = .ok (.iload 4, 2) := by decide +kernel
theorem dL_step_198 : decode cL_step 198 = .ok (.bipush 6, 2) := by decide +kernel
theorem dL_step_200 : decode cL_step 200 = .ok (.irem, 1) := by decide +kernel
theorem dL_step_201 : decode cL_step 201 = .ok (.invokevirtual 32, 3) := by decide +kernel
theorem dL_step_204 : decode cL_step 204 = .ok (.iconst 1, 1) := by decide +kernel
theorem dL_step_205 : decode cL_step 205 = .ok (.iload 6, 2) := by decide +kernel
theorem dL_step_207 : decode cL_step 207 = .ok (.ishl, 1) := by decide +kernel
theorem dL_step_208 : decode cL_step 208 = .ok (.if_icmp .lt 7, 3) := by decide +kernel
theorem dL_step_211 : decode cL_step 211 = .ok (.iconst 1, 1) := by decide +kernel
theorem dL_step_212 : decode cL_step 212 = .ok (.goto 4, 3) := by decide +kernel
theorem dL_step_215 : decode cL_step 215 = .ok (.iconst 0, 1) := by decide +kernel
theorem dL_step_216 : decode cL_step 216 = .ok (.ireturn, 1) := by decide +kernel
theorem dL_step_217 : decode cL_step 217 = .ok (.iload_n 3, 1) := by decide +kernel
theorem dL_step_218 : decode cL_step 218 = .ok (.bipush 8, 2) := by decide +kernel
theorem dL_step_220 : decode cL_step 220 = .ok (.idiv, 1) := by decide +kernel
theorem dL_step_221 : decode cL_step 221 = .ok (.iconst 5, 1) := by decide +kernel
theorem dL_step_222 : decode cL_step 222 = .ok (.irem, 1) := by decide +kernel
theorem dL_step_223 : decode cL_step 223 = .ok (.ifCond .le 7, 3) := by decide +kernel
theorem dL_step_226 : decode cL_step 226 = .ok (.iconst 1, 1) := by decide +kernel
theorem dL_step_227 : decode cL_step 227 = .ok (.goto 4, 3) := by decide +kernel
theorem dL_step_230 : decode cL_step 230 = .ok (.iconst 0, 1) := by decide +kernel
theorem dL_step_231 : decode cL_step 231 = .ok (.istore 9, 2) := by decide +kernel
theorem dL_step_233 : decode cL_step 233 = .ok (.aload_n 1, 1) := by decide +kernel
theorem dL_step_234 : decode cL_step 234 = .ok (.bipush 48, 2) := by decide +kernel
theorem dL_step_236 : decode cL_step 236 = .ok (.iload 6, 2) := by decide +kernel
theorem dL_step_238 : decode cL_step 238 = .ok (.iadd, 1) := by decide +kernel
theorem dL_step_239 : decode cL_step 239 = .ok (.aload_n 1, 1) := by decide +kernel
theorem dL_step_240 : decode cL_step 240 = .ok (.bipush 48, 2) := by decide +kernel
theorem dL_step_242 : decode cL_step 242 = .ok (.iload 6, 2) := by decide +kernel
theorem dL_step_244 : decode cL_step 244 = .ok (.iadd, 1) := by decide +kernel
theorem dL_step_245 : decode cL_step 245 = .ok (.iaload, 1) := by decide +kernel
theorem dL_step_246 : decode cL_step 246 = .ok (.iconst 1, 1) := by decide +kernel
theorem dL_step_247 : decode cL_step 247 = .ok (.iload 7, 2) := by decide +kernel
theorem dL_step_249 : decode cL_step 249 = .ok (.ishl, 1) := by decide +kernel
theorem dL_step_250 : decode cL_step 250 = .ok (.iconst (-1), 1) := by decide +kernel
theorem dL_step_251 : decode cL_step 251 = .ok (.ixor, 1) := by decide +kernel
theorem dL_step_252 : decode cL_step 252 = .ok (.iand, 1) := by decide +kernel
theorem dL_step_253 : decode cL_step 253 = .ok (.iload 9, 2) := by decide +kernel
theorem dL_step_255 : decode cL_step 255 = .ok (.ifCond .eq 10, 3) := by decide +kernel
theorem dL_step_258 : decode cL_step 258 = .ok (.iconst 1, 1) := by decide +kernel
theorem dL_step_259 : decode cL_step 259 = .ok (.iload 7, 2) := by decide +kernel
theorem dL_step_261 : decode cL_step 261 = .ok (.ishl, 1) := by decide +kernel
theorem dL_step_262 : decode cL_step 262 = .ok (.goto 4, 3) := by decide +kernel
theorem dL_step_265 : decode cL_step 265 = .ok (.iconst 0, 1) := by decide +kernel
theorem dL_step_266 : decode cL_step 266 = .ok (.ior, 1) := by decide +kernel
theorem dL_step_267 : decode cL_step 267 = .ok (.iastore, 1) := by decide +kernel
theorem dL_step_268 : decode cL_step 268 = .ok (.aload_n 1, 1) := by decide +kernel
theorem dL_step_269 : decode cL_step 269 = .ok (.bipush 48, 2) := by decide +kernel
theorem dL_step_271 : decode cL_step 271 = .ok (.iload 7, 2) := by decide +kernel
theorem dL_step_273 : decode cL_step 273 = .ok (.iadd, 1) := by decide +kernel
theorem dL_step_274 : decode cL_step 274 = .ok (.aload_n 1, 1) := by decide +kernel
theorem dL_step_275 : decode cL_step 275 = .ok (.bipush 48, 2) := by decide +kernel
theorem dL_step_277 : decode cL_step 277 = .ok (.iload 7, 2) := by decide +kernel
theorem dL_step_279 : decode cL_step 279 = .ok (.iadd, 1) := by decide +kernel
theorem dL_step_280 : decode cL_step 280 = .ok (.iaload, 1) := by decide +kernel
theorem dL_step_281 : decode cL_step 281 = .ok (.iconst 1, 1) := by decide +kernel
theorem dL_step_282 : decode cL_step 282 = .ok (.iload 6, 2) := by decide +kernel
theorem dL_step_284 : decode cL_step 284 = .ok (.ishl, 1) := by decide +kernel
theorem dL_step_285 : decode cL_step 285 = .ok (.iconst (-1), 1) := by decide +kernel
theorem dL_step_286 : decode cL_step 286 = .ok (.ixor, 1) := by decide +kernel
theorem dL_step_287 : decode cL_step 287 = .ok (.iand, 1) := by decide +kernel
theorem dL_step_288 : decode cL_step 288 = .ok (.iload 9, 2) := by decide +kernel
theorem dL_step_290 : decode cL_step 290 = .ok (.ifCond .eq 10, 3) := by decide +kernel
theorem dL_step_293 : decode cL_step 293 = .ok (.iconst 1, 1) := by decide +kernel
theorem dL_step_294 : decode cL_step 294 = .ok (.iload 6, 2) := by decide +kernel
theorem dL_step_296 : decode cL_step 296 = .ok (.ishl, 1) := by decide +kernel
theorem dL_step_297 : decode cL_step 297 = .ok (.goto 4, 3) := by decide +kernel
theorem dL_step_300 : decode cL_step 300 = .ok (.iconst 0, 1) := by decide +kernel
theorem dL_step_301 : decode cL_step 301 = .ok (.ior, 1) := by decide +kernel
theorem dL_step_302 : decode cL_step 302 = .ok (.iastore, 1) := by decide +kernel
theorem dL_step_303 : decode cL_step 303 = .ok (.aload_n 0, 1) := by decide +kernel
theorem dL_step_304 : decode cL_step 304 = .ok (.iload 6, 2) := by decide +kernel
theorem dL_step_306 : decode cL_step 306 = .ok (.iload 7, 2) := by decide +kernel
theorem dL_step_308 : decode cL_step 308 = .ok (.iload 9, 2) := by decide +kernel
theorem dL_step_310 : decode cL_step 310 = .ok (.invokevirtual 35, 3) := by decide +kernel
theorem dL_step_313 : decode cL_step 313 = .ok (.aload_n 1, 1) := by decide +kernel
theorem dL_step_314 : decode cL_step 314 = .ok (.bipush 48, 2) := by decide +kernel
theorem dL_step_316 : decode cL_step 316 = .ok (.iload 6, 2) := by decide +kernel
theorem dL_step_318 : decode cL_step 318 = .ok (.iadd, 1) := by decide +kernel
theorem dL_step_319 : decode cL_step 319 = .ok (.iaload, 1) := by decide +kernel
theorem dL_step_320 : decode cL_step 320 = .ok (.invokestatic 39, 3) := by decide +kernel
theorem dL_step_323 : decode cL_step 323 = .ok (.if_icmp .ne 7, 3) := by decide +kernel
theorem dL_step_326 : decode cL_step 326 = .ok (.iconst 1, 1) := by decide +kernel
theorem dL_step_327 : decode cL_step 327 = .ok (.goto 4, 3) := by decide +kernel
theorem dL_step_330 : decode cL_step 330 = .ok (.iconst 0, 1) := by decide +kernel
theorem dL_step_331 : decode cL_step 331 = .ok (.ireturn, 1) := by decide +kernel
theorem dL_step_332 : decode cL_step 332 = .ok (.iload 6, 2) := by decide +kernel
theorem dL_step_334 : decode cL_step 334 = .ok (.iload 7, 2) := by decide +kernel
theorem dL_step_336 : decode cL_step 336 = .ok (.if_icmp .ne 27, 3) := by decide +kernel
theorem dL_step_339 : decode cL_step 339 = .ok (.aload_n 0, 1) := by decide +kernel
theorem dL_step_340 : decode cL_step 340 = .ok (.iload 6, 2) := by decide +kernel
theorem dL_step_342 : decode cL_step 342 = .ok (.iload 4, 2) := by decide +kernel
theorem dL_step_344 : decode cL_step 344 = .ok (.bipush 6, 2) := by decide +kernel
theorem dL_step_346 : decode cL_step 346 = .ok (.irem, 1) := by decide +kernel
theorem dL_step_347 : decode cL_step 347 = .ok (.invokevirtual 42, 3) := by decide +kernel
theorem dL_step_350 : decode cL_step 350 = .ok (.iconst 1, 1) := by decide +kernel
theorem dL_step_351 : decode cL_step 351 = .ok (.iload 6, 2) := by decide +kernel
theorem dL_step_353 : decode cL_step 353 = .ok (.ishl, 1) := by decide +kernel
theorem dL_step_354 : decode cL_step 354 = .ok (.if_icmp .lt 7, 3) := by decide +kernel
theorem dL_step_357 : decode cL_step 357 = .ok (.iconst 1, 1) := by decide +kernel
theorem dL_step_358 : decode cL_step 358 = .ok (.goto 4, 3) := by decide +kernel
theorem dL_step_361 : decode cL_step 361 = .ok (.iconst 0, 1) := by decide +kernel
theorem dL_step_362 : decode cL_step 362 = .ok (.ireturn, 1) := by decide +kernel
theorem dL_step_363 : decode cL_step 363 = .ok (.iload_n 3, 1) := by decide +kernel
theorem dL_step_364 : decode cL_step 364 = .ok (.bipush 8, 2) := by decide +kernel
theorem dL_step_366 : decode cL_step 366 = .ok (.idiv, 1) := by decide +kernel
theorem dL_step_367 : decode cL_step 367 = .ok (.bipush 6, 2) := by decide +kernel
theorem dL_step_369 : decode cL_step 369 = .ok (.irem, 1) := by decide +kernel
theorem dL_step_370 : decode cL_step 370 = .ok (.istore 10, 2) := by decide +kernel
theorem dL_step_372 : decode cL_step 372 = .ok (.iload_n 3, 1) := by decide +kernel
theorem dL_step_373 : decode cL_step 373 = .ok (.bipush 48, 2) := by decide +kernel
theorem dL_step_375 : decode cL_step 375 = .ok (.idiv, 1) := by decide +kernel
theorem dL_step_376 : decode cL_step 376 = .ok (.iconst 4, 1) := by decide +kernel
theorem dL_step_377 : decode cL_step 377 = .ok (.irem, 1) := by decide +kernel
theorem dL_step_378 : decode cL_step 378 = .ok (.ifCond .le 7, 3) := by decide +kernel
theorem dL_step_381 : decode cL_step 381 = .ok (.iconst 1, 1) := by decide +kernel
theorem dL_step_382 : decode cL_step 382 = .ok (.goto 4, 3) := by decide +kernel
theorem dL_step_385 : decode cL_step 385 = .ok (.iconst 0, 1) := by decide +kernel
theorem dL_step_386 : decode cL_step 386 = .ok (.istore 11, 2) := by decide +kernel
theorem dL_step_388 : decode cL_step 388 = .ok (.aload_n 1, 1) := by decide +kernel
theorem dL_step_389 : decode cL_step 389 = .ok (.bipush 8, 2) := by decide +kernel
theorem dL_step_391 : decode cL_step 391 = .ok (.iload 10, 2) := by decide +kernel
theorem dL_step_393 : decode cL_step 393 = .ok (.imul, 1) := by decide +kernel
theorem dL_step_394 : decode cL_step 394 = .ok (.iload 6, 2) := by decide +kernel
theorem dL_step_396 : decode cL_step 396 = .ok (.iadd, 1) := by decide +kernel
theorem dL_step_397 : decode cL_step 397 = .ok (.aload_n 1, 1) := by decide +kernel
theorem dL_step_398 : decode cL_step 398 = .ok (.bipush 8, 2) := by decide +kernel
theorem dL_step_400 : decode cL_step 400 = .ok (.iload 10, 2) := by decide +kernel
theorem dL_step_402 : decode cL_step 402 = .ok (.imul, 1) := by decide +kernel
theorem dL_step_403 : decode cL_step 403 = .ok (.iload 6, 2) := by decide +kernel
theorem dL_step_405 : decode cL_step 405 = .ok (.iadd, 1) := by decide +kernel
theorem dL_step_406 : decode cL_step 406 = .ok (.iaload, 1) := by decide +kernel
theorem dL_step_407 : decode cL_step 407 = .ok (.iconst 1, 1) := by decide +kernel
theorem dL_step_408 : decode cL_step 408 = .ok (.iload 7, 2) := by decide +kernel
theorem dL_step_410 : decode cL_step 410 = .ok (.ishl, 1) := by decide +kernel
theorem dL_step_411 : decode cL_step 411 = .ok (.iconst (-1), 1) := by decide +kernel
theorem dL_step_412 : decode cL_step 412 = .ok (.ixor, 1) := by decide +kernel
theorem dL_step_413 : decode cL_step 413 = .ok (.iand, 1) := by decide +kernel
theorem dL_step_414 : decode cL_step 414 = .ok (.iload 11, 2) := by decide +kernel
theorem dL_step_416 : decode cL_step 416 = .ok (.ifCond .eq 10, 3) := by decide +kernel
theorem dL_step_419 : decode cL_step 419 = .ok (.iconst 1, 1) := by decide +kernel
theorem dL_step_420 : decode cL_step 420 = .ok (.iload 7, 2) := by decide +kernel
theorem dL_step_422 : decode cL_step 422 = .ok (.ishl, 1) := by decide +kernel
theorem dL_step_423 : decode cL_step 423 = .ok (.goto 4, 3) := by decide +kernel
theorem dL_step_426 : decode cL_step 426 = .ok (.iconst 0, 1) := by decide +kernel
theorem dL_step_427 : decode cL_step 427 = .ok (.ior, 1) := by decide +kernel
theorem dL_step_428 : decode cL_step 428 = .ok (.iastore, 1) := by decide +kernel
theorem dL_step_429 : decode cL_step 429 = .ok (.aload_n 1, 1) := by decide +kernel
theorem dL_step_430 : decode cL_step 430 = .ok (.bipush 8, 2) := by decide +kernel
theorem dL_step_432 : decode cL_step 432 = .ok (.iload 10, 2) := by decide +kernel
theorem dL_step_434 : decode cL_step 434 = .ok (.iconst 1, 1) := by decide +kernel
theorem dL_step_435 : decode cL_step 435 = .ok (.ixor, 1) := by decide +kernel
theorem dL_step_436 : decode cL_step 436 = .ok (.imul, 1) := by decide +kernel
theorem dL_step_437 : decode cL_step 437 = .ok (.iload 7, 2) := by decide +kernel
theorem dL_step_439 : decode cL_step 439 = .ok (.iadd, 1) := by decide +kernel
theorem dL_step_440 : decode cL_step 440 = .ok (.aload_n 1, 1) := by decide +kernel
theorem dL_step_441 : decode cL_step 441 = .ok (.bipush 8, 2) := by decide +kernel
theorem dL_step_443 : decode cL_step 443 = .ok (.iload 10, 2) := by decide +kernel
theorem dL_step_445 : decode cL_step 445 = .ok (.iconst 1, 1) := by decide +kernel
theorem dL_step_446 : decode cL_step 446 = .ok (.ixor, 1) := by decide +kernel
theorem dL_step_447 : decode cL_step 447 = .ok (.imul, 1) := by decide +kernel
theorem dL_step_448 : decode cL_step 448 = .ok (.iload 7, 2) := by decide +kernel
theorem dL_step_450 : decode cL_step 450 = .ok (.iadd, 1) := by decide +kernel
theorem dL_step_451 : decode cL_step 451 = .ok (.iaload, 1) := by decide +kernel
theorem dL_step_452 : decode cL_step 452 = .ok (.iconst 1, 1) := by decide +kernel
theorem dL_step_453 : decode cL_step 453 = .ok (.iload 6, 2) := by decide +kernel
theorem dL_step_455 : decode cL_step 455 = .ok (.ishl, 1) := by decide +kernel
theorem dL_step_456 : decode cL_step 456 = .ok (.iconst (-1), 1) := by decide +kernel
theorem dL_step_457 : decode cL_step 457 = .ok (.ixor, 1) := by decide +kernel
theorem dL_step_458 : decode cL_step 458 = .ok (.iand, 1) := by decide +kernel
theorem dL_step_459 : decode cL_step 459 = .ok (.iload 11, 2) := by decide +kernel
theorem dL_step_461 : decode cL_step 461 = .ok (.ifCond .eq 10, 3) := by decide +kernel
theorem dL_step_464 : decode cL_step 464 = .ok (.iconst 1, 1) := by decide +kernel
theorem dL_step_465 : decode cL_step 465 = .ok (.iload 6, 2) := by decide +kernel
theorem dL_step_467 : decode cL_step 467 = .ok (.ishl, 1) := by decide +kernel
theorem dL_step_468 : decode cL_step 468 = .ok (.goto 4, 3) := by decide +kernel
theorem dL_step_471 : decode cL_step 471 = .ok (.iconst 0, 1) := by decide +kernel
theorem dL_step_472 : decode cL_step 472 = .ok (.ior, 1) := by decide +kernel
theorem dL_step_473 : decode cL_step 473 = .ok (.iastore, 1) := by decide +kernel
theorem dL_step_474 : decode cL_step 474 = .ok (.aload_n 0, 1) := by decide +kernel
theorem dL_step_475 : decode cL_step 475 = .ok (.iload 6, 2) := by decide +kernel
theorem dL_step_477 : decode cL_step 477 = .ok (.iload 10, 2) := by decide +kernel
theorem dL_step_479 : decode cL_step 479 = .ok (.iload 7, 2) := by decide +kernel
theorem dL_step_481 : decode cL_step 481 = .ok (.iload 11, 2) := by decide +kernel
theorem dL_step_483 : decode cL_step 483 = .ok (.invokevirtual 45, 3) := by decide +kernel
theorem dL_step_486 : decode cL_step 486 = .ok (.aload_n 1, 1) := by decide +kernel
theorem dL_step_487 : decode cL_step 487 = .ok (.bipush 8, 2) := by decide +kernel
theorem dL_step_489 : decode cL_step 489 = .ok (.iload 10, 2) := by decide +kernel
theorem dL_step_491 : decode cL_step 491 = .ok (.imul, 1) := by decide +kernel
theorem dL_step_492 : decode cL_step 492 = .ok (.iload 6, 2) := by decide +kernel
theorem dL_step_494 : decode cL_step 494 = .ok (.iadd, 1) := by decide +kernel
theorem dL_step_495 : decode cL_step 495 = .ok (.iaload, 1) := by decide +kernel
theorem dL_step_496 : decode cL_step 496 = .ok (.invokestatic 39, 3) := by decide +kernel
theorem dL_step_499 : decode cL_step 499 = .ok (.if_icmp .ne 7, 3) := by decide +kernel
theorem dL_step_502 : decode cL_step 502 = .ok (.iconst 1, 1) := by decide +kernel
theorem dL_step_503 : decode cL_step 503 = .ok (.goto 4, 3) := by decide +kernel
theorem dL_step_506 : decode cL_step 506 = .ok (.iconst 0, 1) := by decide +kernel
theorem dL_step_507 : decode cL_step 507 = .ok (.ireturn, 1) := by decide +kernel
theorem dL_step_508 : decode cL_step 508 = .ok (.aload_n 1, 1) := by decide +kernel
theorem dL_step_509 : decode cL_step 509 = .ok (.bipush 57, 2) := by decide +kernel
theorem dL_step_511 : decode cL_step 511 = .ok (.iaload, 1) := by decide +kernel
theorem dL_step_512 : decode cL_step 512 = .ok (.istore 12, 2) := by decide +kernel
theorem dL_step_514 : decode cL_step 514 = .ok (.aload_n 1, 1) := by decide +kernel
theorem dL_step_515 : decode cL_step 515 = .ok (.bipush 57, 2) := by decide +kernel
theorem dL_step_517 : decode cL_step 517 = .ok (.iload 6, 2) := by decide +kernel
theorem dL_step_519 : decode cL_step 519 = .ok (.iastore, 1) := by decide +kernel
theorem dL_step_520 : decode cL_step 520 = .ok (.aload_n 0, 1) := by decide +kernel
theorem dL_step_521 : decode cL_step 521 = .ok (.iload 6, 2) := by decide +kernel
theorem dL_step_523 : decode cL_step 523 = .ok (.invokevirtual 49, 3) := by decide +kernel
theorem dL_step_526 : decode cL_step 526 = .ok (.iload 12, 2) := by decide +kernel
theorem dL_step_528 : decode cL_step 528 = .ok (.if_icmp .ne 7, 3) := by decide +kernel
theorem dL_step_531 : decode cL_step 531 = .ok (.iconst 1, 1) := by decide +kernel
theorem dL_step_532 : decode cL_step 532 = .ok (.goto 4, 3) := by decide +kernel
theorem dL_step_535 : decode cL_step 535 = .ok (.iconst 0, 1) := by decide +kernel
theorem dL_step_536 : decode cL_step 536 = .ok (.ireturn, 1) := by decide +kernel
theorem dL_step_537 : decode cL_step 537 = .ok (.aload_n 1, 1) := by decide +kernel
theorem dL_step_538 : decode cL_step 538 = .ok (.bipush 58, 2) := by decide +kernel
theorem dL_step_540 : decode cL_step 540 = .ok (.iaload, 1) := by decide +kernel
theorem dL_step_541 : decode cL_step 541 = .ok (.iconst 1, 1) := by decide +kernel
theorem dL_step_542 : decode cL_step 542 = .ok (.if_icmp .ne 7, 3) := by decide +kernel
theorem dL_step_545 : decode cL_step 545 = .ok (.iconst 1, 1) := by decide +kernel
theorem dL_step_546 : decode cL_step 546 = .ok (.goto 4, 3) := by decide +kernel
theorem dL_step_549 : decode cL_step 549 = .ok (.iconst 0, 1) := by decide +kernel
theorem dL_step_550 : decode cL_step 550 = .ok (.istore 13, 2) := by decide +kernel
theorem dL_step_552 : decode cL_step 552 = .ok (.aload_n 1, 1) := by decide +kernel
theorem dL_step_553 : decode cL_step 553 = .ok (.bipush 58, 2) := by decide +kernel
theorem dL_step_555 : decode cL_step 555 = .ok (.iload 4, 2) := by decide +kernel
theorem dL_step_557 : decode cL_step 557 = .ok (.iconst 4, 1) := by decide +kernel
theorem dL_step_558 : decode cL_step 558 = .ok (.irem, 1) := by decide +kernel
theorem dL_step_559 : decode cL_step 559 = .ok (.ifCond .ne 7, 3) := by decide +kernel
theorem dL_step_562 : decode cL_step 562 = .ok (.iconst 1, 1) := by decide +kernel
theorem dL_step_563 : decode cL_step 563 = .ok (.goto 4, 3) := by decide +kernel
theorem dL_step_566 : decode cL_step 566 = .ok (.iconst 0, 1) := by decide +kernel
theorem dL_step_567 : decode cL_step 567 = .ok (.iastore, 1) := by decide +kernel
theorem dL_step_568 : decode cL_step 568 = .ok (.aload_n 0, 1) := by decide +kernel
theorem dL_step_569 : decode cL_step 569 = .ok (.aload_n 1, 1) := by decide +kernel
theorem dL_step_570 : decode cL_step 570 = .ok (.bipush 58, 2) := by decide +kernel
theorem dL_step_572 : decode cL_step 572 = .ok (.iaload, 1) := by decide +kernel
theorem dL_step_573 : decode cL_step 573 = .ok (.iconst 1, 1) := by decide +kernel
theorem dL_step_574 : decode cL_step 574 = .ok (.if_icmp .ne 7, 3) := by decide +kernel
theorem dL_step_577 : decode cL_step 577 = .ok (.iconst 1, 1) := by decide +kernel
theorem dL_step_578 : decode cL_step 578 = .ok (.goto 4, 3) := by decide +kernel
theorem dL_step_581 : decode cL_step 581 = .ok (.iconst 0, 1) := by decide +kernel
theorem dL_step_582 : decode cL_step 582 = .ok (.invokevirtual 52, 3) := by decide +kernel
theorem dL_step_585 : decode cL_step 585 = .ok (.iload 13, 2) := by decide +kernel
theorem dL_step_587 : decode cL_step 587 = .ok (.if_icmp .ne 7, 3) := by decide +kernel
theorem dL_step_590 : decode cL_step 590 = .ok (.iconst 1, 1) := by decide +kernel
theorem dL_step_591 : decode cL_step 591 = .ok (.goto 4, 3) := by decide +kernel
theorem dL_step_594 : decode cL_step 594 = .ok (.iconst 0, 1) := by decide +kernel
theorem dL_step_595 : decode cL_step 595 = .ok (.ireturn, 1) := by decide +kernel
theorem dL_step_596 : decode cL_step 596 = .ok (.aload_n 0, 1) := by decide +kernel
theorem dL_step_597 : decode cL_step 597 = .ok (.iload 6, 2) := by decide +kernel
theorem dL_step_599 : decode cL_step 599 = .ok (.iload 4, 2) := by decide +kernel
theorem dL_step_601 : decode cL_step 601 = .ok (.bipush 6, 2) := by decide +kernel
theorem dL_step_603 : decode cL_step 603 = .ok (.irem, 1) := by decide +kernel
theorem dL_step_604 : decode cL_step 604 = .ok (.invokevirtual 56, 3) := by decide +kernel
theorem dL_step_607 : decode cL_step 607 = .ok (.ifCond .lt 26, 3) := by decide +kernel
theorem dL_step_610 : decode cL_step 610 = .ok (.aload_n 0, 1) := by decide +kernel
theorem dL_step_611 : decode cL_step 611 = .ok (.iload 6, 2) := by decide +kernel
theorem dL_step_613 : decode cL_step 613 = .ok (.iload 4, 2) := by decide +kernel
theorem dL_step_615 : decode cL_step 615 = .ok (.bipush 6, 2) := by decide +kernel
theorem dL_step_617 : decode cL_step 617 = .ok (.irem, 1) := by decide +kernel
theorem dL_step_618 : decode cL_step 618 = .ok (.invokevirtual 56, 3) := by decide +kernel
theorem dL_step_621 : decode cL_step 621 = .ok (.iload 4, 2) := by decide +kernel
theorem dL_step_623 : decode cL_step 623 = .ok (.bipush 6, 2) := by decide +kernel
theorem dL_step_625 : decode cL_step 625 = .ok (.irem, 1) := by decide +kernel
theorem dL_step_626 : decode cL_step 626 = .ok (.if_icmp .ne 7, 3) := by decide +kernel
theorem dL_step_629 : decode cL_step 629 = .ok (.iconst 1, 1) := by decide +kernel
theorem dL_step_630 : decode cL_step 630 = .ok (.goto 4, 3) := by decide +kernel
theorem dL_step_633 : decode cL_step 633 = .ok (.iconst 0, 1) := by decide +kernel
theorem dL_step_634 : decode cL_step 634 = .ok (.ireturn, 1) := by decide +kernel
