set_option maxRecDepth 20000 in
theorem ggL_isRun_X4_begin : GoodIn wsL_isRun wsX4_begin := goodIn_ca (goodIn_r _ [5, 6, 7, 8, 9, 10, 11, 12, 13, 4, 14, 15, 16, 17, 18, 19, 20, 21, 22, 23, 24, 25, 26, 27, 28, 29, 30, 31, 32, 33, 34, 35, 36, 37, 38, 39, 40, 41, 42, 43, 44, 45, 46, 47, 48, 49, 50, 51, 52, 53, 54, 55, 56, 57, 58, 59, 60, 61, 62, 63, 64, 65, 66, 67, 68, 69, 70, 71, 72, 73, 74, 75, 76, 77, 78, 79, 80, 81, 82, 83, 84, 85, 86, 87, 88, 89, 90, 91, 92, 93, 94, 95, 96, 97, 98, 99, 100, 101, 102, 103, 104, 105, 106, 107, 108, 109, 110, 111, 112, 113, 114, 115, 116, 117, 118, 119, 211, 212, 213, 214, 215, 216, 217, 218, 219, 220, 221, 222, 223, 224, 225, 226, 227, 228, 229, 230, 231, 232, 233, 234, 235, 236] (by decide +kernel) (by decide +kernel)) (goodIn_sub (fun _ h => List.mem_cons_of_mem _ (List.mem_append_left _ (List.mem_append_right _ h))) (by decide +kernel))
set_option maxRecDepth 20000 in
theorem gL_isRun_X4_begin : GoodIn wsL_isRun (wsV RL 104 RX4 yX4_begin wsX4_begin) := goodIn_app (goodIn_of _ (by decide +kernel)) ggL_isRun_X4_begin
set_option maxRecDepth 20000 in
theorem ggL_isRun_X4_built : GoodIn wsL_isRun wsX4_built := goodIn_r _ [123, 9, 124, 125, 126, 108, 127, 116, 211, 212, 213, 214, 229, 230, 231, 232, 233, 234, 235, 236] (by decide +kernel) (by decide +kernel)
set_option maxRecDepth 20000 in
theorem gL_isRun_X4_built : GoodIn wsL_isRun (wsV RL 20 RX4 yX4_built wsX4_built) := goodIn_app (goodIn_of _ (by decide +kernel)) ggL_isRun_X4_built
set_option maxRecDepth 20000 in
theorem ggL_isRun_X4_clock : GoodIn wsL_isRun wsX4_clock := goodIn_r _ [131, 9, 132, 133, 134, 108, 135, 117, 211, 212, 213, 214, 229, 230, 231, 232, 233, 234, 235, 236] (by decide +kernel) (by decide +kernel)
set_option maxRecDepth 20000 in
theorem gL_isRun_X4_clock : GoodIn wsL_isRun (wsV RL 107 RX4 yX4_clock wsX4_clock) := goodIn_app (goodIn_of _ (by decide +kernel)) ggL_isRun_X4_clock
set_option maxRecDepth 20000 in
theorem ggL_isRun_X4_mounted : GoodIn wsL_isRun wsX4_mounted := goodIn_r _ [139, 9, 140, 141, 142, 108, 143, 118, 211, 212, 213, 214, 229, 230, 231, 232, 233, 234, 235, 236] (by decide +kernel) (by decide +kernel)
set_option maxRecDepth 20000 in
theorem gL_isRun_X4_mounted : GoodIn wsL_isRun (wsV RL 23 RX4 yX4_mounted wsX4_mounted) := goodIn_app (goodIn_of _ (by decide +kernel)) ggL_isRun_X4_mounted
set_option maxRecDepth 20000 in
theorem ggL_isRun_X4_orderAt : GoodIn wsL_isRun wsX4_orderAt := goodIn_ca (goodIn_r _ [147, 148, 149, 8, 150, 151, 152, 24, 153, 32, 26, 97, 64, 16, 17, 18, 19, 20, 27, 28, 29, 30, 31, 33, 34, 35, 36, 37, 38, 39, 40, 41, 42, 43, 44, 45, 46, 47, 48, 49, 50, 51, 52, 53, 54, 55, 56, 57, 58, 59, 60, 61, 62, 63, 65, 66, 67, 68, 69, 70, 71, 72, 73, 74, 75, 76, 77, 78, 79, 80, 81, 82, 83, 84, 85, 86, 87, 88, 89, 90, 91, 92, 93, 94, 95, 96, 98, 99, 100, 101, 211, 212, 213, 214, 221, 222, 223, 224, 225, 226, 227, 228, 215, 216, 217, 218, 219, 220] (by decide +kernel) (by decide +kernel)) (goodIn_sub (fun _ h => List.mem_cons_of_mem _ (List.mem_append_right _ h)) (by decide +kernel))
set_option maxRecDepth 20000 in
theorem gL_isRun_X4_orderAt : GoodIn wsL_isRun (wsV RL 98 RX4 yX4_orderAt wsX4_orderAt) := goodIn_app (goodIn_of _ (by decide +kernel)) ggL_isRun_X4_orderAt
set_option maxRecDepth 20000 in
theorem ggL_isRun_X4_isBypassed : GoodIn wsL_isRun wsX4_isBypassed := goodIn_ca (goodIn_r _ [157, 9, 158, 159, 160, 4, 161, 148, 149, 10, 15, 16, 17, 18, 19, 20, 162, 163, 164, 108, 165, 119, 211, 212, 213, 214, 215, 216, 217, 218, 219, 220, 229, 230, 231, 232, 233, 234, 235, 236] (by decide +kernel) (by decide +kernel)) (goodIn_sub (fun _ h => List.mem_cons_of_mem _ (List.mem_append_right _ h)) (by decide +kernel))
set_option maxRecDepth 20000 in
theorem gL_isRun_X4_isBypassed : GoodIn wsL_isRun (wsV RL 110 RX4 yX4_isBypassed wsX4_isBypassed) := goodIn_app (goodIn_of _ (by decide +kernel)) ggL_isRun_X4_isBypassed
set_option maxRecDepth 20000 in
theorem ggL_isRun_X4_step : GoodIn wsL_isRun wsX4_step := goodIn_ca (goodIn_r _ [169, 6, 7, 8, 9, 170, 171, 172, 108, 173, 110, 115, 150, 151, 152, 24, 153, 32, 26, 97, 64, 16, 17, 18, 19, 20, 27, 28, 29, 30, 31, 33, 34, 35, 36, 37, 38, 39, 40, 41, 42, 43, 44, 45, 46, 47, 48, 49, 50, 51, 52, 53, 54, 55, 56, 57, 58, 59, 60, 61, 62, 63, 65, 66, 67, 68, 69, 70, 71, 72, 73, 74, 75, 76, 77, 78, 79, 80, 81, 82, 83, 84, 85, 86, 87, 88, 89, 90, 91, 92, 93, 94, 95, 96, 98, 99, 100, 101, 174, 175, 176, 177, 178, 179, 117, 180, 181, 182, 183, 184, 118, 185, 163, 164, 165, 119, 186, 187, 188, 189, 190, 191, 192, 193, 116, 194, 211, 212, 213, 214, 229, 230, 231, 232, 233, 234, 235, 236, 221, 222, 223, 224, 225, 226, 227, 228, 215, 216, 217, 218, 219, 220] (by decide +kernel) (by decide +kernel)) (goodIn_sub (fun _ h => List.mem_cons_of_mem _ (List.mem_append_left _ (List.mem_append_right _ h))) (by decide +kernel))
set_option maxRecDepth 20000 in
theorem gL_isRun_X4_step : GoodIn wsL_isRun (wsV RL 113 RX4 yX4_step wsX4_step) := goodIn_app (goodIn_of _ (by decide +kernel)) ggL_isRun_X4_step
set_option maxRecDepth 20000 in
theorem ggL_isRun_X4_fewestChanges : GoodIn wsL_isRun wsX4_fewestChanges := goodIn_ca (goodIn_r _ [198, 8, 11, 12, 13, 4, 14, 6, 7, 10, 15, 16, 17, 18, 19, 20, 21, 22, 23, 24, 25, 26, 27, 28, 29, 30, 31, 32, 33, 34, 35, 36, 37, 38, 39, 40, 41, 42, 43, 44, 45, 46, 47, 48, 49, 50, 51, 52, 53, 54, 55, 56, 57, 58, 59, 60, 61, 62, 63, 64, 65, 66, 67, 68, 69, 70, 71, 72, 73, 74, 75, 76, 77, 78, 79, 80, 81, 82, 83, 84, 85, 86, 87, 88, 89, 90, 91, 92, 93, 94, 95, 96, 97, 98, 99, 100, 101, 102, 103, 104, 211, 212, 213, 214, 215, 216, 217, 218, 219, 220, 221, 222, 223, 224, 225, 226, 227, 228] (by decide +kernel) (by decide +kernel)) (goodIn_sub (fun _ h => List.mem_cons_of_mem _ (List.mem_append_left _ (List.mem_append_right _ h))) (by decide +kernel))
set_option maxRecDepth 20000 in
theorem gL_isRun_X4_fewestChanges : GoodIn wsL_isRun (wsV RL 83 RX4 yX4_fewestChanges wsX4_fewestChanges) := goodIn_app (goodIn_of _ (by decide +kernel)) ggL_isRun_X4_fewestChanges
set_option maxRecDepth 20000 in
theorem ggL_isRun_X4_stepBack : GoodIn wsL_isRun wsX4_stepBack := goodIn_ca (goodIn_r _ [202, 6, 7, 8, 9, 203, 204, 205, 108, 206, 115, 150, 151, 152, 24, 153, 32, 26, 97, 64, 16, 17, 18, 19, 20, 27, 28, 29, 30, 31, 33, 34, 35, 36, 37, 38, 39, 40, 41, 42, 43, 44, 45, 46, 47, 48, 49, 50, 51, 52, 53, 54, 55, 56, 57, 58, 59, 60, 61, 62, 63, 65, 66, 67, 68, 69, 70, 71, 72, 73, 74, 75, 76, 77, 78, 79, 80, 81, 82, 83, 84, 85, 86, 87, 88, 89, 90, 91, 92, 93, 94, 95, 96, 98, 99, 100, 101, 207, 208, 209, 210, 116, 117, 211, 212, 213, 214, 229, 230, 231, 232, 233, 234, 235, 236, 221, 222, 223, 224, 225, 226, 227, 228, 215, 216, 217, 218, 219, 220] (by decide +kernel) (by decide +kernel)) (goodIn_sub (fun _ h => List.mem_cons_of_mem _ (List.mem_append_left _ (List.mem_append_right _ h))) (by decide +kernel))
set_option maxRecDepth 20000 in
theorem gL_isRun_X4_stepBack : GoodIn wsL_isRun (wsV RL 116 RX4 yX4_stepBack wsX4_stepBack) := goodIn_app (goodIn_of _ (by decide +kernel)) ggL_isRun_X4_stepBack
theorem dL_isRun_0 : decode cL_isRun 0 = .ok (.iconst 0, 1) := by decide +kernel
theorem dL_isRun_1 : decode cL_isRun 1 = .ok (.istore_n 3, 1) := by decide +kernel
theorem dL_isRun_2 : decode cL_isRun 2 = .ok (.iconst 0, 1) := by decide +kernel
theorem dL_isRun_3 : decode cL_isRun 3 = .ok (.istore 4, 2) := by decide +kernel
theorem dL_isRun_5 : decode cL_isRun 5 = .ok (.aload_n 0, 1) := by decide +kernel
theorem dL_isRun_6 : decode cL_isRun 6 = .ok (.invokevirtual 104, 3) := by decide +kernel
theorem dL_isRun_9 : decode cL_isRun 9 = .ok (.aload_n 1, 1) := by decide +kernel
theorem dL_isRun_10 : decode cL_isRun 10 = .ok (.bipush 56, 2) := by decide +kernel
theorem dL_isRun_12 : decode cL_isRun 12 = .ok (.iaload, 1) := by decide +kernel
theorem dL_isRun_13 : decode cL_isRun 13 = .ok (.if_icmp .ne 29, 3) := by decide +kernel
theorem dL_isRun_16 : decode cL_isRun 16 = .ok (.aload_n 0, 1) := by decide +kernel
theorem dL_isRun_17 : decode cL_isRun 17 = .ok (.invokevirtual 20, 3) := by decide +kernel
theorem dL_isRun_20 : decode cL_isRun 20 = .ok (.ifCond .ne 22, 3) := by decide +kernel
theorem dL_isRun_23 : decode cL_isRun 23 = .ok (.aload_n 0, 1) := by decide +kernel
theorem dL_isRun_24 : decode cL_isRun 24 = .ok (.invokevirtual 107, 3) := by decide +kernel
theorem dL_isRun_27 : decode cL_isRun 27 = .ok (.ifCond .ne 15, 3) := by decide +kernel
theorem dL_isRun_30 : decode cL_isRun 30 = .ok (.aload_n 0, 1) := by decide +kernel
theorem dL_isRun_31 : decode cL_isRun 31 = .ok (.invokevirtual 23, 3) := by decide +kernel
theorem dL_isRun_34 : decode cL_isRun 34 = .ok (.iconst (-1), 1) := by decide +kernel
theorem dL_isRun_35 : decode cL_isRun 35 = .ok (.if_icmp .ne 7, 3) := by decide +kernel
theorem dL_isRun_38 : decode cL_isRun 38 = .ok (.iconst 1, 1) := by decide +kernel
theorem dL_isRun_39 : decode cL_isRun 39 = .ok (.goto 4, 3) := by decide +kernel
theorem dL_isRun_42 : decode cL_isRun 42 = .ok (.iconst 0, 1) := by decide +kernel
theorem dL_isRun_43 : decode cL_isRun 43 = .ok (.istore 5, 2) := by decide +kernel
theorem dL_isRun_45 : decode cL_isRun 45 = .ok (.iconst 0, 1) := by decide +kernel
theorem dL_isRun_46 : decode cL_isRun 46 = .ok (.istore 6, 2) := by decide +kernel
theorem dL_isRun_48 : decode cL_isRun 48 = .ok (.iload 6, 2) := by decide +kernel
theorem dL_isRun_50 : decode cL_isRun 50 = .ok (.iconst 4, 1) := by decide +kernel
theorem dL_isRun_51 : decode cL_isRun 51 = .ok (.aload_n 1, 1) := by decide +kernel
theorem dL_isRun_52 : decode cL_isRun 52 = .ok (.bipush 56, 2) := by decide +kernel
theorem dL_isRun_54 : decode cL_isRun 54 = .ok (.iaload, 1) := by decide +kernel
theorem dL_isRun_55 : decode cL_isRun 55 = .ok (.imul, 1) := by decide +kernel
theorem dL_isRun_56 : decode cL_isRun 56 = .ok (.if_icmp .ge 208, 3) := by decide +kernel
theorem dL_isRun_59 : decode cL_isRun 59 = .ok (.iload 5, 2) := by decide +kernel
theorem dL_isRun_61 : decode cL_isRun 61 = .ok (.ifCond .eq 203, 3) := by decide +kernel
theorem dL_isRun_64 : decode cL_isRun 64 = .ok (.iload 4, 2) := by decide +kernel
theorem dL_isRun_66 : decode cL_isRun 66 = .ok (.aload_n 1, 1) := by decide +kernel
theorem dL_isRun_67 : decode cL_isRun 67 = .ok (.bipush 56, 2) := by decide +kernel
theorem dL_isRun_69 : decode cL_isRun 69 = .ok (.iaload, 1) := by decide +kernel
theorem dL_isRun_70 : decode cL_isRun 70 = .ok (.if_icmp .ge 194, 3) := by decide +kernel
theorem dL_isRun_73 : decode cL_isRun 73 = .ok (.aload_n 0, 1) := by decide +kernel
theorem dL_isRun_74 : decode cL_isRun 74 = .ok (.invokevirtual 107, 3) := by decide +kernel
theorem dL_isRun_77 : decode cL_isRun 77 = .ok (.istore 7, 2) := by decide +kernel
theorem dL_isRun_79 : decode cL_isRun 79 = .ok (.aload_n 0, 1) := by decide +kernel
theorem dL_isRun_80 : decode cL_isRun 80 = .ok (.invokevirtual 23, 3) := by decide +kernel
theorem dL_isRun_83 : decode cL_isRun 83 = .ok (.istore 8, 2) := by decide +kernel
theorem dL_isRun_85 : decode cL_isRun 85 = .ok (.aload_n 0, 1) := by decide +kernel
theorem dL_isRun_86 : decode cL_isRun 86 = .ok (.iload 4, 2) := by decide +kernel
theorem dL_isRun_88 : decode cL_isRun 88 = .ok (.invokevirtual 98, 3) := by decide +kernel
theorem dL_isRun_91 : decode cL_isRun 91 = .ok (.istore 9, 2) := by decide +kernel
theorem dL_isRun_93 : decode cL_isRun 93 = .ok (.aload_n 0, 1) := by decide +kernel
theorem dL_isRun_94 : decode cL_isRun 94 = .ok (.iload 9, 2) := by decide +kernel
theorem dL_isRun_96 : decode cL_isRun 96 = .ok (.invokevirtual 110, 3) := by decide +kernel
theorem dL_isRun_99 : decode cL_isRun 99 = .ok (.istore 10, 2) := by decide +kernel
theorem dL_isRun_101 : decode cL_isRun 101 = .ok (.aload_n 0, 1) := by decide +kernel
theorem dL_isRun_102 : decode cL_isRun 102 = .ok (.invokevirtual 113, 3) := by decide +kernel
theorem dL_isRun_105 : decode cL_isRun 105 = .ok (.istore 11, 2) := by decide +kernel
theorem dL_isRun_107 : decode cL_isRun 107 = .ok (.iload 8, 2) := by decide +kernel
theorem dL_isRun_109 : decode cL_isRun 109 = .ok (.aload_n 0, 1) := by decide +kernel
theorem dL_isRun_110 : decode cL_isRun 110 = .ok (.invokevirtual 23, 3) := by decide +kernel
theorem dL_isRun_113 : decode cL_isRun 113 = .ok (.if_icmp .eq 7, 3) := by decide +kernel
theorem dL_isRun_116 : decode cL_isRun 116 = .ok (.iconst 1, 1) := by decide +kernel
theorem dL_isRun_117 : decode cL_isRun 117 = .ok (.goto 4, 3) := by decide +kernel
theorem dL_isRun_120 : decode cL_isRun 120 = .ok (.iconst 0, 1) := by decide +kernel
theorem dL_isRun_121 : decode cL_isRun 121 = .ok (.istore 12, 2) := by decide +kernel
theorem dL_isRun_123 : decode cL_isRun 123 = .ok (.iload_n 3, 1) := by decide +kernel
theorem dL_isRun_124 : decode cL_isRun 124 = .ok (.iload 12, 2) := by decide +kernel
theorem dL_isRun_126 : decode cL_isRun 126 = .ok (.ifCond .eq 7, 3) := by decide +kernel
theorem dL_isRun_129 : decode cL_isRun 129 = .ok (.iconst 1, 1) := by decide +kernel
theorem dL_isRun_130 : decode cL_isRun 130 = .ok (.goto 4, 3) := by decide +kernel
theorem dL_isRun_133 : decode cL_isRun 133 = .ok (.iconst 0, 1) := by decide +kernel
theorem dL_isRun_134 : decode cL_isRun 134 = .ok (.iadd, 1) := by decide +kernel
theorem dL_isRun_135 : decode cL_isRun 135 = .ok (.istore_n 3, 1) := by decide +kernel
theorem dL_isRun_136 : decode cL_isRun 136 = .ok (.iload 7, 2) := by decide +kernel
theorem dL_isRun_138 : decode cL_isRun 138 = .ok (.iload 12, 2) := by decide +kernel
theorem dL_isRun_140 : decode cL_isRun 140 = .ok (.ifCond .eq 7, 3) := by decide +kernel
theorem dL_isRun_143 : decode cL_isRun 143 = .ok (.iconst 5, 1) := by decide +kernel
theorem dL_isRun_144 : decode cL_isRun 144 = .ok (.goto 4, 3) := by decide +kernel
theorem dL_isRun_147 : decode cL_isRun 147 = .ok (.iconst 0, 1) := by decide +kernel
theorem dL_isRun_148 : decode cL_isRun 148 = .ok (.iadd, 1) := by decide +kernel
theorem dL_isRun_149 : decode cL_isRun 149 = .ok (.istore 7, 2) := by decide +kernel
theorem dL_isRun_151 : decode cL_isRun 151 = .ok (.iload 11, 2) := by decide +kernel
theorem dL_isRun_153 : decode cL_isRun 153 = .ok (.iconst (-1), 1) := by decide +kernel
theorem dL_isRun_154 : decode cL_isRun 154 = .ok (.if_icmp .ne 29, 3) := by decide +kernel
theorem dL_isRun_157 : decode cL_isRun 157 = .ok (.iload 10, 2) := by decide +kernel
theorem dL_isRun_159 : decode cL_isRun 159 = .ok (.ifCond .ne 18, 3) := by decide +kernel
theorem dL_isRun_162 : decode cL_isRun 162 = .ok (.aload_n 0, 1) := by decide +kernel
theorem dL_isRun_163 : decode cL_isRun 163 = .ok (.invokevirtual 107, 3) := by decide +kernel
theorem dL_isRun_166 : decode cL_isRun 166 = .ok (.iload 7, 2) := by decide +kernel
theorem dL_isRun_168 : decode cL_isRun 168 = .ok (.iconst 3, 1) := by decide +kernel
theorem dL_isRun_169 : decode cL_isRun 169 = .ok (.iadd, 1) := by decide +kernel
theorem dL_isRun_170 : decode cL_isRun 170 = .ok (.if_icmp .ne 7, 3) := by decide +kernel
theorem dL_isRun_173 : decode cL_isRun 173 = .ok (.iconst 1, 1) := by decide +kernel
theorem dL_isRun_174 : decode cL_isRun 174 = .ok (.goto 4, 3) := by decide +kernel
theorem dL_isRun_177 : decode cL_isRun 177 = .ok (.iconst 0, 1) := by decide +kernel
theorem dL_isRun_178 : decode cL_isRun 178 = .ok (.istore 5, 2) := by decide +kernel
theorem dL_isRun_180 : decode cL_isRun 180 = .ok (.goto 78, 3) := by decide +kernel
theorem dL_isRun_183 : decode cL_isRun 183 = .ok (.iinc 4 1, 3) := by decide +kernel
theorem dL_isRun_186 : decode cL_isRun 186 = .ok (.aload_n 1, 1) := by decide +kernel
theorem dL_isRun_187 : decode cL_isRun 187 = .ok (.bipush 32, 2) := by decide +kernel
theorem dL_isRun_189 : decode cL_isRun 189 = .ok (.iload 9, 2) := by decide +kernel
theorem dL_isRun_191 : decode cL_isRun 191 = .ok (.iadd, 1) := by decide +kernel
theorem dL_isRun_192 : decode cL_isRun 192 = .ok (.iaload, 1) := by decide +kernel
theorem dL_isRun_193 : decode cL_isRun 193 = .ok (.aload_n 0, 1) := by decide +kernel
theorem dL_isRun_194 : decode cL_isRun 194 = .ok (.invokevirtual 20, 3) := by decide +kernel
theorem dL_isRun_197 : decode cL_isRun 197 = .ok (.iand, 1) := by decide +kernel
theorem dL_isRun_198 : decode cL_isRun 198 = .ok (.ifCond .ne 7, 3) := by decide +kernel
theorem dL_isRun_201 : decode cL_isRun 201 = .ok (.iconst 1, 1) := by decide +kernel
theorem dL_isRun_202 : decode cL_isRun 202 = .ok (.goto 4, 3) := by decide +kernel
theorem dL_isRun_205 : decode cL_isRun 205 = .ok (.iconst 2, 1) := by decide +kernel
theorem dL_isRun_206 : decode cL_isRun 206 = .ok (.istore 13, 2) := by decide +kernel
theorem dL_isRun_208 : decode cL_isRun 208 = .ok (.iload 11, 2) := by decide +kernel
theorem dL_isRun_210 : decode cL_isRun 210 = .ok (.iload 9, 2) := by decide +kernel
theorem dL_isRun_212 : decode cL_isRun 212 = .ok (.if_icmp .ne 43, 3) := by decide +kernel
theorem dL_isRun_215 : decode cL_isRun 215 = .ok (.aload_n 0, 1) := by decide +kernel
theorem dL_isRun_216 : decode cL_isRun 216 = .ok (.invokevirtual 20, 3) := by decide +kernel
theorem dL_isRun_219 : decode cL_isRun 219 = .ok (.iload 9, 2) := by decide +kernel
theorem dL_isRun_221 : decode cL_isRun 221 = .ok (.ishr, 1) := by decide +kernel
theorem dL_isRun_222 : decode cL_isRun 222 = .ok (.iconst 1, 1) := by decide +kernel
theorem dL_isRun_223 : decode cL_isRun 223 = .ok (.iand, 1) := by decide +kernel
theorem dL_isRun_224 : decode cL_isRun 224 = .ok (.iconst 1, 1) := by decide +kernel
theorem dL_isRun_225 : decode cL_isRun 225 = .ok (.if_icmp .ne 30, 3) := by decide +kernel
theorem dL_isRun_228 : decode cL_isRun 228 = .ok (.aload_n 0, 1) := by decide +kernel
theorem dL_isRun_229 : decode cL_isRun 229 = .ok (.invokevirtual 107, 3) := by decide +kernel
theorem dL_isRun_232 : decode cL_isRun 232 = .ok (.iload 7, 2) := by decide +kernel
theorem dL_isRun_234 : decode cL_isRun 234 = .ok (.iload 10, 2) := by decide +kernel
theorem dL_isRun_236 : decode cL_isRun 236 = .ok (.ifCond .eq 7, 3) := by decide +kernel
theorem dL_isRun_239 : decode cL_isRun 239 = .ok (.iconst 4, 1) := by decide +kernel
theorem dL_isRun_240 : decode cL_isRun 240 = .ok (.goto 4, 3) := by decide +kernel
theorem dL_isRun_243 : decode cL_isRun 243 = .ok (.iconst 1, 1) := by decide +kernel
theorem dL_isRun_244 : decode cL_isRun 244 = .ok (.iadd, 1) := by decide +kernel
theorem dL_isRun_245 : decode cL_isRun 245 = .ok (.iload 13, 2) := by decide +kernel
theorem dL_isRun_247 : decode cL_isRun 247 = .ok (.iadd, 1) := by decide +kernel
theorem dL_isRun_248 : decode cL_isRun 248 = .ok (.if_icmp .ne 7, 3) := by decide +kernel
theorem dL_isRun_251 : decode cL_isRun 251 = .ok (.iconst 1, 1) := by decide +kernel
theorem dL_isRun_252 : decode cL_isRun 252 = .ok (.goto 4, 3) := by decide +kernel
theorem dL_isRun_255 : decode cL_isRun 255 = .ok (.iconst 0, 1) := by decide +kernel
theorem dL_isRun_256 : decode cL_isRun 256 = .ok (.istore 5, 2) := by decide +kernel
theorem dL_isRun_258 : decode cL_isRun 258 = .ok (.iinc 6 1, 3) := by decide +kernel
theorem dL_isRun_261 : decode cL_isRun 261 = .ok (.goto (-213), 3) := by decide +kernel
theorem dL_isRun_264 : decode cL_isRun 264 = .ok (.iload_n 2, 1) := by decide +kernel
theorem dL_isRun_265 : decode cL_isRun 265 = .ok (.iconst 3, 1) := by decide +kernel
theorem dL_isRun_266 : decode cL_isRun 266 = .ok (.irem, 1) := by decide +kernel
theorem dL_isRun_267 : decode cL_isRun 267 = .ok (.ifCond .ne 7, 3) := by decide +kernel
theorem dL_isRun_270 : decode cL_isRun 270 = .ok (.iconst 1, 1) := by decide +kernel
theorem dL_isRun_271 : decode cL_isRun 271 = .ok (.goto 4, 3) := by decide +kernel
theorem dL_isRun_274 : decode cL_isRun 274 = .ok (.iconst 0, 1) := by decide +kernel
theorem dL_isRun_275 : decode cL_isRun 275 = .ok (.istore 6, 2) := by decide +kernel
theorem dL_isRun_277 : decode cL_isRun 277 = .ok (.aload_n 0, 1) := by decide +kernel
theorem dL_isRun_278 : decode cL_isRun 278 = .ok (.invokevirtual 107, 3) := by decide +kernel
theorem dL_isRun_281 : decode cL_isRun 281 = .ok (.istore 7, 2) := by decide +kernel
theorem dL_isRun_283 : decode cL_isRun 283 = .ok (.aload_n 0, 1) := by decide +kernel
theorem dL_isRun_284 : decode cL_isRun 284 = .ok (.aload_n 1, 1) := by decide +kernel
theorem dL_isRun_285 : decode cL_isRun 285 = .ok (.bipush 56, 2) := by decide +kernel
theorem dL_isRun_287 : decode cL_isRun 287 = .ok (.iaload, 1) := by decide +kernel
theorem dL_isRun_288 : decode cL_isRun 288 = .ok (.iconst 1, 1) := by decide +kernel
theorem dL_isRun_289 : decode cL_isRun 289 = .ok (.isub, 1) := by decide +kernel
theorem dL_isRun_290 : decode cL_isRun 290 = .ok (.invokevirtual 98, 3) := by decide +kernel
theorem dL_isRun_293 : decode cL_isRun 293 = .ok (.istore 8, 2) := by decide +kernel
theorem dL_isRun_295 : decode cL_isRun 295 = .ok (.iload 5, 2) := by decide +kernel
theorem dL_isRun_297 : decode cL_isRun 297 = .ok (.ifCond .eq 41, 3) := by decide +kernel
theorem dL_isRun_300 : decode cL_isRun 300 = .ok (.iload 4, 2) := by decide +kernel
theorem dL_isRun_302 : decode cL_isRun 302 = .ok (.aload_n 1, 1) := by decide +kernel
theorem dL_isRun_303 : decode cL_isRun 303 = .ok (.bipush 56, 2) := by decide +kernel
theorem dL_isRun_305 : decode cL_isRun 305 = .ok (.iaload, 1) := by decide +kernel
theorem dL_isRun_306 : decode cL_isRun 306 = .ok (.if_icmp .ne 32, 3) := by decide +kernel
theorem dL_isRun_309 : decode cL_isRun 309 = .ok (.aload_n 0, 1) := by decide +kernel
theorem dL_isRun_310 : decode cL_isRun 310 = .ok (.invokevirtual 20, 3) := by decide +kernel
theorem dL_isRun_313 : decode cL_isRun 313 = .ok (.iconst 1, 1) := by decide +kernel
theorem dL_isRun_314 : decode cL_isRun 314 = .ok (.aload_n 1, 1) := by decide +kernel
theorem dL_isRun_315 : decode cL_isRun 315 = .ok (.bipush 56, 2) := by decide +kernel
theorem dL_isRun_317 : decode cL_isRun 317 = .ok (.iaload, 1) := by decide +kernel
theorem dL_isRun_318 : decode cL_isRun 318 = .ok (.ishl, 1) := by decide +kernel
theorem dL_isRun_319 : decode cL_isRun 319 = .ok (.iconst 1, 1) := by decide +kernel
theorem dL_isRun_320 : decode cL_isRun 320 = .ok (.isub, 1) := by decide +kernel
theorem dL_isRun_321 : decode cL_isRun 321 = .ok (.if_icmp .ne 17, 3) := by decide +kernel
theorem dL_isRun_324 : decode cL_isRun 324 = .ok (.iload_n 3, 1) := by decide +kernel
theorem dL_isRun_325 : decode cL_isRun 325 = .ok (.aload_n 0, 1) := by decide +kernel
theorem dL_isRun_326 : decode cL_isRun 326 = .ok (.invokevirtual 83, 3) := by decide +kernel
theorem dL_isRun_329 : decode cL_isRun 329 = .ok (.iconst 1, 1) := by decide +kernel
theorem dL_isRun_330 : decode cL_isRun 330 = .ok (.iadd, 1) := by decide +kernel
theorem dL_isRun_331 : decode cL_isRun 331 = .ok (.if_icmp .ne 7, 3) := by decide +kernel
theorem dL_isRun_334 : decode cL_isRun 334 = .ok (.iconst 1, 1) := by decide +kernel
theorem dL_isRun_335 : decode cL_isRun 335 = .ok (.goto 4, 3) := by decide +kernel
theorem dL_isRun_338 : decode cL_isRun 338 = .ok (.iconst 0, 1) := by decide +kernel
theorem dL_isRun_339 : decode cL_isRun 339 = .ok (.istore 5, 2) := by decide +kernel
theorem dL_isRun_341 : decode cL_isRun 341 = .ok (.iload 5, 2) := by decide +kernel
theorem dL_isRun_343 : decode cL_isRun 343 = .ok (.ifCond .eq 68, 3) := by decide +kernel
theorem dL_isRun_346 : decode cL_isRun 346 = .ok (.iload 6, 2) := by decide +kernel
theorem dL_isRun_348 : decode cL_isRun 348 = .ok (.ifCond .eq 59, 3) := by decide +kernel
theorem dL_isRun_351 : decode cL_isRun 351 = .ok (.aload_n 0, 1) := by decide +kernel
theorem dL_isRun_352 : decode cL_isRun 352 = .ok (.invokevirtual 116, 3) := by decide +kernel
theorem dL_isRun_355 : decode cL_isRun 355 = .ok (.iload 8, 2) := by decide +kernel
theorem dL_isRun_357 : decode cL_isRun 357 = .ok (.if_icmp .ne 54, 3) := by decide +kernel
theorem dL_isRun_360 : decode cL_isRun 360 = .ok (.aload_n 0, 1) := by decide +kernel
theorem dL_isRun_361 : decode cL_isRun 361 = .ok (.invokevirtual 107, 3) := by decide +kernel
theorem dL_isRun_364 : decode cL_isRun 364 = .ok (.iload 7, 2) := by decide +kernel
theorem dL_isRun_366 : decode cL_isRun 366 = .ok (.iconst 2, 1) := by decide +kernel
theorem dL_isRun_367 : decode cL_isRun 367 = .ok (.iadd, 1) := by decide +kernel
theorem dL_isRun_368 : decode cL_isRun 368 = .ok (.if_icmp .ne 43, 3) := by decide +kernel
theorem dL_isRun_371 : decode cL_isRun 371 = .ok (.aload_n 0, 1) := by decide +kernel
theorem dL_isRun_372 : decode cL_isRun 372 = .ok (.invokevirtual 20, 3) := by decide +kernel
theorem dL_isRun_375 : decode cL_isRun 375 = .ok (.iload 8, 2) := by decide +kernel
theorem dL_isRun_377 : decode cL_isRun 377 = .ok (.ishr, 1) := by decide +kernel
theorem dL_isRun_378 : decode cL_isRun 378 = .ok (.iconst 1, 1) := by decide +kernel
theorem dL_isRun_379 : decode cL_isRun 379 = .ok (.iand, 1) := by decide +kernel
theorem dL_isRun_380 : decode cL_isRun 380 = .ok (.ifCond .ne 31, 3) := by decide +kernel
theorem dL_isRun_383 : decode cL_isRun 383 = .ok (.aload_n 0, 1) := by decide +kernel
theorem dL_isRun_384 : decode cL_isRun 384 = .ok (.invokevirtual 113, 3) := by decide +kernel
theorem dL_isRun_387 : decode cL_isRun 387 = .ok (.iload 8, 2) := by decide +kernel
theorem dL_isRun_389 : decode cL_isRun 389 = .ok (.if_icmp .ne 22, 3) := by decide +kernel
theorem dL_isRun_392 : decode cL_isRun 392 = .ok (.aload_n 0, 1) := by decide +kernel
theorem dL_isRun_393 : decode cL_isRun 393 = .ok (.invokevirtual 20, 3) := by decide +kernel
theorem dL_isRun_396 : decode cL_isRun 396 = .ok (.iconst 1, 1) := by decide +kernel
theorem dL_isRun_397 : decode cL_isRun 397 = .ok (.aload_n 1, 1) := by decide +kernel
theorem dL_isRun_398 : decode cL_isRun 398 = .ok (.bipush 56, 2) := by decide +kernel
theorem dL_isRun_400 : decode cL_isRun 400 = .ok (.iaload, 1) := by decide +kernel
theorem dL_isRun_401 : decode cL_isRun 401 = .ok (.ishl, 1) := by decide +kernel
theorem dL_isRun_402 : decode cL_isRun 402 = .ok (.iconst 1, 1) := by decide +kernel
theorem dL_isRun_403 : decode cL_isRun 403 = .ok (.isub, 1) := by decide +kernel
theorem dL_isRun_404 : decode cL_isRun 404 = .ok (.if_icmp .ne 7, 3) := by decide +kernel
theorem dL_isRun_407 : decode cL_isRun 407 = .ok (.iconst 1, 1) := by decide +kernel
theorem dL_isRun_408 : decode cL_isRun 408 = .ok (.goto 4, 3) := by decide +kernel
theorem dL_isRun_411 : decode cL_isRun 411 = .ok (.iconst 0, 1) := by decide +kernel
theorem dL_isRun_412 : decode cL_isRun 412 = .ok (.ireturn, 1) := by decide +kernel
