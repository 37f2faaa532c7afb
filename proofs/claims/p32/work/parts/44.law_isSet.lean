set_option maxRecDepth 20000 in
theorem ggL_isSet_X4_free : GoodIn wsL_isSet wsX4_free := goodIn_ca (goodIn_ca (goodIn_r _ [5, 6, 7, 8, 9, 4, 10, 11, 12, 13, 14, 15, 16, 17, 18, 19, 20, 21, 22, 23, 24, 25, 26, 27, 28, 29, 30, 31, 32, 33, 34, 35, 36, 37, 131, 132, 133, 134, 135, 136, 137, 138, 139, 140] (by decide +kernel) (by decide +kernel)) (goodIn_sub (fun _ h => List.mem_cons_of_mem _ (List.mem_append_left _ (List.mem_append_right _ h))) (by decide +kernel))) (goodIn_sub (fun _ h => List.mem_cons_of_mem _ (List.mem_append_right _ h)) (by decide +kernel))
set_option maxRecDepth 20000 in
theorem gL_isSet_X4_free : GoodIn wsL_isSet (wsV RL 66 RX4 yX4_free wsX4_free) := goodIn_app (goodIn_of _ (by decide +kernel)) ggL_isSet_X4_free
set_option maxRecDepth 20000 in
theorem ggL_isSet_X4_canTake : GoodIn wsL_isSet wsX4_canTake := goodIn_ca (goodIn_ca (goodIn_r _ [41, 6, 7, 8, 9, 4, 10, 11, 12, 13, 14, 15, 16, 17, 18, 19, 20, 21, 22, 23, 24, 25, 26, 27, 28, 29, 30, 31, 32, 42, 43, 44, 45, 46, 47, 48, 49, 50, 51, 52, 53, 54, 55, 56, 57, 58, 59, 60, 61, 62, 37, 63, 64, 34, 35, 36, 131, 132, 133, 134, 135, 136, 137, 138, 139, 140] (by decide +kernel) (by decide +kernel)) (goodIn_sub (fun _ h => List.mem_cons_of_mem _ (List.mem_append_left _ (List.mem_append_right _ h))) (by decide +kernel))) (goodIn_sub (fun _ h => List.mem_cons_of_mem _ (List.mem_append_right _ h)) (by decide +kernel))
set_option maxRecDepth 20000 in
theorem gL_isSet_X4_canTake : GoodIn wsL_isSet (wsV RL 69 RX4 yX4_canTake wsX4_canTake) := goodIn_app (goodIn_of _ (by decide +kernel)) ggL_isSet_X4_canTake
set_option maxRecDepth 20000 in
theorem ggL_isSet_L_isSound : GoodIn wsL_isSet wsL_isSound := goodIn_ca (goodIn_r _ [68, 69, 70, 71, 4, 72, 6, 25, 26, 27, 28, 23, 24, 29, 30, 31, 16, 32, 18, 73, 52, 53, 54, 55, 56, 57, 58, 74, 75, 76, 77, 78, 60, 61, 62, 37, 63, 131, 132, 133, 134, 135, 136, 137, 138, 139, 140] (by decide +kernel) (by decide +kernel)) (goodIn_sub (fun _ h => List.mem_cons_of_mem _ (List.mem_append_right _ h)) (by decide +kernel))
set_option maxRecDepth 20000 in
theorem gL_isSet_L_isSound : GoodIn wsL_isSet (va_wsS RL 73 yL_isSound wsL_isSound) := goodIn_app (goodIn_of _ (by decide +kernel)) ggL_isSet_L_isSound
set_option maxRecDepth 20000 in
theorem ggL_isSet_X4_isSteady : GoodIn wsL_isSet wsX4_isSteady := goodIn_ca (goodIn_r _ [77, 6, 25, 26, 27, 4, 28, 23, 24, 29, 30, 31, 16, 32, 18, 78, 60, 61, 62, 37, 63, 56, 57, 58, 131, 132, 133, 134, 135, 136, 137, 138, 139, 140] (by decide +kernel) (by decide +kernel)) (goodIn_sub (fun _ h => List.mem_cons_of_mem _ (List.mem_append_right _ h)) (by decide +kernel))
set_option maxRecDepth 20000 in
theorem gL_isSet_X4_isSteady : GoodIn wsL_isSet (wsV RL 63 RX4 yX4_isSteady wsX4_isSteady) := goodIn_app (goodIn_of _ (by decide +kernel)) ggL_isSet_X4_isSteady
set_option maxRecDepth 20000 in
theorem ggL_isSet_L_ones : GoodIn wsL_isSet wsL_ones := goodIn_r _ [81] (by decide +kernel) (by decide +kernel)
set_option maxRecDepth 20000 in
theorem gL_isSet_L_ones : GoodIn wsL_isSet (va_wsS RL 39 yL_ones wsL_ones) := goodIn_app (goodIn_of _ (by decide +kernel)) ggL_isSet_L_ones
set_option maxRecDepth 20000 in
theorem ggL_isSet_X4_isConnected : GoodIn wsL_isSet wsX4_isConnected := goodIn_ca (goodIn_r _ [72, 6, 25, 26, 27, 4, 28, 23, 24, 29, 30, 31, 16, 32, 18, 73, 52, 53, 54, 55, 56, 57, 58, 131, 132, 133, 134, 135, 136, 137, 138, 139, 140] (by decide +kernel) (by decide +kernel)) (goodIn_sub (fun _ h => List.mem_cons_of_mem _ (List.mem_append_right _ h)) (by decide +kernel))
set_option maxRecDepth 20000 in
theorem gL_isSet_X4_isConnected : GoodIn wsL_isSet (wsV RL 59 RX4 yX4_isConnected wsX4_isConnected) := goodIn_app (goodIn_of _ (by decide +kernel)) ggL_isSet_X4_isConnected
set_option maxRecDepth 20000 in
theorem ggL_isSet_X4_splits : GoodIn wsL_isSet wsX4_splits := goodIn_ca (goodIn_r _ [85, 86, 25, 26, 27, 4, 28, 23, 24, 6, 29, 30, 31, 16, 32, 18, 87, 88, 89, 90, 91, 92, 93, 94, 95, 96, 97, 98, 99, 100, 101, 52, 53, 54, 55, 56, 57, 58, 102, 103, 104, 105, 106, 107, 108, 109, 110, 111, 112, 113, 114, 115, 116, 117, 118, 119, 37, 120, 121, 122, 123, 124, 125, 126, 127, 128, 129, 130, 131, 132, 133, 134, 135, 136, 137, 138, 139, 140, 141, 142, 143, 144, 145, 146] (by decide +kernel) (by decide +kernel)) (goodIn_sub (fun _ h => List.mem_cons_of_mem _ (List.mem_append_right _ h)) (by decide +kernel))
set_option maxRecDepth 20000 in
theorem gL_isSet_X4_splits : GoodIn wsL_isSet (wsV RL 77 RX4 yX4_splits wsX4_splits) := goodIn_app (goodIn_of _ (by decide +kernel)) ggL_isSet_X4_splits
theorem dL_isSet_0 : decode cL_isSet 0 = .ok (.iconst 1, 1) := by decide +kernel
theorem dL_isSet_1 : decode cL_isSet 1 = .ok (.istore_n 3, 1) := by decide +kernel
theorem dL_isSet_2 : decode cL_isSet 2 = .ok (.iconst 0, 1) := by decide +kernel
theorem dL_isSet_3 : decode cL_isSet 3 = .ok (.istore 4, 2) := by decide +kernel
theorem dL_isSet_5 : decode cL_isSet 5 = .ok (.iload 4, 2) := by decide +kernel
theorem dL_isSet_7 : decode cL_isSet 7 = .ok (.aload_n 1, 1) := by decide +kernel
theorem dL_isSet_8 : decode cL_isSet 8 = .ok (.bipush 56, 2) := by decide +kernel
theorem dL_isSet_10 : decode cL_isSet 10 = .ok (.iaload, 1) := by decide +kernel
theorem dL_isSet_11 : decode cL_isSet 11 = .ok (.if_icmp .ge 133, 3) := by decide +kernel
theorem dL_isSet_14 : decode cL_isSet 14 = .ok (.iload_n 3, 1) := by decide +kernel
theorem dL_isSet_15 : decode cL_isSet 15 = .ok (.ifCond .eq 129, 3) := by decide +kernel
theorem dL_isSet_18 : decode cL_isSet 18 = .ok (.iload_n 2, 1) := by decide +kernel
theorem dL_isSet_19 : decode cL_isSet 19 = .ok (.iload 4, 2) := by decide +kernel
theorem dL_isSet_21 : decode cL_isSet 21 = .ok (.ishr, 1) := by decide +kernel
theorem dL_isSet_22 : decode cL_isSet 22 = .ok (.iconst 1, 1) := by decide +kernel
theorem dL_isSet_23 : decode cL_isSet 23 = .ok (.iand, 1) := by decide +kernel
theorem dL_isSet_24 : decode cL_isSet 24 = .ok (.iconst 1, 1) := by decide +kernel
theorem dL_isSet_25 : decode cL_isSet 25 = .ok (.if_icmp .ne 113, 3) := by decide +kernel
theorem dL_isSet_28 : decode cL_isSet 28 = .ok (.iconst 0, 1) := by decide +kernel
theorem dL_isSet_29 : decode cL_isSet 29 = .ok (.istore 5, 2) := by decide +kernel
theorem dL_isSet_31 : decode cL_isSet 31 = .ok (.iconst 0, 1) := by decide +kernel
theorem dL_isSet_32 : decode cL_isSet 32 = .ok (.istore 6, 2) := by decide +kernel
theorem dL_isSet_34 : decode cL_isSet 34 = .ok (.iload 6, 2) := by decide +kernel
theorem dL_isSet_36 : decode cL_isSet 36 = .ok (.bipush 6, 2) := by decide +kernel
theorem dL_isSet_38 : decode cL_isSet 38 = .ok (.if_icmp .ge 37, 3) := by decide +kernel
theorem dL_isSet_41 : decode cL_isSet 41 = .ok (.iload 5, 2) := by decide +kernel
theorem dL_isSet_43 : decode cL_isSet 43 = .ok (.aload_n 1, 1) := by decide +kernel
theorem dL_isSet_44 : decode cL_isSet 44 = .ok (.bipush 8, 2) := by decide +kernel
theorem dL_isSet_46 : decode cL_isSet 46 = .ok (.iload 6, 2) := by decide +kernel
theorem dL_isSet_48 : decode cL_isSet 48 = .ok (.imul, 1) := by decide +kernel
theorem dL_isSet_49 : decode cL_isSet 49 = .ok (.iload 4, 2) := by decide +kernel
theorem dL_isSet_51 : decode cL_isSet 51 = .ok (.iadd, 1) := by decide +kernel
theorem dL_isSet_52 : decode cL_isSet 52 = .ok (.iaload, 1) := by decide +kernel
theorem dL_isSet_53 : decode cL_isSet 53 = .ok (.iload_n 2, 1) := by decide +kernel
theorem dL_isSet_54 : decode cL_isSet 54 = .ok (.iand, 1) := by decide +kernel
theorem dL_isSet_55 : decode cL_isSet 55 = .ok (.ifCond .ne 10, 3) := by decide +kernel
theorem dL_isSet_58 : decode cL_isSet 58 = .ok (.iconst 1, 1) := by decide +kernel
theorem dL_isSet_59 : decode cL_isSet 59 = .ok (.iload 6, 2) := by decide +kernel
theorem dL_isSet_61 : decode cL_isSet 61 = .ok (.ishl, 1) := by decide +kernel
theorem dL_isSet_62 : decode cL_isSet 62 = .ok (.goto 4, 3) := by decide +kernel
theorem dL_isSet_65 : decode cL_isSet 65 = .ok (.iconst 0, 1) := by decide +kernel
theorem dL_isSet_66 : decode cL_isSet 66 = .ok (.ior, 1) := by decide +kernel
theorem dL_isSet_67 : decode cL_isSet 67 = .ok (.istore 5, 2) := by decide +kernel
theorem dL_isSet_69 : decode cL_isSet 69 = .ok (.iinc 6 1, 3) := by decide +kernel
theorem dL_isSet_72 : decode cL_isSet 72 = .ok (.goto (-38), 3) := by decide +kernel
theorem dL_isSet_75 : decode cL_isSet 75 = .ok (.aload_n 0, 1) := by decide +kernel
theorem dL_isSet_76 : decode cL_isSet 76 = .ok (.iload_n 2, 1) := by decide +kernel
theorem dL_isSet_77 : decode cL_isSet 77 = .ok (.iload 4, 2) := by decide +kernel
theorem dL_isSet_79 : decode cL_isSet 79 = .ok (.invokevirtual 66, 3) := by decide +kernel
theorem dL_isSet_82 : decode cL_isSet 82 = .ok (.iload 5, 2) := by decide +kernel
theorem dL_isSet_84 : decode cL_isSet 84 = .ok (.if_icmp .ne 52, 3) := by decide +kernel
theorem dL_isSet_87 : decode cL_isSet 87 = .ok (.aload_n 0, 1) := by decide +kernel
theorem dL_isSet_88 : decode cL_isSet 88 = .ok (.iload_n 2, 1) := by decide +kernel
theorem dL_isSet_89 : decode cL_isSet 89 = .ok (.iload 4, 2) := by decide +kernel
theorem dL_isSet_91 : decode cL_isSet 91 = .ok (.invokevirtual 69, 3) := by decide +kernel
theorem dL_isSet_94 : decode cL_isSet 94 = .ok (.aload_n 0, 1) := by decide +kernel
theorem dL_isSet_95 : decode cL_isSet 95 = .ok (.aload_n 1, 1) := by decide +kernel
theorem dL_isSet_96 : decode cL_isSet 96 = .ok (.iload_n 2, 1) := by decide +kernel
theorem dL_isSet_97 : decode cL_isSet 97 = .ok (.invokestatic 73, 3) := by decide +kernel
theorem dL_isSet_100 : decode cL_isSet 100 = .ok (.ifCond .eq 28, 3) := by decide +kernel
theorem dL_isSet_103 : decode cL_isSet 103 = .ok (.iload 5, 2) := by decide +kernel
theorem dL_isSet_105 : decode cL_isSet 105 = .ok (.ifCond .eq 23, 3) := by decide +kernel
theorem dL_isSet_108 : decode cL_isSet 108 = .ok (.aload_n 0, 1) := by decide +kernel
theorem dL_isSet_109 : decode cL_isSet 109 = .ok (.aload_n 1, 1) := by decide +kernel
theorem dL_isSet_110 : decode cL_isSet 110 = .ok (.iload_n 2, 1) := by decide +kernel
theorem dL_isSet_111 : decode cL_isSet 111 = .ok (.iconst 1, 1) := by decide +kernel
theorem dL_isSet_112 : decode cL_isSet 112 = .ok (.iload 4, 2) := by decide +kernel
theorem dL_isSet_114 : decode cL_isSet 114 = .ok (.ishl, 1) := by decide +kernel
theorem dL_isSet_115 : decode cL_isSet 115 = .ok (.iconst (-1), 1) := by decide +kernel
theorem dL_isSet_116 : decode cL_isSet 116 = .ok (.ixor, 1) := by decide +kernel
theorem dL_isSet_117 : decode cL_isSet 117 = .ok (.iand, 1) := by decide +kernel
theorem dL_isSet_118 : decode cL_isSet 118 = .ok (.invokestatic 73, 3) := by decide +kernel
theorem dL_isSet_121 : decode cL_isSet 121 = .ok (.ifCond .eq 7, 3) := by decide +kernel
theorem dL_isSet_124 : decode cL_isSet 124 = .ok (.iconst 1, 1) := by decide +kernel
theorem dL_isSet_125 : decode cL_isSet 125 = .ok (.goto 4, 3) := by decide +kernel
theorem dL_isSet_128 : decode cL_isSet 128 = .ok (.iconst 0, 1) := by decide +kernel
theorem dL_isSet_129 : decode cL_isSet 129 = .ok (.if_icmp .ne 7, 3) := by decide +kernel
theorem dL_isSet_132 : decode cL_isSet 132 = .ok (.iconst 1, 1) := by decide +kernel
theorem dL_isSet_133 : decode cL_isSet 133 = .ok (.goto 4, 3) := by decide +kernel
theorem dL_isSet_136 : decode cL_isSet 136 = .ok (.iconst 0, 1) := by decide +kernel
theorem dL_isSet_137 : decode cL_isSet 137 = .ok (.istore_n 3, 1) := by decide +kernel
theorem dL_isSet_138 : decode cL_isSet 138 = .ok (.iinc 4 1, 3) := by decide +kernel
theorem dL_isSet_141 : decode cL_isSet 141 = .ok (.goto (-136), 3) := by decide +kernel
theorem dL_isSet_144 : decode cL_isSet 144 = .ok (.iload_n 3, 1) := by decide +kernel
theorem dL_isSet_145 : decode cL_isSet 145 = .ok (.ifCond .eq 67, 3) := by decide +kernel
theorem dL_isSet_148 : decode cL_isSet 148 = .ok (.aload_n 0, 1) := by decide +kernel
theorem dL_isSet_149 : decode cL_isSet 149 = .ok (.iload_n 2, 1) := by decide +kernel
theorem dL_isSet_150 : decode cL_isSet 150 = .ok (.invokevirtual 63, 3) := by decide +kernel
theorem dL_isSet_153 : decode cL_isSet 153 = .ok (.ifCond .eq 15, 3) := by decide +kernel
theorem dL_isSet_156 : decode cL_isSet 156 = .ok (.iload_n 2, 1) := by decide +kernel
theorem dL_isSet_157 : decode cL_isSet 157 = .ok (.aload_n 1, 1) := by decide +kernel
theorem dL_isSet_158 : decode cL_isSet 158 = .ok (.bipush 57, 2) := by decide +kernel
theorem dL_isSet_160 : decode cL_isSet 160 = .ok (.iaload, 1) := by decide +kernel
theorem dL_isSet_161 : decode cL_isSet 161 = .ok (.ishr, 1) := by decide +kernel
theorem dL_isSet_162 : decode cL_isSet 162 = .ok (.iconst 1, 1) := by decide +kernel
theorem dL_isSet_163 : decode cL_isSet 163 = .ok (.iand, 1) := by decide +kernel
theorem dL_isSet_164 : decode cL_isSet 164 = .ok (.iconst 1, 1) := by decide +kernel
theorem dL_isSet_165 : decode cL_isSet 165 = .ok (.if_icmp .ne 47, 3) := by decide +kernel
theorem dL_isSet_168 : decode cL_isSet 168 = .ok (.iload_n 2, 1) := by decide +kernel
theorem dL_isSet_169 : decode cL_isSet 169 = .ok (.invokestatic 39, 3) := by decide +kernel
theorem dL_isSet_172 : decode cL_isSet 172 = .ok (.iconst 1, 1) := by decide +kernel
theorem dL_isSet_173 : decode cL_isSet 173 = .ok (.if_icmp .gt 19, 3) := by decide +kernel
theorem dL_isSet_176 : decode cL_isSet 176 = .ok (.aload_n 0, 1) := by decide +kernel
theorem dL_isSet_177 : decode cL_isSet 177 = .ok (.iload_n 2, 1) := by decide +kernel
theorem dL_isSet_178 : decode cL_isSet 178 = .ok (.invokevirtual 59, 3) := by decide +kernel
theorem dL_isSet_181 : decode cL_isSet 181 = .ok (.ifCond .eq 31, 3) := by decide +kernel
theorem dL_isSet_184 : decode cL_isSet 184 = .ok (.aload_n 0, 1) := by decide +kernel
theorem dL_isSet_185 : decode cL_isSet 185 = .ok (.iload_n 2, 1) := by decide +kernel
theorem dL_isSet_186 : decode cL_isSet 186 = .ok (.invokevirtual 77, 3) := by decide +kernel
theorem dL_isSet_189 : decode cL_isSet 189 = .ok (.ifCond .ne 23, 3) := by decide +kernel
theorem dL_isSet_192 : decode cL_isSet 192 = .ok (.aload_n 0, 1) := by decide +kernel
theorem dL_isSet_193 : decode cL_isSet 193 = .ok (.iload_n 2, 1) := by decide +kernel
theorem dL_isSet_194 : decode cL_isSet 194 = .ok (.invokevirtual 59, 3) := by decide +kernel
theorem dL_isSet_197 : decode cL_isSet 197 = .ok (.ifCond .ne 11, 3) := by decide +kernel
theorem dL_isSet_200 : decode cL_isSet 200 = .ok (.aload_n 0, 1) := by decide +kernel
theorem dL_isSet_201 : decode cL_isSet 201 = .ok (.iload_n 2, 1) := by decide +kernel
theorem dL_isSet_202 : decode cL_isSet 202 = .ok (.invokevirtual 77, 3) := by decide +kernel
theorem dL_isSet_205 : decode cL_isSet 205 = .ok (.ifCond .ne 7, 3) := by decide +kernel
theorem dL_isSet_208 : decode cL_isSet 208 = .ok (.iconst 1, 1) := by decide +kernel
theorem dL_isSet_209 : decode cL_isSet 209 = .ok (.goto 4, 3) := by decide +kernel
theorem dL_isSet_212 : decode cL_isSet 212 = .ok (.iconst 0, 1) := by decide +kernel
theorem dL_isSet_213 : decode cL_isSet 213 = .ok (.ireturn, 1) := by decide +kernel
