set_option maxRecDepth 20000 in
theorem ggL_areOrders_X4_fewestChanges : GoodIn wsL_areOrders wsX4_fewestChanges := goodIn_ca (goodIn_r _ [5, 6, 7, 8, 9, 4, 10, 11, 12, 13, 14, 15, 16, 17, 18, 19, 20, 21, 22, 23, 24, 25, 26, 27, 28, 29, 30, 31, 32, 33, 34, 35, 36, 37, 38, 39, 40, 41, 42, 43, 44, 45, 46, 47, 48, 49, 50, 51, 52, 53, 54, 55, 56, 57, 58, 59, 60, 61, 62, 63, 64, 65, 66, 67, 68, 69, 70, 71, 72, 73, 74, 75, 76, 77, 78, 79, 80, 81, 82, 83, 84, 85, 86, 87, 88, 89, 90, 91, 92, 93, 94, 95, 96, 97, 98, 99, 100, 101, 102, 103, 314, 315, 316, 317, 318, 319, 320, 321, 322, 323, 324, 325, 326, 327, 328, 329, 330, 331] (by decide +kernel) (by decide +kernel)) (goodIn_sub (fun _ h => List.mem_cons_of_mem _ (List.mem_append_left _ (List.mem_append_left _ (List.mem_append_right _ h)))) (by decide +kernel))
set_option maxRecDepth 20000 in
theorem gL_areOrders_X4_fewestChanges : GoodIn wsL_areOrders (wsV RL 83 RX4 yX4_fewestChanges wsX4_fewestChanges) := goodIn_app (goodIn_of _ (by decide +kernel)) ggL_areOrders_X4_fewestChanges
set_option maxRecDepth 20000 in
theorem ggL_areOrders_X4_orders : GoodIn wsL_areOrders wsX4_orders := goodIn_ca (goodIn_r _ [107, 6, 7, 8, 9, 4, 10, 11, 12, 13, 14, 15, 16, 17, 18, 19, 108, 109, 110, 23, 111, 34, 26, 27, 28, 29, 30, 31, 32, 33, 35, 25, 36, 37, 38, 39, 40, 41, 42, 43, 44, 45, 46, 47, 48, 49, 50, 51, 52, 53, 54, 55, 56, 57, 58, 59, 60, 61, 62, 63, 64, 65, 66, 67, 68, 69, 70, 71, 72, 73, 74, 75, 76, 77, 78, 79, 80, 81, 82, 83, 84, 85, 86, 87, 88, 89, 90, 91, 92, 93, 94, 95, 96, 97, 98, 99, 100, 314, 315, 316, 317, 318, 319, 320, 321, 322, 323, 324, 325, 326, 327, 328, 329, 330, 331] (by decide +kernel) (by decide +kernel)) (goodIn_sub (fun _ h => List.mem_cons_of_mem _ (List.mem_append_left _ (List.mem_append_left _ (List.mem_append_right _ h)))) (by decide +kernel))
set_option maxRecDepth 20000 in
theorem gL_areOrders_X4_orders : GoodIn wsL_areOrders (wsV RL 86 RX4 yX4_orders wsX4_orders) := goodIn_app (goodIn_of _ (by decide +kernel)) ggL_areOrders_X4_orders
set_option maxRecDepth 20000 in
theorem ggL_areOrders_X4_fewestByListing : GoodIn wsL_areOrders wsX4_fewestByListing := goodIn_ca (goodIn_r _ [115, 11, 12, 13, 6, 7, 8, 9, 4, 10, 14, 15, 16, 17, 18, 19, 116, 117, 118, 23, 119, 26, 27, 28, 29, 30, 31, 32, 33, 34, 35, 25, 36, 37, 38, 39, 40, 41, 42, 43, 44, 45, 46, 47, 48, 49, 50, 51, 52, 53, 54, 55, 56, 57, 58, 59, 60, 61, 62, 63, 64, 65, 66, 67, 68, 69, 70, 71, 72, 73, 74, 75, 76, 77, 78, 79, 80, 81, 82, 83, 84, 85, 86, 87, 88, 89, 90, 91, 92, 93, 94, 95, 96, 97, 98, 99, 100, 120, 121, 122, 101, 102, 103, 314, 315, 316, 317, 318, 319, 320, 321, 322, 323, 324, 325, 326, 327, 328, 329, 330, 331] (by decide +kernel) (by decide +kernel)) (goodIn_sub (fun _ h => List.mem_cons_of_mem _ (List.mem_append_left _ (List.mem_append_left _ (List.mem_append_right _ h)))) (by decide +kernel))
set_option maxRecDepth 20000 in
theorem gL_areOrders_X4_fewestByListing : GoodIn wsL_areOrders (wsV RL 89 RX4 yX4_fewestByListing wsX4_fewestByListing) := goodIn_app (goodIn_of _ (by decide +kernel)) ggL_areOrders_X4_fewestByListing
set_option maxRecDepth 20000 in
theorem ggL_areOrders_X4_ways : GoodIn wsL_areOrders wsX4_ways := goodIn_ca (goodIn_r _ [126, 127, 13, 7, 8, 9, 4, 10, 11, 12, 14, 15, 16, 17, 18, 19, 128, 37, 38, 39, 129, 130, 131, 132, 133, 134, 135, 136, 137, 138, 139, 140, 141, 142, 143, 46, 47, 48, 49, 50, 51, 52, 144, 145, 146, 147, 148, 149, 150, 151, 152, 153, 154, 155, 156, 157, 158, 159, 160, 161, 57, 162, 163, 164, 165, 166, 167, 78, 168, 169, 77, 79, 314, 315, 316, 317, 318, 319, 320, 321, 322, 323, 332, 333, 334, 335, 336, 337] (by decide +kernel) (by decide +kernel)) (goodIn_sub (fun _ h => List.mem_cons_of_mem _ (List.mem_append_left _ (List.mem_append_left _ (List.mem_append_right _ h)))) (by decide +kernel))
set_option maxRecDepth 20000 in
theorem gL_areOrders_X4_ways : GoodIn wsL_areOrders (wsV RL 92 RX4 yX4_ways wsX4_ways) := goodIn_app (goodIn_of _ (by decide +kernel)) ggL_areOrders_X4_ways
set_option maxRecDepth 20000 in
theorem ggL_areOrders_X4_leastDepth : GoodIn wsL_areOrders wsX4_leastDepth := goodIn_ca (goodIn_r _ [173, 127, 13, 7, 8, 9, 4, 10, 11, 12, 14, 15, 16, 17, 18, 19, 128, 37, 38, 39, 174, 175, 176, 132, 177, 149, 135, 136, 137, 138, 139, 140, 141, 142, 143, 46, 47, 48, 49, 50, 51, 52, 144, 145, 146, 147, 148, 134, 150, 151, 152, 153, 154, 155, 156, 157, 158, 159, 160, 161, 57, 162, 163, 164, 165, 166, 167, 78, 168, 169, 77, 79, 314, 315, 316, 317, 318, 319, 320, 321, 322, 323, 332, 333, 334, 335, 336, 337] (by decide +kernel) (by decide +kernel)) (goodIn_sub (fun _ h => List.mem_cons_of_mem _ (List.mem_append_left _ (List.mem_append_left _ (List.mem_append_right _ h)))) (by decide +kernel))
set_option maxRecDepth 20000 in
theorem gL_areOrders_X4_leastDepth : GoodIn wsL_areOrders (wsV RL 95 RX4 yX4_leastDepth wsX4_leastDepth) := goodIn_app (goodIn_of _ (by decide +kernel)) ggL_areOrders_X4_leastDepth
set_option maxRecDepth 20000 in
theorem ggL_areOrders_X4_isConnected : GoodIn wsL_areOrders wsX4_isConnected := goodIn_ca (goodIn_r _ [181, 13, 182, 183, 184, 4, 185, 186, 187, 128, 37, 38, 17, 39, 19, 188, 46, 47, 48, 49, 50, 51, 52, 314, 315, 316, 317, 318, 319, 320, 321, 322, 323] (by decide +kernel) (by decide +kernel)) (goodIn_sub (fun _ h => List.mem_cons_of_mem _ (List.mem_append_left _ (List.mem_append_right _ h))) (by decide +kernel))
set_option maxRecDepth 20000 in
theorem gL_areOrders_X4_isConnected : GoodIn wsL_areOrders (wsV RL 59 RX4 yX4_isConnected wsX4_isConnected) := goodIn_app (goodIn_of _ (by decide +kernel)) ggL_areOrders_X4_isConnected
set_option maxRecDepth 20000 in
theorem ggL_areOrders_X4_orderAt : GoodIn wsL_areOrders wsX4_orderAt := goodIn_ca (goodIn_r _ [192, 193, 194, 6, 195, 196, 197, 23, 198, 31, 25, 96, 63, 15, 16, 17, 18, 19, 26, 27, 28, 29, 30, 32, 33, 34, 35, 36, 37, 38, 39, 40, 41, 42, 43, 44, 45, 46, 47, 48, 49, 50, 51, 52, 53, 54, 55, 56, 57, 58, 59, 60, 61, 62, 64, 65, 66, 67, 68, 69, 70, 71, 72, 73, 74, 75, 76, 77, 78, 79, 80, 81, 82, 83, 84, 85, 86, 87, 88, 89, 90, 91, 92, 93, 94, 95, 97, 98, 99, 100, 314, 315, 316, 317, 324, 325, 326, 327, 328, 329, 330, 331, 318, 319, 320, 321, 322, 323] (by decide +kernel) (by decide +kernel)) (goodIn_sub (fun _ h => List.mem_cons_of_mem _ (List.mem_append_right _ h)) (by decide +kernel))
set_option maxRecDepth 20000 in
theorem gL_areOrders_X4_orderAt : GoodIn wsL_areOrders (wsV RL 98 RX4 yX4_orderAt wsX4_orderAt) := goodIn_app (goodIn_of _ (by decide +kernel)) ggL_areOrders_X4_orderAt
set_option maxRecDepth 20000 in
theorem ggL_areOrders_X4_canTake : GoodIn wsL_areOrders wsX4_canTake := goodIn_ca (goodIn_ca (goodIn_r _ [202, 13, 203, 204, 205, 4, 206, 193, 194, 14, 15, 16, 17, 18, 19, 207, 208, 209, 210, 186, 187, 182, 183, 184, 185, 128, 37, 38, 39, 211, 212, 213, 214, 215, 41, 42, 43, 44, 45, 46, 47, 48, 49, 50, 51, 52, 53, 54, 55, 56, 57, 58, 216, 65, 66, 67, 314, 315, 316, 317, 318, 319, 320, 321, 322, 323] (by decide +kernel) (by decide +kernel)) (goodIn_sub (fun _ h => List.mem_cons_of_mem _ (List.mem_append_right _ h)) (by decide +kernel))) (goodIn_sub (fun _ h => List.mem_cons_of_mem _ (List.mem_append_left _ (List.mem_append_right _ h))) (by decide +kernel))
set_option maxRecDepth 20000 in
theorem gL_areOrders_X4_canTake : GoodIn wsL_areOrders (wsV RL 69 RX4 yX4_canTake wsX4_canTake) := goodIn_app (goodIn_of _ (by decide +kernel)) ggL_areOrders_X4_canTake
set_option maxRecDepth 20000 in
theorem ggL_areOrders_L_isRun : GoodIn wsL_areOrders wsL_isRun := goodIn_ca (goodIn_ca (goodIn_r _ [220, 221, 222, 223, 4, 224, 11, 12, 6, 225, 13, 7, 8, 9, 10, 14, 15, 16, 17, 18, 19, 20, 21, 22, 23, 24, 25, 26, 27, 28, 29, 30, 31, 32, 33, 34, 35, 36, 37, 38, 39, 40, 41, 42, 43, 44, 45, 46, 47, 48, 49, 50, 51, 52, 53, 54, 55, 56, 57, 58, 59, 60, 61, 62, 63, 64, 65, 66, 67, 68, 69, 70, 71, 72, 73, 74, 75, 76, 77, 78, 79, 80, 81, 82, 83, 84, 85, 86, 87, 88, 89, 90, 91, 92, 93, 94, 95, 96, 97, 98, 99, 100, 101, 102, 103, 226, 227, 228, 229, 230, 231, 232, 233, 234, 235, 236, 237, 238, 239, 240, 241, 242, 243, 244, 245, 246, 247, 248, 249, 250, 251, 252, 253, 254, 255, 256, 257, 258, 259, 260, 261, 262, 263, 264, 189, 190, 191, 192, 193, 194, 195, 196, 197, 198, 265, 266, 267, 268, 203, 204, 205, 206, 269, 270, 271, 272, 273, 274, 275, 276, 277, 278, 279, 280, 281, 282, 283, 284, 285, 286, 287, 288, 289, 290, 291, 292, 293, 294, 295, 296, 297, 298, 299, 300, 301, 1, 2, 3, 5, 302, 303, 304, 305, 306, 307, 308, 309, 310, 311, 312, 313, 314, 315, 316, 317, 318, 319, 320, 321, 322, 323, 324, 325, 326, 327, 328, 329, 330, 331, 338, 339, 340, 341, 342, 343, 344, 345] (by decide +kernel) (by decide +kernel)) (goodIn_sub (fun _ h => List.mem_cons_of_mem _ (List.mem_append_left _ (List.mem_append_left _ (List.mem_append_right _ h)))) (by decide +kernel))) (goodIn_sub (fun _ h => List.mem_cons_of_mem _ (List.mem_append_right _ h)) (by decide +kernel))
set_option maxRecDepth 20000 in
theorem gL_areOrders_L_isRun : GoodIn wsL_areOrders (va_wsS RL 101 yL_isRun wsL_isRun) := goodIn_app (goodIn_of _ (by decide +kernel)) ggL_areOrders_L_isRun
theorem dL_areOrders_0 : decode cL_areOrders 0 = .ok (.iconst 1, 1) := by decide +kernel
theorem dL_areOrders_1 : decode cL_areOrders 1 = .ok (.aload_n 1, 1) := by decide +kernel
theorem dL_areOrders_2 : decode cL_areOrders 2 = .ok (.bipush 56, 2) := by decide +kernel
theorem dL_areOrders_4 : decode cL_areOrders 4 = .ok (.iaload, 1) := by decide +kernel
theorem dL_areOrders_5 : decode cL_areOrders 5 = .ok (.ishl, 1) := by decide +kernel
theorem dL_areOrders_6 : decode cL_areOrders 6 = .ok (.iconst 1, 1) := by decide +kernel
theorem dL_areOrders_7 : decode cL_areOrders 7 = .ok (.isub, 1) := by decide +kernel
theorem dL_areOrders_8 : decode cL_areOrders 8 = .ok (.istore_n 3, 1) := by decide +kernel
theorem dL_areOrders_9 : decode cL_areOrders 9 = .ok (.aload_n 0, 1) := by decide +kernel
theorem dL_areOrders_10 : decode cL_areOrders 10 = .ok (.invokevirtual 83, 3) := by decide +kernel
theorem dL_areOrders_13 : decode cL_areOrders 13 = .ok (.istore 4, 2) := by decide +kernel
theorem dL_areOrders_15 : decode cL_areOrders 15 = .ok (.aload_n 0, 1) := by decide +kernel
theorem dL_areOrders_16 : decode cL_areOrders 16 = .ok (.invokevirtual 86, 3) := by decide +kernel
theorem dL_areOrders_19 : decode cL_areOrders 19 = .ok (.ifCond .le 7, 3) := by decide +kernel
theorem dL_areOrders_22 : decode cL_areOrders 22 = .ok (.iconst 1, 1) := by decide +kernel
theorem dL_areOrders_23 : decode cL_areOrders 23 = .ok (.goto 4, 3) := by decide +kernel
theorem dL_areOrders_26 : decode cL_areOrders 26 = .ok (.iconst 0, 1) := by decide +kernel
theorem dL_areOrders_27 : decode cL_areOrders 27 = .ok (.iload 4, 2) := by decide +kernel
theorem dL_areOrders_29 : decode cL_areOrders 29 = .ok (.iconst (-1), 1) := by decide +kernel
theorem dL_areOrders_30 : decode cL_areOrders 30 = .ok (.if_icmp .eq 7, 3) := by decide +kernel
theorem dL_areOrders_33 : decode cL_areOrders 33 = .ok (.iconst 1, 1) := by decide +kernel
theorem dL_areOrders_34 : decode cL_areOrders 34 = .ok (.goto 4, 3) := by decide +kernel
theorem dL_areOrders_37 : decode cL_areOrders 37 = .ok (.iconst 0, 1) := by decide +kernel
theorem dL_areOrders_38 : decode cL_areOrders 38 = .ok (.if_icmp .ne 83, 3) := by decide +kernel
theorem dL_areOrders_41 : decode cL_areOrders 41 = .ok (.aload_n 0, 1) := by decide +kernel
theorem dL_areOrders_42 : decode cL_areOrders 42 = .ok (.invokevirtual 89, 3) := by decide +kernel
theorem dL_areOrders_45 : decode cL_areOrders 45 = .ok (.iload 4, 2) := by decide +kernel
theorem dL_areOrders_47 : decode cL_areOrders 47 = .ok (.if_icmp .ne 74, 3) := by decide +kernel
theorem dL_areOrders_50 : decode cL_areOrders 50 = .ok (.aload_n 0, 1) := by decide +kernel
theorem dL_areOrders_51 : decode cL_areOrders 51 = .ok (.invokevirtual 92, 3) := by decide +kernel
theorem dL_areOrders_54 : decode cL_areOrders 54 = .ok (.ifCond .le 7, 3) := by decide +kernel
theorem dL_areOrders_57 : decode cL_areOrders 57 = .ok (.iconst 1, 1) := by decide +kernel
theorem dL_areOrders_58 : decode cL_areOrders 58 = .ok (.goto 4, 3) := by decide +kernel
theorem dL_areOrders_61 : decode cL_areOrders 61 = .ok (.iconst 0, 1) := by decide +kernel
theorem dL_areOrders_62 : decode cL_areOrders 62 = .ok (.aload_n 0, 1) := by decide +kernel
theorem dL_areOrders_63 : decode cL_areOrders 63 = .ok (.invokevirtual 95, 3) := by decide +kernel
theorem dL_areOrders_66 : decode cL_areOrders 66 = .ok (.iconst (-1), 1) := by decide +kernel
theorem dL_areOrders_67 : decode cL_areOrders 67 = .ok (.if_icmp .eq 7, 3) := by decide +kernel
theorem dL_areOrders_70 : decode cL_areOrders 70 = .ok (.iconst 1, 1) := by decide +kernel
theorem dL_areOrders_71 : decode cL_areOrders 71 = .ok (.goto 4, 3) := by decide +kernel
theorem dL_areOrders_74 : decode cL_areOrders 74 = .ok (.iconst 0, 1) := by decide +kernel
theorem dL_areOrders_75 : decode cL_areOrders 75 = .ok (.if_icmp .ne 46, 3) := by decide +kernel
theorem dL_areOrders_78 : decode cL_areOrders 78 = .ok (.aload_n 0, 1) := by decide +kernel
theorem dL_areOrders_79 : decode cL_areOrders 79 = .ok (.invokevirtual 92, 3) := by decide +kernel
theorem dL_areOrders_82 : decode cL_areOrders 82 = .ok (.ifCond .eq 35, 3) := by decide +kernel
theorem dL_areOrders_85 : decode cL_areOrders 85 = .ok (.aload_n 0, 1) := by decide +kernel
theorem dL_areOrders_86 : decode cL_areOrders 86 = .ok (.iload_n 3, 1) := by decide +kernel
theorem dL_areOrders_87 : decode cL_areOrders 87 = .ok (.invokevirtual 59, 3) := by decide +kernel
theorem dL_areOrders_90 : decode cL_areOrders 90 = .ok (.ifCond .eq 31, 3) := by decide +kernel
theorem dL_areOrders_93 : decode cL_areOrders 93 = .ok (.aload_n 0, 1) := by decide +kernel
theorem dL_areOrders_94 : decode cL_areOrders 94 = .ok (.invokevirtual 95, 3) := by decide +kernel
theorem dL_areOrders_97 : decode cL_areOrders 97 = .ok (.aload_n 1, 1) := by decide +kernel
theorem dL_areOrders_98 : decode cL_areOrders 98 = .ok (.bipush 56, 2) := by decide +kernel
theorem dL_areOrders_100 : decode cL_areOrders 100 = .ok (.iaload, 1) := by decide +kernel
theorem dL_areOrders_101 : decode cL_areOrders 101 = .ok (.if_icmp .ge 20, 3) := by decide +kernel
theorem dL_areOrders_104 : decode cL_areOrders 104 = .ok (.iconst 1, 1) := by decide +kernel
theorem dL_areOrders_105 : decode cL_areOrders 105 = .ok (.aload_n 0, 1) := by decide +kernel
theorem dL_areOrders_106 : decode cL_areOrders 106 = .ok (.invokevirtual 95, 3) := by decide +kernel
theorem dL_areOrders_109 : decode cL_areOrders 109 = .ok (.ishl, 1) := by decide +kernel
theorem dL_areOrders_110 : decode cL_areOrders 110 = .ok (.aload_n 1, 1) := by decide +kernel
theorem dL_areOrders_111 : decode cL_areOrders 111 = .ok (.bipush 56, 2) := by decide +kernel
theorem dL_areOrders_113 : decode cL_areOrders 113 = .ok (.iaload, 1) := by decide +kernel
theorem dL_areOrders_114 : decode cL_areOrders 114 = .ok (.if_icmp .lt 7, 3) := by decide +kernel
theorem dL_areOrders_117 : decode cL_areOrders 117 = .ok (.iconst 1, 1) := by decide +kernel
theorem dL_areOrders_118 : decode cL_areOrders 118 = .ok (.goto 4, 3) := by decide +kernel
theorem dL_areOrders_121 : decode cL_areOrders 121 = .ok (.iconst 0, 1) := by decide +kernel
theorem dL_areOrders_122 : decode cL_areOrders 122 = .ok (.istore 5, 2) := by decide +kernel
theorem dL_areOrders_124 : decode cL_areOrders 124 = .ok (.iload 4, 2) := by decide +kernel
theorem dL_areOrders_126 : decode cL_areOrders 126 = .ok (.iconst (-1), 1) := by decide +kernel
theorem dL_areOrders_127 : decode cL_areOrders 127 = .ok (.if_icmp .ne 6, 3) := by decide +kernel
theorem dL_areOrders_130 : decode cL_areOrders 130 = .ok (.iload 5, 2) := by decide +kernel
theorem dL_areOrders_132 : decode cL_areOrders 132 = .ok (.ireturn, 1) := by decide +kernel
theorem dL_areOrders_133 : decode cL_areOrders 133 = .ok (.iconst 0, 1) := by decide +kernel
theorem dL_areOrders_134 : decode cL_areOrders 134 = .ok (.istore 6, 2) := by decide +kernel
theorem dL_areOrders_136 : decode cL_areOrders 136 = .ok (.iconst 0, 1) := by decide +kernel
theorem dL_areOrders_137 : decode cL_areOrders 137 = .ok (.istore 7, 2) := by decide +kernel
theorem dL_areOrders_139 : decode cL_areOrders 139 = .ok (.iload 7, 2) := by decide +kernel
theorem dL_areOrders_141 : decode cL_areOrders 141 = .ok (.aload_n 1, 1) := by decide +kernel
theorem dL_areOrders_142 : decode cL_areOrders 142 = .ok (.bipush 56, 2) := by decide +kernel
theorem dL_areOrders_144 : decode cL_areOrders 144 = .ok (.iaload, 1) := by decide +kernel
theorem dL_areOrders_145 : decode cL_areOrders 145 = .ok (.if_icmp .ge 41, 3) := by decide +kernel
theorem dL_areOrders_148 : decode cL_areOrders 148 = .ok (.iload 5, 2) := by decide +kernel
theorem dL_areOrders_150 : decode cL_areOrders 150 = .ok (.ifCond .eq 36, 3) := by decide +kernel
theorem dL_areOrders_153 : decode cL_areOrders 153 = .ok (.iload 6, 2) := by decide +kernel
theorem dL_areOrders_155 : decode cL_areOrders 155 = .ok (.iconst 1, 1) := by decide +kernel
theorem dL_areOrders_156 : decode cL_areOrders 156 = .ok (.aload_n 0, 1) := by decide +kernel
theorem dL_areOrders_157 : decode cL_areOrders 157 = .ok (.iload 7, 2) := by decide +kernel
theorem dL_areOrders_159 : decode cL_areOrders 159 = .ok (.invokevirtual 98, 3) := by decide +kernel
theorem dL_areOrders_162 : decode cL_areOrders 162 = .ok (.ishl, 1) := by decide +kernel
theorem dL_areOrders_163 : decode cL_areOrders 163 = .ok (.ior, 1) := by decide +kernel
theorem dL_areOrders_164 : decode cL_areOrders 164 = .ok (.istore 6, 2) := by decide +kernel
theorem dL_areOrders_166 : decode cL_areOrders 166 = .ok (.aload_n 0, 1) := by decide +kernel
theorem dL_areOrders_167 : decode cL_areOrders 167 = .ok (.iload 6, 2) := by decide +kernel
theorem dL_areOrders_169 : decode cL_areOrders 169 = .ok (.aload_n 0, 1) := by decide +kernel
theorem dL_areOrders_170 : decode cL_areOrders 170 = .ok (.iload 7, 2) := by decide +kernel
theorem dL_areOrders_172 : decode cL_areOrders 172 = .ok (.invokevirtual 98, 3) := by decide +kernel
theorem dL_areOrders_175 : decode cL_areOrders 175 = .ok (.invokevirtual 69, 3) := by decide +kernel
theorem dL_areOrders_178 : decode cL_areOrders 178 = .ok (.istore 5, 2) := by decide +kernel
theorem dL_areOrders_180 : decode cL_areOrders 180 = .ok (.iinc 7 1, 3) := by decide +kernel
theorem dL_areOrders_183 : decode cL_areOrders 183 = .ok (.goto (-44), 3) := by decide +kernel
theorem dL_areOrders_186 : decode cL_areOrders 186 = .ok (.iload 5, 2) := by decide +kernel
theorem dL_areOrders_188 : decode cL_areOrders 188 = .ok (.ifCond .eq 31, 3) := by decide +kernel
theorem dL_areOrders_191 : decode cL_areOrders 191 = .ok (.iload 6, 2) := by decide +kernel
theorem dL_areOrders_193 : decode cL_areOrders 193 = .ok (.iload_n 3, 1) := by decide +kernel
theorem dL_areOrders_194 : decode cL_areOrders 194 = .ok (.if_icmp .ne 25, 3) := by decide +kernel
theorem dL_areOrders_197 : decode cL_areOrders 197 = .ok (.iload 4, 2) := by decide +kernel
theorem dL_areOrders_199 : decode cL_areOrders 199 = .ok (.aload_n 1, 1) := by decide +kernel
theorem dL_areOrders_200 : decode cL_areOrders 200 = .ok (.bipush 56, 2) := by decide +kernel
theorem dL_areOrders_202 : decode cL_areOrders 202 = .ok (.iaload, 1) := by decide +kernel
theorem dL_areOrders_203 : decode cL_areOrders 203 = .ok (.if_icmp .ge 16, 3) := by decide +kernel
theorem dL_areOrders_206 : decode cL_areOrders 206 = .ok (.aload_n 0, 1) := by decide +kernel
theorem dL_areOrders_207 : decode cL_areOrders 207 = .ok (.aload_n 1, 1) := by decide +kernel
theorem dL_areOrders_208 : decode cL_areOrders 208 = .ok (.iload_n 2, 1) := by decide +kernel
theorem dL_areOrders_209 : decode cL_areOrders 209 = .ok (.invokestatic 101, 3) := by decide +kernel
theorem dL_areOrders_212 : decode cL_areOrders 212 = .ok (.ifCond .eq 7, 3) := by decide +kernel
theorem dL_areOrders_215 : decode cL_areOrders 215 = .ok (.iconst 1, 1) := by decide +kernel
theorem dL_areOrders_216 : decode cL_areOrders 216 = .ok (.goto 4, 3) := by decide +kernel
theorem dL_areOrders_219 : decode cL_areOrders 219 = .ok (.iconst 0, 1) := by decide +kernel
theorem dL_areOrders_220 : decode cL_areOrders 220 = .ok (.ireturn, 1) := by decide +kernel
