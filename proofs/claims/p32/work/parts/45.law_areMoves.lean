set_option maxRecDepth 20000 in
theorem ggL_areMoves_X4_movesWith : GoodIn wsL_areMoves wsX4_movesWith := goodIn_ca (goodIn_r _ [5, 6, 7, 8, 9, 4, 10, 11, 12, 13, 14, 15, 16, 17, 18, 19, 20, 21, 22, 23, 24, 25, 26, 27, 28, 29, 30, 31, 32, 33, 34, 56, 57, 58, 59, 60, 61, 62, 63, 64, 65] (by decide +kernel) (by decide +kernel)) (goodIn_sub (fun _ h => List.mem_cons_of_mem _ (List.mem_append_right _ h)) (by decide +kernel))
set_option maxRecDepth 20000 in
theorem gL_areMoves_X4_movesWith : GoodIn wsL_areMoves (wsV RL 32 RX4 yX4_movesWith wsX4_movesWith) := goodIn_app (goodIn_of _ (by decide +kernel)) ggL_areMoves_X4_movesWith
set_option maxRecDepth 20000 in
theorem ggL_areMoves_X4_boundTo : GoodIn wsL_areMoves wsX4_boundTo := goodIn_ca (goodIn_r _ [38, 6, 7, 8, 9, 4, 10, 11, 12, 13, 14, 15, 16, 17, 18, 19, 20, 21, 22, 39, 40, 41, 42, 43, 24, 25, 26, 27, 28, 29, 30, 31, 32, 33, 34, 44, 45, 46, 56, 57, 58, 59, 60, 61, 62, 63, 64, 65] (by decide +kernel) (by decide +kernel)) (goodIn_sub (fun _ h => List.mem_cons_of_mem _ (List.mem_append_right _ h)) (by decide +kernel))
set_option maxRecDepth 20000 in
theorem gL_areMoves_X4_boundTo : GoodIn wsL_areMoves (wsV RL 42 RX4 yX4_boundTo wsX4_boundTo) := goodIn_app (goodIn_of _ (by decide +kernel)) ggL_areMoves_X4_boundTo
set_option maxRecDepth 20000 in
theorem ggL_areMoves_X4_groups : GoodIn wsL_areMoves wsX4_groups := goodIn_ca (goodIn_r _ [50, 6, 19, 20, 21, 4, 22, 11, 12, 51, 52, 53, 16, 54, 18, 55, 40, 41, 42, 43, 24, 25, 26, 27, 28, 29, 30, 31, 32, 33, 34, 44, 45, 46, 56, 57, 58, 59, 60, 61, 62, 63, 64, 65] (by decide +kernel) (by decide +kernel)) (goodIn_sub (fun _ h => List.mem_cons_of_mem _ (List.mem_append_right _ h)) (by decide +kernel))
set_option maxRecDepth 20000 in
theorem gL_areMoves_X4_groups : GoodIn wsL_areMoves (wsV RL 80 RX4 yX4_groups wsX4_groups) := goodIn_app (goodIn_of _ (by decide +kernel)) ggL_areMoves_X4_groups
theorem dL_areMoves_0 : decode cL_areMoves 0 = .ok (.iconst 0, 1) := by decide +kernel
theorem dL_areMoves_1 : decode cL_areMoves 1 = .ok (.istore_n 3, 1) := by decide +kernel
theorem dL_areMoves_2 : decode cL_areMoves 2 = .ok (.iconst 1, 1) := by decide +kernel
theorem dL_areMoves_3 : decode cL_areMoves 3 = .ok (.istore 4, 2) := by decide +kernel
theorem dL_areMoves_5 : decode cL_areMoves 5 = .ok (.iconst 0, 1) := by decide +kernel
theorem dL_areMoves_6 : decode cL_areMoves 6 = .ok (.istore 5, 2) := by decide +kernel
theorem dL_areMoves_8 : decode cL_areMoves 8 = .ok (.iload 5, 2) := by decide +kernel
theorem dL_areMoves_10 : decode cL_areMoves 10 = .ok (.aload_n 1, 1) := by decide +kernel
theorem dL_areMoves_11 : decode cL_areMoves 11 = .ok (.bipush 56, 2) := by decide +kernel
theorem dL_areMoves_13 : decode cL_areMoves 13 = .ok (.iaload, 1) := by decide +kernel
theorem dL_areMoves_14 : decode cL_areMoves 14 = .ok (.if_icmp .ge 282, 3) := by decide +kernel
theorem dL_areMoves_17 : decode cL_areMoves 17 = .ok (.iload 4, 2) := by decide +kernel
theorem dL_areMoves_19 : decode cL_areMoves 19 = .ok (.ifCond .eq 277, 3) := by decide +kernel
theorem dL_areMoves_22 : decode cL_areMoves 22 = .ok (.aload_n 0, 1) := by decide +kernel
theorem dL_areMoves_23 : decode cL_areMoves 23 = .ok (.iload 5, 2) := by decide +kernel
theorem dL_areMoves_25 : decode cL_areMoves 25 = .ok (.iload_n 2, 1) := by decide +kernel
theorem dL_areMoves_26 : decode cL_areMoves 26 = .ok (.invokevirtual 32, 3) := by decide +kernel
theorem dL_areMoves_29 : decode cL_areMoves 29 = .ok (.istore 6, 2) := by decide +kernel
theorem dL_areMoves_31 : decode cL_areMoves 31 = .ok (.aload_n 0, 1) := by decide +kernel
theorem dL_areMoves_32 : decode cL_areMoves 32 = .ok (.iload 5, 2) := by decide +kernel
theorem dL_areMoves_34 : decode cL_areMoves 34 = .ok (.iload_n 2, 1) := by decide +kernel
theorem dL_areMoves_35 : decode cL_areMoves 35 = .ok (.invokevirtual 42, 3) := by decide +kernel
theorem dL_areMoves_38 : decode cL_areMoves 38 = .ok (.istore 7, 2) := by decide +kernel
theorem dL_areMoves_40 : decode cL_areMoves 40 = .ok (.iconst 0, 1) := by decide +kernel
theorem dL_areMoves_41 : decode cL_areMoves 41 = .ok (.istore 8, 2) := by decide +kernel
theorem dL_areMoves_43 : decode cL_areMoves 43 = .ok (.iload 6, 2) := by decide +kernel
theorem dL_areMoves_45 : decode cL_areMoves 45 = .ok (.iload 5, 2) := by decide +kernel
theorem dL_areMoves_47 : decode cL_areMoves 47 = .ok (.ishr, 1) := by decide +kernel
theorem dL_areMoves_48 : decode cL_areMoves 48 = .ok (.iconst 1, 1) := by decide +kernel
theorem dL_areMoves_49 : decode cL_areMoves 49 = .ok (.iand, 1) := by decide +kernel
theorem dL_areMoves_50 : decode cL_areMoves 50 = .ok (.iconst 1, 1) := by decide +kernel
theorem dL_areMoves_51 : decode cL_areMoves 51 = .ok (.if_icmp .ne 28, 3) := by decide +kernel
theorem dL_areMoves_54 : decode cL_areMoves 54 = .ok (.iload 7, 2) := by decide +kernel
theorem dL_areMoves_56 : decode cL_areMoves 56 = .ok (.iload 6, 2) := by decide +kernel
theorem dL_areMoves_58 : decode cL_areMoves 58 = .ok (.iconst (-1), 1) := by decide +kernel
theorem dL_areMoves_59 : decode cL_areMoves 59 = .ok (.ixor, 1) := by decide +kernel
theorem dL_areMoves_60 : decode cL_areMoves 60 = .ok (.iand, 1) := by decide +kernel
theorem dL_areMoves_61 : decode cL_areMoves 61 = .ok (.ifCond .ne 18, 3) := by decide +kernel
theorem dL_areMoves_64 : decode cL_areMoves 64 = .ok (.iload 7, 2) := by decide +kernel
theorem dL_areMoves_66 : decode cL_areMoves 66 = .ok (.iload 5, 2) := by decide +kernel
theorem dL_areMoves_68 : decode cL_areMoves 68 = .ok (.ishr, 1) := by decide +kernel
theorem dL_areMoves_69 : decode cL_areMoves 69 = .ok (.iconst 1, 1) := by decide +kernel
theorem dL_areMoves_70 : decode cL_areMoves 70 = .ok (.iand, 1) := by decide +kernel
theorem dL_areMoves_71 : decode cL_areMoves 71 = .ok (.iconst 1, 1) := by decide +kernel
theorem dL_areMoves_72 : decode cL_areMoves 72 = .ok (.if_icmp .ne 7, 3) := by decide +kernel
theorem dL_areMoves_75 : decode cL_areMoves 75 = .ok (.iconst 1, 1) := by decide +kernel
theorem dL_areMoves_76 : decode cL_areMoves 76 = .ok (.goto 4, 3) := by decide +kernel
theorem dL_areMoves_79 : decode cL_areMoves 79 = .ok (.iconst 0, 1) := by decide +kernel
theorem dL_areMoves_80 : decode cL_areMoves 80 = .ok (.istore 4, 2) := by decide +kernel
theorem dL_areMoves_82 : decode cL_areMoves 82 = .ok (.iconst 0, 1) := by decide +kernel
theorem dL_areMoves_83 : decode cL_areMoves 83 = .ok (.istore 9, 2) := by decide +kernel
theorem dL_areMoves_85 : decode cL_areMoves 85 = .ok (.iload 9, 2) := by decide +kernel
theorem dL_areMoves_87 : decode cL_areMoves 87 = .ok (.aload_n 1, 1) := by decide +kernel
theorem dL_areMoves_88 : decode cL_areMoves 88 = .ok (.bipush 56, 2) := by decide +kernel
theorem dL_areMoves_90 : decode cL_areMoves 90 = .ok (.iaload, 1) := by decide +kernel
theorem dL_areMoves_91 : decode cL_areMoves 91 = .ok (.if_icmp .ge 139, 3) := by decide +kernel
theorem dL_areMoves_94 : decode cL_areMoves 94 = .ok (.iload 6, 2) := by decide +kernel
theorem dL_areMoves_96 : decode cL_areMoves 96 = .ok (.iload 9, 2) := by decide +kernel
theorem dL_areMoves_98 : decode cL_areMoves 98 = .ok (.ishr, 1) := by decide +kernel
theorem dL_areMoves_99 : decode cL_areMoves 99 = .ok (.iconst 1, 1) := by decide +kernel
theorem dL_areMoves_100 : decode cL_areMoves 100 = .ok (.iand, 1) := by decide +kernel
theorem dL_areMoves_101 : decode cL_areMoves 101 = .ok (.iconst 1, 1) := by decide +kernel
theorem dL_areMoves_102 : decode cL_areMoves 102 = .ok (.if_icmp .ne 7, 3) := by decide +kernel
theorem dL_areMoves_105 : decode cL_areMoves 105 = .ok (.iconst 1, 1) := by decide +kernel
theorem dL_areMoves_106 : decode cL_areMoves 106 = .ok (.goto 4, 3) := by decide +kernel
theorem dL_areMoves_109 : decode cL_areMoves 109 = .ok (.iconst 0, 1) := by decide +kernel
theorem dL_areMoves_110 : decode cL_areMoves 110 = .ok (.istore 10, 2) := by decide +kernel
theorem dL_areMoves_112 : decode cL_areMoves 112 = .ok (.iload 4, 2) := by decide +kernel
theorem dL_areMoves_114 : decode cL_areMoves 114 = .ok (.ifCond .eq 44, 3) := by decide +kernel
theorem dL_areMoves_117 : decode cL_areMoves 117 = .ok (.iload 10, 2) := by decide +kernel
theorem dL_areMoves_119 : decode cL_areMoves 119 = .ok (.ifCond .eq 35, 3) := by decide +kernel
theorem dL_areMoves_122 : decode cL_areMoves 122 = .ok (.aload_n 1, 1) := by decide +kernel
theorem dL_areMoves_123 : decode cL_areMoves 123 = .ok (.bipush 8, 2) := by decide +kernel
theorem dL_areMoves_125 : decode cL_areMoves 125 = .ok (.iload_n 2, 1) := by decide +kernel
theorem dL_areMoves_126 : decode cL_areMoves 126 = .ok (.imul, 1) := by decide +kernel
theorem dL_areMoves_127 : decode cL_areMoves 127 = .ok (.iload 9, 2) := by decide +kernel
theorem dL_areMoves_129 : decode cL_areMoves 129 = .ok (.iadd, 1) := by decide +kernel
theorem dL_areMoves_130 : decode cL_areMoves 130 = .ok (.iaload, 1) := by decide +kernel
theorem dL_areMoves_131 : decode cL_areMoves 131 = .ok (.iload 6, 2) := by decide +kernel
theorem dL_areMoves_133 : decode cL_areMoves 133 = .ok (.iconst (-1), 1) := by decide +kernel
theorem dL_areMoves_134 : decode cL_areMoves 134 = .ok (.ixor, 1) := by decide +kernel
theorem dL_areMoves_135 : decode cL_areMoves 135 = .ok (.iand, 1) := by decide +kernel
theorem dL_areMoves_136 : decode cL_areMoves 136 = .ok (.ifCond .ne 22, 3) := by decide +kernel
theorem dL_areMoves_139 : decode cL_areMoves 139 = .ok (.aload_n 0, 1) := by decide +kernel
theorem dL_areMoves_140 : decode cL_areMoves 140 = .ok (.iload 9, 2) := by decide +kernel
theorem dL_areMoves_142 : decode cL_areMoves 142 = .ok (.iload_n 2, 1) := by decide +kernel
theorem dL_areMoves_143 : decode cL_areMoves 143 = .ok (.invokevirtual 32, 3) := by decide +kernel
theorem dL_areMoves_146 : decode cL_areMoves 146 = .ok (.iload 6, 2) := by decide +kernel
theorem dL_areMoves_148 : decode cL_areMoves 148 = .ok (.iconst (-1), 1) := by decide +kernel
theorem dL_areMoves_149 : decode cL_areMoves 149 = .ok (.ixor, 1) := by decide +kernel
theorem dL_areMoves_150 : decode cL_areMoves 150 = .ok (.iand, 1) := by decide +kernel
theorem dL_areMoves_151 : decode cL_areMoves 151 = .ok (.ifCond .ne 7, 3) := by decide +kernel
theorem dL_areMoves_154 : decode cL_areMoves 154 = .ok (.iconst 1, 1) := by decide +kernel
theorem dL_areMoves_155 : decode cL_areMoves 155 = .ok (.goto 4, 3) := by decide +kernel
theorem dL_areMoves_158 : decode cL_areMoves 158 = .ok (.iconst 0, 1) := by decide +kernel
theorem dL_areMoves_159 : decode cL_areMoves 159 = .ok (.istore 4, 2) := by decide +kernel
theorem dL_areMoves_161 : decode cL_areMoves 161 = .ok (.iload 4, 2) := by decide +kernel
theorem dL_areMoves_163 : decode cL_areMoves 163 = .ok (.ifCond .eq 38, 3) := by decide +kernel
theorem dL_areMoves_166 : decode cL_areMoves 166 = .ok (.iload 7, 2) := by decide +kernel
theorem dL_areMoves_168 : decode cL_areMoves 168 = .ok (.iload 9, 2) := by decide +kernel
theorem dL_areMoves_170 : decode cL_areMoves 170 = .ok (.ishr, 1) := by decide +kernel
theorem dL_areMoves_171 : decode cL_areMoves 171 = .ok (.iconst 1, 1) := by decide +kernel
theorem dL_areMoves_172 : decode cL_areMoves 172 = .ok (.iand, 1) := by decide +kernel
theorem dL_areMoves_173 : decode cL_areMoves 173 = .ok (.iload 10, 2) := by decide +kernel
theorem dL_areMoves_175 : decode cL_areMoves 175 = .ok (.ifCond .eq 18, 3) := by decide +kernel
theorem dL_areMoves_178 : decode cL_areMoves 178 = .ok (.aload_n 0, 1) := by decide +kernel
theorem dL_areMoves_179 : decode cL_areMoves 179 = .ok (.iload 9, 2) := by decide +kernel
theorem dL_areMoves_181 : decode cL_areMoves 181 = .ok (.iload_n 2, 1) := by decide +kernel
theorem dL_areMoves_182 : decode cL_areMoves 182 = .ok (.invokevirtual 32, 3) := by decide +kernel
theorem dL_areMoves_185 : decode cL_areMoves 185 = .ok (.iload 5, 2) := by decide +kernel
theorem dL_areMoves_187 : decode cL_areMoves 187 = .ok (.ishr, 1) := by decide +kernel
theorem dL_areMoves_188 : decode cL_areMoves 188 = .ok (.iconst 1, 1) := by decide +kernel
theorem dL_areMoves_189 : decode cL_areMoves 189 = .ok (.iand, 1) := by decide +kernel
theorem dL_areMoves_190 : decode cL_areMoves 190 = .ok (.goto 4, 3) := by decide +kernel
theorem dL_areMoves_193 : decode cL_areMoves 193 = .ok (.iconst 0, 1) := by decide +kernel
theorem dL_areMoves_194 : decode cL_areMoves 194 = .ok (.if_icmp .ne 7, 3) := by decide +kernel
theorem dL_areMoves_197 : decode cL_areMoves 197 = .ok (.iconst 1, 1) := by decide +kernel
theorem dL_areMoves_198 : decode cL_areMoves 198 = .ok (.goto 4, 3) := by decide +kernel
theorem dL_areMoves_201 : decode cL_areMoves 201 = .ok (.iconst 0, 1) := by decide +kernel
theorem dL_areMoves_202 : decode cL_areMoves 202 = .ok (.istore 4, 2) := by decide +kernel
theorem dL_areMoves_204 : decode cL_areMoves 204 = .ok (.iload 8, 2) := by decide +kernel
theorem dL_areMoves_206 : decode cL_areMoves 206 = .ok (.aload_n 0, 1) := by decide +kernel
theorem dL_areMoves_207 : decode cL_areMoves 207 = .ok (.iload 9, 2) := by decide +kernel
theorem dL_areMoves_209 : decode cL_areMoves 209 = .ok (.iload_n 2, 1) := by decide +kernel
theorem dL_areMoves_210 : decode cL_areMoves 210 = .ok (.invokevirtual 32, 3) := by decide +kernel
theorem dL_areMoves_213 : decode cL_areMoves 213 = .ok (.iload 5, 2) := by decide +kernel
theorem dL_areMoves_215 : decode cL_areMoves 215 = .ok (.ishr, 1) := by decide +kernel
theorem dL_areMoves_216 : decode cL_areMoves 216 = .ok (.iconst 1, 1) := by decide +kernel
theorem dL_areMoves_217 : decode cL_areMoves 217 = .ok (.iand, 1) := by decide +kernel
theorem dL_areMoves_218 : decode cL_areMoves 218 = .ok (.iload 9, 2) := by decide +kernel
theorem dL_areMoves_220 : decode cL_areMoves 220 = .ok (.ishl, 1) := by decide +kernel
theorem dL_areMoves_221 : decode cL_areMoves 221 = .ok (.ior, 1) := by decide +kernel
theorem dL_areMoves_222 : decode cL_areMoves 222 = .ok (.istore 8, 2) := by decide +kernel
theorem dL_areMoves_224 : decode cL_areMoves 224 = .ok (.iinc 9 1, 3) := by decide +kernel
theorem dL_areMoves_227 : decode cL_areMoves 227 = .ok (.goto (-142), 3) := by decide +kernel
theorem dL_areMoves_230 : decode cL_areMoves 230 = .ok (.iload 4, 2) := by decide +kernel
theorem dL_areMoves_232 : decode cL_areMoves 232 = .ok (.ifCond .eq 35, 3) := by decide +kernel
theorem dL_areMoves_235 : decode cL_areMoves 235 = .ok (.aload_n 0, 1) := by decide +kernel
theorem dL_areMoves_236 : decode cL_areMoves 236 = .ok (.iload 5, 2) := by decide +kernel
theorem dL_areMoves_238 : decode cL_areMoves 238 = .ok (.iload_n 2, 1) := by decide +kernel
theorem dL_areMoves_239 : decode cL_areMoves 239 = .ok (.iconst 1, 1) := by decide +kernel
theorem dL_areMoves_240 : decode cL_areMoves 240 = .ok (.ixor, 1) := by decide +kernel
theorem dL_areMoves_241 : decode cL_areMoves 241 = .ok (.invokevirtual 32, 3) := by decide +kernel
theorem dL_areMoves_244 : decode cL_areMoves 244 = .ok (.iload 8, 2) := by decide +kernel
theorem dL_areMoves_246 : decode cL_areMoves 246 = .ok (.if_icmp .ne 21, 3) := by decide +kernel
theorem dL_areMoves_249 : decode cL_areMoves 249 = .ok (.aload_n 0, 1) := by decide +kernel
theorem dL_areMoves_250 : decode cL_areMoves 250 = .ok (.iload 5, 2) := by decide +kernel
theorem dL_areMoves_252 : decode cL_areMoves 252 = .ok (.iload_n 2, 1) := by decide +kernel
theorem dL_areMoves_253 : decode cL_areMoves 253 = .ok (.iconst 1, 1) := by decide +kernel
theorem dL_areMoves_254 : decode cL_areMoves 254 = .ok (.ixor, 1) := by decide +kernel
theorem dL_areMoves_255 : decode cL_areMoves 255 = .ok (.invokevirtual 42, 3) := by decide +kernel
theorem dL_areMoves_258 : decode cL_areMoves 258 = .ok (.iload 7, 2) := by decide +kernel
theorem dL_areMoves_260 : decode cL_areMoves 260 = .ok (.if_icmp .ne 7, 3) := by decide +kernel
theorem dL_areMoves_263 : decode cL_areMoves 263 = .ok (.iconst 1, 1) := by decide +kernel
theorem dL_areMoves_264 : decode cL_areMoves 264 = .ok (.goto 4, 3) := by decide +kernel
theorem dL_areMoves_267 : decode cL_areMoves 267 = .ok (.iconst 0, 1) := by decide +kernel
theorem dL_areMoves_268 : decode cL_areMoves 268 = .ok (.istore 4, 2) := by decide +kernel
theorem dL_areMoves_270 : decode cL_areMoves 270 = .ok (.iload_n 3, 1) := by decide +kernel
theorem dL_areMoves_271 : decode cL_areMoves 271 = .ok (.iload 7, 2) := by decide +kernel
theorem dL_areMoves_273 : decode cL_areMoves 273 = .ok (.iconst 1, 1) := by decide +kernel
theorem dL_areMoves_274 : decode cL_areMoves 274 = .ok (.iload 5, 2) := by decide +kernel
theorem dL_areMoves_276 : decode cL_areMoves 276 = .ok (.ishl, 1) := by decide +kernel
theorem dL_areMoves_277 : decode cL_areMoves 277 = .ok (.iconst 1, 1) := by decide +kernel
theorem dL_areMoves_278 : decode cL_areMoves 278 = .ok (.isub, 1) := by decide +kernel
theorem dL_areMoves_279 : decode cL_areMoves 279 = .ok (.iand, 1) := by decide +kernel
theorem dL_areMoves_280 : decode cL_areMoves 280 = .ok (.ifCond .ne 7, 3) := by decide +kernel
theorem dL_areMoves_283 : decode cL_areMoves 283 = .ok (.iconst 1, 1) := by decide +kernel
theorem dL_areMoves_284 : decode cL_areMoves 284 = .ok (.goto 4, 3) := by decide +kernel
theorem dL_areMoves_287 : decode cL_areMoves 287 = .ok (.iconst 0, 1) := by decide +kernel
theorem dL_areMoves_288 : decode cL_areMoves 288 = .ok (.iadd, 1) := by decide +kernel
theorem dL_areMoves_289 : decode cL_areMoves 289 = .ok (.istore_n 3, 1) := by decide +kernel
theorem dL_areMoves_290 : decode cL_areMoves 290 = .ok (.iinc 5 1, 3) := by decide +kernel
theorem dL_areMoves_293 : decode cL_areMoves 293 = .ok (.goto (-285), 3) := by decide +kernel
theorem dL_areMoves_296 : decode cL_areMoves 296 = .ok (.iload 4, 2) := by decide +kernel
theorem dL_areMoves_298 : decode cL_areMoves 298 = .ok (.ifCond .eq 27, 3) := by decide +kernel
theorem dL_areMoves_301 : decode cL_areMoves 301 = .ok (.aload_n 0, 1) := by decide +kernel
theorem dL_areMoves_302 : decode cL_areMoves 302 = .ok (.iload_n 2, 1) := by decide +kernel
theorem dL_areMoves_303 : decode cL_areMoves 303 = .ok (.invokevirtual 80, 3) := by decide +kernel
theorem dL_areMoves_306 : decode cL_areMoves 306 = .ok (.iload_n 3, 1) := by decide +kernel
theorem dL_areMoves_307 : decode cL_areMoves 307 = .ok (.if_icmp .ne 18, 3) := by decide +kernel
theorem dL_areMoves_310 : decode cL_areMoves 310 = .ok (.aload_n 0, 1) := by decide +kernel
theorem dL_areMoves_311 : decode cL_areMoves 311 = .ok (.iload_n 2, 1) := by decide +kernel
theorem dL_areMoves_312 : decode cL_areMoves 312 = .ok (.iconst 1, 1) := by decide +kernel
theorem dL_areMoves_313 : decode cL_areMoves 313 = .ok (.ixor, 1) := by decide +kernel
theorem dL_areMoves_314 : decode cL_areMoves 314 = .ok (.invokevirtual 80, 3) := by decide +kernel
theorem dL_areMoves_317 : decode cL_areMoves 317 = .ok (.iload_n 3, 1) := by decide +kernel
theorem dL_areMoves_318 : decode cL_areMoves 318 = .ok (.if_icmp .ne 7, 3) := by decide +kernel
theorem dL_areMoves_321 : decode cL_areMoves 321 = .ok (.iconst 1, 1) := by decide +kernel
theorem dL_areMoves_322 : decode cL_areMoves 322 = .ok (.goto 4, 3) := by decide +kernel
theorem dL_areMoves_325 : decode cL_areMoves 325 = .ok (.iconst 0, 1) := by decide +kernel
theorem dL_areMoves_326 : decode cL_areMoves 326 = .ok (.ireturn, 1) := by decide +kernel
