theorem dL_cell_0 : decode cL_cell 0 = .ok (.iload_n 1, 1) := by decide +kernel
theorem dL_cell_1 : decode cL_cell 1 = .ok (.aload_n 0, 1) := by decide +kernel
theorem dL_cell_2 : decode cL_cell 2 = .ok (.arraylength, 1) := by decide +kernel
theorem dL_cell_3 : decode cL_cell 3 = .ok (.if_icmp .ge 9, 3) := by decide +kernel
theorem dL_cell_6 : decode cL_cell 6 = .ok (.aload_n 0, 1) := by decide +kernel
theorem dL_cell_7 : decode cL_cell 7 = .ok (.iload_n 1, 1) := by decide +kernel
theorem dL_cell_8 : decode cL_cell 8 = .ok (.iaload, 1) := by decide +kernel
theorem dL_cell_9 : decode cL_cell 9 = .ok (.goto 11, 3) := by decide +kernel
theorem dL_cell_12 : decode cL_cell 12 = .ok (.sipush 25889, 3) := by decide +kernel
theorem dL_cell_15 : decode cL_cell 15 = .ok (.iload_n 1, 1) := by decide +kernel
theorem dL_cell_16 : decode cL_cell 16 = .ok (.bipush 97, 2) := by decide +kernel
theorem dL_cell_18 : decode cL_cell 18 = .ok (.iadd, 1) := by decide +kernel
theorem dL_cell_19 : decode cL_cell 19 = .ok (.imul, 1) := by decide +kernel
theorem dL_cell_20 : decode cL_cell 20 = .ok (.ldc 7, 2) := by decide +kernel
theorem dL_cell_22 : decode cL_cell 22 = .ok (.iand, 1) := by decide +kernel
theorem dL_cell_23 : decode cL_cell 23 = .ok (.ireturn, 1) := by decide +kernel
set_option maxRecDepth 20000 in
theorem ggL_holds_X6_count : GoodIn wsL_holds wsX6_count := goodIn_r _ [5, 6, 7, 8, 9, 10, 11, 12, 13, 14, 15, 16, 17, 18, 19, 20, 21, 22, 23, 24, 25, 26, 27, 28, 29, 30, 31, 32, 33, 34, 35, 36, 37, 38, 39, 40, 41, 42, 43, 44, 45, 46, 47, 48, 49, 50, 51, 52, 53, 54, 55, 56, 57, 156, 157, 158, 159, 160, 161, 162, 163, 164, 165, 166, 167, 168, 169, 170, 171, 172, 173, 174, 175, 176, 177, 178, 179] (by decide +kernel) (by decide +kernel)
set_option maxRecDepth 20000 in
theorem gL_holds_X6_count : GoodIn wsL_holds (wsV RL 8 RX6 yX6_count wsX6_count) := goodIn_app (goodIn_of _ (by decide +kernel)) ggL_holds_X6_count
set_option maxRecDepth 20000 in
theorem ggL_holds_X6_anchors : GoodIn wsL_holds wsX6_anchors := goodIn_r _ [61, 10, 6, 62, 63, 64, 20, 65, 22, 66, 67, 68, 69, 70, 71, 72, 73, 74, 75, 76, 77, 78, 79, 80, 81, 82, 83, 84, 85, 86, 87, 88, 12, 13, 14, 15, 16, 89, 90, 91, 92, 93, 94, 95, 96, 97, 98, 99, 32, 33, 34, 35, 100, 54, 55, 56, 57, 101, 102, 103, 104, 105, 106, 107, 108, 109, 110, 111, 112, 113, 114, 115, 116, 117, 118, 156, 157, 158, 159, 160, 161, 162, 163, 164, 165, 166, 167, 168, 169, 170, 180, 181, 182] (by decide +kernel) (by decide +kernel)
set_option maxRecDepth 20000 in
theorem gL_holds_X6_anchors : GoodIn wsL_holds (wsV RL 14 RX6 yX6_anchors wsX6_anchors) := goodIn_app (goodIn_of _ (by decide +kernel)) ggL_holds_X6_anchors
set_option maxRecDepth 20000 in
theorem ggL_holds_X6_anchorOf : GoodIn wsL_holds wsX6_anchorOf := goodIn_r _ [122, 6, 10, 123, 67, 68, 20, 69, 22, 70, 124, 102, 103, 96, 104, 105, 125, 111, 112, 113, 114, 126, 127, 4, 128, 129, 130, 116, 117, 118, 79, 80, 81, 82, 83, 84, 85, 86, 87, 88, 12, 13, 14, 15, 16, 89, 90, 91, 92, 93, 94, 95, 97, 98, 99, 32, 33, 34, 35, 100, 54, 55, 56, 57, 101, 106, 107, 108, 109, 131, 76, 77, 78, 132, 133, 134, 135, 136, 137, 138, 139, 140, 75, 141, 72, 73, 74, 110, 115, 142, 156, 157, 158, 159, 160, 161, 162, 163, 164, 165, 166, 180, 181, 182, 167, 168, 169, 170] (by decide +kernel) (by decide +kernel)
set_option maxRecDepth 20000 in
theorem gL_holds_X6_anchorOf : GoodIn wsL_holds (wsV RL 17 RX6 yX6_anchorOf wsX6_anchorOf) := goodIn_app (goodIn_of _ (by decide +kernel)) ggL_holds_X6_anchorOf
set_option maxRecDepth 20000 in
theorem ggL_holds_X6_wordAt : GoodIn wsL_holds wsX6_wordAt := goodIn_r _ [146, 10, 6, 7, 147, 32, 33, 14, 34, 16, 35, 126, 127, 4, 128, 129, 156, 157, 158, 159, 160, 161, 162, 163, 164, 165, 166, 167, 168, 169, 170] (by decide +kernel) (by decide +kernel)
set_option maxRecDepth 20000 in
theorem gL_holds_X6_wordAt : GoodIn wsL_holds (wsV RL 21 RX6 yX6_wordAt wsX6_wordAt) := goodIn_app (goodIn_of _ (by decide +kernel)) ggL_holds_X6_wordAt
set_option maxRecDepth 20000 in
theorem ggL_holds_X6_score : GoodIn wsL_holds wsX6_score := goodIn_r _ [151, 6, 7, 10, 123, 67, 68, 20, 69, 22, 70, 152, 153, 154, 14, 155, 16, 35, 136, 90, 91, 92, 83, 84, 85, 86, 87, 93, 94, 95, 96, 97, 98, 99, 32, 33, 34, 100, 54, 55, 56, 57, 156, 157, 158, 159, 160, 161, 162, 163, 164, 165, 166, 167, 168, 169, 170, 180, 181, 182] (by decide +kernel) (by decide +kernel)
set_option maxRecDepth 20000 in
theorem gL_holds_X6_score : GoodIn wsL_holds (wsV RL 24 RX6 yX6_score wsX6_score) := goodIn_app (goodIn_of _ (by decide +kernel)) ggL_holds_X6_score
theorem dL_holds_0 : decode cL_holds 0 = .ok (.aload_n 0, 1) := by decide +kernel
theorem dL_holds_1 : decode cL_holds 1 = .ok (.iconst 0, 1) := by decide +kernel
theorem dL_holds_2 : decode cL_holds 2 = .ok (.invokevirtual 8, 3) := by decide +kernel
theorem dL_holds_5 : decode cL_holds 5 = .ok (.istore_n 1, 1) := by decide +kernel
theorem dL_holds_6 : decode cL_holds 6 = .ok (.iconst 1, 1) := by decide +kernel
theorem dL_holds_7 : decode cL_holds 7 = .ok (.aload_n 0, 1) := by decide +kernel
theorem dL_holds_8 : decode cL_holds 8 = .ok (.iconst 1, 1) := by decide +kernel
theorem dL_holds_9 : decode cL_holds 9 = .ok (.invokevirtual 8, 3) := by decide +kernel
theorem dL_holds_12 : decode cL_holds 12 = .ok (.ishl, 1) := by decide +kernel
theorem dL_holds_13 : decode cL_holds 13 = .ok (.iconst 1, 1) := by decide +kernel
theorem dL_holds_14 : decode cL_holds 14 = .ok (.isub, 1) := by decide +kernel
theorem dL_holds_15 : decode cL_holds 15 = .ok (.istore_n 2, 1) := by decide +kernel
theorem dL_holds_16 : decode cL_holds 16 = .ok (.aload_n 0, 1) := by decide +kernel
theorem dL_holds_17 : decode cL_holds 17 = .ok (.bipush 20, 2) := by decide +kernel
theorem dL_holds_19 : decode cL_holds 19 = .ok (.invokevirtual 8, 3) := by decide +kernel
theorem dL_holds_22 : decode cL_holds 22 = .ok (.iconst 2, 1) := by decide +kernel
theorem dL_holds_23 : decode cL_holds 23 = .ok (.aload_n 0, 1) := by decide +kernel
theorem dL_holds_24 : decode cL_holds 24 = .ok (.bipush 21, 2) := by decide +kernel
theorem dL_holds_26 : decode cL_holds 26 = .ok (.invokevirtual 8, 3) := by decide +kernel
theorem dL_holds_29 : decode cL_holds 29 = .ok (.imul, 1) := by decide +kernel
theorem dL_holds_30 : decode cL_holds 30 = .ok (.iadd, 1) := by decide +kernel
theorem dL_holds_31 : decode cL_holds 31 = .ok (.iconst 2, 1) := by decide +kernel
theorem dL_holds_32 : decode cL_holds 32 = .ok (.aload_n 0, 1) := by decide +kernel
theorem dL_holds_33 : decode cL_holds 33 = .ok (.bipush 22, 2) := by decide +kernel
theorem dL_holds_35 : decode cL_holds 35 = .ok (.invokevirtual 8, 3) := by decide +kernel
theorem dL_holds_38 : decode cL_holds 38 = .ok (.imul, 1) := by decide +kernel
theorem dL_holds_39 : decode cL_holds 39 = .ok (.iadd, 1) := by decide +kernel
theorem dL_holds_40 : decode cL_holds 40 = .ok (.istore_n 3, 1) := by decide +kernel
theorem dL_holds_41 : decode cL_holds 41 = .ok (.iload_n 1, 1) := by decide +kernel
theorem dL_holds_42 : decode cL_holds 42 = .ok (.bipush 40, 2) := by decide +kernel
theorem dL_holds_44 : decode cL_holds 44 = .ok (.if_icmp .gt 101, 3) := by decide +kernel
theorem dL_holds_47 : decode cL_holds 47 = .ok (.aload_n 0, 1) := by decide +kernel
theorem dL_holds_48 : decode cL_holds 48 = .ok (.iconst 2, 1) := by decide +kernel
theorem dL_holds_49 : decode cL_holds 49 = .ok (.invokevirtual 8, 3) := by decide +kernel
theorem dL_holds_52 : decode cL_holds 52 = .ok (.iload_n 1, 1) := by decide +kernel
theorem dL_holds_53 : decode cL_holds 53 = .ok (.if_icmp .gt 92, 3) := by decide +kernel
theorem dL_holds_56 : decode cL_holds 56 = .ok (.aload_n 0, 1) := by decide +kernel
theorem dL_holds_57 : decode cL_holds 57 = .ok (.iconst 0, 1) := by decide +kernel
theorem dL_holds_58 : decode cL_holds 58 = .ok (.invokevirtual 14, 3) := by decide +kernel
theorem dL_holds_61 : decode cL_holds 61 = .ok (.aload_n 0, 1) := by decide +kernel
theorem dL_holds_62 : decode cL_holds 62 = .ok (.iconst 1, 1) := by decide +kernel
theorem dL_holds_63 : decode cL_holds 63 = .ok (.invokevirtual 14, 3) := by decide +kernel
theorem dL_holds_66 : decode cL_holds 66 = .ok (.ior, 1) := by decide +kernel
theorem dL_holds_67 : decode cL_holds 67 = .ok (.aload_n 0, 1) := by decide +kernel
theorem dL_holds_68 : decode cL_holds 68 = .ok (.iconst 2, 1) := by decide +kernel
theorem dL_holds_69 : decode cL_holds 69 = .ok (.invokevirtual 14, 3) := by decide +kernel
theorem dL_holds_72 : decode cL_holds 72 = .ok (.ior, 1) := by decide +kernel
theorem dL_holds_73 : decode cL_holds 73 = .ok (.iload_n 2, 1) := by decide +kernel
theorem dL_holds_74 : decode cL_holds 74 = .ok (.if_icmp .ne 71, 3) := by decide +kernel
theorem dL_holds_77 : decode cL_holds 77 = .ok (.aload_n 0, 1) := by decide +kernel
theorem dL_holds_78 : decode cL_holds 78 = .ok (.iconst 0, 1) := by decide +kernel
theorem dL_holds_79 : decode cL_holds 79 = .ok (.invokevirtual 14, 3) := by decide +kernel
theorem dL_holds_82 : decode cL_holds 82 = .ok (.aload_n 0, 1) := by decide +kernel
theorem dL_holds_83 : decode cL_holds 83 = .ok (.iconst 1, 1) := by decide +kernel
theorem dL_holds_84 : decode cL_holds 84 = .ok (.invokevirtual 14, 3) := by decide +kernel
theorem dL_holds_87 : decode cL_holds 87 = .ok (.iand, 1) := by decide +kernel
theorem dL_holds_88 : decode cL_holds 88 = .ok (.ifCond .ne 57, 3) := by decide +kernel
theorem dL_holds_91 : decode cL_holds 91 = .ok (.aload_n 0, 1) := by decide +kernel
theorem dL_holds_92 : decode cL_holds 92 = .ok (.iconst 2, 1) := by decide +kernel
theorem dL_holds_93 : decode cL_holds 93 = .ok (.invokevirtual 14, 3) := by decide +kernel
theorem dL_holds_96 : decode cL_holds 96 = .ok (.aload_n 0, 1) := by decide +kernel
theorem dL_holds_97 : decode cL_holds 97 = .ok (.iconst 0, 1) := by decide +kernel
theorem dL_holds_98 : decode cL_holds 98 = .ok (.invokevirtual 14, 3) := by decide +kernel
theorem dL_holds_101 : decode cL_holds 101 = .ok (.aload_n 0, 1) := by decide +kernel
theorem dL_holds_102 : decode cL_holds 102 = .ok (.iconst 1, 1) := by decide +kernel
theorem dL_holds_103 : decode cL_holds 103 = .ok (.invokevirtual 14, 3) := by decide +kernel
theorem dL_holds_106 : decode cL_holds 106 = .ok (.ior, 1) := by decide +kernel
theorem dL_holds_107 : decode cL_holds 107 = .ok (.iand, 1) := by decide +kernel
theorem dL_holds_108 : decode cL_holds 108 = .ok (.ifCond .ne 37, 3) := by decide +kernel
theorem dL_holds_111 : decode cL_holds 111 = .ok (.aload_n 0, 1) := by decide +kernel
theorem dL_holds_112 : decode cL_holds 112 = .ok (.iconst 3, 1) := by decide +kernel
theorem dL_holds_113 : decode cL_holds 113 = .ok (.invokevirtual 14, 3) := by decide +kernel
theorem dL_holds_116 : decode cL_holds 116 = .ok (.aload_n 0, 1) := by decide +kernel
theorem dL_holds_117 : decode cL_holds 117 = .ok (.iconst 4, 1) := by decide +kernel
theorem dL_holds_118 : decode cL_holds 118 = .ok (.invokevirtual 14, 3) := by decide +kernel
theorem dL_holds_121 : decode cL_holds 121 = .ok (.iand, 1) := by decide +kernel
theorem dL_holds_122 : decode cL_holds 122 = .ok (.ifCond .ne 23, 3) := by decide +kernel
theorem dL_holds_125 : decode cL_holds 125 = .ok (.aload_n 0, 1) := by decide +kernel
theorem dL_holds_126 : decode cL_holds 126 = .ok (.iconst 5, 1) := by decide +kernel
theorem dL_holds_127 : decode cL_holds 127 = .ok (.invokevirtual 14, 3) := by decide +kernel
theorem dL_holds_130 : decode cL_holds 130 = .ok (.aload_n 0, 1) := by decide +kernel
theorem dL_holds_131 : decode cL_holds 131 = .ok (.iconst 2, 1) := by decide +kernel
theorem dL_holds_132 : decode cL_holds 132 = .ok (.invokevirtual 14, 3) := by decide +kernel
theorem dL_holds_135 : decode cL_holds 135 = .ok (.iconst (-1), 1) := by decide +kernel
theorem dL_holds_136 : decode cL_holds 136 = .ok (.ixor, 1) := by decide +kernel
theorem dL_holds_137 : decode cL_holds 137 = .ok (.iand, 1) := by decide +kernel
theorem dL_holds_138 : decode cL_holds 138 = .ok (.ifCond .ne 7, 3) := by decide +kernel
theorem dL_holds_141 : decode cL_holds 141 = .ok (.iconst 1, 1) := by decide +kernel
theorem dL_holds_142 : decode cL_holds 142 = .ok (.goto 4, 3) := by decide +kernel
theorem dL_holds_145 : decode cL_holds 145 = .ok (.iconst 0, 1) := by decide +kernel
theorem dL_holds_146 : decode cL_holds 146 = .ok (.istore 4, 2) := by decide +kernel
theorem dL_holds_148 : decode cL_holds 148 = .ok (.iconst 0, 1) := by decide +kernel
theorem dL_holds_149 : decode cL_holds 149 = .ok (.istore 5, 2) := by decide +kernel
theorem dL_holds_151 : decode cL_holds 151 = .ok (.iload 5, 2) := by decide +kernel
theorem dL_holds_153 : decode cL_holds 153 = .ok (.aload_n 0, 1) := by decide +kernel
theorem dL_holds_154 : decode cL_holds 154 = .ok (.iconst 1, 1) := by decide +kernel
theorem dL_holds_155 : decode cL_holds 155 = .ok (.invokevirtual 8, 3) := by decide +kernel
theorem dL_holds_158 : decode cL_holds 158 = .ok (.if_icmp .ge 319, 3) := by decide +kernel
theorem dL_holds_161 : decode cL_holds 161 = .ok (.iload 4, 2) := by decide +kernel
theorem dL_holds_163 : decode cL_holds 163 = .ok (.ifCond .eq 314, 3) := by decide +kernel
theorem dL_holds_166 : decode cL_holds 166 = .ok (.aload_n 0, 1) := by decide +kernel
theorem dL_holds_167 : decode cL_holds 167 = .ok (.iload 5, 2) := by decide +kernel
theorem dL_holds_169 : decode cL_holds 169 = .ok (.iconst 1, 1) := by decide +kernel
theorem dL_holds_170 : decode cL_holds 170 = .ok (.invokevirtual 17, 3) := by decide +kernel
theorem dL_holds_173 : decode cL_holds 173 = .ok (.istore 6, 2) := by decide +kernel
theorem dL_holds_175 : decode cL_holds 175 = .ok (.aload_n 0, 1) := by decide +kernel
theorem dL_holds_176 : decode cL_holds 176 = .ok (.iload 5, 2) := by decide +kernel
theorem dL_holds_178 : decode cL_holds 178 = .ok (.bipush 8, 2) := by decide +kernel
theorem dL_holds_180 : decode cL_holds 180 = .ok (.invokevirtual 17, 3) := by decide +kernel
theorem dL_holds_183 : decode cL_holds 183 = .ok (.istore 7, 2) := by decide +kernel
theorem dL_holds_185 : decode cL_holds 185 = .ok (.aload_n 0, 1) := by decide +kernel
theorem dL_holds_186 : decode cL_holds 186 = .ok (.iload 5, 2) := by decide +kernel
theorem dL_holds_188 : decode cL_holds 188 = .ok (.bipush 9, 2) := by decide +kernel
theorem dL_holds_190 : decode cL_holds 190 = .ok (.invokevirtual 17, 3) := by decide +kernel
theorem dL_holds_193 : decode cL_holds 193 = .ok (.istore 8, 2) := by decide +kernel
theorem dL_holds_195 : decode cL_holds 195 = .ok (.aload_n 0, 1) := by decide +kernel
theorem dL_holds_196 : decode cL_holds 196 = .ok (.iload 5, 2) := by decide +kernel
theorem dL_holds_198 : decode cL_holds 198 = .ok (.bipush 11, 2) := by decide +kernel
theorem dL_holds_200 : decode cL_holds 200 = .ok (.invokevirtual 17, 3) := by decide +kernel
theorem dL_holds_203 : decode cL_holds 203 = .ok (.istore 9, 2) := by decide +kernel
theorem dL_holds_205 : decode cL_holds 205 = .ok (.iload_n 1, 1) := by decide +kernel
theorem dL_holds_206 : decode cL_holds 206 = .ok (.ifCond .ne 7, 3) := by decide +kernel
theorem dL_holds_209 : decode cL_holds 209 = .ok (.iconst 1, 1) := by decide +kernel
theorem dL_holds_210 : decode cL_holds 210 = .ok (.goto 4, 3) := by decide +kernel
theorem dL_holds_213 : decode cL_holds 213 = .ok (.iconst 0, 1) := by decide +kernel
theorem dL_holds_214 : decode cL_holds 214 = .ok (.iload 7, 2) := by decide +kernel
theorem dL_holds_216 : decode cL_holds 216 = .ok (.ifCond .ge 7, 3) := by decide +kernel
theorem dL_holds_219 : decode cL_holds 219 = .ok (.iconst 1, 1) := by decide +kernel
theorem dL_holds_220 : decode cL_holds 220 = .ok (.goto 4, 3) := by decide +kernel
theorem dL_holds_223 : decode cL_holds 223 = .ok (.iconst 0, 1) := by decide +kernel
theorem dL_holds_224 : decode cL_holds 224 = .ok (.if_icmp .ne 98, 3) := by decide +kernel
theorem dL_holds_227 : decode cL_holds 227 = .ok (.iload_n 1, 1) := by decide +kernel
theorem dL_holds_228 : decode cL_holds 228 = .ok (.iconst 2, 1) := by decide +kernel
theorem dL_holds_229 : decode cL_holds 229 = .ok (.if_icmp .ge 7, 3) := by decide +kernel
theorem dL_holds_232 : decode cL_holds 232 = .ok (.iconst 1, 1) := by decide +kernel
theorem dL_holds_233 : decode cL_holds 233 = .ok (.goto 4, 3) := by decide +kernel
theorem dL_holds_236 : decode cL_holds 236 = .ok (.iconst 0, 1) := by decide +kernel
theorem dL_holds_237 : decode cL_holds 237 = .ok (.iload 9, 2) := by decide +kernel
theorem dL_holds_239 : decode cL_holds 239 = .ok (.ifCond .ge 7, 3) := by decide +kernel
theorem dL_holds_242 : decode cL_holds 242 = .ok (.iconst 1, 1) := by decide +kernel
theorem dL_holds_243 : decode cL_holds 243 = .ok (.goto 4, 3) := by decide +kernel
theorem dL_holds_246 : decode cL_holds 246 = .ok (.iconst 0, 1) := by decide +kernel
theorem dL_holds_247 : decode cL_holds 247 = .ok (.if_icmp .ne 75, 3) := by decide +kernel
theorem dL_holds_250 : decode cL_holds 250 = .ok (.iload 6, 2) := by decide +kernel
theorem dL_holds_252 : decode cL_holds 252 = .ok (.ifCond .lt 25, 3) := by decide +kernel
theorem dL_holds_255 : decode cL_holds 255 = .ok (.iload 6, 2) := by decide +kernel
theorem dL_holds_257 : decode cL_holds 257 = .ok (.iload_n 1, 1) := by decide +kernel
theorem dL_holds_258 : decode cL_holds 258 = .ok (.if_icmp .ge 64, 3) := by decide +kernel
theorem dL_holds_261 : decode cL_holds 261 = .ok (.aload_n 0, 1) := by decide +kernel
theorem dL_holds_262 : decode cL_holds 262 = .ok (.iload 6, 2) := by decide +kernel
theorem dL_holds_264 : decode cL_holds 264 = .ok (.invokevirtual 21, 3) := by decide +kernel
theorem dL_holds_267 : decode cL_holds 267 = .ok (.aload_n 0, 1) := by decide +kernel
theorem dL_holds_268 : decode cL_holds 268 = .ok (.iload 5, 2) := by decide +kernel
theorem dL_holds_270 : decode cL_holds 270 = .ok (.iconst 4, 1) := by decide +kernel
theorem dL_holds_271 : decode cL_holds 271 = .ok (.invokevirtual 17, 3) := by decide +kernel
theorem dL_holds_274 : decode cL_holds 274 = .ok (.if_icmp .ne 48, 3) := by decide +kernel
theorem dL_holds_277 : decode cL_holds 277 = .ok (.iload 8, 2) := by decide +kernel
theorem dL_holds_279 : decode cL_holds 279 = .ok (.iload_n 3, 1) := by decide +kernel
theorem dL_holds_280 : decode cL_holds 280 = .ok (.if_icmp .gt 42, 3) := by decide +kernel
theorem dL_holds_283 : decode cL_holds 283 = .ok (.iload 9, 2) := by decide +kernel
theorem dL_holds_285 : decode cL_holds 285 = .ok (.iload 8, 2) := by decide +kernel
theorem dL_holds_287 : decode cL_holds 287 = .ok (.if_icmp .gt 35, 3) := by decide +kernel
theorem dL_holds_290 : decode cL_holds 290 = .ok (.iload 7, 2) := by decide +kernel
theorem dL_holds_292 : decode cL_holds 292 = .ok (.ifCond .lt 16, 3) := by decide +kernel
theorem dL_holds_295 : decode cL_holds 295 = .ok (.aload_n 0, 1) := by decide +kernel
theorem dL_holds_296 : decode cL_holds 296 = .ok (.iload 5, 2) := by decide +kernel
theorem dL_holds_298 : decode cL_holds 298 = .ok (.iload 7, 2) := by decide +kernel
theorem dL_holds_300 : decode cL_holds 300 = .ok (.invokevirtual 24, 3) := by decide +kernel
theorem dL_holds_303 : decode cL_holds 303 = .ok (.iload 8, 2) := by decide +kernel
theorem dL_holds_305 : decode cL_holds 305 = .ok (.if_icmp .ne 17, 3) := by decide +kernel
theorem dL_holds_308 : decode cL_holds 308 = .ok (.aload_n 0, 1) := by decide +kernel
theorem dL_holds_309 : decode cL_holds 309 = .ok (.iload 5, 2) := by decide +kernel
theorem dL_holds_311 : decode cL_holds 311 = .ok (.iconst 4, 1) := by decide +kernel
theorem dL_holds_312 : decode cL_holds 312 = .ok (.invokevirtual 17, 3) := by decide +kernel
theorem dL_holds_315 : decode cL_holds 315 = .ok (.ifCond .lt 7, 3) := by decide +kernel
theorem dL_holds_318 : decode cL_holds 318 = .ok (.iconst 1, 1) := by decide +kernel
theorem dL_holds_319 : decode cL_holds 319 = .ok (.goto 4, 3) := by decide +kernel
theorem dL_holds_322 : decode cL_holds 322 = .ok (.iconst 0, 1) := by decide +kernel
theorem dL_holds_323 : decode cL_holds 323 = .ok (.istore 4, 2) := by decide +kernel
theorem dL_holds_325 : decode cL_holds 325 = .ok (.iconst 0, 1) := by decide +kernel
theorem dL_holds_326 : decode cL_holds 326 = .ok (.istore 10, 2) := by decide +kernel
theorem dL_holds_328 : decode cL_holds 328 = .ok (.iload 10, 2) := by decide +kernel
theorem dL_holds_330 : decode cL_holds 330 = .ok (.iload_n 1, 1) := by decide +kernel
theorem dL_holds_331 : decode cL_holds 331 = .ok (.if_icmp .ge 140, 3) := by decide +kernel
theorem dL_holds_334 : decode cL_holds 334 = .ok (.iload 4, 2) := by decide +kernel
theorem dL_holds_336 : decode cL_holds 336 = .ok (.ifCond .eq 135, 3) := by decide +kernel
theorem dL_holds_339 : decode cL_holds 339 = .ok (.aload_n 0, 1) := by decide +kernel
theorem dL_holds_340 : decode cL_holds 340 = .ok (.iload 5, 2) := by decide +kernel
theorem dL_holds_342 : decode cL_holds 342 = .ok (.iload 10, 2) := by decide +kernel
theorem dL_holds_344 : decode cL_holds 344 = .ok (.invokevirtual 24, 3) := by decide +kernel
theorem dL_holds_347 : decode cL_holds 347 = .ok (.istore 11, 2) := by decide +kernel
theorem dL_holds_349 : decode cL_holds 349 = .ok (.iload 10, 2) := by decide +kernel
theorem dL_holds_351 : decode cL_holds 351 = .ok (.aload_n 0, 1) := by decide +kernel
theorem dL_holds_352 : decode cL_holds 352 = .ok (.iload 5, 2) := by decide +kernel
theorem dL_holds_354 : decode cL_holds 354 = .ok (.iconst 0, 1) := by decide +kernel
theorem dL_holds_355 : decode cL_holds 355 = .ok (.invokevirtual 17, 3) := by decide +kernel
theorem dL_holds_358 : decode cL_holds 358 = .ok (.if_icmp .ge 16, 3) := by decide +kernel
theorem dL_holds_361 : decode cL_holds 361 = .ok (.aload_n 0, 1) := by decide +kernel
theorem dL_holds_362 : decode cL_holds 362 = .ok (.iload 5, 2) := by decide +kernel
theorem dL_holds_364 : decode cL_holds 364 = .ok (.iconst 0, 1) := by decide +kernel
theorem dL_holds_365 : decode cL_holds 365 = .ok (.invokevirtual 17, 3) := by decide +kernel
theorem dL_holds_368 : decode cL_holds 368 = .ok (.iload 10, 2) := by decide +kernel
theorem dL_holds_370 : decode cL_holds 370 = .ok (.isub, 1) := by decide +kernel
theorem dL_holds_371 : decode cL_holds 371 = .ok (.goto 13, 3) := by decide +kernel
theorem dL_holds_374 : decode cL_holds 374 = .ok (.iload 10, 2) := by decide +kernel
theorem dL_holds_376 : decode cL_holds 376 = .ok (.aload_n 0, 1) := by decide +kernel
theorem dL_holds_377 : decode cL_holds 377 = .ok (.iload 5, 2) := by decide +kernel
theorem dL_holds_379 : decode cL_holds 379 = .ok (.iconst 0, 1) := by decide +kernel
theorem dL_holds_380 : decode cL_holds 380 = .ok (.invokevirtual 17, 3) := by decide +kernel
theorem dL_holds_383 : decode cL_holds 383 = .ok (.isub, 1) := by decide +kernel
theorem dL_holds_384 : decode cL_holds 384 = .ok (.istore 12, 2) := by decide +kernel
theorem dL_holds_386 : decode cL_holds 386 = .ok (.iload 7, 2) := by decide +kernel
theorem dL_holds_388 : decode cL_holds 388 = .ok (.aload_n 0, 1) := by decide +kernel
theorem dL_holds_389 : decode cL_holds 389 = .ok (.iload 5, 2) := by decide +kernel
theorem dL_holds_391 : decode cL_holds 391 = .ok (.iconst 0, 1) := by decide +kernel
theorem dL_holds_392 : decode cL_holds 392 = .ok (.invokevirtual 17, 3) := by decide +kernel
theorem dL_holds_395 : decode cL_holds 395 = .ok (.if_icmp .ge 16, 3) := by decide +kernel
theorem dL_holds_398 : decode cL_holds 398 = .ok (.aload_n 0, 1) := by decide +kernel
theorem dL_holds_399 : decode cL_holds 399 = .ok (.iload 5, 2) := by decide +kernel
theorem dL_holds_401 : decode cL_holds 401 = .ok (.iconst 0, 1) := by decide +kernel
theorem dL_holds_402 : decode cL_holds 402 = .ok (.invokevirtual 17, 3) := by decide +kernel
theorem dL_holds_405 : decode cL_holds 405 = .ok (.iload 7, 2) := by decide +kernel
theorem dL_holds_407 : decode cL_holds 407 = .ok (.isub, 1) := by decide +kernel
theorem dL_holds_408 : decode cL_holds 408 = .ok (.goto 13, 3) := by decide +kernel
theorem dL_holds_411 : decode cL_holds 411 = .ok (.iload 7, 2) := by decide +kernel
theorem dL_holds_413 : decode cL_holds 413 = .ok (.aload_n 0, 1) := by decide +kernel
theorem dL_holds_414 : decode cL_holds 414 = .ok (.iload 5, 2) := by decide +kernel
theorem dL_holds_416 : decode cL_holds 416 = .ok (.iconst 0, 1) := by decide +kernel
theorem dL_holds_417 : decode cL_holds 417 = .ok (.invokevirtual 17, 3) := by decide +kernel
theorem dL_holds_420 : decode cL_holds 420 = .ok (.isub, 1) := by decide +kernel
theorem dL_holds_421 : decode cL_holds 421 = .ok (.istore 13, 2) := by decide +kernel
theorem dL_holds_423 : decode cL_holds 423 = .ok (.iload 11, 2) := by decide +kernel
theorem dL_holds_425 : decode cL_holds 425 = .ok (.iload 8, 2) := by decide +kernel
theorem dL_holds_427 : decode cL_holds 427 = .ok (.if_icmp .lt 31, 3) := by decide +kernel
theorem dL_holds_430 : decode cL_holds 430 = .ok (.iload 11, 2) := by decide +kernel
theorem dL_holds_432 : decode cL_holds 432 = .ok (.iload 8, 2) := by decide +kernel
theorem dL_holds_434 : decode cL_holds 434 = .ok (.if_icmp .ne 28, 3) := by decide +kernel
theorem dL_holds_437 : decode cL_holds 437 = .ok (.iload 12, 2) := by decide +kernel
theorem dL_holds_439 : decode cL_holds 439 = .ok (.iload 13, 2) := by decide +kernel
theorem dL_holds_441 : decode cL_holds 441 = .ok (.if_icmp .gt 17, 3) := by decide +kernel
theorem dL_holds_444 : decode cL_holds 444 = .ok (.iload 12, 2) := by decide +kernel
theorem dL_holds_446 : decode cL_holds 446 = .ok (.iload 13, 2) := by decide +kernel
theorem dL_holds_448 : decode cL_holds 448 = .ok (.if_icmp .ne 14, 3) := by decide +kernel
theorem dL_holds_451 : decode cL_holds 451 = .ok (.iload 10, 2) := by decide +kernel
theorem dL_holds_453 : decode cL_holds 453 = .ok (.iload 7, 2) := by decide +kernel
theorem dL_holds_455 : decode cL_holds 455 = .ok (.if_icmp .lt 7, 3) := by decide +kernel
theorem dL_holds_458 : decode cL_holds 458 = .ok (.iconst 1, 1) := by decide +kernel
theorem dL_holds_459 : decode cL_holds 459 = .ok (.goto 4, 3) := by decide +kernel
theorem dL_holds_462 : decode cL_holds 462 = .ok (.iconst 0, 1) := by decide +kernel
theorem dL_holds_463 : decode cL_holds 463 = .ok (.istore 4, 2) := by decide +kernel
theorem dL_holds_465 : decode cL_holds 465 = .ok (.iinc 10 1, 3) := by decide +kernel
theorem dL_holds_468 : decode cL_holds 468 = .ok (.goto (-140), 3) := by decide +kernel
theorem dL_holds_471 : decode cL_holds 471 = .ok (.iinc 5 1, 3) := by decide +kernel
theorem dL_holds_474 : decode cL_holds 474 = .ok (.goto (-323), 3) := by decide +kernel
theorem dL_holds_477 : decode cL_holds 477 = .ok (.iload 4, 2) := by decide +kernel
theorem dL_holds_479 : decode cL_holds 479 = .ok (.ireturn, 1) := by decide +kernel
set_option maxRecDepth 20000 in
theorem ggL_moves_X6_count : GoodIn wsL_moves wsX6_count := goodIn_r _ [5, 6, 7, 8, 9, 10, 11, 12, 13, 14, 15, 16, 17, 18, 19, 20, 21, 22, 23, 24, 25, 26, 27, 28, 29, 30, 31, 32, 33, 34, 35, 36, 37, 38, 39, 40, 41, 42, 43, 44, 45, 46, 47, 48, 49, 50, 51, 52, 53, 54, 55, 56, 57, 213, 214, 215, 216, 217, 218, 219, 220, 221, 222, 223, 224, 225, 226, 227, 228, 229, 230, 231, 232, 233, 234, 235, 236] (by decide +kernel) (by decide +kernel)
set_option maxRecDepth 20000 in
theorem gL_moves_X6_count : GoodIn wsL_moves (wsV RL 8 RX6 yX6_count wsX6_count) := goodIn_app (goodIn_of _ (by decide +kernel)) ggL_moves_X6_count
set_option maxRecDepth 20000 in
theorem ggL_moves_X6_wordAt : GoodIn wsL_moves wsX6_wordAt := goodIn_r _ [61, 10, 6, 7, 62, 32, 33, 14, 34, 16, 35, 63, 64, 4, 65, 66, 213, 214, 215, 216, 217, 218, 219, 220, 221, 222, 223, 224, 225, 226, 227] (by decide +kernel) (by decide +kernel)
set_option maxRecDepth 20000 in
theorem gL_moves_X6_wordAt : GoodIn wsL_moves (wsV RL 21 RX6 yX6_wordAt wsX6_wordAt) := goodIn_app (goodIn_of _ (by decide +kernel)) ggL_moves_X6_wordAt
set_option maxRecDepth 20000 in
theorem ggL_moves_X6_anchorOf : GoodIn wsL_moves wsX6_anchorOf := goodIn_r _ [70, 6, 10, 71, 72, 73, 20, 74, 22, 75, 76, 77, 78, 79, 80, 81, 82, 83, 84, 85, 86, 63, 64, 4, 65, 66, 87, 88, 89, 90, 91, 92, 93, 94, 95, 96, 97, 98, 99, 100, 12, 13, 14, 15, 16, 101, 102, 103, 104, 105, 106, 107, 108, 109, 110, 32, 33, 34, 35, 111, 54, 55, 56, 57, 112, 113, 114, 115, 116, 117, 118, 119, 120, 121, 122, 123, 124, 125, 126, 127, 128, 129, 130, 131, 132, 133, 134, 135, 136, 137, 213, 214, 215, 216, 217, 218, 219, 220, 221, 222, 223, 237, 238, 239, 224, 225, 226, 227] (by decide +kernel) (by decide +kernel)
set_option maxRecDepth 20000 in
theorem gL_moves_X6_anchorOf : GoodIn wsL_moves (wsV RL 17 RX6 yX6_anchorOf wsX6_anchorOf) := goodIn_app (goodIn_of _ (by decide +kernel)) ggL_moves_X6_anchorOf
set_option maxRecDepth 20000 in
theorem ggL_moves_X6_move : GoodIn wsL_moves wsX6_move := goodIn_r _ [141, 6, 7, 10, 8, 142, 143, 144, 14, 145, 16, 146, 147, 148, 149, 35, 150, 151, 152, 44, 153, 46, 154, 155, 156, 157, 158, 159, 160, 161, 162, 20, 163, 95, 22, 57, 40, 164, 165, 166, 167, 31, 32, 33, 34, 168, 72, 73, 74, 75, 169, 170, 171, 79, 172, 81, 86, 109, 173, 106, 107, 108, 111, 54, 55, 56, 174, 175, 176, 177, 178, 179, 180, 181, 182, 183, 184, 185, 186, 187, 188, 189, 190, 191, 192, 193, 194, 195, 196, 197, 198, 199, 200, 201, 202, 203, 204, 205, 206, 207, 208, 209, 210, 211, 212, 213, 214, 215, 216, 217, 218, 219, 220, 221, 222, 223, 224, 225, 226, 227, 228, 229, 230, 237, 238, 239] (by decide +kernel) (by decide +kernel)
set_option maxRecDepth 20000 in
theorem gL_moves_X6_move : GoodIn wsL_moves (wsV RL 27 RX6 yX6_move wsX6_move) := goodIn_app (goodIn_of _ (by decide +kernel)) ggL_moves_X6_move
theorem dL_moves_0 : decode cL_moves 0 = .ok (.aload_n 0, 1) := by decide +kernel
theorem dL_moves_1 : decode cL_moves 1 = .ok (.iconst 0, 1) := by decide +kernel
theorem dL_moves_2 : decode cL_moves 2 = .ok (.invokevirtual 8, 3) := by decide +kernel
theorem dL_moves_5 : decode cL_moves 5 = .ok (.istore 4, 2) := by decide +kernel
theorem dL_moves_7 : decode cL_moves 7 = .ok (.iconst 0, 1) := by decide +kernel
theorem dL_moves_8 : decode cL_moves 8 = .ok (.istore 5, 2) := by decide +kernel
theorem dL_moves_10 : decode cL_moves 10 = .ok (.iconst 0, 1) := by decide +kernel
theorem dL_moves_11 : decode cL_moves 11 = .ok (.istore 6, 2) := by decide +kernel
theorem dL_moves_13 : decode cL_moves 13 = .ok (.iload 6, 2) := by decide +kernel
theorem dL_moves_15 : decode cL_moves 15 = .ok (.iload 4, 2) := by decide +kernel
theorem dL_moves_17 : decode cL_moves 17 = .ok (.if_icmp .ge 23, 3) := by decide +kernel
theorem dL_moves_20 : decode cL_moves 20 = .ok (.bipush 101, 2) := by decide +kernel
theorem dL_moves_22 : decode cL_moves 22 = .ok (.iload 5, 2) := by decide +kernel
theorem dL_moves_24 : decode cL_moves 24 = .ok (.imul, 1) := by decide +kernel
theorem dL_moves_25 : decode cL_moves 25 = .ok (.aload_n 0, 1) := by decide +kernel
theorem dL_moves_26 : decode cL_moves 26 = .ok (.iload 6, 2) := by decide +kernel
theorem dL_moves_28 : decode cL_moves 28 = .ok (.invokevirtual 21, 3) := by decide +kernel
theorem dL_moves_31 : decode cL_moves 31 = .ok (.iadd, 1) := by decide +kernel
theorem dL_moves_32 : decode cL_moves 32 = .ok (.istore 5, 2) := by decide +kernel
theorem dL_moves_34 : decode cL_moves 34 = .ok (.iinc 6 1, 3) := by decide +kernel
theorem dL_moves_37 : decode cL_moves 37 = .ok (.goto (-24), 3) := by decide +kernel
theorem dL_moves_40 : decode cL_moves 40 = .ok (.iconst 0, 1) := by decide +kernel
theorem dL_moves_41 : decode cL_moves 41 = .ok (.istore 6, 2) := by decide +kernel
theorem dL_moves_43 : decode cL_moves 43 = .ok (.iconst 0, 1) := by decide +kernel
theorem dL_moves_44 : decode cL_moves 44 = .ok (.istore 7, 2) := by decide +kernel
theorem dL_moves_46 : decode cL_moves 46 = .ok (.iload 7, 2) := by decide +kernel
theorem dL_moves_48 : decode cL_moves 48 = .ok (.aload_n 0, 1) := by decide +kernel
theorem dL_moves_49 : decode cL_moves 49 = .ok (.iconst 1, 1) := by decide +kernel
theorem dL_moves_50 : decode cL_moves 50 = .ok (.invokevirtual 8, 3) := by decide +kernel
theorem dL_moves_53 : decode cL_moves 53 = .ok (.if_icmp .ge 24, 3) := by decide +kernel
theorem dL_moves_56 : decode cL_moves 56 = .ok (.bipush 53, 2) := by decide +kernel
theorem dL_moves_58 : decode cL_moves 58 = .ok (.iload 6, 2) := by decide +kernel
theorem dL_moves_60 : decode cL_moves 60 = .ok (.imul, 1) := by decide +kernel
theorem dL_moves_61 : decode cL_moves 61 = .ok (.aload_n 0, 1) := by decide +kernel
theorem dL_moves_62 : decode cL_moves 62 = .ok (.iload 7, 2) := by decide +kernel
theorem dL_moves_64 : decode cL_moves 64 = .ok (.iconst 1, 1) := by decide +kernel
theorem dL_moves_65 : decode cL_moves 65 = .ok (.invokevirtual 17, 3) := by decide +kernel
theorem dL_moves_68 : decode cL_moves 68 = .ok (.iadd, 1) := by decide +kernel
theorem dL_moves_69 : decode cL_moves 69 = .ok (.istore 6, 2) := by decide +kernel
theorem dL_moves_71 : decode cL_moves 71 = .ok (.iinc 7 1, 3) := by decide +kernel
theorem dL_moves_74 : decode cL_moves 74 = .ok (.goto (-28), 3) := by decide +kernel
theorem dL_moves_77 : decode cL_moves 77 = .ok (.aload_n 0, 1) := by decide +kernel
theorem dL_moves_78 : decode cL_moves 78 = .ok (.iload_n 1, 1) := by decide +kernel
theorem dL_moves_79 : decode cL_moves 79 = .ok (.invokevirtual 21, 3) := by decide +kernel
theorem dL_moves_82 : decode cL_moves 82 = .ok (.istore 7, 2) := by decide +kernel
theorem dL_moves_84 : decode cL_moves 84 = .ok (.aload_n 0, 1) := by decide +kernel
theorem dL_moves_85 : decode cL_moves 85 = .ok (.iload_n 1, 1) := by decide +kernel
theorem dL_moves_86 : decode cL_moves 86 = .ok (.iload_n 2, 1) := by decide +kernel
theorem dL_moves_87 : decode cL_moves 87 = .ok (.iload_n 3, 1) := by decide +kernel
theorem dL_moves_88 : decode cL_moves 88 = .ok (.invokevirtual 27, 3) := by decide +kernel
theorem dL_moves_91 : decode cL_moves 91 = .ok (.istore 8, 2) := by decide +kernel
theorem dL_moves_93 : decode cL_moves 93 = .ok (.iload 8, 2) := by decide +kernel
theorem dL_moves_95 : decode cL_moves 95 = .ok (.ifCond .lt 57, 3) := by decide +kernel
theorem dL_moves_98 : decode cL_moves 98 = .ok (.iload 8, 2) := by decide +kernel
theorem dL_moves_100 : decode cL_moves 100 = .ok (.iload 4, 2) := by decide +kernel
theorem dL_moves_102 : decode cL_moves 102 = .ok (.if_icmp .gt 50, 3) := by decide +kernel
theorem dL_moves_105 : decode cL_moves 105 = .ok (.iload 8, 2) := by decide +kernel
theorem dL_moves_107 : decode cL_moves 107 = .ok (.ifCond .ne 7, 3) := by decide +kernel
theorem dL_moves_110 : decode cL_moves 110 = .ok (.iconst 1, 1) := by decide +kernel
theorem dL_moves_111 : decode cL_moves 111 = .ok (.goto 4, 3) := by decide +kernel
theorem dL_moves_114 : decode cL_moves 114 = .ok (.iconst 0, 1) := by decide +kernel
theorem dL_moves_115 : decode cL_moves 115 = .ok (.iload_n 1, 1) := by decide +kernel
theorem dL_moves_116 : decode cL_moves 116 = .ok (.iload_n 3, 1) := by decide +kernel
theorem dL_moves_117 : decode cL_moves 117 = .ok (.if_icmp .ne 7, 3) := by decide +kernel
theorem dL_moves_120 : decode cL_moves 120 = .ok (.iconst 1, 1) := by decide +kernel
theorem dL_moves_121 : decode cL_moves 121 = .ok (.goto 4, 3) := by decide +kernel
theorem dL_moves_124 : decode cL_moves 124 = .ok (.iconst 0, 1) := by decide +kernel
theorem dL_moves_125 : decode cL_moves 125 = .ok (.if_icmp .ne 27, 3) := by decide +kernel
theorem dL_moves_128 : decode cL_moves 128 = .ok (.aload_n 0, 1) := by decide +kernel
theorem dL_moves_129 : decode cL_moves 129 = .ok (.iload_n 3, 1) := by decide +kernel
theorem dL_moves_130 : decode cL_moves 130 = .ok (.invokevirtual 21, 3) := by decide +kernel
theorem dL_moves_133 : decode cL_moves 133 = .ok (.iload 7, 2) := by decide +kernel
theorem dL_moves_135 : decode cL_moves 135 = .ok (.if_icmp .ne 17, 3) := by decide +kernel
theorem dL_moves_138 : decode cL_moves 138 = .ok (.aload_n 0, 1) := by decide +kernel
theorem dL_moves_139 : decode cL_moves 139 = .ok (.iconst 0, 1) := by decide +kernel
theorem dL_moves_140 : decode cL_moves 140 = .ok (.invokevirtual 8, 3) := by decide +kernel
theorem dL_moves_143 : decode cL_moves 143 = .ok (.iload 4, 2) := by decide +kernel
theorem dL_moves_145 : decode cL_moves 145 = .ok (.if_icmp .ne 7, 3) := by decide +kernel
theorem dL_moves_148 : decode cL_moves 148 = .ok (.iconst 1, 1) := by decide +kernel
theorem dL_moves_149 : decode cL_moves 149 = .ok (.goto 4, 3) := by decide +kernel
theorem dL_moves_152 : decode cL_moves 152 = .ok (.iconst 0, 1) := by decide +kernel
theorem dL_moves_153 : decode cL_moves 153 = .ok (.istore 9, 2) := by decide +kernel
theorem dL_moves_155 : decode cL_moves 155 = .ok (.iload 9, 2) := by decide +kernel
theorem dL_moves_157 : decode cL_moves 157 = .ok (.ifCond .eq 19, 3) := by decide +kernel
theorem dL_moves_160 : decode cL_moves 160 = .ok (.aload_n 0, 1) := by decide +kernel
theorem dL_moves_161 : decode cL_moves 161 = .ok (.iload_n 3, 1) := by decide +kernel
theorem dL_moves_162 : decode cL_moves 162 = .ok (.iload_n 2, 1) := by decide +kernel
theorem dL_moves_163 : decode cL_moves 163 = .ok (.iload_n 1, 1) := by decide +kernel
theorem dL_moves_164 : decode cL_moves 164 = .ok (.invokevirtual 27, 3) := by decide +kernel
theorem dL_moves_167 : decode cL_moves 167 = .ok (.iload 8, 2) := by decide +kernel
theorem dL_moves_169 : decode cL_moves 169 = .ok (.if_icmp .ne 7, 3) := by decide +kernel
theorem dL_moves_172 : decode cL_moves 172 = .ok (.iconst 1, 1) := by decide +kernel
theorem dL_moves_173 : decode cL_moves 173 = .ok (.goto 4, 3) := by decide +kernel
theorem dL_moves_176 : decode cL_moves 176 = .ok (.iconst 0, 1) := by decide +kernel
theorem dL_moves_177 : decode cL_moves 177 = .ok (.istore 9, 2) := by decide +kernel
theorem dL_moves_179 : decode cL_moves 179 = .ok (.iconst 0, 1) := by decide +kernel
theorem dL_moves_180 : decode cL_moves 180 = .ok (.istore 10, 2) := by decide +kernel
theorem dL_moves_182 : decode cL_moves 182 = .ok (.iconst 0, 1) := by decide +kernel
theorem dL_moves_183 : decode cL_moves 183 = .ok (.istore 11, 2) := by decide +kernel
theorem dL_moves_185 : decode cL_moves 185 = .ok (.iload 11, 2) := by decide +kernel
theorem dL_moves_187 : decode cL_moves 187 = .ok (.iload 4, 2) := by decide +kernel
theorem dL_moves_189 : decode cL_moves 189 = .ok (.if_icmp .ge 23, 3) := by decide +kernel
theorem dL_moves_192 : decode cL_moves 192 = .ok (.bipush 101, 2) := by decide +kernel
theorem dL_moves_194 : decode cL_moves 194 = .ok (.iload 10, 2) := by decide +kernel
theorem dL_moves_196 : decode cL_moves 196 = .ok (.imul, 1) := by decide +kernel
theorem dL_moves_197 : decode cL_moves 197 = .ok (.aload_n 0, 1) := by decide +kernel
theorem dL_moves_198 : decode cL_moves 198 = .ok (.iload 11, 2) := by decide +kernel
theorem dL_moves_200 : decode cL_moves 200 = .ok (.invokevirtual 21, 3) := by decide +kernel
theorem dL_moves_203 : decode cL_moves 203 = .ok (.iadd, 1) := by decide +kernel
theorem dL_moves_204 : decode cL_moves 204 = .ok (.istore 10, 2) := by decide +kernel
theorem dL_moves_206 : decode cL_moves 206 = .ok (.iinc 11 1, 3) := by decide +kernel
theorem dL_moves_209 : decode cL_moves 209 = .ok (.goto (-24), 3) := by decide +kernel
theorem dL_moves_212 : decode cL_moves 212 = .ok (.iconst 0, 1) := by decide +kernel
theorem dL_moves_213 : decode cL_moves 213 = .ok (.istore 11, 2) := by decide +kernel
theorem dL_moves_215 : decode cL_moves 215 = .ok (.iconst 0, 1) := by decide +kernel
theorem dL_moves_216 : decode cL_moves 216 = .ok (.istore 12, 2) := by decide +kernel
theorem dL_moves_218 : decode cL_moves 218 = .ok (.iload 12, 2) := by decide +kernel
theorem dL_moves_220 : decode cL_moves 220 = .ok (.aload_n 0, 1) := by decide +kernel
theorem dL_moves_221 : decode cL_moves 221 = .ok (.iconst 1, 1) := by decide +kernel
theorem dL_moves_222 : decode cL_moves 222 = .ok (.invokevirtual 8, 3) := by decide +kernel
theorem dL_moves_225 : decode cL_moves 225 = .ok (.if_icmp .ge 24, 3) := by decide +kernel
theorem dL_moves_228 : decode cL_moves 228 = .ok (.bipush 53, 2) := by decide +kernel
theorem dL_moves_230 : decode cL_moves 230 = .ok (.iload 11, 2) := by decide +kernel
theorem dL_moves_232 : decode cL_moves 232 = .ok (.imul, 1) := by decide +kernel
theorem dL_moves_233 : decode cL_moves 233 = .ok (.aload_n 0, 1) := by decide +kernel
theorem dL_moves_234 : decode cL_moves 234 = .ok (.iload 12, 2) := by decide +kernel
theorem dL_moves_236 : decode cL_moves 236 = .ok (.iconst 1, 1) := by decide +kernel
theorem dL_moves_237 : decode cL_moves 237 = .ok (.invokevirtual 17, 3) := by decide +kernel
theorem dL_moves_240 : decode cL_moves 240 = .ok (.iadd, 1) := by decide +kernel
theorem dL_moves_241 : decode cL_moves 241 = .ok (.istore 11, 2) := by decide +kernel
theorem dL_moves_243 : decode cL_moves 243 = .ok (.iinc 12 1, 3) := by decide +kernel
theorem dL_moves_246 : decode cL_moves 246 = .ok (.goto (-28), 3) := by decide +kernel
theorem dL_moves_249 : decode cL_moves 249 = .ok (.iload 9, 2) := by decide +kernel
theorem dL_moves_251 : decode cL_moves 251 = .ok (.ifCond .eq 21, 3) := by decide +kernel
theorem dL_moves_254 : decode cL_moves 254 = .ok (.iload 10, 2) := by decide +kernel
theorem dL_moves_256 : decode cL_moves 256 = .ok (.iload 5, 2) := by decide +kernel
theorem dL_moves_258 : decode cL_moves 258 = .ok (.if_icmp .ne 14, 3) := by decide +kernel
theorem dL_moves_261 : decode cL_moves 261 = .ok (.iload 11, 2) := by decide +kernel
theorem dL_moves_263 : decode cL_moves 263 = .ok (.iload 6, 2) := by decide +kernel
theorem dL_moves_265 : decode cL_moves 265 = .ok (.if_icmp .ne 7, 3) := by decide +kernel
theorem dL_moves_268 : decode cL_moves 268 = .ok (.iconst 1, 1) := by decide +kernel
theorem dL_moves_269 : decode cL_moves 269 = .ok (.goto 4, 3) := by decide +kernel
theorem dL_moves_272 : decode cL_moves 272 = .ok (.iconst 0, 1) := by decide +kernel
theorem dL_moves_273 : decode cL_moves 273 = .ok (.ireturn, 1) := by decide +kernel
set_option maxRecDepth 20000 in
theorem ggL_acts_X6_count : GoodIn wsL_acts wsX6_count := goodIn_r _ [9, 10, 11, 12, 13, 14, 15, 16, 17, 18, 19, 20, 21, 22, 23, 24, 25, 26, 27, 28, 29, 30, 31, 32, 33, 34, 35, 36, 37, 38, 39, 40, 41, 42, 43, 44, 45, 46, 47, 48, 49, 50, 51, 52, 53, 54, 55, 56, 57, 58, 59, 60, 61, 370, 371, 372, 373, 374, 375, 376, 377, 378, 379, 380, 381, 382, 383, 384, 385, 386, 387, 388, 389, 390, 391, 392, 393] (by decide +kernel) (by decide +kernel)
set_option maxRecDepth 20000 in
theorem gL_acts_X6_count : GoodIn wsL_acts (wsV RL 8 RX6 yX6_count wsX6_count) := goodIn_app (goodIn_of _ (by decide +kernel)) ggL_acts_X6_count
set_option maxRecDepth 20000 in
theorem ggL_acts_X6_put : GoodIn wsL_acts wsX6_put := goodIn_r _ [65, 10, 11, 14, 66, 12, 67, 68, 69, 18, 70, 20, 71, 72, 8, 73, 74, 75, 76, 77, 39, 78, 79, 80, 48, 81, 50, 82, 83, 84, 85, 86, 87, 88, 89, 90, 24, 91, 92, 26, 61, 44, 93, 94, 95, 96, 35, 36, 37, 38, 97, 98, 99, 100, 101, 102, 103, 104, 105, 106, 107, 108, 109, 110, 111, 112, 113, 114, 58, 59, 60, 115, 116, 117, 118, 119, 120, 121, 122, 123, 124, 125, 126, 127, 128, 129, 130, 131, 132, 133, 134, 135, 136, 137, 138, 139, 140, 141, 142, 143, 144, 145, 146, 147, 15, 16, 17, 19, 370, 371, 372, 373, 374, 375, 376, 377, 378, 379, 380, 381, 382, 383, 384, 385, 386, 387, 394, 395, 396] (by decide +kernel) (by decide +kernel)
set_option maxRecDepth 20000 in
theorem gL_acts_X6_put : GoodIn wsL_acts (wsV RL 31 RX6 yX6_put wsX6_put) := goodIn_app (goodIn_of _ (by decide +kernel)) ggL_acts_X6_put
set_option maxRecDepth 20000 in
theorem ggL_acts_X6_wordAt : GoodIn wsL_acts wsX6_wordAt := goodIn_r _ [151, 14, 10, 11, 152, 36, 37, 18, 38, 20, 39, 153, 154, 8, 155, 156, 370, 371, 372, 373, 374, 375, 376, 377, 378, 379, 380, 381, 382, 383, 384] (by decide +kernel) (by decide +kernel)
set_option maxRecDepth 20000 in
theorem gL_acts_X6_wordAt : GoodIn wsL_acts (wsV RL 21 RX6 yX6_wordAt wsX6_wordAt) := goodIn_app (goodIn_of _ (by decide +kernel)) ggL_acts_X6_wordAt
set_option maxRecDepth 20000 in
theorem ggL_acts_X6_take : GoodIn wsL_acts wsX6_take := goodIn_r _ [160, 10, 11, 14, 12, 161, 162, 163, 18, 164, 20, 39, 152, 36, 37, 38, 78, 79, 80, 48, 81, 50, 82, 83, 84, 85, 86, 87, 88, 89, 90, 24, 91, 92, 26, 61, 44, 93, 94, 95, 96, 35, 97, 98, 99, 100, 101, 102, 103, 104, 105, 106, 107, 108, 109, 110, 111, 112, 113, 114, 58, 59, 60, 165, 166, 167, 168, 169, 170, 171, 172, 123, 173, 126, 127, 128, 129, 130, 131, 132, 133, 134, 135, 136, 137, 138, 139, 140, 141, 142, 143, 144, 145, 146, 147, 370, 371, 372, 373, 374, 375, 376, 377, 378, 379, 380, 381, 382, 383, 384, 385, 386, 387, 394, 395, 396] (by decide +kernel) (by decide +kernel)
set_option maxRecDepth 20000 in
theorem gL_acts_X6_take : GoodIn wsL_acts (wsV RL 35 RX6 yX6_take wsX6_take) := goodIn_app (goodIn_of _ (by decide +kernel)) ggL_acts_X6_take
set_option maxRecDepth 20000 in
theorem ggL_acts_X6_move : GoodIn wsL_acts wsX6_move := goodIn_r _ [177, 10, 11, 14, 12, 178, 179, 180, 18, 181, 20, 173, 162, 163, 164, 39, 78, 79, 80, 48, 81, 50, 82, 83, 84, 85, 86, 87, 88, 89, 90, 24, 91, 92, 26, 61, 44, 93, 94, 95, 96, 35, 36, 37, 38, 97, 98, 99, 100, 101, 102, 103, 104, 105, 106, 107, 108, 109, 110, 111, 112, 113, 114, 58, 59, 60, 182, 183, 184, 185, 186, 187, 188, 189, 123, 190, 191, 192, 193, 126, 127, 128, 129, 130, 131, 132, 133, 134, 135, 136, 137, 138, 139, 140, 141, 142, 143, 144, 145, 146, 147, 194, 195, 196, 197, 370, 371, 372, 373, 374, 375, 376, 377, 378, 379, 380, 381, 382, 383, 384, 385, 386, 387, 394, 395, 396] (by decide +kernel) (by decide +kernel)
set_option maxRecDepth 20000 in
theorem gL_acts_X6_move : GoodIn wsL_acts (wsV RL 27 RX6 yX6_move wsX6_move) := goodIn_app (goodIn_of _ (by decide +kernel)) ggL_acts_X6_move
set_option maxRecDepth 20000 in
theorem ggL_acts_L_moves : GoodIn wsL_acts wsL_moves := goodIn_r _ [201, 5, 6, 7, 8, 9, 10, 11, 12, 13, 14, 15, 16, 17, 18, 19, 20, 21, 22, 23, 24, 25, 26, 27, 28, 29, 30, 31, 32, 33, 34, 35, 36, 37, 38, 39, 40, 41, 42, 43, 44, 45, 46, 47, 48, 49, 50, 51, 52, 53, 54, 55, 56, 57, 58, 59, 60, 61, 148, 149, 150, 151, 152, 153, 154, 155, 156, 202, 203, 204, 205, 206, 98, 99, 100, 101, 207, 208, 209, 105, 210, 107, 211, 212, 213, 214, 108, 215, 216, 217, 218, 219, 220, 221, 222, 92, 223, 224, 225, 226, 227, 228, 229, 230, 231, 232, 111, 112, 113, 109, 233, 114, 234, 235, 236, 237, 238, 239, 240, 241, 242, 243, 244, 245, 246, 247, 248, 249, 250, 251, 252, 253, 254, 255, 256, 257, 258, 259, 174, 175, 176, 177, 178, 179, 180, 181, 173, 162, 163, 164, 78, 79, 80, 81, 82, 83, 84, 85, 86, 87, 88, 89, 90, 91, 93, 94, 95, 96, 97, 102, 103, 104, 106, 110, 182, 183, 184, 185, 186, 187, 188, 189, 123, 190, 191, 192, 193, 126, 127, 128, 129, 130, 131, 132, 133, 134, 135, 136, 137, 138, 139, 140, 141, 142, 143, 144, 145, 146, 147, 194, 195, 196, 197, 370, 371, 372, 373, 374, 375, 376, 377, 378, 379, 380, 381, 382, 383, 384, 385, 386, 387, 388, 389, 390, 391, 392, 393, 394, 395, 396] (by decide +kernel) (by decide +kernel)
set_option maxRecDepth 20000 in
theorem gL_acts_L_moves : GoodIn wsL_acts (va_wsS RL 39 yL_moves wsL_moves) := goodIn_app (goodIn_of _ (by decide +kernel)) ggL_acts_L_moves
set_option maxRecDepth 20000 in
theorem ggL_acts_X6_anchor : GoodIn wsL_acts wsX6_anchor := goodIn_r _ [263, 10, 11, 14, 66, 12, 161, 162, 163, 18, 164, 20, 39, 21, 22, 23, 24, 25, 26, 78, 79, 80, 48, 81, 50, 82, 83, 84, 85, 86, 87, 88, 89, 90, 91, 92, 61, 44, 93, 94, 95, 96, 35, 36, 37, 38, 97, 98, 99, 100, 101, 102, 103, 104, 105, 106, 107, 108, 109, 110, 111, 112, 113, 114, 58, 59, 60, 264, 265, 266, 267, 268, 269, 270, 271, 272, 273, 274, 275, 276, 277, 278, 279, 280, 370, 371, 372, 373, 374, 375, 376, 377, 378, 379, 380, 381, 382, 383, 384, 385, 386, 387, 394, 395, 396] (by decide +kernel) (by decide +kernel)
set_option maxRecDepth 20000 in
theorem gL_acts_X6_anchor : GoodIn wsL_acts (wsV RL 45 RX6 yX6_anchor wsX6_anchor) := goodIn_app (goodIn_of _ (by decide +kernel)) ggL_acts_X6_anchor
set_option maxRecDepth 20000 in
theorem ggL_acts_X6_anchorOf : GoodIn wsL_acts wsX6_anchorOf := goodIn_r _ [205, 10, 14, 206, 98, 99, 24, 100, 26, 101, 207, 208, 209, 105, 210, 107, 211, 212, 213, 214, 108, 153, 154, 8, 155, 156, 215, 216, 217, 218, 219, 220, 221, 222, 92, 223, 224, 225, 226, 227, 16, 17, 18, 19, 20, 228, 229, 230, 231, 232, 111, 112, 113, 109, 233, 36, 37, 38, 39, 114, 58, 59, 60, 61, 234, 235, 236, 237, 238, 239, 240, 241, 242, 243, 244, 245, 246, 247, 248, 249, 250, 251, 252, 253, 254, 255, 256, 257, 258, 259, 370, 371, 372, 373, 374, 375, 376, 377, 378, 379, 380, 394, 395, 396, 381, 382, 383, 384] (by decide +kernel) (by decide +kernel)
set_option maxRecDepth 20000 in
theorem gL_acts_X6_anchorOf : GoodIn wsL_acts (wsV RL 17 RX6 yX6_anchorOf wsX6_anchorOf) := goodIn_app (goodIn_of _ (by decide +kernel)) ggL_acts_X6_anchorOf
set_option maxRecDepth 20000 in
theorem ggL_acts_X6_score : GoodIn wsL_acts wsX6_score := goodIn_r _ [284, 10, 11, 14, 206, 98, 99, 24, 100, 26, 101, 161, 162, 163, 18, 164, 20, 39, 247, 229, 230, 231, 92, 223, 224, 225, 226, 232, 111, 112, 105, 113, 109, 233, 36, 37, 38, 114, 58, 59, 60, 61, 370, 371, 372, 373, 374, 375, 376, 377, 378, 379, 380, 381, 382, 383, 384, 394, 395, 396] (by decide +kernel) (by decide +kernel)
set_option maxRecDepth 20000 in
theorem gL_acts_X6_score : GoodIn wsL_acts (wsV RL 24 RX6 yX6_score wsX6_score) := goodIn_app (goodIn_of _ (by decide +kernel)) ggL_acts_X6_score
set_option maxRecDepth 20000 in
theorem ggL_acts_X6_change : GoodIn wsL_acts wsX6_change := goodIn_r _ [288, 10, 11, 14, 12, 161, 162, 163, 18, 164, 20, 39, 71, 72, 8, 73, 152, 36, 37, 38, 78, 79, 80, 48, 81, 50, 82, 83, 84, 85, 86, 87, 88, 89, 90, 24, 91, 92, 26, 61, 44, 93, 94, 95, 96, 35, 97, 98, 99, 100, 101, 102, 103, 104, 105, 106, 107, 108, 109, 110, 111, 112, 113, 114, 58, 59, 60, 289, 290, 291, 292, 293, 294, 295, 296, 123, 173, 135, 136, 137, 138, 139, 140, 141, 142, 143, 144, 145, 146, 147, 132, 133, 134, 370, 371, 372, 373, 374, 375, 376, 377, 378, 379, 380, 381, 382, 383, 384, 385, 386, 387, 394, 395, 396] (by decide +kernel) (by decide +kernel)
set_option maxRecDepth 20000 in
theorem gL_acts_X6_change : GoodIn wsL_acts (wsV RL 48 RX6 yX6_change wsX6_change) := goodIn_app (goodIn_of _ (by decide +kernel)) ggL_acts_X6_change
set_option maxRecDepth 20000 in
theorem ggL_acts_X6_anchors : GoodIn wsL_acts wsX6_anchors := goodIn_r _ [300, 14, 10, 301, 302, 303, 24, 304, 26, 97, 98, 99, 100, 101, 305, 254, 255, 256, 252, 240, 241, 242, 219, 220, 221, 222, 92, 223, 224, 225, 226, 227, 16, 17, 18, 19, 20, 228, 229, 230, 231, 232, 111, 112, 105, 113, 109, 233, 36, 37, 38, 39, 114, 58, 59, 60, 61, 234, 208, 209, 210, 107, 235, 236, 237, 238, 257, 212, 213, 214, 108, 258, 216, 217, 218, 370, 371, 372, 373, 374, 375, 376, 377, 378, 379, 380, 381, 382, 383, 384, 394, 395, 396] (by decide +kernel) (by decide +kernel)
set_option maxRecDepth 20000 in
theorem gL_acts_X6_anchors : GoodIn wsL_acts (wsV RL 14 RX6 yX6_anchors wsX6_anchors) := goodIn_app (goodIn_of _ (by decide +kernel)) ggL_acts_X6_anchors
set_option maxRecDepth 20000 in
theorem ggL_acts_X6_findAll : GoodIn wsL_acts wsX6_findAll := goodIn_r _ [309, 12, 10, 78, 79, 80, 48, 81, 50, 82, 83, 84, 85, 86, 87, 88, 89, 90, 24, 91, 92, 26, 61, 44, 93, 94, 95, 18, 96, 39, 20, 35, 36, 37, 38, 97, 98, 99, 100, 101, 102, 103, 104, 105, 106, 107, 108, 109, 110, 111, 112, 113, 114, 58, 59, 60, 21, 22, 23, 25, 206, 310, 311, 312, 313, 252, 240, 241, 242, 219, 220, 221, 222, 223, 224, 225, 226, 227, 16, 17, 19, 228, 229, 230, 231, 232, 233, 234, 208, 209, 210, 235, 236, 237, 238, 207, 314, 273, 274, 275, 370, 371, 372, 373, 374, 375, 385, 386, 387, 376, 377, 378, 379, 380, 381, 382, 383, 384, 394, 395, 396] (by decide +kernel) (by decide +kernel)
set_option maxRecDepth 20000 in
theorem gL_acts_X6_findAll : GoodIn wsL_acts (wsV RL 51 RX6 yX6_findAll wsX6_findAll) := goodIn_app (goodIn_of _ (by decide +kernel)) ggL_acts_X6_findAll
set_option maxRecDepth 20000 in
theorem ggL_acts_X6_blockOf : GoodIn wsL_acts wsX6_blockOf := goodIn_r _ [318, 14, 319, 10, 156, 320, 321, 322, 323, 324, 325, 326, 22, 23, 24, 25, 26, 327, 98, 99, 100, 101, 328, 311, 312, 313, 252, 240, 241, 242, 219, 220, 221, 222, 92, 223, 224, 225, 226, 227, 16, 17, 18, 19, 20, 228, 229, 230, 231, 232, 111, 112, 105, 113, 109, 233, 36, 37, 38, 39, 114, 58, 59, 60, 61, 234, 208, 209, 210, 107, 235, 236, 237, 238, 329, 330, 331, 332, 333, 334, 335, 336, 337, 338, 339, 340, 341, 342, 343, 344, 345, 346, 347, 348, 349, 350, 351, 352, 353, 354, 355, 356, 357, 358, 359, 360, 361, 362, 363, 370, 371, 372, 373, 374, 375, 397, 398, 399, 376, 377, 378, 379, 380, 381, 382, 383, 384, 394, 395, 396] (by decide +kernel) (by decide +kernel)
set_option maxRecDepth 20000 in
theorem gL_acts_X6_blockOf : GoodIn wsL_acts (wsV RL 55 RX6 yX6_blockOf wsX6_blockOf) := goodIn_app (goodIn_of _ (by decide +kernel)) ggL_acts_X6_blockOf
set_option maxRecDepth 20000 in
theorem ggL_acts_X6_remember : GoodIn wsL_acts wsX6_remember := goodIn_r _ [367, 10, 14, 11, 368, 12, 206, 98, 99, 24, 100, 26, 101, 207, 208, 209, 105, 210, 107, 161, 162, 163, 18, 164, 20, 39, 78, 79, 80, 48, 81, 50, 82, 83, 84, 85, 86, 87, 88, 89, 90, 91, 92, 61, 44, 93, 94, 95, 96, 35, 36, 37, 38, 97, 102, 103, 104, 106, 108, 109, 110, 111, 112, 113, 114, 58, 59, 60, 369, 277, 278, 279, 280, 370, 371, 372, 373, 374, 375, 376, 377, 378, 379, 380, 394, 395, 396, 381, 382, 383, 384, 385, 386, 387] (by decide +kernel) (by decide +kernel)
set_option maxRecDepth 20000 in
theorem gL_acts_X6_remember : GoodIn wsL_acts (wsV RL 59 RX6 yX6_remember wsX6_remember) := goodIn_app (goodIn_of _ (by decide +kernel)) ggL_acts_X6_remember
theorem dL_acts_0 : decode cL_acts 0 = .ok (.iload_n 1, 1) := by decide +kernel
theorem dL_acts_1 : decode cL_acts 1 = .ok (.bipush 8, 2) := by decide +kernel
theorem dL_acts_3 : decode cL_acts 3 = .ok (.idiv, 1) := by decide +kernel
theorem dL_acts_4 : decode cL_acts 4 = .ok (.istore_n 2, 1) := by decide +kernel
theorem dL_acts_5 : decode cL_acts 5 = .ok (.aload_n 0, 1) := by decide +kernel
theorem dL_acts_6 : decode cL_acts 6 = .ok (.iconst 0, 1) := by decide +kernel
theorem dL_acts_7 : decode cL_acts 7 = .ok (.invokevirtual 8, 3) := by decide +kernel
theorem dL_acts_10 : decode cL_acts 10 = .ok (.istore_n 3, 1) := by decide +kernel
theorem dL_acts_11 : decode cL_acts 11 = .ok (.aload_n 0, 1) := by decide +kernel
theorem dL_acts_12 : decode cL_acts 12 = .ok (.iconst 1, 1) := by decide +kernel
theorem dL_acts_13 : decode cL_acts 13 = .ok (.invokevirtual 8, 3) := by decide +kernel
theorem dL_acts_16 : decode cL_acts 16 = .ok (.istore 4, 2) := by decide +kernel
theorem dL_acts_18 : decode cL_acts 18 = .ok (.iload_n 1, 1) := by decide +kernel
theorem dL_acts_19 : decode cL_acts 19 = .ok (.bipush 8, 2) := by decide +kernel
theorem dL_acts_21 : decode cL_acts 21 = .ok (.irem, 1) := by decide +kernel
theorem dL_acts_22 : decode cL_acts 22 = .ok (.tableswitch 518 0 6 #[42, 42, 116, 174, 233, 359, 459], 42) := by decide +kernel
theorem dL_acts_64 : decode cL_acts 64 = .ok (.iload_n 2, 1) := by decide +kernel
theorem dL_acts_65 : decode cL_acts 65 = .ok (.bipush 64, 2) := by decide +kernel
theorem dL_acts_67 : decode cL_acts 67 = .ok (.idiv, 1) := by decide +kernel
theorem dL_acts_68 : decode cL_acts 68 = .ok (.bipush 7, 2) := by decide +kernel
theorem dL_acts_70 : decode cL_acts 70 = .ok (.irem, 1) := by decide +kernel
theorem dL_acts_71 : decode cL_acts 71 = .ok (.istore 5, 2) := by decide +kernel
theorem dL_acts_73 : decode cL_acts 73 = .ok (.iload_n 2, 1) := by decide +kernel
theorem dL_acts_74 : decode cL_acts 74 = .ok (.iload_n 3, 1) := by decide +kernel
theorem dL_acts_75 : decode cL_acts 75 = .ok (.iconst 1, 1) := by decide +kernel
theorem dL_acts_76 : decode cL_acts 76 = .ok (.iadd, 1) := by decide +kernel
theorem dL_acts_77 : decode cL_acts 77 = .ok (.irem, 1) := by decide +kernel
theorem dL_acts_78 : decode cL_acts 78 = .ok (.istore 6, 2) := by decide +kernel
theorem dL_acts_80 : decode cL_acts 80 = .ok (.iload_n 3, 1) := by decide +kernel
theorem dL_acts_81 : decode cL_acts 81 = .ok (.bipush 40, 2) := by decide +kernel
theorem dL_acts_83 : decode cL_acts 83 = .ok (.if_icmp .ne 24, 3) := by decide +kernel
theorem dL_acts_86 : decode cL_acts 86 = .ok (.aload_n 0, 1) := by decide +kernel
theorem dL_acts_87 : decode cL_acts 87 = .ok (.iload 6, 2) := by decide +kernel
theorem dL_acts_89 : decode cL_acts 89 = .ok (.iload 5, 2) := by decide +kernel
theorem dL_acts_91 : decode cL_acts 91 = .ok (.invokevirtual 31, 3) := by decide +kernel
theorem dL_acts_94 : decode cL_acts 94 = .ok (.ldc 34, 2) := by decide +kernel
theorem dL_acts_96 : decode cL_acts 96 = .ok (.if_icmp .ne 7, 3) := by decide +kernel
theorem dL_acts_99 : decode cL_acts 99 = .ok (.iconst 1, 1) := by decide +kernel
theorem dL_acts_100 : decode cL_acts 100 = .ok (.goto 37, 3) := by decide +kernel
theorem dL_acts_103 : decode cL_acts 103 = .ok (.iconst 0, 1) := by decide +kernel
theorem dL_acts_104 : decode cL_acts 104 = .ok (.goto 33, 3) := by decide +kernel
theorem dL_acts_107 : decode cL_acts 107 = .ok (.aload_n 0, 1) := by decide +kernel
theorem dL_acts_108 : decode cL_acts 108 = .ok (.iload 6, 2) := by decide +kernel
theorem dL_acts_110 : decode cL_acts 110 = .ok (.iload 5, 2) := by decide +kernel
theorem dL_acts_112 : decode cL_acts 112 = .ok (.invokevirtual 31, 3) := by decide +kernel
theorem dL_acts_115 : decode cL_acts 115 = .ok (.iload_n 3, 1) := by decide +kernel
theorem dL_acts_116 : decode cL_acts 116 = .ok (.iconst 1, 1) := by decide +kernel
theorem dL_acts_117 : decode cL_acts 117 = .ok (.iadd, 1) := by decide +kernel
theorem dL_acts_118 : decode cL_acts 118 = .ok (.if_icmp .ne 18, 3) := by decide +kernel
theorem dL_acts_121 : decode cL_acts 121 = .ok (.aload_n 0, 1) := by decide +kernel
theorem dL_acts_122 : decode cL_acts 122 = .ok (.iload 6, 2) := by decide +kernel
theorem dL_acts_124 : decode cL_acts 124 = .ok (.invokevirtual 21, 3) := by decide +kernel
theorem dL_acts_127 : decode cL_acts 127 = .ok (.iload 5, 2) := by decide +kernel
theorem dL_acts_129 : decode cL_acts 129 = .ok (.if_icmp .ne 7, 3) := by decide +kernel
theorem dL_acts_132 : decode cL_acts 132 = .ok (.iconst 1, 1) := by decide +kernel
theorem dL_acts_133 : decode cL_acts 133 = .ok (.goto 4, 3) := by decide +kernel
theorem dL_acts_136 : decode cL_acts 136 = .ok (.iconst 0, 1) := by decide +kernel
theorem dL_acts_137 : decode cL_acts 137 = .ok (.ireturn, 1) := by decide +kernel
theorem dL_acts_138 : decode cL_acts 138 = .ok (.iload_n 3, 1) := by decide +kernel
theorem dL_acts_139 : decode cL_acts 139 = .ok (.ifCond .ne 19, 3) := by decide +kernel
theorem dL_acts_142 : decode cL_acts 142 = .ok (.aload_n 0, 1) := by decide +kernel
theorem dL_acts_143 : decode cL_acts 143 = .ok (.iconst 0, 1) := by decide +kernel
theorem dL_acts_144 : decode cL_acts 144 = .ok (.invokevirtual 35, 3) := by decide +kernel
theorem dL_acts_147 : decode cL_acts 147 = .ok (.ldc 38, 2) := by decide +kernel
theorem dL_acts_149 : decode cL_acts 149 = .ok (.if_icmp .ne 7, 3) := by decide +kernel
theorem dL_acts_152 : decode cL_acts 152 = .ok (.iconst 1, 1) := by decide +kernel
theorem dL_acts_153 : decode cL_acts 153 = .ok (.goto 4, 3) := by decide +kernel
theorem dL_acts_156 : decode cL_acts 156 = .ok (.iconst 0, 1) := by decide +kernel
theorem dL_acts_157 : decode cL_acts 157 = .ok (.ireturn, 1) := by decide +kernel
theorem dL_acts_158 : decode cL_acts 158 = .ok (.aload_n 0, 1) := by decide +kernel
theorem dL_acts_159 : decode cL_acts 159 = .ok (.iload_n 2, 1) := by decide +kernel
theorem dL_acts_160 : decode cL_acts 160 = .ok (.iload_n 3, 1) := by decide +kernel
theorem dL_acts_161 : decode cL_acts 161 = .ok (.irem, 1) := by decide +kernel
theorem dL_acts_162 : decode cL_acts 162 = .ok (.invokevirtual 21, 3) := by decide +kernel
theorem dL_acts_165 : decode cL_acts 165 = .ok (.istore 7, 2) := by decide +kernel
theorem dL_acts_167 : decode cL_acts 167 = .ok (.aload_n 0, 1) := by decide +kernel
theorem dL_acts_168 : decode cL_acts 168 = .ok (.iload_n 2, 1) := by decide +kernel
theorem dL_acts_169 : decode cL_acts 169 = .ok (.iload_n 3, 1) := by decide +kernel
theorem dL_acts_170 : decode cL_acts 170 = .ok (.irem, 1) := by decide +kernel
theorem dL_acts_171 : decode cL_acts 171 = .ok (.invokevirtual 35, 3) := by decide +kernel
theorem dL_acts_174 : decode cL_acts 174 = .ok (.iload 7, 2) := by decide +kernel
theorem dL_acts_176 : decode cL_acts 176 = .ok (.if_icmp .ne 18, 3) := by decide +kernel
theorem dL_acts_179 : decode cL_acts 179 = .ok (.aload_n 0, 1) := by decide +kernel
theorem dL_acts_180 : decode cL_acts 180 = .ok (.iconst 0, 1) := by decide +kernel
theorem dL_acts_181 : decode cL_acts 181 = .ok (.invokevirtual 8, 3) := by decide +kernel
theorem dL_acts_184 : decode cL_acts 184 = .ok (.iload_n 3, 1) := by decide +kernel
theorem dL_acts_185 : decode cL_acts 185 = .ok (.iconst 1, 1) := by decide +kernel
theorem dL_acts_186 : decode cL_acts 186 = .ok (.isub, 1) := by decide +kernel
theorem dL_acts_187 : decode cL_acts 187 = .ok (.if_icmp .ne 7, 3) := by decide +kernel
theorem dL_acts_190 : decode cL_acts 190 = .ok (.iconst 1, 1) := by decide +kernel
theorem dL_acts_191 : decode cL_acts 191 = .ok (.goto 4, 3) := by decide +kernel
theorem dL_acts_194 : decode cL_acts 194 = .ok (.iconst 0, 1) := by decide +kernel
theorem dL_acts_195 : decode cL_acts 195 = .ok (.ireturn, 1) := by decide +kernel
theorem dL_acts_196 : decode cL_acts 196 = .ok (.iload_n 3, 1) := by decide +kernel
theorem dL_acts_197 : decode cL_acts 197 = .ok (.ifCond .ne 21, 3) := by decide +kernel
theorem dL_acts_200 : decode cL_acts 200 = .ok (.aload_n 0, 1) := by decide +kernel
theorem dL_acts_201 : decode cL_acts 201 = .ok (.iconst 0, 1) := by decide +kernel
theorem dL_acts_202 : decode cL_acts 202 = .ok (.iconst 1, 1) := by decide +kernel
theorem dL_acts_203 : decode cL_acts 203 = .ok (.iconst 0, 1) := by decide +kernel
theorem dL_acts_204 : decode cL_acts 204 = .ok (.invokevirtual 27, 3) := by decide +kernel
theorem dL_acts_207 : decode cL_acts 207 = .ok (.ldc 38, 2) := by decide +kernel
theorem dL_acts_209 : decode cL_acts 209 = .ok (.if_icmp .ne 7, 3) := by decide +kernel
theorem dL_acts_212 : decode cL_acts 212 = .ok (.iconst 1, 1) := by decide +kernel
theorem dL_acts_213 : decode cL_acts 213 = .ok (.goto 4, 3) := by decide +kernel
theorem dL_acts_216 : decode cL_acts 216 = .ok (.iconst 0, 1) := by decide +kernel
theorem dL_acts_217 : decode cL_acts 217 = .ok (.ireturn, 1) := by decide +kernel
theorem dL_acts_218 : decode cL_acts 218 = .ok (.iconst 1, 1) := by decide +kernel
theorem dL_acts_219 : decode cL_acts 219 = .ok (.iload_n 2, 1) := by decide +kernel
theorem dL_acts_220 : decode cL_acts 220 = .ok (.iload_n 3, 1) := by decide +kernel
theorem dL_acts_221 : decode cL_acts 221 = .ok (.irem, 1) := by decide +kernel
theorem dL_acts_222 : decode cL_acts 222 = .ok (.iadd, 1) := by decide +kernel
theorem dL_acts_223 : decode cL_acts 223 = .ok (.istore 8, 2) := by decide +kernel
theorem dL_acts_225 : decode cL_acts 225 = .ok (.aload_n 0, 1) := by decide +kernel
theorem dL_acts_226 : decode cL_acts 226 = .ok (.iload_n 2, 1) := by decide +kernel
theorem dL_acts_227 : decode cL_acts 227 = .ok (.bipush 64, 2) := by decide +kernel
theorem dL_acts_229 : decode cL_acts 229 = .ok (.idiv, 1) := by decide +kernel
theorem dL_acts_230 : decode cL_acts 230 = .ok (.iload_n 3, 1) := by decide +kernel
theorem dL_acts_231 : decode cL_acts 231 = .ok (.iload 8, 2) := by decide +kernel
theorem dL_acts_233 : decode cL_acts 233 = .ok (.isub, 1) := by decide +kernel
theorem dL_acts_234 : decode cL_acts 234 = .ok (.iconst 1, 1) := by decide +kernel
theorem dL_acts_235 : decode cL_acts 235 = .ok (.iadd, 1) := by decide +kernel
theorem dL_acts_236 : decode cL_acts 236 = .ok (.irem, 1) := by decide +kernel
theorem dL_acts_237 : decode cL_acts 237 = .ok (.iload 8, 2) := by decide +kernel
theorem dL_acts_239 : decode cL_acts 239 = .ok (.iload_n 2, 1) := by decide +kernel
theorem dL_acts_240 : decode cL_acts 240 = .ok (.sipush 4096, 3) := by decide +kernel
theorem dL_acts_243 : decode cL_acts 243 = .ok (.idiv, 1) := by decide +kernel
theorem dL_acts_244 : decode cL_acts 244 = .ok (.iload_n 3, 1) := by decide +kernel
theorem dL_acts_245 : decode cL_acts 245 = .ok (.iload 8, 2) := by decide +kernel
theorem dL_acts_247 : decode cL_acts 247 = .ok (.isub, 1) := by decide +kernel
theorem dL_acts_248 : decode cL_acts 248 = .ok (.iconst 1, 1) := by decide +kernel
theorem dL_acts_249 : decode cL_acts 249 = .ok (.iadd, 1) := by decide +kernel
theorem dL_acts_250 : decode cL_acts 250 = .ok (.irem, 1) := by decide +kernel
theorem dL_acts_251 : decode cL_acts 251 = .ok (.invokestatic 39, 3) := by decide +kernel
theorem dL_acts_254 : decode cL_acts 254 = .ok (.ireturn, 1) := by decide +kernel
theorem dL_acts_255 : decode cL_acts 255 = .ok (.iload_n 3, 1) := by decide +kernel
theorem dL_acts_256 : decode cL_acts 256 = .ok (.ifCond .ne 19, 3) := by decide +kernel
theorem dL_acts_259 : decode cL_acts 259 = .ok (.aload_n 0, 1) := by decide +kernel
theorem dL_acts_260 : decode cL_acts 260 = .ok (.iconst 0, 1) := by decide +kernel
theorem dL_acts_261 : decode cL_acts 261 = .ok (.invokevirtual 45, 3) := by decide +kernel
theorem dL_acts_264 : decode cL_acts 264 = .ok (.ldc 38, 2) := by decide +kernel
theorem dL_acts_266 : decode cL_acts 266 = .ok (.if_icmp .ne 7, 3) := by decide +kernel
theorem dL_acts_269 : decode cL_acts 269 = .ok (.iconst 1, 1) := by decide +kernel
theorem dL_acts_270 : decode cL_acts 270 = .ok (.goto 4, 3) := by decide +kernel
theorem dL_acts_273 : decode cL_acts 273 = .ok (.iconst 0, 1) := by decide +kernel
theorem dL_acts_274 : decode cL_acts 274 = .ok (.ireturn, 1) := by decide +kernel
theorem dL_acts_275 : decode cL_acts 275 = .ok (.aload_n 0, 1) := by decide +kernel
theorem dL_acts_276 : decode cL_acts 276 = .ok (.iload_n 2, 1) := by decide +kernel
theorem dL_acts_277 : decode cL_acts 277 = .ok (.iload_n 3, 1) := by decide +kernel
theorem dL_acts_278 : decode cL_acts 278 = .ok (.irem, 1) := by decide +kernel
theorem dL_acts_279 : decode cL_acts 279 = .ok (.invokevirtual 45, 3) := by decide +kernel
theorem dL_acts_282 : decode cL_acts 282 = .ok (.istore 9, 2) := by decide +kernel
theorem dL_acts_284 : decode cL_acts 284 = .ok (.iload 4, 2) := by decide +kernel
theorem dL_acts_286 : decode cL_acts 286 = .ok (.bipush 6, 2) := by decide +kernel
theorem dL_acts_288 : decode cL_acts 288 = .ok (.if_icmp .ne 18, 3) := by decide +kernel
theorem dL_acts_291 : decode cL_acts 291 = .ok (.iload 9, 2) := by decide +kernel
theorem dL_acts_293 : decode cL_acts 293 = .ok (.ldc 34, 2) := by decide +kernel
theorem dL_acts_295 : decode cL_acts 295 = .ok (.if_icmp .ne 7, 3) := by decide +kernel
theorem dL_acts_298 : decode cL_acts 298 = .ok (.iconst 1, 1) := by decide +kernel
theorem dL_acts_299 : decode cL_acts 299 = .ok (.goto 81, 3) := by decide +kernel
theorem dL_acts_302 : decode cL_acts 302 = .ok (.iconst 0, 1) := by decide +kernel
theorem dL_acts_303 : decode cL_acts 303 = .ok (.goto 77, 3) := by decide +kernel
theorem dL_acts_306 : decode cL_acts 306 = .ok (.iload 9, 2) := by decide +kernel
theorem dL_acts_308 : decode cL_acts 308 = .ok (.iload 4, 2) := by decide +kernel
theorem dL_acts_310 : decode cL_acts 310 = .ok (.if_icmp .ne 69, 3) := by decide +kernel
theorem dL_acts_313 : decode cL_acts 313 = .ok (.aload_n 0, 1) := by decide +kernel
theorem dL_acts_314 : decode cL_acts 314 = .ok (.iload 4, 2) := by decide +kernel
theorem dL_acts_316 : decode cL_acts 316 = .ok (.iconst 0, 1) := by decide +kernel
theorem dL_acts_317 : decode cL_acts 317 = .ok (.invokevirtual 17, 3) := by decide +kernel
theorem dL_acts_320 : decode cL_acts 320 = .ok (.iload_n 2, 1) := by decide +kernel
theorem dL_acts_321 : decode cL_acts 321 = .ok (.iload_n 3, 1) := by decide +kernel
theorem dL_acts_322 : decode cL_acts 322 = .ok (.irem, 1) := by decide +kernel
theorem dL_acts_323 : decode cL_acts 323 = .ok (.if_icmp .ne 56, 3) := by decide +kernel
theorem dL_acts_326 : decode cL_acts 326 = .ok (.aload_n 0, 1) := by decide +kernel
theorem dL_acts_327 : decode cL_acts 327 = .ok (.iload 4, 2) := by decide +kernel
theorem dL_acts_329 : decode cL_acts 329 = .ok (.iconst 1, 1) := by decide +kernel
theorem dL_acts_330 : decode cL_acts 330 = .ok (.invokevirtual 17, 3) := by decide +kernel
theorem dL_acts_333 : decode cL_acts 333 = .ok (.iload_n 2, 1) := by decide +kernel
theorem dL_acts_334 : decode cL_acts 334 = .ok (.iload_n 3, 1) := by decide +kernel
theorem dL_acts_335 : decode cL_acts 335 = .ok (.irem, 1) := by decide +kernel
theorem dL_acts_336 : decode cL_acts 336 = .ok (.if_icmp .ne 43, 3) := by decide +kernel
theorem dL_acts_339 : decode cL_acts 339 = .ok (.aload_n 0, 1) := by decide +kernel
theorem dL_acts_340 : decode cL_acts 340 = .ok (.iload 4, 2) := by decide +kernel
theorem dL_acts_342 : decode cL_acts 342 = .ok (.iload_n 2, 1) := by decide +kernel
theorem dL_acts_343 : decode cL_acts 343 = .ok (.iload_n 3, 1) := by decide +kernel
theorem dL_acts_344 : decode cL_acts 344 = .ok (.irem, 1) := by decide +kernel
theorem dL_acts_345 : decode cL_acts 345 = .ok (.invokevirtual 24, 3) := by decide +kernel
theorem dL_acts_348 : decode cL_acts 348 = .ok (.aload_n 0, 1) := by decide +kernel
theorem dL_acts_349 : decode cL_acts 349 = .ok (.bipush 20, 2) := by decide +kernel
theorem dL_acts_351 : decode cL_acts 351 = .ok (.invokevirtual 8, 3) := by decide +kernel
theorem dL_acts_354 : decode cL_acts 354 = .ok (.iconst 2, 1) := by decide +kernel
theorem dL_acts_355 : decode cL_acts 355 = .ok (.aload_n 0, 1) := by decide +kernel
theorem dL_acts_356 : decode cL_acts 356 = .ok (.bipush 21, 2) := by decide +kernel
theorem dL_acts_358 : decode cL_acts 358 = .ok (.invokevirtual 8, 3) := by decide +kernel
theorem dL_acts_361 : decode cL_acts 361 = .ok (.imul, 1) := by decide +kernel
theorem dL_acts_362 : decode cL_acts 362 = .ok (.iadd, 1) := by decide +kernel
theorem dL_acts_363 : decode cL_acts 363 = .ok (.iconst 2, 1) := by decide +kernel
theorem dL_acts_364 : decode cL_acts 364 = .ok (.aload_n 0, 1) := by decide +kernel
theorem dL_acts_365 : decode cL_acts 365 = .ok (.bipush 22, 2) := by decide +kernel
theorem dL_acts_367 : decode cL_acts 367 = .ok (.invokevirtual 8, 3) := by decide +kernel
theorem dL_acts_370 : decode cL_acts 370 = .ok (.imul, 1) := by decide +kernel
theorem dL_acts_371 : decode cL_acts 371 = .ok (.iadd, 1) := by decide +kernel
theorem dL_acts_372 : decode cL_acts 372 = .ok (.if_icmp .ne 7, 3) := by decide +kernel
theorem dL_acts_375 : decode cL_acts 375 = .ok (.iconst 1, 1) := by decide +kernel
theorem dL_acts_376 : decode cL_acts 376 = .ok (.goto 4, 3) := by decide +kernel
theorem dL_acts_379 : decode cL_acts 379 = .ok (.iconst 0, 1) := by decide +kernel
theorem dL_acts_380 : decode cL_acts 380 = .ok (.ireturn, 1) := by decide +kernel
theorem dL_acts_381 : decode cL_acts 381 = .ok (.iload_n 3, 1) := by decide +kernel
theorem dL_acts_382 : decode cL_acts 382 = .ok (.ifCond .ne 20, 3) := by decide +kernel
theorem dL_acts_385 : decode cL_acts 385 = .ok (.aload_n 0, 1) := by decide +kernel
theorem dL_acts_386 : decode cL_acts 386 = .ok (.iconst 0, 1) := by decide +kernel
theorem dL_acts_387 : decode cL_acts 387 = .ok (.iconst 1, 1) := by decide +kernel
theorem dL_acts_388 : decode cL_acts 388 = .ok (.invokevirtual 48, 3) := by decide +kernel
theorem dL_acts_391 : decode cL_acts 391 = .ok (.ldc 38, 2) := by decide +kernel
theorem dL_acts_393 : decode cL_acts 393 = .ok (.if_icmp .ne 7, 3) := by decide +kernel
theorem dL_acts_396 : decode cL_acts 396 = .ok (.iconst 1, 1) := by decide +kernel
theorem dL_acts_397 : decode cL_acts 397 = .ok (.goto 4, 3) := by decide +kernel
theorem dL_acts_400 : decode cL_acts 400 = .ok (.iconst 0, 1) := by decide +kernel
theorem dL_acts_401 : decode cL_acts 401 = .ok (.ireturn, 1) := by decide +kernel
theorem dL_acts_402 : decode cL_acts 402 = .ok (.aload_n 0, 1) := by decide +kernel
theorem dL_acts_403 : decode cL_acts 403 = .ok (.iload_n 2, 1) := by decide +kernel
theorem dL_acts_404 : decode cL_acts 404 = .ok (.iload_n 3, 1) := by decide +kernel
theorem dL_acts_405 : decode cL_acts 405 = .ok (.irem, 1) := by decide +kernel
theorem dL_acts_406 : decode cL_acts 406 = .ok (.invokevirtual 21, 3) := by decide +kernel
theorem dL_acts_409 : decode cL_acts 409 = .ok (.istore 10, 2) := by decide +kernel
theorem dL_acts_411 : decode cL_acts 411 = .ok (.aload_n 0, 1) := by decide +kernel
theorem dL_acts_412 : decode cL_acts 412 = .ok (.iload_n 2, 1) := by decide +kernel
theorem dL_acts_413 : decode cL_acts 413 = .ok (.iload_n 3, 1) := by decide +kernel
theorem dL_acts_414 : decode cL_acts 414 = .ok (.irem, 1) := by decide +kernel
theorem dL_acts_415 : decode cL_acts 415 = .ok (.iload_n 2, 1) := by decide +kernel
theorem dL_acts_416 : decode cL_acts 416 = .ok (.bipush 64, 2) := by decide +kernel
theorem dL_acts_418 : decode cL_acts 418 = .ok (.idiv, 1) := by decide +kernel
theorem dL_acts_419 : decode cL_acts 419 = .ok (.bipush 7, 2) := by decide +kernel
theorem dL_acts_421 : decode cL_acts 421 = .ok (.irem, 1) := by decide +kernel
theorem dL_acts_422 : decode cL_acts 422 = .ok (.invokevirtual 48, 3) := by decide +kernel
theorem dL_acts_425 : decode cL_acts 425 = .ok (.iload 10, 2) := by decide +kernel
theorem dL_acts_427 : decode cL_acts 427 = .ok (.if_icmp .ne 7, 3) := by decide +kernel
theorem dL_acts_430 : decode cL_acts 430 = .ok (.iconst 1, 1) := by decide +kernel
theorem dL_acts_431 : decode cL_acts 431 = .ok (.goto 4, 3) := by decide +kernel
theorem dL_acts_434 : decode cL_acts 434 = .ok (.iconst 0, 1) := by decide +kernel
theorem dL_acts_435 : decode cL_acts 435 = .ok (.istore 11, 2) := by decide +kernel
theorem dL_acts_437 : decode cL_acts 437 = .ok (.iconst 0, 1) := by decide +kernel
theorem dL_acts_438 : decode cL_acts 438 = .ok (.istore 12, 2) := by decide +kernel
theorem dL_acts_440 : decode cL_acts 440 = .ok (.iload 12, 2) := by decide +kernel
theorem dL_acts_442 : decode cL_acts 442 = .ok (.iload 4, 2) := by decide +kernel
theorem dL_acts_444 : decode cL_acts 444 = .ok (.if_icmp .ge 34, 3) := by decide +kernel
theorem dL_acts_447 : decode cL_acts 447 = .ok (.iload 11, 2) := by decide +kernel
theorem dL_acts_449 : decode cL_acts 449 = .ok (.ifCond .eq 20, 3) := by decide +kernel
theorem dL_acts_452 : decode cL_acts 452 = .ok (.aload_n 0, 1) := by decide +kernel
theorem dL_acts_453 : decode cL_acts 453 = .ok (.iload 12, 2) := by decide +kernel
theorem dL_acts_455 : decode cL_acts 455 = .ok (.iconst 1, 1) := by decide +kernel
theorem dL_acts_456 : decode cL_acts 456 = .ok (.invokevirtual 17, 3) := by decide +kernel
theorem dL_acts_459 : decode cL_acts 459 = .ok (.iload_n 2, 1) := by decide +kernel
theorem dL_acts_460 : decode cL_acts 460 = .ok (.iload_n 3, 1) := by decide +kernel
theorem dL_acts_461 : decode cL_acts 461 = .ok (.irem, 1) := by decide +kernel
theorem dL_acts_462 : decode cL_acts 462 = .ok (.if_icmp .eq 7, 3) := by decide +kernel
theorem dL_acts_465 : decode cL_acts 465 = .ok (.iconst 1, 1) := by decide +kernel
theorem dL_acts_466 : decode cL_acts 466 = .ok (.goto 4, 3) := by decide +kernel
theorem dL_acts_469 : decode cL_acts 469 = .ok (.iconst 0, 1) := by decide +kernel
theorem dL_acts_470 : decode cL_acts 470 = .ok (.istore 11, 2) := by decide +kernel
theorem dL_acts_472 : decode cL_acts 472 = .ok (.iinc 12 1, 3) := by decide +kernel
theorem dL_acts_475 : decode cL_acts 475 = .ok (.goto (-35), 3) := by decide +kernel
theorem dL_acts_478 : decode cL_acts 478 = .ok (.iload 11, 2) := by decide +kernel
theorem dL_acts_480 : decode cL_acts 480 = .ok (.ireturn, 1) := by decide +kernel
theorem dL_acts_481 : decode cL_acts 481 = .ok (.aload_n 0, 1) := by decide +kernel
theorem dL_acts_482 : decode cL_acts 482 = .ok (.iconst 2, 1) := by decide +kernel
theorem dL_acts_483 : decode cL_acts 483 = .ok (.invokevirtual 14, 3) := by decide +kernel
theorem dL_acts_486 : decode cL_acts 486 = .ok (.istore 12, 2) := by decide +kernel
theorem dL_acts_488 : decode cL_acts 488 = .ok (.aload_n 0, 1) := by decide +kernel
theorem dL_acts_489 : decode cL_acts 489 = .ok (.invokevirtual 51, 3) := by decide +kernel
theorem dL_acts_492 : decode cL_acts 492 = .ok (.istore 13, 2) := by decide +kernel
theorem dL_acts_494 : decode cL_acts 494 = .ok (.iload 13, 2) := by decide +kernel
theorem dL_acts_496 : decode cL_acts 496 = .ok (.ifCond .lt 42, 3) := by decide +kernel
theorem dL_acts_499 : decode cL_acts 499 = .ok (.iload 13, 2) := by decide +kernel
theorem dL_acts_501 : decode cL_acts 501 = .ok (.iload 4, 2) := by decide +kernel
theorem dL_acts_503 : decode cL_acts 503 = .ok (.if_icmp .gt 35, 3) := by decide +kernel
theorem dL_acts_506 : decode cL_acts 506 = .ok (.aload_n 0, 1) := by decide +kernel
theorem dL_acts_507 : decode cL_acts 507 = .ok (.iconst 2, 1) := by decide +kernel
theorem dL_acts_508 : decode cL_acts 508 = .ok (.invokevirtual 14, 3) := by decide +kernel
theorem dL_acts_511 : decode cL_acts 511 = .ok (.iload 12, 2) := by decide +kernel
theorem dL_acts_513 : decode cL_acts 513 = .ok (.if_icmp .ne 25, 3) := by decide +kernel
theorem dL_acts_516 : decode cL_acts 516 = .ok (.aload_n 0, 1) := by decide +kernel
theorem dL_acts_517 : decode cL_acts 517 = .ok (.iconst 0, 1) := by decide +kernel
theorem dL_acts_518 : decode cL_acts 518 = .ok (.iconst 0, 1) := by decide +kernel
theorem dL_acts_519 : decode cL_acts 519 = .ok (.invokevirtual 55, 3) := by decide +kernel
theorem dL_acts_522 : decode cL_acts 522 = .ok (.ldc 58, 2) := by decide +kernel
theorem dL_acts_524 : decode cL_acts 524 = .ok (.if_icmp .ne 14, 3) := by decide +kernel
theorem dL_acts_527 : decode cL_acts 527 = .ok (.aload_n 0, 1) := by decide +kernel
theorem dL_acts_528 : decode cL_acts 528 = .ok (.invokevirtual 51, 3) := by decide +kernel
theorem dL_acts_531 : decode cL_acts 531 = .ok (.ifCond .ne 7, 3) := by decide +kernel
theorem dL_acts_534 : decode cL_acts 534 = .ok (.iconst 1, 1) := by decide +kernel
theorem dL_acts_535 : decode cL_acts 535 = .ok (.goto 4, 3) := by decide +kernel
theorem dL_acts_538 : decode cL_acts 538 = .ok (.iconst 0, 1) := by decide +kernel
theorem dL_acts_539 : decode cL_acts 539 = .ok (.ireturn, 1) := by decide +kernel
theorem dL_acts_540 : decode cL_acts 540 = .ok (.iload 4, 2) := by decide +kernel
theorem dL_acts_542 : decode cL_acts 542 = .ok (.ifCond .ne 19, 3) := by decide +kernel
theorem dL_acts_545 : decode cL_acts 545 = .ok (.aload_n 0, 1) := by decide +kernel
theorem dL_acts_546 : decode cL_acts 546 = .ok (.iconst 0, 1) := by decide +kernel
theorem dL_acts_547 : decode cL_acts 547 = .ok (.invokevirtual 59, 3) := by decide +kernel
theorem dL_acts_550 : decode cL_acts 550 = .ok (.ldc 38, 2) := by decide +kernel
theorem dL_acts_552 : decode cL_acts 552 = .ok (.if_icmp .ne 7, 3) := by decide +kernel
theorem dL_acts_555 : decode cL_acts 555 = .ok (.iconst 1, 1) := by decide +kernel
theorem dL_acts_556 : decode cL_acts 556 = .ok (.goto 4, 3) := by decide +kernel
theorem dL_acts_559 : decode cL_acts 559 = .ok (.iconst 0, 1) := by decide +kernel
theorem dL_acts_560 : decode cL_acts 560 = .ok (.ireturn, 1) := by decide +kernel
theorem dL_acts_561 : decode cL_acts 561 = .ok (.aload_n 0, 1) := by decide +kernel
theorem dL_acts_562 : decode cL_acts 562 = .ok (.iload_n 2, 1) := by decide +kernel
theorem dL_acts_563 : decode cL_acts 563 = .ok (.iload 4, 2) := by decide +kernel
theorem dL_acts_565 : decode cL_acts 565 = .ok (.irem, 1) := by decide +kernel
theorem dL_acts_566 : decode cL_acts 566 = .ok (.iconst 0, 1) := by decide +kernel
theorem dL_acts_567 : decode cL_acts 567 = .ok (.invokevirtual 17, 3) := by decide +kernel
theorem dL_acts_570 : decode cL_acts 570 = .ok (.istore 14, 2) := by decide +kernel
theorem dL_acts_572 : decode cL_acts 572 = .ok (.aload_n 0, 1) := by decide +kernel
theorem dL_acts_573 : decode cL_acts 573 = .ok (.iload_n 2, 1) := by decide +kernel
theorem dL_acts_574 : decode cL_acts 574 = .ok (.iload 4, 2) := by decide +kernel
theorem dL_acts_576 : decode cL_acts 576 = .ok (.irem, 1) := by decide +kernel
theorem dL_acts_577 : decode cL_acts 577 = .ok (.invokevirtual 59, 3) := by decide +kernel
theorem dL_acts_580 : decode cL_acts 580 = .ok (.istore 15, 2) := by decide +kernel
theorem dL_acts_582 : decode cL_acts 582 = .ok (.iload 14, 2) := by decide +kernel
theorem dL_acts_584 : decode cL_acts 584 = .ok (.iload_n 3, 1) := by decide +kernel
theorem dL_acts_585 : decode cL_acts 585 = .ok (.if_icmp .lt 18, 3) := by decide +kernel
theorem dL_acts_588 : decode cL_acts 588 = .ok (.iload 15, 2) := by decide +kernel
theorem dL_acts_590 : decode cL_acts 590 = .ok (.ldc 62, 2) := by decide +kernel
theorem dL_acts_592 : decode cL_acts 592 = .ok (.if_icmp .ne 7, 3) := by decide +kernel
theorem dL_acts_595 : decode cL_acts 595 = .ok (.iconst 1, 1) := by decide +kernel
theorem dL_acts_596 : decode cL_acts 596 = .ok (.goto 48, 3) := by decide +kernel
theorem dL_acts_599 : decode cL_acts 599 = .ok (.iconst 0, 1) := by decide +kernel
theorem dL_acts_600 : decode cL_acts 600 = .ok (.goto 44, 3) := by decide +kernel
theorem dL_acts_603 : decode cL_acts 603 = .ok (.iload 15, 2) := by decide +kernel
theorem dL_acts_605 : decode cL_acts 605 = .ok (.ifCond .lt 38, 3) := by decide +kernel
theorem dL_acts_608 : decode cL_acts 608 = .ok (.iload 15, 2) := by decide +kernel
theorem dL_acts_610 : decode cL_acts 610 = .ok (.iconst 5, 1) := by decide +kernel
theorem dL_acts_611 : decode cL_acts 611 = .ok (.if_icmp .gt 32, 3) := by decide +kernel
theorem dL_acts_614 : decode cL_acts 614 = .ok (.aload_n 0, 1) := by decide +kernel
theorem dL_acts_615 : decode cL_acts 615 = .ok (.iload_n 2, 1) := by decide +kernel
theorem dL_acts_616 : decode cL_acts 616 = .ok (.iload 4, 2) := by decide +kernel
theorem dL_acts_618 : decode cL_acts 618 = .ok (.irem, 1) := by decide +kernel
theorem dL_acts_619 : decode cL_acts 619 = .ok (.iconst 1, 1) := by decide +kernel
theorem dL_acts_620 : decode cL_acts 620 = .ok (.invokevirtual 17, 3) := by decide +kernel
theorem dL_acts_623 : decode cL_acts 623 = .ok (.iload 14, 2) := by decide +kernel
theorem dL_acts_625 : decode cL_acts 625 = .ok (.if_icmp .ne 18, 3) := by decide +kernel
theorem dL_acts_628 : decode cL_acts 628 = .ok (.aload_n 0, 1) := by decide +kernel
theorem dL_acts_629 : decode cL_acts 629 = .ok (.iload_n 2, 1) := by decide +kernel
theorem dL_acts_630 : decode cL_acts 630 = .ok (.iload 4, 2) := by decide +kernel
theorem dL_acts_632 : decode cL_acts 632 = .ok (.irem, 1) := by decide +kernel
theorem dL_acts_633 : decode cL_acts 633 = .ok (.invokevirtual 59, 3) := by decide +kernel
theorem dL_acts_636 : decode cL_acts 636 = .ok (.ifCond .ne 7, 3) := by decide +kernel
theorem dL_acts_639 : decode cL_acts 639 = .ok (.iconst 1, 1) := by decide +kernel
theorem dL_acts_640 : decode cL_acts 640 = .ok (.goto 4, 3) := by decide +kernel
theorem dL_acts_643 : decode cL_acts 643 = .ok (.iconst 0, 1) := by decide +kernel
theorem dL_acts_644 : decode cL_acts 644 = .ok (.ireturn, 1) := by decide +kernel
