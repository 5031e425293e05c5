set_option maxRecDepth 20000 in
theorem ggL_law_X6_init : GoodIn wsL_law wsX6_init := goodIn_r _ [5, 6, 7, 8, 9, 10, 11, 12, 13, 14, 15, 16, 17, 18, 19, 20, 21, 22, 23, 24, 25, 26, 27, 28, 29, 30, 31, 32, 33, 34, 35, 36, 37, 38, 39, 40, 41, 42, 43, 44, 45, 46, 47, 48, 49, 50, 51, 52, 53, 54, 55, 56, 57, 58, 59, 60, 61, 62, 63, 64, 65, 66, 67, 68, 69, 447, 448, 449, 450, 451, 441, 442, 443, 444, 445, 446, 452, 453, 454, 455, 456, 457, 458, 459, 460, 461, 462, 463, 464, 465, 466, 467, 468, 469, 470] (by decide +kernel) (by decide +kernel)
set_option maxRecDepth 20000 in
theorem gL_law_X6_init : GoodIn wsL_law (wsX6_init) := ggL_law_X6_init
set_option maxRecDepth 20000 in
theorem ggL_law_L_holds : GoodIn wsL_law wsL_holds := goodIn_r _ [73, 74, 75, 76, 2, 77, 12, 78, 17, 21, 79, 80, 81, 82, 36, 83, 84, 85, 86, 87, 11, 88, 89, 90, 91, 92, 93, 94, 95, 96, 97, 98, 99, 100, 101, 45, 102, 103, 104, 105, 106, 107, 108, 109, 16, 110, 111, 112, 113, 114, 20, 115, 116, 117, 118, 119, 120, 41, 121, 122, 123, 124, 125, 126, 127, 128, 129, 130, 131, 132, 39, 133, 134, 135, 136, 137, 138, 139, 140, 141, 142, 143, 144, 37, 145, 146, 147, 148, 149, 150, 151, 152, 153, 154, 155, 156, 28, 157, 51, 158, 159, 160, 161, 162, 163, 164, 165, 166, 167, 168, 169, 170, 171, 172, 173, 174, 175, 176, 177, 178, 179, 180, 181, 182, 183, 184, 185, 186, 187, 188, 189, 190, 191, 192, 193, 194, 195, 196, 197, 198, 199, 200, 201, 202, 203, 204, 205, 206, 207, 208, 209, 210, 211, 212, 213, 214, 441, 442, 443, 444, 445, 446, 447, 448, 449, 450, 451, 467, 468, 469, 470, 452, 453, 454, 455, 456, 457, 458, 459, 460, 464, 465, 466] (by decide +kernel) (by decide +kernel)
set_option maxRecDepth 20000 in
theorem gL_law_L_holds : GoodIn wsL_law (va_wsS RL 64 yL_holds wsL_holds) := goodIn_app (goodIn_of _ (by decide +kernel)) ggL_law_L_holds
set_option maxRecDepth 20000 in
theorem ggL_law_L_cell : GoodIn wsL_law wsL_cell := goodIn_r _ [217, 218] (by decide +kernel) (by decide +kernel)
set_option maxRecDepth 20000 in
theorem gL_law_L_cell : GoodIn wsL_law (va_wsS RL 68 yL_cell wsL_cell) := goodIn_app (goodIn_of _ (by decide +kernel)) ggL_law_L_cell
set_option maxRecDepth 20000 in
theorem ggL_law_X6_put : GoodIn wsL_law wsX6_put := goodIn_r _ [222, 12, 78, 79, 223, 17, 224, 225, 226, 36, 227, 84, 228, 229, 2, 230, 231, 232, 233, 234, 45, 235, 236, 237, 16, 238, 111, 239, 240, 241, 242, 243, 57, 244, 245, 246, 11, 247, 37, 89, 41, 106, 248, 249, 250, 251, 98, 99, 100, 101, 129, 130, 131, 132, 39, 252, 253, 254, 28, 255, 164, 173, 51, 256, 155, 156, 157, 159, 118, 119, 120, 257, 258, 259, 260, 261, 262, 263, 264, 46, 265, 266, 267, 268, 269, 270, 47, 271, 272, 273, 274, 275, 276, 277, 278, 279, 280, 281, 282, 283, 284, 285, 286, 287, 80, 81, 82, 83, 441, 442, 443, 444, 445, 446, 447, 448, 449, 450, 451, 467, 468, 469, 470, 452, 453, 454, 464, 465, 466] (by decide +kernel) (by decide +kernel)
set_option maxRecDepth 20000 in
theorem gL_law_X6_put : GoodIn wsL_law (wsV RL 31 RX6 yX6_put wsX6_put) := goodIn_app (goodIn_of _ (by decide +kernel)) ggL_law_X6_put
set_option maxRecDepth 20000 in
theorem gp_L_acts_wsL_acts_r1 : GoodIn wsL_law wsL_acts_r1 := goodIn_r _ [291, 292, 293, 294, 74, 75, 76, 2, 77, 12, 78, 17, 21, 79, 80, 81, 82, 36, 83, 84, 85, 86, 87, 11] (by decide +kernel) (by decide +kernel)
set_option maxRecDepth 20000 in
theorem gp_L_acts_wsL_acts_r2 : GoodIn wsL_law wsL_acts_r2 := goodIn_r _ [88, 89, 90, 91, 92, 93, 94, 95, 96, 97, 98, 99, 100, 101, 45, 102, 103, 104, 105, 106, 107, 108, 109, 16] (by decide +kernel) (by decide +kernel)
set_option maxRecDepth 20000 in
theorem gp_L_acts_wsL_acts_r3 : GoodIn wsL_law wsL_acts_r3 := goodIn_r _ [110, 111, 112, 113, 114, 20, 115, 116, 117, 118, 119, 120, 41, 219, 220, 221, 222, 223, 224, 225, 226, 227, 228, 229] (by decide +kernel) (by decide +kernel)
set_option maxRecDepth 20000 in
theorem gp_L_acts_wsL_acts_r4 : GoodIn wsL_law wsL_acts_r4 := goodIn_r _ [230, 231, 232, 233, 234, 235, 236, 237, 238, 239, 240, 241, 242, 243, 57, 244, 245, 246, 247, 37, 248, 249, 250, 251] (by decide +kernel) (by decide +kernel)
set_option maxRecDepth 20000 in
theorem gp_L_acts_wsL_acts_r5 : GoodIn wsL_law wsL_acts_r5 := goodIn_r _ [129, 130, 131, 132, 39, 252, 253, 254, 28, 255, 164, 173, 51, 256, 155, 156, 157, 159, 257, 258, 259, 260, 261, 262] (by decide +kernel) (by decide +kernel)
set_option maxRecDepth 20000 in
theorem gp_L_acts_wsL_acts_r6 : GoodIn wsL_law wsL_acts_r6 := goodIn_r _ [263, 264, 46, 265, 266, 267, 268, 269, 270, 47, 271, 272, 273, 274, 275, 276, 277, 278, 279, 280, 281, 282, 283, 284] (by decide +kernel) (by decide +kernel)
set_option maxRecDepth 20000 in
theorem gp_L_acts_wsL_acts_r7 : GoodIn wsL_law wsL_acts_r7 := goodIn_r _ [285, 286, 287, 202, 203, 204, 205, 206, 185, 186, 187, 188, 295, 296, 297, 298, 211, 212, 213, 214, 299, 300, 301, 302] (by decide +kernel) (by decide +kernel)
set_option maxRecDepth 20000 in
theorem gp_L_acts_wsL_acts_r8 : GoodIn wsL_law wsL_acts_r8 := goodIn_r _ [303, 304, 305, 306, 307, 308, 309, 310, 311, 312, 313, 314, 315, 316, 317, 318, 319, 320, 321, 322, 323, 324, 325, 326] (by decide +kernel) (by decide +kernel)
set_option maxRecDepth 20000 in
theorem gp_L_acts_wsL_acts_r9 : GoodIn wsL_law wsL_acts_r9 := goodIn_r _ [327, 328, 329, 330, 331, 332, 333, 72, 334, 178, 179, 180, 181, 182, 183, 161, 162, 163, 184, 170, 171, 172, 189, 175] (by decide +kernel) (by decide +kernel)
set_option maxRecDepth 20000 in
theorem gp_L_acts_wsL_acts_r10 : GoodIn wsL_law wsL_acts_r10 := goodIn_r _ [176, 177, 141, 142, 143, 144, 145, 146, 147, 148, 149, 150, 151, 152, 153, 154, 158, 160, 165, 166, 167, 168, 190, 138] (by decide +kernel) (by decide +kernel)
set_option maxRecDepth 20000 in
theorem gp_L_acts_wsL_acts_r11 : GoodIn wsL_law wsL_acts_r11 := goodIn_r _ [139, 140, 191, 192, 193, 194, 195, 196, 197, 198, 199, 137, 200, 134, 135, 136, 169, 174, 201, 335, 336, 337, 338, 339] (by decide +kernel) (by decide +kernel)
set_option maxRecDepth 20000 in
theorem gp_L_acts_wsL_acts_r12 : GoodIn wsL_law wsL_acts_r12 := goodIn_r _ [340, 341, 342, 343, 344, 345, 346, 347, 348, 349, 350, 351, 352, 353, 354, 355, 207, 208, 209, 210, 356, 357, 358, 359] (by decide +kernel) (by decide +kernel)
set_option maxRecDepth 20000 in
theorem gp_L_acts_wsL_acts_r13 : GoodIn wsL_law wsL_acts_r13 := goodIn_r _ [360, 361, 362, 363, 364, 365, 366, 367, 121, 122, 123, 124, 125, 126, 127, 128, 133, 368, 369, 370, 371, 372, 373, 374] (by decide +kernel) (by decide +kernel)
set_option maxRecDepth 20000 in
theorem gp_L_acts_wsL_acts_r14 : GoodIn wsL_law wsL_acts_r14 := goodIn_r _ [375, 376, 377, 378, 379, 380, 25, 381, 382, 383, 24, 384, 385, 386, 387, 388, 389, 390, 391, 392, 68, 69, 393, 394] (by decide +kernel) (by decide +kernel)
set_option maxRecDepth 20000 in
theorem gp_L_acts_wsL_acts_r15 : GoodIn wsL_law wsL_acts_r15 := goodIn_r _ [395, 396, 397, 398, 399, 400, 401, 402, 403, 404, 405, 406, 407, 408, 409, 410, 411, 412, 413, 414, 415, 416, 417, 418] (by decide +kernel) (by decide +kernel)
set_option maxRecDepth 20000 in
theorem gp_L_acts_wsL_acts_r16 : GoodIn wsL_law wsL_acts_r16 := goodIn_r _ [419, 420, 421, 422, 423, 424, 425, 426, 427] (by decide +kernel) (by decide +kernel)
set_option maxRecDepth 20000 in
theorem gp_L_acts_wsX60 : GoodIn wsL_law wsX60 := goodIn_r _ [441, 442, 443, 444, 445, 446] (by decide +kernel) (by decide +kernel)
set_option maxRecDepth 20000 in
theorem gp_L_acts_wsX50 : GoodIn wsL_law wsX50 := goodIn_r _ [447, 448, 449, 450, 451] (by decide +kernel) (by decide +kernel)
set_option maxRecDepth 20000 in
theorem gp_L_acts_wsX40 : GoodIn wsL_law wsX40 := goodIn_r _ [467, 468, 469, 470] (by decide +kernel) (by decide +kernel)
set_option maxRecDepth 20000 in
theorem gp_L_acts_wsX30 : GoodIn wsL_law wsX30 := goodIn_r _ [452, 453, 454] (by decide +kernel) (by decide +kernel)
set_option maxRecDepth 20000 in
theorem gp_L_acts_wsX20 : GoodIn wsL_law wsX20 := goodIn_r _ [455, 456, 457, 458, 459, 460] (by decide +kernel) (by decide +kernel)
set_option maxRecDepth 20000 in
theorem gp_L_acts_wsX00 : GoodIn wsL_law wsX00 := goodIn_r _ [464, 465, 466] (by decide +kernel) (by decide +kernel)
set_option maxRecDepth 20000 in
theorem gp_L_acts_wsX10 : GoodIn wsL_law wsX10 := goodIn_r _ [461, 462, 463] (by decide +kernel) (by decide +kernel)
theorem gp_L_acts_mem : (Cond.code yL_acts cL_acts 16 (some .boolean)) ∈ wsL_law := (List.mem_append_left _ (List.mem_append_left _ (List.mem_append_left _ (List.mem_append_left _ (List.mem_append_left _ (List.mem_append_left _ (List.mem_append_left _ (List.mem_append_left _ (List.mem_append_right _ (List.mem_append_right _ (List.mem_append_right _ (List.mem_append_right _ (List.mem_append_right _ (List.mem_append_right _ (List.mem_append_right _ (List.mem_append_right _ (List.mem_append_right _ (List.mem_append_right _ (List.mem_append_right _ (List.mem_append_right _ (List.mem_append_left _ (List.mem_of_getElem? (i := 2) rfl))))))))))))))))))))))
theorem gp_L_acts_code : GoodIn wsL_law [Cond.code yL_acts cL_acts 16 (some .boolean)] := goodIn_sub (fun w h => (List.mem_singleton.mp h) ▸ gp_L_acts_mem) rfl
theorem ggL_law_L_acts : GoodIn wsL_law wsL_acts := goodIn_ca (a := []) gp_L_acts_code (goodIn_app (goodIn_app (goodIn_app (goodIn_app (goodIn_app (goodIn_app (goodIn_app (goodIn_app gp_L_acts_wsL_acts_r1 (goodIn_app gp_L_acts_wsL_acts_r2 (goodIn_app gp_L_acts_wsL_acts_r3 (goodIn_app gp_L_acts_wsL_acts_r4 (goodIn_app gp_L_acts_wsL_acts_r5 (goodIn_app gp_L_acts_wsL_acts_r6 (goodIn_app gp_L_acts_wsL_acts_r7 (goodIn_app gp_L_acts_wsL_acts_r8 (goodIn_app gp_L_acts_wsL_acts_r9 (goodIn_app gp_L_acts_wsL_acts_r10 (goodIn_app gp_L_acts_wsL_acts_r11 (goodIn_app gp_L_acts_wsL_acts_r12 (goodIn_app gp_L_acts_wsL_acts_r13 (goodIn_app gp_L_acts_wsL_acts_r14 (goodIn_app gp_L_acts_wsL_acts_r15 gp_L_acts_wsL_acts_r16))))))))))))))) gp_L_acts_wsX60) gp_L_acts_wsX50) gp_L_acts_wsX40) gp_L_acts_wsX30) gp_L_acts_wsX20) gp_L_acts_wsX00) gp_L_acts_wsX10)
set_option maxRecDepth 20000 in
theorem gL_law_L_acts : GoodIn wsL_law (va_wsS RL 72 yL_acts wsL_acts) := goodIn_app (goodIn_of _ (by decide +kernel)) ggL_law_L_acts
set_option maxRecDepth 20000 in
theorem ggL_law_X6_count : GoodIn wsL_law wsX6_count := goodIn_r _ [77, 12, 78, 17, 21, 79, 80, 81, 82, 36, 83, 84, 85, 86, 87, 11, 88, 89, 90, 91, 92, 93, 94, 95, 96, 97, 98, 99, 100, 101, 45, 102, 103, 104, 105, 106, 107, 108, 109, 16, 110, 111, 112, 113, 114, 20, 115, 116, 117, 118, 119, 120, 41, 441, 442, 443, 444, 445, 446, 447, 448, 449, 450, 451, 467, 468, 469, 470, 452, 453, 454, 455, 456, 457, 458, 459, 460] (by decide +kernel) (by decide +kernel)
set_option maxRecDepth 20000 in
theorem gL_law_X6_count : GoodIn wsL_law (wsV RL 8 RX6 yX6_count wsX6_count) := goodIn_app (goodIn_of _ (by decide +kernel)) ggL_law_X6_count
set_option maxRecDepth 20000 in
theorem ggL_law_X6_undo : GoodIn wsL_law wsX6_undo := goodIn_r _ [431, 17, 426, 12, 432, 433, 434, 16, 435, 111, 240, 241, 242, 243, 239, 57, 436, 245, 246, 11, 247, 37, 89, 41, 106, 248, 249, 250, 36, 251, 45, 84, 98, 99, 100, 101, 129, 130, 131, 132, 39, 252, 253, 254, 28, 255, 164, 173, 51, 256, 155, 156, 157, 159, 118, 119, 120, 437, 438, 439, 440, 107, 108, 109, 110, 441, 442, 443, 444, 445, 446, 452, 453, 454, 447, 448, 449, 450, 451, 467, 468, 469, 470, 464, 465, 466] (by decide +kernel) (by decide +kernel)
set_option maxRecDepth 20000 in
theorem gL_law_X6_undo : GoodIn wsL_law (wsV RL 76 RX6 yX6_undo wsX6_undo) := goodIn_app (goodIn_of _ (by decide +kernel)) ggL_law_X6_undo
theorem dL_law_0 : decode cL_law 0 = .ok (.new 9, 3) := by decide +kernel
theorem dL_law_3 : decode cL_law 3 = .ok (.dup, 1) := by decide +kernel
theorem dL_law_4 : decode cL_law 4 = .ok (.invokespecial 63, 3) := by decide +kernel
theorem dL_law_7 : decode cL_law 7 = .ok (.astore_n 1, 1) := by decide +kernel
theorem dL_law_8 : decode cL_law 8 = .ok (.aload_n 1, 1) := by decide +kernel
theorem dL_law_9 : decode cL_law 9 = .ok (.invokestatic 64, 3) := by decide +kernel
theorem dL_law_12 : decode cL_law 12 = .ok (.istore_n 2, 1) := by decide +kernel
theorem dL_law_13 : decode cL_law 13 = .ok (.iconst 0, 1) := by decide +kernel
theorem dL_law_14 : decode cL_law 14 = .ok (.istore_n 3, 1) := by decide +kernel
theorem dL_law_15 : decode cL_law 15 = .ok (.iload_n 3, 1) := by decide +kernel
theorem dL_law_16 : decode cL_law 16 = .ok (.bipush 6, 2) := by decide +kernel
theorem dL_law_18 : decode cL_law 18 = .ok (.if_icmp .ge 38, 3) := by decide +kernel
theorem dL_law_21 : decode cL_law 21 = .ok (.iload_n 2, 1) := by decide +kernel
theorem dL_law_22 : decode cL_law 22 = .ok (.ifCond .eq 34, 3) := by decide +kernel
theorem dL_law_25 : decode cL_law 25 = .ok (.aload_n 1, 1) := by decide +kernel
theorem dL_law_26 : decode cL_law 26 = .ok (.iload_n 3, 1) := by decide +kernel
theorem dL_law_27 : decode cL_law 27 = .ok (.aload_n 0, 1) := by decide +kernel
theorem dL_law_28 : decode cL_law 28 = .ok (.iload_n 3, 1) := by decide +kernel
theorem dL_law_29 : decode cL_law 29 = .ok (.invokestatic 68, 3) := by decide +kernel
theorem dL_law_32 : decode cL_law 32 = .ok (.bipush 7, 2) := by decide +kernel
theorem dL_law_34 : decode cL_law 34 = .ok (.irem, 1) := by decide +kernel
theorem dL_law_35 : decode cL_law 35 = .ok (.invokevirtual 31, 3) := by decide +kernel
theorem dL_law_38 : decode cL_law 38 = .ok (.iload_n 3, 1) := by decide +kernel
theorem dL_law_39 : decode cL_law 39 = .ok (.iconst 1, 1) := by decide +kernel
theorem dL_law_40 : decode cL_law 40 = .ok (.iadd, 1) := by decide +kernel
theorem dL_law_41 : decode cL_law 41 = .ok (.if_icmp .ne 7, 3) := by decide +kernel
theorem dL_law_44 : decode cL_law 44 = .ok (.iconst 1, 1) := by decide +kernel
theorem dL_law_45 : decode cL_law 45 = .ok (.goto 4, 3) := by decide +kernel
theorem dL_law_48 : decode cL_law 48 = .ok (.iconst 0, 1) := by decide +kernel
theorem dL_law_49 : decode cL_law 49 = .ok (.istore_n 2, 1) := by decide +kernel
theorem dL_law_50 : decode cL_law 50 = .ok (.iinc 3 1, 3) := by decide +kernel
theorem dL_law_53 : decode cL_law 53 = .ok (.goto (-38), 3) := by decide +kernel
theorem dL_law_56 : decode cL_law 56 = .ok (.iconst 0, 1) := by decide +kernel
theorem dL_law_57 : decode cL_law 57 = .ok (.istore_n 3, 1) := by decide +kernel
theorem dL_law_58 : decode cL_law 58 = .ok (.iload_n 3, 1) := by decide +kernel
theorem dL_law_59 : decode cL_law 59 = .ok (.bipush 32, 2) := by decide +kernel
theorem dL_law_61 : decode cL_law 61 = .ok (.if_icmp .ge 41, 3) := by decide +kernel
theorem dL_law_64 : decode cL_law 64 = .ok (.iload_n 2, 1) := by decide +kernel
theorem dL_law_65 : decode cL_law 65 = .ok (.ifCond .eq 37, 3) := by decide +kernel
theorem dL_law_68 : decode cL_law 68 = .ok (.aload_n 1, 1) := by decide +kernel
theorem dL_law_69 : decode cL_law 69 = .ok (.aload_n 0, 1) := by decide +kernel
theorem dL_law_70 : decode cL_law 70 = .ok (.bipush 6, 2) := by decide +kernel
theorem dL_law_72 : decode cL_law 72 = .ok (.iload_n 3, 1) := by decide +kernel
theorem dL_law_73 : decode cL_law 73 = .ok (.iadd, 1) := by decide +kernel
theorem dL_law_74 : decode cL_law 74 = .ok (.invokestatic 68, 3) := by decide +kernel
theorem dL_law_77 : decode cL_law 77 = .ok (.invokestatic 72, 3) := by decide +kernel
theorem dL_law_80 : decode cL_law 80 = .ok (.ifCond .eq 14, 3) := by decide +kernel
theorem dL_law_83 : decode cL_law 83 = .ok (.aload_n 1, 1) := by decide +kernel
theorem dL_law_84 : decode cL_law 84 = .ok (.invokestatic 64, 3) := by decide +kernel
theorem dL_law_87 : decode cL_law 87 = .ok (.ifCond .eq 7, 3) := by decide +kernel
theorem dL_law_90 : decode cL_law 90 = .ok (.iconst 1, 1) := by decide +kernel
theorem dL_law_91 : decode cL_law 91 = .ok (.goto 4, 3) := by decide +kernel
theorem dL_law_94 : decode cL_law 94 = .ok (.iconst 0, 1) := by decide +kernel
theorem dL_law_95 : decode cL_law 95 = .ok (.istore_n 2, 1) := by decide +kernel
theorem dL_law_96 : decode cL_law 96 = .ok (.iinc 3 1, 3) := by decide +kernel
theorem dL_law_99 : decode cL_law 99 = .ok (.goto (-41), 3) := by decide +kernel
theorem dL_law_102 : decode cL_law 102 = .ok (.aload_n 1, 1) := by decide +kernel
theorem dL_law_103 : decode cL_law 103 = .ok (.iconst 0, 1) := by decide +kernel
theorem dL_law_104 : decode cL_law 104 = .ok (.invokevirtual 8, 3) := by decide +kernel
theorem dL_law_107 : decode cL_law 107 = .ok (.istore_n 3, 1) := by decide +kernel
theorem dL_law_108 : decode cL_law 108 = .ok (.aload_n 1, 1) := by decide +kernel
theorem dL_law_109 : decode cL_law 109 = .ok (.iconst 3, 1) := by decide +kernel
theorem dL_law_110 : decode cL_law 110 = .ok (.invokevirtual 8, 3) := by decide +kernel
theorem dL_law_113 : decode cL_law 113 = .ok (.istore 4, 2) := by decide +kernel
theorem dL_law_115 : decode cL_law 115 = .ok (.iload_n 2, 1) := by decide +kernel
theorem dL_law_116 : decode cL_law 116 = .ok (.ifCond .eq 71, 3) := by decide +kernel
theorem dL_law_119 : decode cL_law 119 = .ok (.iload_n 3, 1) := by decide +kernel
theorem dL_law_120 : decode cL_law 120 = .ok (.bipush 40, 2) := by decide +kernel
theorem dL_law_122 : decode cL_law 122 = .ok (.if_icmp .eq 35, 3) := by decide +kernel
theorem dL_law_125 : decode cL_law 125 = .ok (.aload_n 1, 1) := by decide +kernel
theorem dL_law_126 : decode cL_law 126 = .ok (.iload_n 3, 1) := by decide +kernel
theorem dL_law_127 : decode cL_law 127 = .ok (.bipush 99, 2) := by decide +kernel
theorem dL_law_129 : decode cL_law 129 = .ok (.invokevirtual 31, 3) := by decide +kernel
theorem dL_law_132 : decode cL_law 132 = .ok (.iload_n 3, 1) := by decide +kernel
theorem dL_law_133 : decode cL_law 133 = .ok (.iconst 1, 1) := by decide +kernel
theorem dL_law_134 : decode cL_law 134 = .ok (.iadd, 1) := by decide +kernel
theorem dL_law_135 : decode cL_law 135 = .ok (.if_icmp .ne 52, 3) := by decide +kernel
theorem dL_law_138 : decode cL_law 138 = .ok (.aload_n 1, 1) := by decide +kernel
theorem dL_law_139 : decode cL_law 139 = .ok (.iconst 3, 1) := by decide +kernel
theorem dL_law_140 : decode cL_law 140 = .ok (.invokevirtual 8, 3) := by decide +kernel
theorem dL_law_143 : decode cL_law 143 = .ok (.iload 4, 2) := by decide +kernel
theorem dL_law_145 : decode cL_law 145 = .ok (.iconst 1, 1) := by decide +kernel
theorem dL_law_146 : decode cL_law 146 = .ok (.iadd, 1) := by decide +kernel
theorem dL_law_147 : decode cL_law 147 = .ok (.if_icmp .ne 40, 3) := by decide +kernel
theorem dL_law_150 : decode cL_law 150 = .ok (.aload_n 1, 1) := by decide +kernel
theorem dL_law_151 : decode cL_law 151 = .ok (.invokevirtual 76, 3) := by decide +kernel
theorem dL_law_154 : decode cL_law 154 = .ok (.ifCond .lt 33, 3) := by decide +kernel
theorem dL_law_157 : decode cL_law 157 = .ok (.aload_n 1, 1) := by decide +kernel
theorem dL_law_158 : decode cL_law 158 = .ok (.iconst 0, 1) := by decide +kernel
theorem dL_law_159 : decode cL_law 159 = .ok (.invokevirtual 8, 3) := by decide +kernel
theorem dL_law_162 : decode cL_law 162 = .ok (.iload_n 3, 1) := by decide +kernel
theorem dL_law_163 : decode cL_law 163 = .ok (.if_icmp .ne 24, 3) := by decide +kernel
theorem dL_law_166 : decode cL_law 166 = .ok (.aload_n 1, 1) := by decide +kernel
theorem dL_law_167 : decode cL_law 167 = .ok (.iconst 3, 1) := by decide +kernel
theorem dL_law_168 : decode cL_law 168 = .ok (.invokevirtual 8, 3) := by decide +kernel
theorem dL_law_171 : decode cL_law 171 = .ok (.iload 4, 2) := by decide +kernel
theorem dL_law_173 : decode cL_law 173 = .ok (.if_icmp .ne 14, 3) := by decide +kernel
theorem dL_law_176 : decode cL_law 176 = .ok (.aload_n 1, 1) := by decide +kernel
theorem dL_law_177 : decode cL_law 177 = .ok (.invokestatic 64, 3) := by decide +kernel
theorem dL_law_180 : decode cL_law 180 = .ok (.ifCond .eq 7, 3) := by decide +kernel
theorem dL_law_183 : decode cL_law 183 = .ok (.iconst 1, 1) := by decide +kernel
theorem dL_law_184 : decode cL_law 184 = .ok (.goto 4, 3) := by decide +kernel
theorem dL_law_187 : decode cL_law 187 = .ok (.iconst 0, 1) := by decide +kernel
theorem dL_law_188 : decode cL_law 188 = .ok (.ireturn, 1) := by decide +kernel

