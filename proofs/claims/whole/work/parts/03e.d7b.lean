theorem dX7_set_45 : decode cX7_set 45 = .ok (.aload_n 0, 1) := by decide +kernel
theorem dX7_set_46 : decode cX7_set 46 = .ok (.getfield 7, 3) := by decide +kernel
theorem dX7_set_49 : decode cX7_set 49 = .ok (.iconst 3, 1) := by decide +kernel
theorem dX7_set_50 : decode cX7_set 50 = .ok (.iload_n 1, 1) := by decide +kernel
theorem dX7_set_51 : decode cX7_set 51 = .ok (.iadd, 1) := by decide +kernel
theorem dX7_set_52 : decode cX7_set 52 = .ok (.iload_n 2, 1) := by decide +kernel
theorem dX7_set_53 : decode cX7_set 53 = .ok (.iastore, 1) := by decide +kernel
theorem dX7_set_54 : decode cX7_set 54 = .ok (.aload_n 0, 1) := by decide +kernel
theorem dX7_set_55 : decode cX7_set 55 = .ok (.iload_n 3, 1) := by decide +kernel
theorem dX7_set_56 : decode cX7_set 56 = .ok (.invokevirtual 63, 3) := by decide +kernel
theorem dX7_set_59 : decode cX7_set 59 = .ok (.ireturn, 1) := by decide +kernel
set_option maxRecDepth 20000 in
theorem ggX7_wordAt_X7_isPlace : GoodIn wsX7_wordAt wsX7_isPlace := goodIn_r _ [8, 2, 9, 10, 7, 11, 12, 13, 14, 15, 16, 17, 18, 19, 20, 21, 22, 23] (by decide +kernel) (by decide +kernel)
set_option maxRecDepth 20000 in
theorem gX7_wordAt_X7_isPlace : GoodIn wsX7_wordAt (wsV RX7 39 RX7 yX7_isPlace wsX7_isPlace) := goodIn_app (goodIn_of _ (by decide +kernel)) ggX7_wordAt_X7_isPlace
theorem dX7_wordAt_0 : decode cX7_wordAt 0 = .ok (.iload_n 1, 1) := by decide +kernel
theorem dX7_wordAt_1 : decode cX7_wordAt 1 = .ok (.ifCond .ge 6, 3) := by decide +kernel
theorem dX7_wordAt_4 : decode cX7_wordAt 4 = .ok (.ldc 43, 2) := by decide +kernel
theorem dX7_wordAt_6 : decode cX7_wordAt 6 = .ok (.ireturn, 1) := by decide +kernel
theorem dX7_wordAt_7 : decode cX7_wordAt 7 = .ok (.aload_n 0, 1) := by decide +kernel
theorem dX7_wordAt_8 : decode cX7_wordAt 8 = .ok (.iload_n 1, 1) := by decide +kernel
theorem dX7_wordAt_9 : decode cX7_wordAt 9 = .ok (.invokevirtual 39, 3) := by decide +kernel
theorem dX7_wordAt_12 : decode cX7_wordAt 12 = .ok (.ifCond .eq 15, 3) := by decide +kernel
theorem dX7_wordAt_15 : decode cX7_wordAt 15 = .ok (.aload_n 0, 1) := by decide +kernel
theorem dX7_wordAt_16 : decode cX7_wordAt 16 = .ok (.getfield 7, 3) := by decide +kernel
theorem dX7_wordAt_19 : decode cX7_wordAt 19 = .ok (.bipush 8, 2) := by decide +kernel
theorem dX7_wordAt_21 : decode cX7_wordAt 21 = .ok (.iload_n 1, 1) := by decide +kernel
theorem dX7_wordAt_22 : decode cX7_wordAt 22 = .ok (.iadd, 1) := by decide +kernel
theorem dX7_wordAt_23 : decode cX7_wordAt 23 = .ok (.iaload, 1) := by decide +kernel
theorem dX7_wordAt_24 : decode cX7_wordAt 24 = .ok (.goto 5, 3) := by decide +kernel
theorem dX7_wordAt_27 : decode cX7_wordAt 27 = .ok (.ldc 100, 2) := by decide +kernel
theorem dX7_wordAt_29 : decode cX7_wordAt 29 = .ok (.ireturn, 1) := by decide +kernel
theorem dX7_orNone_0 : decode cX7_orNone 0 = .ok (.iload_n 0, 1) := by decide +kernel
theorem dX7_orNone_1 : decode cX7_orNone 1 = .ok (.ifCond .ge 8, 3) := by decide +kernel
theorem dX7_orNone_4 : decode cX7_orNone 4 = .ok (.ldc 100, 2) := by decide +kernel
theorem dX7_orNone_6 : decode cX7_orNone 6 = .ok (.goto 4, 3) := by decide +kernel
theorem dX7_orNone_9 : decode cX7_orNone 9 = .ok (.iload_n 0, 1) := by decide +kernel
theorem dX7_orNone_10 : decode cX7_orNone 10 = .ok (.ireturn, 1) := by decide +kernel
set_option maxRecDepth 20000 in
theorem ggX7_isTrue_X7_an : GoodIn wsX7_isTrue wsX7_an := goodIn_r _ [5, 6, 26, 27, 28, 29, 30, 31, 32, 33, 34, 35, 36, 37] (by decide +kernel) (by decide +kernel)
set_option maxRecDepth 20000 in
theorem gX7_isTrue_X7_an : GoodIn wsX7_isTrue (wsV RX7 48 RX7 yX7_an wsX7_an) := goodIn_app (goodIn_of _ (by decide +kernel)) ggX7_isTrue_X7_an
set_option maxRecDepth 20000 in
theorem ggX7_isTrue_X7_best : GoodIn wsX7_isTrue wsX7_best := goodIn_r _ [10, 6, 11, 12, 13, 4, 14, 15, 16, 17, 18, 19, 20, 21, 22, 23, 24, 25, 1, 2, 3, 5, 26, 27, 28, 29, 30, 31, 32, 33, 34, 35, 36, 37] (by decide +kernel) (by decide +kernel)
set_option maxRecDepth 20000 in
theorem gX7_isTrue_X7_best : GoodIn wsX7_isTrue (wsV RX7 93 RX7 yX7_best wsX7_best) := goodIn_app (goodIn_of _ (by decide +kernel)) ggX7_isTrue_X7_best
theorem dX7_isTrue_0 : decode cX7_isTrue 0 = .ok (.aload_n 0, 1) := by decide +kernel
theorem dX7_isTrue_1 : decode cX7_isTrue 1 = .ok (.iload_n 1, 1) := by decide +kernel
theorem dX7_isTrue_2 : decode cX7_isTrue 2 = .ok (.iconst 1, 1) := by decide +kernel
theorem dX7_isTrue_3 : decode cX7_isTrue 3 = .ok (.invokevirtual 48, 3) := by decide +kernel
theorem dX7_isTrue_6 : decode cX7_isTrue 6 = .ok (.ifCond .lt 22, 3) := by decide +kernel
theorem dX7_isTrue_9 : decode cX7_isTrue 9 = .ok (.aload_n 0, 1) := by decide +kernel
theorem dX7_isTrue_10 : decode cX7_isTrue 10 = .ok (.iload_n 1, 1) := by decide +kernel
theorem dX7_isTrue_11 : decode cX7_isTrue 11 = .ok (.iconst (-1), 1) := by decide +kernel
theorem dX7_isTrue_12 : decode cX7_isTrue 12 = .ok (.invokevirtual 93, 3) := by decide +kernel
theorem dX7_isTrue_15 : decode cX7_isTrue 15 = .ok (.aload_n 0, 1) := by decide +kernel
theorem dX7_isTrue_16 : decode cX7_isTrue 16 = .ok (.iload_n 1, 1) := by decide +kernel
theorem dX7_isTrue_17 : decode cX7_isTrue 17 = .ok (.iconst 1, 1) := by decide +kernel
theorem dX7_isTrue_18 : decode cX7_isTrue 18 = .ok (.invokevirtual 48, 3) := by decide +kernel
theorem dX7_isTrue_21 : decode cX7_isTrue 21 = .ok (.if_icmp .ne 7, 3) := by decide +kernel
theorem dX7_isTrue_24 : decode cX7_isTrue 24 = .ok (.iconst 1, 1) := by decide +kernel
theorem dX7_isTrue_25 : decode cX7_isTrue 25 = .ok (.goto 4, 3) := by decide +kernel
theorem dX7_isTrue_28 : decode cX7_isTrue 28 = .ok (.iconst 0, 1) := by decide +kernel
theorem dX7_isTrue_29 : decode cX7_isTrue 29 = .ok (.ireturn, 1) := by decide +kernel
set_option maxRecDepth 20000 in
theorem ggX7_anchorOf_X7_isAnchor : GoodIn wsX7_anchorOf wsX7_isAnchor := goodIn_r _ [7, 8, 9, 10, 6, 11, 43, 44, 45, 46, 47, 48, 49, 50, 51, 52, 53, 54] (by decide +kernel) (by decide +kernel)
set_option maxRecDepth 20000 in
theorem gX7_anchorOf_X7_isAnchor : GoodIn wsX7_anchorOf (wsV RX7 87 RX7 yX7_isAnchor wsX7_isAnchor) := goodIn_app (goodIn_of _ (by decide +kernel)) ggX7_anchorOf_X7_isAnchor
set_option maxRecDepth 20000 in
theorem ggX7_anchorOf_X7_in : GoodIn wsX7_anchorOf wsX7_in := goodIn_r _ [11] (by decide +kernel) (by decide +kernel)
set_option maxRecDepth 20000 in
theorem gX7_anchorOf_X7_in : GoodIn wsX7_anchorOf (va_wsS RX7 35 yX7_in wsX7_in) := goodIn_app (goodIn_of _ (by decide +kernel)) ggX7_anchorOf_X7_in
set_option maxRecDepth 20000 in
theorem ggX7_anchorOf_X7_best : GoodIn wsX7_anchorOf wsX7_best := goodIn_r _ [15, 8, 16, 17, 18, 6, 19, 20, 21, 22, 23, 24, 25, 26, 27, 9, 10, 11, 28, 29, 30, 31, 43, 44, 45, 46, 47, 48, 49, 50, 51, 52, 53, 54] (by decide +kernel) (by decide +kernel)
set_option maxRecDepth 20000 in
theorem gX7_anchorOf_X7_best : GoodIn wsX7_anchorOf (wsV RX7 93 RX7 yX7_best wsX7_best) := goodIn_app (goodIn_of _ (by decide +kernel)) ggX7_anchorOf_X7_best
set_option maxRecDepth 20000 in
theorem ggX7_anchorOf_X7_how : GoodIn wsX7_anchorOf wsX7_how := goodIn_r _ [35, 8, 12, 13, 14, 6, 15, 16, 17, 18, 19, 20, 21, 22, 23, 24, 25, 26, 27, 9, 10, 11, 28, 29, 30, 31, 43, 44, 45, 46, 47, 48, 49, 50, 51, 52, 53, 54] (by decide +kernel) (by decide +kernel)
set_option maxRecDepth 20000 in
theorem gX7_anchorOf_X7_how : GoodIn wsX7_anchorOf (wsV RX7 96 RX7 yX7_how wsX7_how) := goodIn_app (goodIn_of _ (by decide +kernel)) ggX7_anchorOf_X7_how
set_option maxRecDepth 20000 in
theorem ggX7_anchorOf_X7_orNone : GoodIn wsX7_anchorOf wsX7_orNone := goodIn_r _ [38, 2] (by decide +kernel) (by decide +kernel)
set_option maxRecDepth 20000 in
theorem gX7_anchorOf_X7_orNone : GoodIn wsX7_anchorOf (va_wsS RX7 101 yX7_orNone wsX7_orNone) := goodIn_app (goodIn_of _ (by decide +kernel)) ggX7_anchorOf_X7_orNone
set_option maxRecDepth 20000 in
theorem ggX7_anchorOf_X7_scoreAt : GoodIn wsX7_anchorOf wsX7_scoreAt := goodIn_r _ [19, 8, 20, 21, 22, 6, 23, 24, 25, 26, 27, 9, 10, 11, 28, 29, 30, 31, 43, 44, 45, 46, 47, 48, 49, 50, 51, 52, 53, 54] (by decide +kernel) (by decide +kernel)
set_option maxRecDepth 20000 in
theorem gX7_anchorOf_X7_scoreAt : GoodIn wsX7_anchorOf (wsV RX7 90 RX7 yX7_scoreAt wsX7_scoreAt) := goodIn_app (goodIn_of _ (by decide +kernel)) ggX7_anchorOf_X7_scoreAt
set_option maxRecDepth 20000 in
theorem ggX7_anchorOf_X7_isTrue : GoodIn wsX7_anchorOf wsX7_isTrue := goodIn_r _ [42, 28, 29, 30, 6, 31, 8, 12, 13, 14, 15, 16, 17, 18, 19, 20, 21, 22, 23, 24, 25, 26, 27, 9, 10, 11, 43, 44, 45, 46, 47, 48, 49, 50, 51, 52, 53, 54] (by decide +kernel) (by decide +kernel)
set_option maxRecDepth 20000 in
theorem gX7_anchorOf_X7_isTrue : GoodIn wsX7_anchorOf (wsV RX7 104 RX7 yX7_isTrue wsX7_isTrue) := goodIn_app (goodIn_of _ (by decide +kernel)) ggX7_anchorOf_X7_isTrue
set_option maxRecDepth 20000 in
theorem ggX7_anchorOf_X7_an : GoodIn wsX7_anchorOf wsX7_an := goodIn_r _ [31, 8, 43, 44, 45, 46, 47, 48, 49, 50, 51, 52, 53, 54] (by decide +kernel) (by decide +kernel)
set_option maxRecDepth 20000 in
theorem gX7_anchorOf_X7_an : GoodIn wsX7_anchorOf (wsV RX7 48 RX7 yX7_an wsX7_an) := goodIn_app (goodIn_of _ (by decide +kernel)) ggX7_anchorOf_X7_an
theorem dX7_anchorOf_0 : decode cX7_anchorOf 0 = .ok (.aload_n 0, 1) := by decide +kernel
theorem dX7_anchorOf_1 : decode cX7_anchorOf 1 = .ok (.iload_n 1, 1) := by decide +kernel
theorem dX7_anchorOf_2 : decode cX7_anchorOf 2 = .ok (.invokevirtual 87, 3) := by decide +kernel
theorem dX7_anchorOf_5 : decode cX7_anchorOf 5 = .ok (.ifCond .eq 13, 3) := by decide +kernel
theorem dX7_anchorOf_8 : decode cX7_anchorOf 8 = .ok (.iload_n 2, 1) := by decide +kernel
theorem dX7_anchorOf_9 : decode cX7_anchorOf 9 = .ok (.iconst 0, 1) := by decide +kernel
theorem dX7_anchorOf_10 : decode cX7_anchorOf 10 = .ok (.bipush 12, 2) := by decide +kernel
theorem dX7_anchorOf_12 : decode cX7_anchorOf 12 = .ok (.invokestatic 35, 3) := by decide +kernel
theorem dX7_anchorOf_15 : decode cX7_anchorOf 15 = .ok (.ifCond .ne 6, 3) := by decide +kernel
theorem dX7_anchorOf_18 : decode cX7_anchorOf 18 = .ok (.ldc 43, 2) := by decide +kernel
theorem dX7_anchorOf_20 : decode cX7_anchorOf 20 = .ok (.ireturn, 1) := by decide +kernel
theorem dX7_anchorOf_21 : decode cX7_anchorOf 21 = .ok (.aload_n 0, 1) := by decide +kernel
theorem dX7_anchorOf_22 : decode cX7_anchorOf 22 = .ok (.iload_n 1, 1) := by decide +kernel
theorem dX7_anchorOf_23 : decode cX7_anchorOf 23 = .ok (.iconst (-1), 1) := by decide +kernel
theorem dX7_anchorOf_24 : decode cX7_anchorOf 24 = .ok (.invokevirtual 93, 3) := by decide +kernel
theorem dX7_anchorOf_27 : decode cX7_anchorOf 27 = .ok (.istore_n 3, 1) := by decide +kernel
theorem dX7_anchorOf_28 : decode cX7_anchorOf 28 = .ok (.iload_n 3, 1) := by decide +kernel
theorem dX7_anchorOf_29 : decode cX7_anchorOf 29 = .ok (.ifCond .ge 7, 3) := by decide +kernel
theorem dX7_anchorOf_32 : decode cX7_anchorOf 32 = .ok (.iconst (-1), 1) := by decide +kernel
theorem dX7_anchorOf_33 : decode cX7_anchorOf 33 = .ok (.goto 9, 3) := by decide +kernel
theorem dX7_anchorOf_36 : decode cX7_anchorOf 36 = .ok (.aload_n 0, 1) := by decide +kernel
theorem dX7_anchorOf_37 : decode cX7_anchorOf 37 = .ok (.iload_n 1, 1) := by decide +kernel
theorem dX7_anchorOf_38 : decode cX7_anchorOf 38 = .ok (.iload_n 3, 1) := by decide +kernel
theorem dX7_anchorOf_39 : decode cX7_anchorOf 39 = .ok (.invokevirtual 93, 3) := by decide +kernel
theorem dX7_anchorOf_42 : decode cX7_anchorOf 42 = .ok (.istore 4, 2) := by decide +kernel
theorem dX7_anchorOf_44 : decode cX7_anchorOf 44 = .ok (.iload_n 2, 1) := by decide +kernel
theorem dX7_anchorOf_45 : decode cX7_anchorOf 45 = .ok (.tableswitch 104 7 12 #[39, 45, 50, 66, 72, 90], 39) := by decide +kernel
theorem dX7_anchorOf_84 : decode cX7_anchorOf 84 = .ok (.aload_n 0, 1) := by decide +kernel
theorem dX7_anchorOf_85 : decode cX7_anchorOf 85 = .ok (.iload_n 1, 1) := by decide +kernel
theorem dX7_anchorOf_86 : decode cX7_anchorOf 86 = .ok (.invokevirtual 96, 3) := by decide +kernel
theorem dX7_anchorOf_89 : decode cX7_anchorOf 89 = .ok (.ireturn, 1) := by decide +kernel
theorem dX7_anchorOf_90 : decode cX7_anchorOf 90 = .ok (.iload_n 3, 1) := by decide +kernel
theorem dX7_anchorOf_91 : decode cX7_anchorOf 91 = .ok (.invokestatic 101, 3) := by decide +kernel
theorem dX7_anchorOf_94 : decode cX7_anchorOf 94 = .ok (.ireturn, 1) := by decide +kernel
theorem dX7_anchorOf_95 : decode cX7_anchorOf 95 = .ok (.iload_n 3, 1) := by decide +kernel
theorem dX7_anchorOf_96 : decode cX7_anchorOf 96 = .ok (.ifCond .ge 8, 3) := by decide +kernel
theorem dX7_anchorOf_99 : decode cX7_anchorOf 99 = .ok (.ldc 100, 2) := by decide +kernel
theorem dX7_anchorOf_101 : decode cX7_anchorOf 101 = .ok (.goto 9, 3) := by decide +kernel
theorem dX7_anchorOf_104 : decode cX7_anchorOf 104 = .ok (.aload_n 0, 1) := by decide +kernel
theorem dX7_anchorOf_105 : decode cX7_anchorOf 105 = .ok (.iload_n 1, 1) := by decide +kernel
theorem dX7_anchorOf_106 : decode cX7_anchorOf 106 = .ok (.iload_n 3, 1) := by decide +kernel
theorem dX7_anchorOf_107 : decode cX7_anchorOf 107 = .ok (.invokevirtual 90, 3) := by decide +kernel
theorem dX7_anchorOf_110 : decode cX7_anchorOf 110 = .ok (.ireturn, 1) := by decide +kernel
theorem dX7_anchorOf_111 : decode cX7_anchorOf 111 = .ok (.iload 4, 2) := by decide +kernel
theorem dX7_anchorOf_113 : decode cX7_anchorOf 113 = .ok (.invokestatic 101, 3) := by decide +kernel
theorem dX7_anchorOf_116 : decode cX7_anchorOf 116 = .ok (.ireturn, 1) := by decide +kernel
theorem dX7_anchorOf_117 : decode cX7_anchorOf 117 = .ok (.iload 4, 2) := by decide +kernel
theorem dX7_anchorOf_119 : decode cX7_anchorOf 119 = .ok (.ifCond .ge 8, 3) := by decide +kernel
theorem dX7_anchorOf_122 : decode cX7_anchorOf 122 = .ok (.ldc 100, 2) := by decide +kernel
theorem dX7_anchorOf_124 : decode cX7_anchorOf 124 = .ok (.goto 10, 3) := by decide +kernel
theorem dX7_anchorOf_127 : decode cX7_anchorOf 127 = .ok (.aload_n 0, 1) := by decide +kernel
theorem dX7_anchorOf_128 : decode cX7_anchorOf 128 = .ok (.iload_n 1, 1) := by decide +kernel
theorem dX7_anchorOf_129 : decode cX7_anchorOf 129 = .ok (.iload 4, 2) := by decide +kernel
theorem dX7_anchorOf_131 : decode cX7_anchorOf 131 = .ok (.invokevirtual 90, 3) := by decide +kernel
theorem dX7_anchorOf_134 : decode cX7_anchorOf 134 = .ok (.ireturn, 1) := by decide +kernel
theorem dX7_anchorOf_135 : decode cX7_anchorOf 135 = .ok (.aload_n 0, 1) := by decide +kernel
theorem dX7_anchorOf_136 : decode cX7_anchorOf 136 = .ok (.iload_n 1, 1) := by decide +kernel
theorem dX7_anchorOf_137 : decode cX7_anchorOf 137 = .ok (.invokevirtual 104, 3) := by decide +kernel
theorem dX7_anchorOf_140 : decode cX7_anchorOf 140 = .ok (.ifCond .eq 7, 3) := by decide +kernel
theorem dX7_anchorOf_143 : decode cX7_anchorOf 143 = .ok (.iconst 1, 1) := by decide +kernel
theorem dX7_anchorOf_144 : decode cX7_anchorOf 144 = .ok (.goto 4, 3) := by decide +kernel
theorem dX7_anchorOf_147 : decode cX7_anchorOf 147 = .ok (.iconst 0, 1) := by decide +kernel
theorem dX7_anchorOf_148 : decode cX7_anchorOf 148 = .ok (.ireturn, 1) := by decide +kernel
theorem dX7_anchorOf_149 : decode cX7_anchorOf 149 = .ok (.aload_n 0, 1) := by decide +kernel
theorem dX7_anchorOf_150 : decode cX7_anchorOf 150 = .ok (.iload_n 1, 1) := by decide +kernel
theorem dX7_anchorOf_151 : decode cX7_anchorOf 151 = .ok (.iload_n 2, 1) := by decide +kernel
theorem dX7_anchorOf_152 : decode cX7_anchorOf 152 = .ok (.invokevirtual 48, 3) := by decide +kernel
theorem dX7_anchorOf_155 : decode cX7_anchorOf 155 = .ok (.invokestatic 101, 3) := by decide +kernel
theorem dX7_anchorOf_158 : decode cX7_anchorOf 158 = .ok (.ireturn, 1) := by decide +kernel
set_option maxRecDepth 20000 in
theorem ggX7_score_X7_isAnchor : GoodIn wsX7_score wsX7_isAnchor := goodIn_r _ [6, 7, 8, 9, 5, 10, 27, 28, 29, 30, 31, 32, 33, 34, 35, 36, 37, 38] (by decide +kernel) (by decide +kernel)
set_option maxRecDepth 20000 in
theorem gX7_score_X7_isAnchor : GoodIn wsX7_score (wsV RX7 87 RX7 yX7_isAnchor wsX7_isAnchor) := goodIn_app (goodIn_of _ (by decide +kernel)) ggX7_score_X7_isAnchor
set_option maxRecDepth 20000 in
theorem ggX7_score_X7_isPlace : GoodIn wsX7_score wsX7_isPlace := goodIn_r _ [14, 7, 8, 9, 5, 10, 27, 28, 29, 30, 31, 32, 33, 34, 35, 36, 37, 38] (by decide +kernel) (by decide +kernel)
set_option maxRecDepth 20000 in
theorem gX7_score_X7_isPlace : GoodIn wsX7_score (wsV RX7 39 RX7 yX7_isPlace wsX7_isPlace) := goodIn_app (goodIn_of _ (by decide +kernel)) ggX7_score_X7_isPlace
set_option maxRecDepth 20000 in
theorem ggX7_score_X7_scoreAt : GoodIn wsX7_score wsX7_scoreAt := goodIn_r _ [18, 7, 19, 20, 21, 5, 22, 11, 12, 13, 14, 8, 9, 10, 23, 24, 25, 26, 27, 28, 29, 30, 31, 32, 33, 34, 35, 36, 37, 38] (by decide +kernel) (by decide +kernel)
set_option maxRecDepth 20000 in
theorem gX7_score_X7_scoreAt : GoodIn wsX7_score (wsV RX7 90 RX7 yX7_scoreAt wsX7_scoreAt) := goodIn_app (goodIn_of _ (by decide +kernel)) ggX7_score_X7_scoreAt
theorem dX7_score_0 : decode cX7_score 0 = .ok (.aload_n 0, 1) := by decide +kernel
theorem dX7_score_1 : decode cX7_score 1 = .ok (.iload_n 1, 1) := by decide +kernel
theorem dX7_score_2 : decode cX7_score 2 = .ok (.invokevirtual 87, 3) := by decide +kernel
theorem dX7_score_5 : decode cX7_score 5 = .ok (.ifCond .eq 20, 3) := by decide +kernel
theorem dX7_score_8 : decode cX7_score 8 = .ok (.aload_n 0, 1) := by decide +kernel
theorem dX7_score_9 : decode cX7_score 9 = .ok (.iload_n 2, 1) := by decide +kernel
theorem dX7_score_10 : decode cX7_score 10 = .ok (.invokevirtual 39, 3) := by decide +kernel
theorem dX7_score_13 : decode cX7_score 13 = .ok (.ifCond .eq 12, 3) := by decide +kernel
theorem dX7_score_16 : decode cX7_score 16 = .ok (.aload_n 0, 1) := by decide +kernel
theorem dX7_score_17 : decode cX7_score 17 = .ok (.iload_n 1, 1) := by decide +kernel
theorem dX7_score_18 : decode cX7_score 18 = .ok (.iload_n 2, 1) := by decide +kernel
theorem dX7_score_19 : decode cX7_score 19 = .ok (.invokevirtual 90, 3) := by decide +kernel
theorem dX7_score_22 : decode cX7_score 22 = .ok (.goto 5, 3) := by decide +kernel
theorem dX7_score_25 : decode cX7_score 25 = .ok (.ldc 43, 2) := by decide +kernel
theorem dX7_score_27 : decode cX7_score 27 = .ok (.ireturn, 1) := by decide +kernel
set_option maxRecDepth 20000 in
theorem ggX7_is_X7_isTrue : GoodIn wsX7_is wsX7_isTrue := goodIn_r _ [5, 6, 7, 8, 4, 9, 10, 11, 12, 13, 14, 15, 16, 17, 18, 19, 20, 21, 22, 23, 24, 25, 26, 27, 28, 29, 34, 35, 36, 37, 38, 39, 40, 41, 42, 43, 44, 45] (by decide +kernel) (by decide +kernel)
set_option maxRecDepth 20000 in
theorem gX7_is_X7_isTrue : GoodIn wsX7_is (wsV RX7 104 RX7 yX7_isTrue wsX7_isTrue) := goodIn_app (goodIn_of _ (by decide +kernel)) ggX7_is_X7_isTrue
set_option maxRecDepth 20000 in
theorem ggX7_is_X7_an : GoodIn wsX7_is wsX7_an := goodIn_r _ [9, 10, 34, 35, 36, 37, 38, 39, 40, 41, 42, 43, 44, 45] (by decide +kernel) (by decide +kernel)
set_option maxRecDepth 20000 in
theorem gX7_is_X7_an : GoodIn wsX7_is (wsV RX7 48 RX7 yX7_an wsX7_an) := goodIn_app (goodIn_of _ (by decide +kernel)) ggX7_is_X7_an
set_option maxRecDepth 20000 in
theorem ggX7_is_X7_how : GoodIn wsX7_is wsX7_how := goodIn_r _ [33, 10, 11, 12, 13, 4, 14, 15, 16, 17, 18, 19, 20, 21, 22, 23, 24, 25, 26, 27, 28, 29, 6, 7, 8, 9, 34, 35, 36, 37, 38, 39, 40, 41, 42, 43, 44, 45] (by decide +kernel) (by decide +kernel)
set_option maxRecDepth 20000 in
theorem gX7_is_X7_how : GoodIn wsX7_is (wsV RX7 96 RX7 yX7_how wsX7_how) := goodIn_app (goodIn_of _ (by decide +kernel)) ggX7_is_X7_how
theorem dX7_is_0 : decode cX7_is 0 = .ok (.iload_n 2, 1) := by decide +kernel
theorem dX7_is_1 : decode cX7_is 1 = .ok (.tableswitch 72 3 5 #[27, 33, 48], 27) := by decide +kernel
theorem dX7_is_28 : decode cX7_is 28 = .ok (.aload_n 0, 1) := by decide +kernel
theorem dX7_is_29 : decode cX7_is 29 = .ok (.iload_n 1, 1) := by decide +kernel
theorem dX7_is_30 : decode cX7_is 30 = .ok (.invokevirtual 104, 3) := by decide +kernel
theorem dX7_is_33 : decode cX7_is 33 = .ok (.ireturn, 1) := by decide +kernel
theorem dX7_is_34 : decode cX7_is 34 = .ok (.aload_n 0, 1) := by decide +kernel
theorem dX7_is_35 : decode cX7_is 35 = .ok (.iload_n 1, 1) := by decide +kernel
theorem dX7_is_36 : decode cX7_is 36 = .ok (.iconst 1, 1) := by decide +kernel
theorem dX7_is_37 : decode cX7_is 37 = .ok (.invokevirtual 48, 3) := by decide +kernel
theorem dX7_is_40 : decode cX7_is 40 = .ok (.ifCond .ge 7, 3) := by decide +kernel
theorem dX7_is_43 : decode cX7_is 43 = .ok (.iconst 1, 1) := by decide +kernel
theorem dX7_is_44 : decode cX7_is 44 = .ok (.goto 4, 3) := by decide +kernel
theorem dX7_is_47 : decode cX7_is 47 = .ok (.iconst 0, 1) := by decide +kernel
theorem dX7_is_48 : decode cX7_is 48 = .ok (.ireturn, 1) := by decide +kernel
theorem dX7_is_49 : decode cX7_is 49 = .ok (.aload_n 0, 1) := by decide +kernel
theorem dX7_is_50 : decode cX7_is 50 = .ok (.iload_n 1, 1) := by decide +kernel
theorem dX7_is_51 : decode cX7_is 51 = .ok (.invokevirtual 96, 3) := by decide +kernel
theorem dX7_is_54 : decode cX7_is 54 = .ok (.iconst 2, 1) := by decide +kernel
theorem dX7_is_55 : decode cX7_is 55 = .ok (.if_icmp .ne 16, 3) := by decide +kernel
theorem dX7_is_58 : decode cX7_is 58 = .ok (.aload_n 0, 1) := by decide +kernel
theorem dX7_is_59 : decode cX7_is 59 = .ok (.iload_n 1, 1) := by decide +kernel
theorem dX7_is_60 : decode cX7_is 60 = .ok (.iconst 1, 1) := by decide +kernel
theorem dX7_is_61 : decode cX7_is 61 = .ok (.invokevirtual 48, 3) := by decide +kernel
theorem dX7_is_64 : decode cX7_is 64 = .ok (.ifCond .lt 7, 3) := by decide +kernel
theorem dX7_is_67 : decode cX7_is 67 = .ok (.iconst 1, 1) := by decide +kernel
theorem dX7_is_68 : decode cX7_is 68 = .ok (.goto 4, 3) := by decide +kernel
theorem dX7_is_71 : decode cX7_is 71 = .ok (.iconst 0, 1) := by decide +kernel
theorem dX7_is_72 : decode cX7_is 72 = .ok (.ireturn, 1) := by decide +kernel
theorem dX7_is_73 : decode cX7_is 73 = .ok (.aload_n 0, 1) := by decide +kernel
theorem dX7_is_74 : decode cX7_is 74 = .ok (.iload_n 1, 1) := by decide +kernel
theorem dX7_is_75 : decode cX7_is 75 = .ok (.invokevirtual 96, 3) := by decide +kernel
theorem dX7_is_78 : decode cX7_is 78 = .ok (.iload_n 2, 1) := by decide +kernel
theorem dX7_is_79 : decode cX7_is 79 = .ok (.if_icmp .ne 7, 3) := by decide +kernel
theorem dX7_is_82 : decode cX7_is 82 = .ok (.iconst 1, 1) := by decide +kernel
theorem dX7_is_83 : decode cX7_is 83 = .ok (.goto 4, 3) := by decide +kernel
theorem dX7_is_86 : decode cX7_is 86 = .ok (.iconst 0, 1) := by decide +kernel
theorem dX7_is_87 : decode cX7_is 87 = .ok (.ireturn, 1) := by decide +kernel
set_option maxRecDepth 20000 in
theorem ggX7_those_X7_is : GoodIn wsX7_those wsX7_is := goodIn_r _ [6, 7, 8, 9, 5, 10, 11, 12, 13, 14, 1, 15, 16, 17, 18, 19, 20, 21, 22, 23, 24, 25, 26, 27, 28, 29, 30, 31, 32, 33, 34, 35, 36, 37, 38, 39, 40, 41, 42, 43, 44, 45, 46, 47, 48, 49] (by decide +kernel) (by decide +kernel)
set_option maxRecDepth 20000 in
theorem gX7_those_X7_is : GoodIn wsX7_those (wsV RX7 107 RX7 yX7_is wsX7_is) := goodIn_app (goodIn_of _ (by decide +kernel)) ggX7_those_X7_is
theorem dX7_those_0 : decode cX7_those 0 = .ok (.iconst 0, 1) := by decide +kernel
theorem dX7_those_1 : decode cX7_those 1 = .ok (.istore_n 2, 1) := by decide +kernel
theorem dX7_those_2 : decode cX7_those 2 = .ok (.iconst 0, 1) := by decide +kernel
theorem dX7_those_3 : decode cX7_those 3 = .ok (.istore_n 3, 1) := by decide +kernel
theorem dX7_those_4 : decode cX7_those 4 = .ok (.iload_n 3, 1) := by decide +kernel
theorem dX7_those_5 : decode cX7_those 5 = .ok (.aload_n 0, 1) := by decide +kernel
theorem dX7_those_6 : decode cX7_those 6 = .ok (.getfield 7, 3) := by decide +kernel
theorem dX7_those_9 : decode cX7_those 9 = .ok (.iconst 1, 1) := by decide +kernel
theorem dX7_those_10 : decode cX7_those 10 = .ok (.iaload, 1) := by decide +kernel
theorem dX7_those_11 : decode cX7_those 11 = .ok (.if_icmp .ge 28, 3) := by decide +kernel
theorem dX7_those_14 : decode cX7_those 14 = .ok (.iload_n 2, 1) := by decide +kernel
theorem dX7_those_15 : decode cX7_those 15 = .ok (.aload_n 0, 1) := by decide +kernel
theorem dX7_those_16 : decode cX7_those 16 = .ok (.iload_n 3, 1) := by decide +kernel
theorem dX7_those_17 : decode cX7_those 17 = .ok (.iload_n 1, 1) := by decide +kernel
theorem dX7_those_18 : decode cX7_those 18 = .ok (.invokevirtual 107, 3) := by decide +kernel
theorem dX7_those_21 : decode cX7_those 21 = .ok (.ifCond .eq 9, 3) := by decide +kernel
theorem dX7_those_24 : decode cX7_those 24 = .ok (.iconst 1, 1) := by decide +kernel
theorem dX7_those_25 : decode cX7_those 25 = .ok (.iload_n 3, 1) := by decide +kernel
theorem dX7_those_26 : decode cX7_those 26 = .ok (.ishl, 1) := by decide +kernel
theorem dX7_those_27 : decode cX7_those 27 = .ok (.goto 4, 3) := by decide +kernel
theorem dX7_those_30 : decode cX7_those 30 = .ok (.iconst 0, 1) := by decide +kernel
theorem dX7_those_31 : decode cX7_those 31 = .ok (.ior, 1) := by decide +kernel
theorem dX7_those_32 : decode cX7_those 32 = .ok (.istore_n 2, 1) := by decide +kernel
theorem dX7_those_33 : decode cX7_those 33 = .ok (.iinc 3 1, 3) := by decide +kernel
theorem dX7_those_36 : decode cX7_those 36 = .ok (.goto (-32), 3) := by decide +kernel
theorem dX7_those_39 : decode cX7_those 39 = .ok (.iload_n 2, 1) := by decide +kernel
theorem dX7_those_40 : decode cX7_those 40 = .ok (.ireturn, 1) := by decide +kernel
set_option maxRecDepth 20000 in
theorem ggX7_anchors_X7_in : GoodIn wsX7_anchors wsX7_in := goodIn_r _ [5] (by decide +kernel) (by decide +kernel)
set_option maxRecDepth 20000 in
theorem gX7_anchors_X7_in : GoodIn wsX7_anchors (va_wsS RX7 35 yX7_in wsX7_in) := goodIn_app (goodIn_of _ (by decide +kernel)) ggX7_anchors_X7_in
set_option maxRecDepth 20000 in
theorem ggX7_anchors_X7_those : GoodIn wsX7_anchors wsX7_those := goodIn_r _ [9, 10, 11, 12, 13, 4, 14, 15, 16, 17, 18, 19, 20, 21, 22, 23, 24, 25, 26, 27, 28, 29, 30, 31, 32, 33, 34, 35, 36, 37, 38, 2, 3, 5, 39, 40, 41, 42, 43, 44, 45, 46, 47, 48, 49, 50, 51, 52, 53, 54] (by decide +kernel) (by decide +kernel)
set_option maxRecDepth 20000 in
theorem gX7_anchors_X7_those : GoodIn wsX7_anchors (wsV RX7 111 RX7 yX7_those wsX7_those) := goodIn_app (goodIn_of _ (by decide +kernel)) ggX7_anchors_X7_those
theorem dX7_anchors_0 : decode cX7_anchors 0 = .ok (.iload_n 1, 1) := by decide +kernel
theorem dX7_anchors_1 : decode cX7_anchors 1 = .ok (.iconst 0, 1) := by decide +kernel
theorem dX7_anchors_2 : decode cX7_anchors 2 = .ok (.iconst 5, 1) := by decide +kernel
theorem dX7_anchors_3 : decode cX7_anchors 3 = .ok (.invokestatic 35, 3) := by decide +kernel
theorem dX7_anchors_6 : decode cX7_anchors 6 = .ok (.ifCond .eq 11, 3) := by decide +kernel
theorem dX7_anchors_9 : decode cX7_anchors 9 = .ok (.aload_n 0, 1) := by decide +kernel
theorem dX7_anchors_10 : decode cX7_anchors 10 = .ok (.iload_n 1, 1) := by decide +kernel
theorem dX7_anchors_11 : decode cX7_anchors 11 = .ok (.invokevirtual 111, 3) := by decide +kernel
theorem dX7_anchors_14 : decode cX7_anchors 14 = .ok (.goto 5, 3) := by decide +kernel
theorem dX7_anchors_17 : decode cX7_anchors 17 = .ok (.ldc 43, 2) := by decide +kernel
theorem dX7_anchors_19 : decode cX7_anchors 19 = .ok (.ireturn, 1) := by decide +kernel
theorem dX7_ones_0 : decode cX7_ones 0 = .ok (.iconst 0, 1) := by decide +kernel
theorem dX7_ones_1 : decode cX7_ones 1 = .ok (.istore_n 1, 1) := by decide +kernel
theorem dX7_ones_2 : decode cX7_ones 2 = .ok (.iconst 0, 1) := by decide +kernel
theorem dX7_ones_3 : decode cX7_ones 3 = .ok (.istore_n 2, 1) := by decide +kernel
theorem dX7_ones_4 : decode cX7_ones 4 = .ok (.iload_n 2, 1) := by decide +kernel
theorem dX7_ones_5 : decode cX7_ones 5 = .ok (.bipush 6, 2) := by decide +kernel
theorem dX7_ones_7 : decode cX7_ones 7 = .ok (.if_icmp .ge 17, 3) := by decide +kernel
theorem dX7_ones_10 : decode cX7_ones 10 = .ok (.iload_n 1, 1) := by decide +kernel
theorem dX7_ones_11 : decode cX7_ones 11 = .ok (.iload_n 0, 1) := by decide +kernel
theorem dX7_ones_12 : decode cX7_ones 12 = .ok (.iload_n 2, 1) := by decide +kernel
theorem dX7_ones_13 : decode cX7_ones 13 = .ok (.ishr, 1) := by decide +kernel
theorem dX7_ones_14 : decode cX7_ones 14 = .ok (.iconst 1, 1) := by decide +kernel
theorem dX7_ones_15 : decode cX7_ones 15 = .ok (.iand, 1) := by decide +kernel
theorem dX7_ones_16 : decode cX7_ones 16 = .ok (.iadd, 1) := by decide +kernel
theorem dX7_ones_17 : decode cX7_ones 17 = .ok (.istore_n 1, 1) := by decide +kernel
theorem dX7_ones_18 : decode cX7_ones 18 = .ok (.iinc 2 1, 3) := by decide +kernel
theorem dX7_ones_21 : decode cX7_ones 21 = .ok (.goto (-17), 3) := by decide +kernel
theorem dX7_ones_24 : decode cX7_ones 24 = .ok (.iload_n 1, 1) := by decide +kernel
theorem dX7_ones_25 : decode cX7_ones 25 = .ok (.ireturn, 1) := by decide +kernel
theorem dX7_block_0 : decode cX7_block 0 = .ok (.iconst 0, 1) := by decide +kernel
theorem dX7_block_1 : decode cX7_block 1 = .ok (.istore_n 2, 1) := by decide +kernel
theorem dX7_block_2 : decode cX7_block 2 = .ok (.iconst 0, 1) := by decide +kernel
theorem dX7_block_3 : decode cX7_block 3 = .ok (.istore_n 3, 1) := by decide +kernel
theorem dX7_block_4 : decode cX7_block 4 = .ok (.iload_n 3, 1) := by decide +kernel
theorem dX7_block_5 : decode cX7_block 5 = .ok (.aload_n 0, 1) := by decide +kernel
theorem dX7_block_6 : decode cX7_block 6 = .ok (.getfield 7, 3) := by decide +kernel
theorem dX7_block_9 : decode cX7_block 9 = .ok (.iconst 1, 1) := by decide +kernel
theorem dX7_block_10 : decode cX7_block 10 = .ok (.iaload, 1) := by decide +kernel
theorem dX7_block_11 : decode cX7_block 11 = .ok (.if_icmp .ge 34, 3) := by decide +kernel
theorem dX7_block_14 : decode cX7_block 14 = .ok (.iload_n 2, 1) := by decide +kernel
theorem dX7_block_15 : decode cX7_block 15 = .ok (.aload_n 0, 1) := by decide +kernel
theorem dX7_block_16 : decode cX7_block 16 = .ok (.getfield 32, 3) := by decide +kernel
theorem dX7_block_19 : decode cX7_block 19 = .ok (.iload_n 3, 1) := by decide +kernel
theorem dX7_block_20 : decode cX7_block 20 = .ok (.iaload, 1) := by decide +kernel
theorem dX7_block_21 : decode cX7_block 21 = .ok (.aload_n 0, 1) := by decide +kernel
theorem dX7_block_22 : decode cX7_block 22 = .ok (.getfield 32, 3) := by decide +kernel
theorem dX7_block_25 : decode cX7_block 25 = .ok (.iload_n 1, 1) := by decide +kernel
theorem dX7_block_26 : decode cX7_block 26 = .ok (.iaload, 1) := by decide +kernel
theorem dX7_block_27 : decode cX7_block 27 = .ok (.if_icmp .ne 9, 3) := by decide +kernel
theorem dX7_block_30 : decode cX7_block 30 = .ok (.iconst 1, 1) := by decide +kernel
theorem dX7_block_31 : decode cX7_block 31 = .ok (.iload_n 3, 1) := by decide +kernel
theorem dX7_block_32 : decode cX7_block 32 = .ok (.ishl, 1) := by decide +kernel
theorem dX7_block_33 : decode cX7_block 33 = .ok (.goto 4, 3) := by decide +kernel
theorem dX7_block_36 : decode cX7_block 36 = .ok (.iconst 0, 1) := by decide +kernel
theorem dX7_block_37 : decode cX7_block 37 = .ok (.ior, 1) := by decide +kernel
theorem dX7_block_38 : decode cX7_block 38 = .ok (.istore_n 2, 1) := by decide +kernel
theorem dX7_block_39 : decode cX7_block 39 = .ok (.iinc 3 1, 3) := by decide +kernel
theorem dX7_block_42 : decode cX7_block 42 = .ok (.goto (-38), 3) := by decide +kernel
theorem dX7_block_45 : decode cX7_block 45 = .ok (.aload_n 0, 1) := by decide +kernel
theorem dX7_block_46 : decode cX7_block 46 = .ok (.getfield 32, 3) := by decide +kernel
theorem dX7_block_49 : decode cX7_block 49 = .ok (.iload_n 1, 1) := by decide +kernel
theorem dX7_block_50 : decode cX7_block 50 = .ok (.iaload, 1) := by decide +kernel
theorem dX7_block_51 : decode cX7_block 51 = .ok (.ifCond .eq 13, 3) := by decide +kernel
theorem dX7_block_54 : decode cX7_block 54 = .ok (.iload_n 2, 1) := by decide +kernel
theorem dX7_block_55 : decode cX7_block 55 = .ok (.iconst 1, 1) := by decide +kernel
theorem dX7_block_56 : decode cX7_block 56 = .ok (.iload_n 1, 1) := by decide +kernel
theorem dX7_block_57 : decode cX7_block 57 = .ok (.ishl, 1) := by decide +kernel
theorem dX7_block_58 : decode cX7_block 58 = .ok (.iconst 1, 1) := by decide +kernel
theorem dX7_block_59 : decode cX7_block 59 = .ok (.isub, 1) := by decide +kernel
theorem dX7_block_60 : decode cX7_block 60 = .ok (.iand, 1) := by decide +kernel
theorem dX7_block_61 : decode cX7_block 61 = .ok (.ifCond .eq 7, 3) := by decide +kernel
theorem dX7_block_64 : decode cX7_block 64 = .ok (.iconst 0, 1) := by decide +kernel
theorem dX7_block_65 : decode cX7_block 65 = .ok (.goto 4, 3) := by decide +kernel
theorem dX7_block_68 : decode cX7_block 68 = .ok (.iload_n 2, 1) := by decide +kernel
theorem dX7_block_69 : decode cX7_block 69 = .ok (.ireturn, 1) := by decide +kernel
set_option maxRecDepth 20000 in
theorem ggX7_shifts_X7_how : GoodIn wsX7_shifts wsX7_how := goodIn_r _ [7, 1, 8, 9, 10, 6, 11, 12, 13, 14, 15, 16, 17, 18, 19, 20, 21, 22, 23, 24, 25, 26, 27, 28, 29, 30, 31, 32, 33, 34, 35, 36, 37, 38, 39, 40, 41, 42] (by decide +kernel) (by decide +kernel)
set_option maxRecDepth 20000 in
theorem gX7_shifts_X7_how : GoodIn wsX7_shifts (wsV RX7 96 RX7 yX7_how wsX7_how) := goodIn_app (goodIn_of _ (by decide +kernel)) ggX7_shifts_X7_how
set_option maxRecDepth 20000 in
theorem ggX7_shifts_X7_best : GoodIn wsX7_shifts wsX7_best := goodIn_r _ [11, 1, 12, 13, 14, 6, 15, 16, 17, 18, 19, 20, 21, 22, 23, 24, 25, 26, 27, 28, 29, 30, 31, 32, 33, 34, 35, 36, 37, 38, 39, 40, 41, 42] (by decide +kernel) (by decide +kernel)
set_option maxRecDepth 20000 in
theorem gX7_shifts_X7_best : GoodIn wsX7_shifts (wsV RX7 93 RX7 yX7_best wsX7_best) := goodIn_app (goodIn_of _ (by decide +kernel)) ggX7_shifts_X7_best
set_option maxRecDepth 20000 in
theorem ggX7_shifts_X7_an : GoodIn wsX7_shifts wsX7_an := goodIn_r _ [30, 1, 31, 32, 33, 34, 35, 36, 37, 38, 39, 40, 41, 42] (by decide +kernel) (by decide +kernel)
set_option maxRecDepth 20000 in
theorem gX7_shifts_X7_an : GoodIn wsX7_shifts (wsV RX7 48 RX7 yX7_an wsX7_an) := goodIn_app (goodIn_of _ (by decide +kernel)) ggX7_shifts_X7_an
theorem dX7_shifts_0 : decode cX7_shifts 0 = .ok (.iconst 0, 1) := by decide +kernel
theorem dX7_shifts_1 : decode cX7_shifts 1 = .ok (.istore_n 1, 1) := by decide +kernel
theorem dX7_shifts_2 : decode cX7_shifts 2 = .ok (.iload_n 1, 1) := by decide +kernel
theorem dX7_shifts_3 : decode cX7_shifts 3 = .ok (.aload_n 0, 1) := by decide +kernel
theorem dX7_shifts_4 : decode cX7_shifts 4 = .ok (.getfield 7, 3) := by decide +kernel
theorem dX7_shifts_7 : decode cX7_shifts 7 = .ok (.iconst 1, 1) := by decide +kernel
theorem dX7_shifts_8 : decode cX7_shifts 8 = .ok (.iaload, 1) := by decide +kernel
theorem dX7_shifts_9 : decode cX7_shifts 9 = .ok (.if_icmp .ge 41, 3) := by decide +kernel
theorem dX7_shifts_12 : decode cX7_shifts 12 = .ok (.aload_n 0, 1) := by decide +kernel
theorem dX7_shifts_13 : decode cX7_shifts 13 = .ok (.getfield 32, 3) := by decide +kernel
theorem dX7_shifts_16 : decode cX7_shifts 16 = .ok (.iload_n 1, 1) := by decide +kernel
theorem dX7_shifts_17 : decode cX7_shifts 17 = .ok (.aload_n 0, 1) := by decide +kernel
theorem dX7_shifts_18 : decode cX7_shifts 18 = .ok (.iload_n 1, 1) := by decide +kernel
theorem dX7_shifts_19 : decode cX7_shifts 19 = .ok (.invokevirtual 96, 3) := by decide +kernel
theorem dX7_shifts_22 : decode cX7_shifts 22 = .ok (.iconst 2, 1) := by decide +kernel
theorem dX7_shifts_23 : decode cX7_shifts 23 = .ok (.if_icmp .ne 7, 3) := by decide +kernel
theorem dX7_shifts_26 : decode cX7_shifts 26 = .ok (.iconst 0, 1) := by decide +kernel
theorem dX7_shifts_27 : decode cX7_shifts 27 = .ok (.goto 16, 3) := by decide +kernel
theorem dX7_shifts_30 : decode cX7_shifts 30 = .ok (.aload_n 0, 1) := by decide +kernel
theorem dX7_shifts_31 : decode cX7_shifts 31 = .ok (.iload_n 1, 1) := by decide +kernel
theorem dX7_shifts_32 : decode cX7_shifts 32 = .ok (.iconst (-1), 1) := by decide +kernel
theorem dX7_shifts_33 : decode cX7_shifts 33 = .ok (.invokevirtual 93, 3) := by decide +kernel
theorem dX7_shifts_36 : decode cX7_shifts 36 = .ok (.aload_n 0, 1) := by decide +kernel
theorem dX7_shifts_37 : decode cX7_shifts 37 = .ok (.iload_n 1, 1) := by decide +kernel
theorem dX7_shifts_38 : decode cX7_shifts 38 = .ok (.iconst 0, 1) := by decide +kernel
theorem dX7_shifts_39 : decode cX7_shifts 39 = .ok (.invokevirtual 48, 3) := by decide +kernel
theorem dX7_shifts_42 : decode cX7_shifts 42 = .ok (.isub, 1) := by decide +kernel
theorem dX7_shifts_43 : decode cX7_shifts 43 = .ok (.iastore, 1) := by decide +kernel
theorem dX7_shifts_44 : decode cX7_shifts 44 = .ok (.iinc 1 1, 3) := by decide +kernel
theorem dX7_shifts_47 : decode cX7_shifts 47 = .ok (.goto (-45), 3) := by decide +kernel
theorem dX7_shifts_50 : decode cX7_shifts 50 = .ok (.return_, 1) := by decide +kernel
set_option maxRecDepth 20000 in
theorem ggX7_blockOf_X7_in : GoodIn wsX7_blockOf wsX7_in := goodIn_r _ [8] (by decide +kernel) (by decide +kernel)
set_option maxRecDepth 20000 in
theorem gX7_blockOf_X7_in : GoodIn wsX7_blockOf (va_wsS RX7 35 yX7_in wsX7_in) := goodIn_app (goodIn_of _ (by decide +kernel)) ggX7_blockOf_X7_in
set_option maxRecDepth 20000 in
theorem ggX7_blockOf_X7_shifts : GoodIn wsX7_blockOf wsX7_shifts := goodIn_r _ [12, 2, 3, 13, 14, 15, 7, 16, 17, 18, 19, 20, 21, 22, 23, 24, 25, 26, 27, 28, 29, 30, 31, 32, 5, 6, 8, 33, 34, 35, 36, 44, 45, 46, 47, 48, 49, 50, 51, 52, 53, 54, 55] (by decide +kernel) (by decide +kernel)
set_option maxRecDepth 20000 in
theorem gX7_blockOf_X7_shifts : GoodIn wsX7_blockOf (wsV RX7 114 RX7 yX7_shifts wsX7_shifts) := goodIn_app (goodIn_of _ (by decide +kernel)) ggX7_blockOf_X7_shifts
set_option maxRecDepth 20000 in
theorem ggX7_blockOf_X7_block : GoodIn wsX7_blockOf wsX7_block := goodIn_r _ [40, 2, 3, 44, 45, 46, 47, 48, 49, 50, 51, 52, 53, 54, 55] (by decide +kernel) (by decide +kernel)
set_option maxRecDepth 20000 in
theorem gX7_blockOf_X7_block : GoodIn wsX7_blockOf (wsV RX7 117 RX7 yX7_block wsX7_block) := goodIn_app (goodIn_of _ (by decide +kernel)) ggX7_blockOf_X7_block
set_option maxRecDepth 20000 in
theorem ggX7_blockOf_X7_ones : GoodIn wsX7_blockOf wsX7_ones := goodIn_r _ [43] (by decide +kernel) (by decide +kernel)
set_option maxRecDepth 20000 in
theorem gX7_blockOf_X7_ones : GoodIn wsX7_blockOf (va_wsS RX7 120 yX7_ones wsX7_ones) := goodIn_app (goodIn_of _ (by decide +kernel)) ggX7_blockOf_X7_ones
theorem dX7_blockOf_0 : decode cX7_blockOf 0 = .ok (.iload_n 1, 1) := by decide +kernel
theorem dX7_blockOf_1 : decode cX7_blockOf 1 = .ok (.ifCond .lt 12, 3) := by decide +kernel
theorem dX7_blockOf_4 : decode cX7_blockOf 4 = .ok (.iload_n 2, 1) := by decide +kernel
theorem dX7_blockOf_5 : decode cX7_blockOf 5 = .ok (.iconst 0, 1) := by decide +kernel
theorem dX7_blockOf_6 : decode cX7_blockOf 6 = .ok (.iconst 1, 1) := by decide +kernel
theorem dX7_blockOf_7 : decode cX7_blockOf 7 = .ok (.invokestatic 35, 3) := by decide +kernel
theorem dX7_blockOf_10 : decode cX7_blockOf 10 = .ok (.ifCond .ne 6, 3) := by decide +kernel
theorem dX7_blockOf_13 : decode cX7_blockOf 13 = .ok (.ldc 43, 2) := by decide +kernel
theorem dX7_blockOf_15 : decode cX7_blockOf 15 = .ok (.ireturn, 1) := by decide +kernel
theorem dX7_blockOf_16 : decode cX7_blockOf 16 = .ok (.aload_n 0, 1) := by decide +kernel
theorem dX7_blockOf_17 : decode cX7_blockOf 17 = .ok (.invokevirtual 114, 3) := by decide +kernel
theorem dX7_blockOf_20 : decode cX7_blockOf 20 = .ok (.iconst 0, 1) := by decide +kernel
theorem dX7_blockOf_21 : decode cX7_blockOf 21 = .ok (.istore_n 3, 1) := by decide +kernel
theorem dX7_blockOf_22 : decode cX7_blockOf 22 = .ok (.iload_n 3, 1) := by decide +kernel
theorem dX7_blockOf_23 : decode cX7_blockOf 23 = .ok (.aload_n 0, 1) := by decide +kernel
theorem dX7_blockOf_24 : decode cX7_blockOf 24 = .ok (.getfield 7, 3) := by decide +kernel
theorem dX7_blockOf_27 : decode cX7_blockOf 27 = .ok (.iconst 1, 1) := by decide +kernel
theorem dX7_blockOf_28 : decode cX7_blockOf 28 = .ok (.iaload, 1) := by decide +kernel
theorem dX7_blockOf_29 : decode cX7_blockOf 29 = .ok (.if_icmp .ge 134, 3) := by decide +kernel
theorem dX7_blockOf_32 : decode cX7_blockOf 32 = .ok (.aload_n 0, 1) := by decide +kernel
theorem dX7_blockOf_33 : decode cX7_blockOf 33 = .ok (.iload_n 3, 1) := by decide +kernel
theorem dX7_blockOf_34 : decode cX7_blockOf 34 = .ok (.invokevirtual 117, 3) := by decide +kernel
theorem dX7_blockOf_37 : decode cX7_blockOf 37 = .ok (.istore 4, 2) := by decide +kernel
theorem dX7_blockOf_39 : decode cX7_blockOf 39 = .ok (.iconst 0, 1) := by decide +kernel
theorem dX7_blockOf_40 : decode cX7_blockOf 40 = .ok (.istore 5, 2) := by decide +kernel
theorem dX7_blockOf_42 : decode cX7_blockOf 42 = .ok (.iconst 0, 1) := by decide +kernel
theorem dX7_blockOf_43 : decode cX7_blockOf 43 = .ok (.istore 6, 2) := by decide +kernel
theorem dX7_blockOf_45 : decode cX7_blockOf 45 = .ok (.iload 6, 2) := by decide +kernel
theorem dX7_blockOf_47 : decode cX7_blockOf 47 = .ok (.aload_n 0, 1) := by decide +kernel
theorem dX7_blockOf_48 : decode cX7_blockOf 48 = .ok (.getfield 7, 3) := by decide +kernel
theorem dX7_blockOf_51 : decode cX7_blockOf 51 = .ok (.iconst 1, 1) := by decide +kernel
theorem dX7_blockOf_52 : decode cX7_blockOf 52 = .ok (.iaload, 1) := by decide +kernel
theorem dX7_blockOf_53 : decode cX7_blockOf 53 = .ok (.if_icmp .ge 74, 3) := by decide +kernel
theorem dX7_blockOf_56 : decode cX7_blockOf 56 = .ok (.aload_n 0, 1) := by decide +kernel
theorem dX7_blockOf_57 : decode cX7_blockOf 57 = .ok (.iload 6, 2) := by decide +kernel
theorem dX7_blockOf_59 : decode cX7_blockOf 59 = .ok (.invokevirtual 117, 3) := by decide +kernel
theorem dX7_blockOf_62 : decode cX7_blockOf 62 = .ok (.istore 7, 2) := by decide +kernel
theorem dX7_blockOf_64 : decode cX7_blockOf 64 = .ok (.iload 5, 2) := by decide +kernel
theorem dX7_blockOf_66 : decode cX7_blockOf 66 = .ok (.iload 7, 2) := by decide +kernel
theorem dX7_blockOf_68 : decode cX7_blockOf 68 = .ok (.invokestatic 120, 3) := by decide +kernel
theorem dX7_blockOf_71 : decode cX7_blockOf 71 = .ok (.iload 4, 2) := by decide +kernel
theorem dX7_blockOf_73 : decode cX7_blockOf 73 = .ok (.invokestatic 120, 3) := by decide +kernel
theorem dX7_blockOf_76 : decode cX7_blockOf 76 = .ok (.if_icmp .gt 37, 3) := by decide +kernel
theorem dX7_blockOf_79 : decode cX7_blockOf 79 = .ok (.iload 7, 2) := by decide +kernel
theorem dX7_blockOf_81 : decode cX7_blockOf 81 = .ok (.ifCond .le 36, 3) := by decide +kernel
theorem dX7_blockOf_84 : decode cX7_blockOf 84 = .ok (.iload 7, 2) := by decide +kernel
theorem dX7_blockOf_86 : decode cX7_blockOf 86 = .ok (.invokestatic 120, 3) := by decide +kernel
theorem dX7_blockOf_89 : decode cX7_blockOf 89 = .ok (.iload 4, 2) := by decide +kernel
theorem dX7_blockOf_91 : decode cX7_blockOf 91 = .ok (.invokestatic 120, 3) := by decide +kernel
theorem dX7_blockOf_94 : decode cX7_blockOf 94 = .ok (.if_icmp .ne 23, 3) := by decide +kernel
theorem dX7_blockOf_97 : decode cX7_blockOf 97 = .ok (.aload_n 0, 1) := by decide +kernel
theorem dX7_blockOf_98 : decode cX7_blockOf 98 = .ok (.getfield 32, 3) := by decide +kernel
theorem dX7_blockOf_101 : decode cX7_blockOf 101 = .ok (.iload 6, 2) := by decide +kernel
theorem dX7_blockOf_103 : decode cX7_blockOf 103 = .ok (.iaload, 1) := by decide +kernel
theorem dX7_blockOf_104 : decode cX7_blockOf 104 = .ok (.aload_n 0, 1) := by decide +kernel
theorem dX7_blockOf_105 : decode cX7_blockOf 105 = .ok (.getfield 32, 3) := by decide +kernel
theorem dX7_blockOf_108 : decode cX7_blockOf 108 = .ok (.iload_n 3, 1) := by decide +kernel
theorem dX7_blockOf_109 : decode cX7_blockOf 109 = .ok (.iaload, 1) := by decide +kernel
theorem dX7_blockOf_110 : decode cX7_blockOf 110 = .ok (.if_icmp .ge 7, 3) := by decide +kernel
theorem dX7_blockOf_113 : decode cX7_blockOf 113 = .ok (.iconst 1, 1) := by decide +kernel
theorem dX7_blockOf_114 : decode cX7_blockOf 114 = .ok (.goto 4, 3) := by decide +kernel
theorem dX7_blockOf_117 : decode cX7_blockOf 117 = .ok (.iconst 0, 1) := by decide +kernel
theorem dX7_blockOf_118 : decode cX7_blockOf 118 = .ok (.iadd, 1) := by decide +kernel
theorem dX7_blockOf_119 : decode cX7_blockOf 119 = .ok (.istore 5, 2) := by decide +kernel
theorem dX7_blockOf_121 : decode cX7_blockOf 121 = .ok (.iinc 6 1, 3) := by decide +kernel
theorem dX7_blockOf_124 : decode cX7_blockOf 124 = .ok (.goto (-79), 3) := by decide +kernel
theorem dX7_blockOf_127 : decode cX7_blockOf 127 = .ok (.iload 4, 2) := by decide +kernel
theorem dX7_blockOf_129 : decode cX7_blockOf 129 = .ok (.ifCond .le 28, 3) := by decide +kernel
theorem dX7_blockOf_132 : decode cX7_blockOf 132 = .ok (.iload 5, 2) := by decide +kernel
theorem dX7_blockOf_134 : decode cX7_blockOf 134 = .ok (.iload_n 1, 1) := by decide +kernel
theorem dX7_blockOf_135 : decode cX7_blockOf 135 = .ok (.if_icmp .ne 22, 3) := by decide +kernel
theorem dX7_blockOf_138 : decode cX7_blockOf 138 = .ok (.iload_n 2, 1) := by decide +kernel
theorem dX7_blockOf_139 : decode cX7_blockOf 139 = .ok (.ifCond .ne 8, 3) := by decide +kernel
theorem dX7_blockOf_142 : decode cX7_blockOf 142 = .ok (.iload 4, 2) := by decide +kernel
theorem dX7_blockOf_144 : decode cX7_blockOf 144 = .ok (.goto 12, 3) := by decide +kernel
theorem dX7_blockOf_147 : decode cX7_blockOf 147 = .ok (.aload_n 0, 1) := by decide +kernel
theorem dX7_blockOf_148 : decode cX7_blockOf 148 = .ok (.getfield 32, 3) := by decide +kernel
theorem dX7_blockOf_151 : decode cX7_blockOf 151 = .ok (.iload_n 3, 1) := by decide +kernel
theorem dX7_blockOf_152 : decode cX7_blockOf 152 = .ok (.iaload, 1) := by decide +kernel
theorem dX7_blockOf_153 : decode cX7_blockOf 153 = .ok (.bipush 100, 2) := by decide +kernel
theorem dX7_blockOf_155 : decode cX7_blockOf 155 = .ok (.iadd, 1) := by decide +kernel
theorem dX7_blockOf_156 : decode cX7_blockOf 156 = .ok (.ireturn, 1) := by decide +kernel
theorem dX7_blockOf_157 : decode cX7_blockOf 157 = .ok (.iinc 3 1, 3) := by decide +kernel
theorem dX7_blockOf_160 : decode cX7_blockOf 160 = .ok (.goto (-138), 3) := by decide +kernel
theorem dX7_blockOf_163 : decode cX7_blockOf 163 = .ok (.ldc 100, 2) := by decide +kernel
theorem dX7_blockOf_165 : decode cX7_blockOf 165 = .ok (.ireturn, 1) := by decide +kernel
set_option maxRecDepth 20000 in
theorem ggX7_wouldTake_X7_isPlace : GoodIn wsX7_wouldTake wsX7_isPlace := goodIn_r _ [6, 7, 8, 9, 5, 10, 60, 61, 62, 63, 64, 65, 66, 67, 68, 69, 70, 71] (by decide +kernel) (by decide +kernel)
set_option maxRecDepth 20000 in
theorem gX7_wouldTake_X7_isPlace : GoodIn wsX7_wouldTake (wsV RX7 39 RX7 yX7_isPlace wsX7_isPlace) := goodIn_app (goodIn_of _ (by decide +kernel)) ggX7_wouldTake_X7_isPlace
set_option maxRecDepth 20000 in
theorem ggX7_wouldTake_X7_in : GoodIn wsX7_wouldTake wsX7_in := goodIn_r _ [10] (by decide +kernel) (by decide +kernel)
set_option maxRecDepth 20000 in
theorem gX7_wouldTake_X7_in : GoodIn wsX7_wouldTake (va_wsS RX7 35 yX7_in wsX7_in) := goodIn_app (goodIn_of _ (by decide +kernel)) ggX7_wouldTake_X7_in
set_option maxRecDepth 20000 in
theorem ggX7_wouldTake_X7_lays : GoodIn wsX7_wouldTake wsX7_lays := goodIn_r _ [14, 15, 7, 60, 61, 62, 63, 64, 65, 66, 67, 68, 69, 70, 71] (by decide +kernel) (by decide +kernel)
set_option maxRecDepth 20000 in
theorem gX7_wouldTake_X7_lays : GoodIn wsX7_wouldTake (wsV RX7 123 RX7 yX7_lays wsX7_lays) := goodIn_app (goodIn_of _ (by decide +kernel)) ggX7_wouldTake_X7_lays
set_option maxRecDepth 20000 in
theorem ggX7_wouldTake_X7_takes : GoodIn wsX7_wouldTake wsX7_takes := goodIn_r _ [19, 1, 7, 2, 3, 4, 5, 6, 8, 9, 10, 20, 21, 22, 23, 24, 25, 26, 27, 60, 61, 62, 63, 64, 65, 66, 67, 68, 69, 70, 71] (by decide +kernel) (by decide +kernel)
set_option maxRecDepth 20000 in
theorem gX7_wouldTake_X7_takes : GoodIn wsX7_wouldTake (wsV RX7 67 RX7 yX7_takes wsX7_takes) := goodIn_app (goodIn_of _ (by decide +kernel)) ggX7_wouldTake_X7_takes
set_option maxRecDepth 20000 in
theorem ggX7_wouldTake_X7_those : GoodIn wsX7_wouldTake wsX7_those := goodIn_r _ [31, 7, 32, 33, 34, 5, 35, 36, 37, 38, 39, 24, 25, 26, 27, 40, 41, 42, 43, 44, 45, 46, 47, 48, 49, 50, 51, 2, 3, 4, 6, 8, 9, 10, 52, 53, 54, 55, 60, 61, 62, 63, 64, 65, 66, 67, 68, 69, 70, 71] (by decide +kernel) (by decide +kernel)
set_option maxRecDepth 20000 in
theorem gX7_wouldTake_X7_those : GoodIn wsX7_wouldTake (wsV RX7 111 RX7 yX7_those wsX7_those) := goodIn_app (goodIn_of _ (by decide +kernel)) ggX7_wouldTake_X7_those
set_option maxRecDepth 20000 in
theorem ggX7_wouldTake_X7_restores : GoodIn wsX7_wouldTake wsX7_restores := goodIn_r _ [59, 7, 15, 60, 61, 62, 63, 64, 65, 66, 67, 68, 69, 70, 71] (by decide +kernel) (by decide +kernel)
set_option maxRecDepth 20000 in
theorem gX7_wouldTake_X7_restores : GoodIn wsX7_wouldTake (wsV RX7 126 RX7 yX7_restores wsX7_restores) := goodIn_app (goodIn_of _ (by decide +kernel)) ggX7_wouldTake_X7_restores
theorem dX7_wouldTake_0 : decode cX7_wouldTake 0 = .ok (.aload_n 0, 1) := by decide +kernel
theorem dX7_wouldTake_1 : decode cX7_wouldTake 1 = .ok (.iload_n 1, 1) := by decide +kernel
theorem dX7_wouldTake_2 : decode cX7_wouldTake 2 = .ok (.invokevirtual 39, 3) := by decide +kernel
theorem dX7_wouldTake_5 : decode cX7_wouldTake 5 = .ok (.ifCond .eq 12, 3) := by decide +kernel
theorem dX7_wouldTake_8 : decode cX7_wouldTake 8 = .ok (.iload_n 2, 1) := by decide +kernel
theorem dX7_wouldTake_9 : decode cX7_wouldTake 9 = .ok (.iconst 0, 1) := by decide +kernel
theorem dX7_wouldTake_10 : decode cX7_wouldTake 10 = .ok (.iconst 1, 1) := by decide +kernel
theorem dX7_wouldTake_11 : decode cX7_wouldTake 11 = .ok (.invokestatic 35, 3) := by decide +kernel
theorem dX7_wouldTake_14 : decode cX7_wouldTake 14 = .ok (.ifCond .ne 6, 3) := by decide +kernel
theorem dX7_wouldTake_17 : decode cX7_wouldTake 17 = .ok (.ldc 43, 2) := by decide +kernel
theorem dX7_wouldTake_19 : decode cX7_wouldTake 19 = .ok (.ireturn, 1) := by decide +kernel
theorem dX7_wouldTake_20 : decode cX7_wouldTake 20 = .ok (.aload_n 0, 1) := by decide +kernel
theorem dX7_wouldTake_21 : decode cX7_wouldTake 21 = .ok (.invokevirtual 123, 3) := by decide +kernel
theorem dX7_wouldTake_24 : decode cX7_wouldTake 24 = .ok (.aload_n 0, 1) := by decide +kernel
theorem dX7_wouldTake_25 : decode cX7_wouldTake 25 = .ok (.iload_n 1, 1) := by decide +kernel
theorem dX7_wouldTake_26 : decode cX7_wouldTake 26 = .ok (.invokevirtual 67, 3) := by decide +kernel
theorem dX7_wouldTake_29 : decode cX7_wouldTake 29 = .ok (.pop, 1) := by decide +kernel
theorem dX7_wouldTake_30 : decode cX7_wouldTake 30 = .ok (.aload_n 0, 1) := by decide +kernel
theorem dX7_wouldTake_31 : decode cX7_wouldTake 31 = .ok (.iload_n 2, 1) := by decide +kernel
theorem dX7_wouldTake_32 : decode cX7_wouldTake 32 = .ok (.ifCond .ne 7, 3) := by decide +kernel
theorem dX7_wouldTake_35 : decode cX7_wouldTake 35 = .ok (.iconst 2, 1) := by decide +kernel
theorem dX7_wouldTake_36 : decode cX7_wouldTake 36 = .ok (.goto 4, 3) := by decide +kernel
theorem dX7_wouldTake_39 : decode cX7_wouldTake 39 = .ok (.iconst 3, 1) := by decide +kernel
theorem dX7_wouldTake_40 : decode cX7_wouldTake 40 = .ok (.invokevirtual 111, 3) := by decide +kernel
theorem dX7_wouldTake_43 : decode cX7_wouldTake 43 = .ok (.istore_n 3, 1) := by decide +kernel
theorem dX7_wouldTake_44 : decode cX7_wouldTake 44 = .ok (.aload_n 0, 1) := by decide +kernel
theorem dX7_wouldTake_45 : decode cX7_wouldTake 45 = .ok (.invokevirtual 126, 3) := by decide +kernel
theorem dX7_wouldTake_48 : decode cX7_wouldTake 48 = .ok (.iload_n 3, 1) := by decide +kernel
theorem dX7_wouldTake_49 : decode cX7_wouldTake 49 = .ok (.ireturn, 1) := by decide +kernel
set_option maxRecDepth 20000 in
theorem ggX7_safest_X7_in : GoodIn wsX7_safest wsX7_in := goodIn_r _ [7] (by decide +kernel) (by decide +kernel)
set_option maxRecDepth 20000 in
theorem gX7_safest_X7_in : GoodIn wsX7_safest (va_wsS RX7 35 yX7_in wsX7_in) := goodIn_app (goodIn_of _ (by decide +kernel)) ggX7_safest_X7_in
set_option maxRecDepth 20000 in
theorem ggX7_safest_X7_wouldTake : GoodIn wsX7_safest wsX7_wouldTake := goodIn_r _ [11, 1, 12, 13, 14, 6, 15, 3, 4, 5, 7, 16, 17, 18, 19, 20, 21, 22, 23, 24, 25, 26, 27, 28, 29, 30, 31, 32, 33, 34, 35, 36, 37, 38, 39, 40, 41, 42, 43, 44, 45, 46, 47, 48, 49, 50, 51, 52, 53, 54, 55, 56, 57, 58, 59, 60, 61, 62, 63, 64, 68, 69, 70, 71, 72, 73, 74, 75, 76, 77, 78, 79] (by decide +kernel) (by decide +kernel)
set_option maxRecDepth 20000 in
theorem gX7_safest_X7_wouldTake : GoodIn wsX7_safest (wsV RX7 129 RX7 yX7_wouldTake wsX7_wouldTake) := goodIn_app (goodIn_of _ (by decide +kernel)) ggX7_safest_X7_wouldTake
set_option maxRecDepth 20000 in
theorem ggX7_safest_X7_ones : GoodIn wsX7_safest wsX7_ones := goodIn_r _ [67] (by decide +kernel) (by decide +kernel)
set_option maxRecDepth 20000 in
theorem gX7_safest_X7_ones : GoodIn wsX7_safest (va_wsS RX7 120 yX7_ones wsX7_ones) := goodIn_app (goodIn_of _ (by decide +kernel)) ggX7_safest_X7_ones
theorem dX7_safest_0 : decode cX7_safest 0 = .ok (.iload_n 1, 1) := by decide +kernel
theorem dX7_safest_1 : decode cX7_safest 1 = .ok (.iconst 0, 1) := by decide +kernel
theorem dX7_safest_2 : decode cX7_safest 2 = .ok (.iconst 1, 1) := by decide +kernel
theorem dX7_safest_3 : decode cX7_safest 3 = .ok (.invokestatic 35, 3) := by decide +kernel
theorem dX7_safest_6 : decode cX7_safest 6 = .ok (.ifCond .ne 6, 3) := by decide +kernel
theorem dX7_safest_9 : decode cX7_safest 9 = .ok (.ldc 43, 2) := by decide +kernel
theorem dX7_safest_11 : decode cX7_safest 11 = .ok (.ireturn, 1) := by decide +kernel
theorem dX7_safest_12 : decode cX7_safest 12 = .ok (.ldc 100, 2) := by decide +kernel
theorem dX7_safest_14 : decode cX7_safest 14 = .ok (.istore_n 2, 1) := by decide +kernel
theorem dX7_safest_15 : decode cX7_safest 15 = .ok (.bipush 7, 2) := by decide +kernel
theorem dX7_safest_17 : decode cX7_safest 17 = .ok (.istore_n 3, 1) := by decide +kernel
theorem dX7_safest_18 : decode cX7_safest 18 = .ok (.iconst 0, 1) := by decide +kernel
theorem dX7_safest_19 : decode cX7_safest 19 = .ok (.istore 4, 2) := by decide +kernel
theorem dX7_safest_21 : decode cX7_safest 21 = .ok (.iload 4, 2) := by decide +kernel
theorem dX7_safest_23 : decode cX7_safest 23 = .ok (.aload_n 0, 1) := by decide +kernel
theorem dX7_safest_24 : decode cX7_safest 24 = .ok (.getfield 7, 3) := by decide +kernel
theorem dX7_safest_27 : decode cX7_safest 27 = .ok (.iconst 0, 1) := by decide +kernel
theorem dX7_safest_28 : decode cX7_safest 28 = .ok (.iaload, 1) := by decide +kernel
theorem dX7_safest_29 : decode cX7_safest 29 = .ok (.if_icmp .ge 47, 3) := by decide +kernel
theorem dX7_safest_32 : decode cX7_safest 32 = .ok (.aload_n 0, 1) := by decide +kernel
theorem dX7_safest_33 : decode cX7_safest 33 = .ok (.iload 4, 2) := by decide +kernel
theorem dX7_safest_35 : decode cX7_safest 35 = .ok (.iconst 0, 1) := by decide +kernel
theorem dX7_safest_36 : decode cX7_safest 36 = .ok (.invokevirtual 129, 3) := by decide +kernel
theorem dX7_safest_39 : decode cX7_safest 39 = .ok (.invokestatic 120, 3) := by decide +kernel
theorem dX7_safest_42 : decode cX7_safest 42 = .ok (.istore 5, 2) := by decide +kernel
theorem dX7_safest_44 : decode cX7_safest 44 = .ok (.iload 5, 2) := by decide +kernel
theorem dX7_safest_46 : decode cX7_safest 46 = .ok (.iload_n 3, 1) := by decide +kernel
theorem dX7_safest_47 : decode cX7_safest 47 = .ok (.if_icmp .ge 8, 3) := by decide +kernel
theorem dX7_safest_50 : decode cX7_safest 50 = .ok (.iload 4, 2) := by decide +kernel
theorem dX7_safest_52 : decode cX7_safest 52 = .ok (.goto 4, 3) := by decide +kernel
theorem dX7_safest_55 : decode cX7_safest 55 = .ok (.iload_n 2, 1) := by decide +kernel
theorem dX7_safest_56 : decode cX7_safest 56 = .ok (.istore_n 2, 1) := by decide +kernel
theorem dX7_safest_57 : decode cX7_safest 57 = .ok (.iload 5, 2) := by decide +kernel
theorem dX7_safest_59 : decode cX7_safest 59 = .ok (.iload_n 3, 1) := by decide +kernel
theorem dX7_safest_60 : decode cX7_safest 60 = .ok (.if_icmp .ge 8, 3) := by decide +kernel
theorem dX7_safest_63 : decode cX7_safest 63 = .ok (.iload 5, 2) := by decide +kernel
theorem dX7_safest_65 : decode cX7_safest 65 = .ok (.goto 4, 3) := by decide +kernel
theorem dX7_safest_68 : decode cX7_safest 68 = .ok (.iload_n 3, 1) := by decide +kernel
theorem dX7_safest_69 : decode cX7_safest 69 = .ok (.istore_n 3, 1) := by decide +kernel
theorem dX7_safest_70 : decode cX7_safest 70 = .ok (.iinc 4 1, 3) := by decide +kernel
theorem dX7_safest_73 : decode cX7_safest 73 = .ok (.goto (-52), 3) := by decide +kernel
theorem dX7_safest_76 : decode cX7_safest 76 = .ok (.iload_n 1, 1) := by decide +kernel
theorem dX7_safest_77 : decode cX7_safest 77 = .ok (.ifCond .eq 7, 3) := by decide +kernel
theorem dX7_safest_80 : decode cX7_safest 80 = .ok (.iload_n 2, 1) := by decide +kernel
theorem dX7_safest_81 : decode cX7_safest 81 = .ok (.ifCond .ge 7, 3) := by decide +kernel
theorem dX7_safest_84 : decode cX7_safest 84 = .ok (.iload_n 2, 1) := by decide +kernel
theorem dX7_safest_85 : decode cX7_safest 85 = .ok (.goto 4, 3) := by decide +kernel
theorem dX7_safest_88 : decode cX7_safest 88 = .ok (.iload_n 3, 1) := by decide +kernel
theorem dX7_safest_89 : decode cX7_safest 89 = .ok (.ireturn, 1) := by decide +kernel
set_option maxRecDepth 20000 in
theorem ggX7_likeness_X7_word : GoodIn wsX7_likeness wsX7_word := goodIn_r _ [6, 1, 7, 8, 9, 5, 10, 11, 12, 13, 14, 15, 16, 17, 18, 19, 20, 21, 22, 23, 24, 25] (by decide +kernel) (by decide +kernel)
set_option maxRecDepth 20000 in
theorem gX7_likeness_X7_word : GoodIn wsX7_likeness (wsV RX7 81 RX7 yX7_word wsX7_word) := goodIn_app (goodIn_of _ (by decide +kernel)) ggX7_likeness_X7_word
theorem dX7_likeness_0 : decode cX7_likeness 0 = .ok (.iconst 0, 1) := by decide +kernel
theorem dX7_likeness_1 : decode cX7_likeness 1 = .ok (.istore_n 3, 1) := by decide +kernel
theorem dX7_likeness_2 : decode cX7_likeness 2 = .ok (.bipush (-2), 2) := by decide +kernel
theorem dX7_likeness_4 : decode cX7_likeness 4 = .ok (.istore 4, 2) := by decide +kernel
theorem dX7_likeness_6 : decode cX7_likeness 6 = .ok (.iload 4, 2) := by decide +kernel
theorem dX7_likeness_8 : decode cX7_likeness 8 = .ok (.iconst 2, 1) := by decide +kernel
theorem dX7_likeness_9 : decode cX7_likeness 9 = .ok (.if_icmp .gt 55, 3) := by decide +kernel
theorem dX7_likeness_12 : decode cX7_likeness 12 = .ok (.iload_n 3, 1) := by decide +kernel
theorem dX7_likeness_13 : decode cX7_likeness 13 = .ok (.aload_n 0, 1) := by decide +kernel
theorem dX7_likeness_14 : decode cX7_likeness 14 = .ok (.iload_n 1, 1) := by decide +kernel
theorem dX7_likeness_15 : decode cX7_likeness 15 = .ok (.iload 4, 2) := by decide +kernel
theorem dX7_likeness_17 : decode cX7_likeness 17 = .ok (.iadd, 1) := by decide +kernel
theorem dX7_likeness_18 : decode cX7_likeness 18 = .ok (.invokevirtual 81, 3) := by decide +kernel
theorem dX7_likeness_21 : decode cX7_likeness 21 = .ok (.aload_n 0, 1) := by decide +kernel
theorem dX7_likeness_22 : decode cX7_likeness 22 = .ok (.iload_n 2, 1) := by decide +kernel
theorem dX7_likeness_23 : decode cX7_likeness 23 = .ok (.iload 4, 2) := by decide +kernel
theorem dX7_likeness_25 : decode cX7_likeness 25 = .ok (.iadd, 1) := by decide +kernel
theorem dX7_likeness_26 : decode cX7_likeness 26 = .ok (.invokevirtual 81, 3) := by decide +kernel
theorem dX7_likeness_29 : decode cX7_likeness 29 = .ok (.if_icmp .ne 26, 3) := by decide +kernel
theorem dX7_likeness_32 : decode cX7_likeness 32 = .ok (.aload_n 0, 1) := by decide +kernel
theorem dX7_likeness_33 : decode cX7_likeness 33 = .ok (.getfield 7, 3) := by decide +kernel
theorem dX7_likeness_36 : decode cX7_likeness 36 = .ok (.iconst 3, 1) := by decide +kernel
theorem dX7_likeness_37 : decode cX7_likeness 37 = .ok (.iload 4, 2) := by decide +kernel
theorem dX7_likeness_39 : decode cX7_likeness 39 = .ok (.ifCond .ge 9, 3) := by decide +kernel
theorem dX7_likeness_42 : decode cX7_likeness 42 = .ok (.iload 4, 2) := by decide +kernel
theorem dX7_likeness_44 : decode cX7_likeness 44 = .ok (.ineg, 1) := by decide +kernel
theorem dX7_likeness_45 : decode cX7_likeness 45 = .ok (.goto 5, 3) := by decide +kernel
theorem dX7_likeness_48 : decode cX7_likeness 48 = .ok (.iload 4, 2) := by decide +kernel
theorem dX7_likeness_50 : decode cX7_likeness 50 = .ok (.iadd, 1) := by decide +kernel
theorem dX7_likeness_51 : decode cX7_likeness 51 = .ok (.iaload, 1) := by decide +kernel
theorem dX7_likeness_52 : decode cX7_likeness 52 = .ok (.goto 4, 3) := by decide +kernel
theorem dX7_likeness_55 : decode cX7_likeness 55 = .ok (.iconst 0, 1) := by decide +kernel
theorem dX7_likeness_56 : decode cX7_likeness 56 = .ok (.iadd, 1) := by decide +kernel
theorem dX7_likeness_57 : decode cX7_likeness 57 = .ok (.istore_n 3, 1) := by decide +kernel
theorem dX7_likeness_58 : decode cX7_likeness 58 = .ok (.iinc 4 1, 3) := by decide +kernel
theorem dX7_likeness_61 : decode cX7_likeness 61 = .ok (.goto (-55), 3) := by decide +kernel
theorem dX7_likeness_64 : decode cX7_likeness 64 = .ok (.iload_n 3, 1) := by decide +kernel
theorem dX7_likeness_65 : decode cX7_likeness 65 = .ok (.ireturn, 1) := by decide +kernel
set_option maxRecDepth 20000 in
theorem ggX7_clearest_X7_in : GoodIn wsX7_clearest wsX7_in := goodIn_r _ [7] (by decide +kernel) (by decide +kernel)
set_option maxRecDepth 20000 in
theorem gX7_clearest_X7_in : GoodIn wsX7_clearest (va_wsS RX7 35 yX7_in wsX7_in) := goodIn_app (goodIn_of _ (by decide +kernel)) ggX7_clearest_X7_in
set_option maxRecDepth 20000 in
theorem ggX7_clearest_X7_likeness : GoodIn wsX7_clearest wsX7_likeness := goodIn_r _ [11, 3, 12, 13, 14, 6, 15, 16, 17, 18, 19, 4, 5, 7, 20, 21, 22, 23, 24, 25, 26, 27, 28, 29, 30, 31] (by decide +kernel) (by decide +kernel)
set_option maxRecDepth 20000 in
theorem gX7_clearest_X7_likeness : GoodIn wsX7_clearest (wsV RX7 132 RX7 yX7_likeness wsX7_likeness) := goodIn_app (goodIn_of _ (by decide +kernel)) ggX7_clearest_X7_likeness
theorem dX7_clearest_0 : decode cX7_clearest 0 = .ok (.iload_n 1, 1) := by decide +kernel
theorem dX7_clearest_1 : decode cX7_clearest 1 = .ok (.iconst 0, 1) := by decide +kernel
theorem dX7_clearest_2 : decode cX7_clearest 2 = .ok (.iconst 1, 1) := by decide +kernel
theorem dX7_clearest_3 : decode cX7_clearest 3 = .ok (.invokestatic 35, 3) := by decide +kernel
theorem dX7_clearest_6 : decode cX7_clearest 6 = .ok (.ifCond .ne 6, 3) := by decide +kernel
theorem dX7_clearest_9 : decode cX7_clearest 9 = .ok (.ldc 43, 2) := by decide +kernel
theorem dX7_clearest_11 : decode cX7_clearest 11 = .ok (.ireturn, 1) := by decide +kernel
theorem dX7_clearest_12 : decode cX7_clearest 12 = .ok (.ldc 100, 2) := by decide +kernel
theorem dX7_clearest_14 : decode cX7_clearest 14 = .ok (.istore_n 2, 1) := by decide +kernel
theorem dX7_clearest_15 : decode cX7_clearest 15 = .ok (.iconst (-1), 1) := by decide +kernel
theorem dX7_clearest_16 : decode cX7_clearest 16 = .ok (.istore_n 3, 1) := by decide +kernel
theorem dX7_clearest_17 : decode cX7_clearest 17 = .ok (.iconst 0, 1) := by decide +kernel
theorem dX7_clearest_18 : decode cX7_clearest 18 = .ok (.istore 4, 2) := by decide +kernel
theorem dX7_clearest_20 : decode cX7_clearest 20 = .ok (.iload 4, 2) := by decide +kernel
theorem dX7_clearest_22 : decode cX7_clearest 22 = .ok (.aload_n 0, 1) := by decide +kernel
theorem dX7_clearest_23 : decode cX7_clearest 23 = .ok (.getfield 7, 3) := by decide +kernel
theorem dX7_clearest_26 : decode cX7_clearest 26 = .ok (.iconst 0, 1) := by decide +kernel
theorem dX7_clearest_27 : decode cX7_clearest 27 = .ok (.iaload, 1) := by decide +kernel
theorem dX7_clearest_28 : decode cX7_clearest 28 = .ok (.if_icmp .ge 108, 3) := by decide +kernel
theorem dX7_clearest_31 : decode cX7_clearest 31 = .ok (.iconst 0, 1) := by decide +kernel
theorem dX7_clearest_32 : decode cX7_clearest 32 = .ok (.istore 5, 2) := by decide +kernel
theorem dX7_clearest_34 : decode cX7_clearest 34 = .ok (.iconst 0, 1) := by decide +kernel
theorem dX7_clearest_35 : decode cX7_clearest 35 = .ok (.istore 6, 2) := by decide +kernel
theorem dX7_clearest_37 : decode cX7_clearest 37 = .ok (.iload 6, 2) := by decide +kernel
theorem dX7_clearest_39 : decode cX7_clearest 39 = .ok (.aload_n 0, 1) := by decide +kernel
theorem dX7_clearest_40 : decode cX7_clearest 40 = .ok (.getfield 7, 3) := by decide +kernel
theorem dX7_clearest_43 : decode cX7_clearest 43 = .ok (.iconst 0, 1) := by decide +kernel
theorem dX7_clearest_44 : decode cX7_clearest 44 = .ok (.iaload, 1) := by decide +kernel
theorem dX7_clearest_45 : decode cX7_clearest 45 = .ok (.if_icmp .ge 46, 3) := by decide +kernel
theorem dX7_clearest_48 : decode cX7_clearest 48 = .ok (.iload 6, 2) := by decide +kernel
theorem dX7_clearest_50 : decode cX7_clearest 50 = .ok (.iload 4, 2) := by decide +kernel
theorem dX7_clearest_52 : decode cX7_clearest 52 = .ok (.if_icmp .ne 7, 3) := by decide +kernel
theorem dX7_clearest_55 : decode cX7_clearest 55 = .ok (.iconst 0, 1) := by decide +kernel
theorem dX7_clearest_56 : decode cX7_clearest 56 = .ok (.goto 11, 3) := by decide +kernel
theorem dX7_clearest_59 : decode cX7_clearest 59 = .ok (.aload_n 0, 1) := by decide +kernel
theorem dX7_clearest_60 : decode cX7_clearest 60 = .ok (.iload 4, 2) := by decide +kernel
theorem dX7_clearest_62 : decode cX7_clearest 62 = .ok (.iload 6, 2) := by decide +kernel
theorem dX7_clearest_64 : decode cX7_clearest 64 = .ok (.invokevirtual 132, 3) := by decide +kernel
theorem dX7_clearest_67 : decode cX7_clearest 67 = .ok (.istore 7, 2) := by decide +kernel
theorem dX7_clearest_69 : decode cX7_clearest 69 = .ok (.iload 7, 2) := by decide +kernel
theorem dX7_clearest_71 : decode cX7_clearest 71 = .ok (.iload 5, 2) := by decide +kernel
theorem dX7_clearest_73 : decode cX7_clearest 73 = .ok (.if_icmp .le 8, 3) := by decide +kernel
theorem dX7_clearest_76 : decode cX7_clearest 76 = .ok (.iload 7, 2) := by decide +kernel
theorem dX7_clearest_78 : decode cX7_clearest 78 = .ok (.goto 5, 3) := by decide +kernel
theorem dX7_clearest_81 : decode cX7_clearest 81 = .ok (.iload 5, 2) := by decide +kernel
theorem dX7_clearest_83 : decode cX7_clearest 83 = .ok (.istore 5, 2) := by decide +kernel
theorem dX7_clearest_85 : decode cX7_clearest 85 = .ok (.iinc 6 1, 3) := by decide +kernel
theorem dX7_clearest_88 : decode cX7_clearest 88 = .ok (.goto (-51), 3) := by decide +kernel
theorem dX7_clearest_91 : decode cX7_clearest 91 = .ok (.aload_n 0, 1) := by decide +kernel
theorem dX7_clearest_92 : decode cX7_clearest 92 = .ok (.iload 4, 2) := by decide +kernel
theorem dX7_clearest_94 : decode cX7_clearest 94 = .ok (.iload 4, 2) := by decide +kernel
theorem dX7_clearest_96 : decode cX7_clearest 96 = .ok (.invokevirtual 132, 3) := by decide +kernel
theorem dX7_clearest_99 : decode cX7_clearest 99 = .ok (.iload 5, 2) := by decide +kernel
theorem dX7_clearest_101 : decode cX7_clearest 101 = .ok (.isub, 1) := by decide +kernel
theorem dX7_clearest_102 : decode cX7_clearest 102 = .ok (.istore 6, 2) := by decide +kernel
theorem dX7_clearest_104 : decode cX7_clearest 104 = .ok (.iload 6, 2) := by decide +kernel
theorem dX7_clearest_106 : decode cX7_clearest 106 = .ok (.iload_n 3, 1) := by decide +kernel
theorem dX7_clearest_107 : decode cX7_clearest 107 = .ok (.if_icmp .le 8, 3) := by decide +kernel
theorem dX7_clearest_110 : decode cX7_clearest 110 = .ok (.iload 4, 2) := by decide +kernel
theorem dX7_clearest_112 : decode cX7_clearest 112 = .ok (.goto 4, 3) := by decide +kernel
theorem dX7_clearest_115 : decode cX7_clearest 115 = .ok (.iload_n 2, 1) := by decide +kernel
theorem dX7_clearest_116 : decode cX7_clearest 116 = .ok (.istore_n 2, 1) := by decide +kernel
theorem dX7_clearest_117 : decode cX7_clearest 117 = .ok (.iload 6, 2) := by decide +kernel
theorem dX7_clearest_119 : decode cX7_clearest 119 = .ok (.iload_n 3, 1) := by decide +kernel
theorem dX7_clearest_120 : decode cX7_clearest 120 = .ok (.if_icmp .le 8, 3) := by decide +kernel
theorem dX7_clearest_123 : decode cX7_clearest 123 = .ok (.iload 6, 2) := by decide +kernel
theorem dX7_clearest_125 : decode cX7_clearest 125 = .ok (.goto 4, 3) := by decide +kernel
theorem dX7_clearest_128 : decode cX7_clearest 128 = .ok (.iload_n 3, 1) := by decide +kernel
theorem dX7_clearest_129 : decode cX7_clearest 129 = .ok (.istore_n 3, 1) := by decide +kernel
theorem dX7_clearest_130 : decode cX7_clearest 130 = .ok (.iinc 4 1, 3) := by decide +kernel
theorem dX7_clearest_133 : decode cX7_clearest 133 = .ok (.goto (-113), 3) := by decide +kernel
theorem dX7_clearest_136 : decode cX7_clearest 136 = .ok (.iload_n 1, 1) := by decide +kernel
theorem dX7_clearest_137 : decode cX7_clearest 137 = .ok (.ifCond .eq 7, 3) := by decide +kernel
theorem dX7_clearest_140 : decode cX7_clearest 140 = .ok (.iload_n 2, 1) := by decide +kernel
theorem dX7_clearest_141 : decode cX7_clearest 141 = .ok (.ifCond .ge 7, 3) := by decide +kernel
theorem dX7_clearest_144 : decode cX7_clearest 144 = .ok (.iload_n 2, 1) := by decide +kernel
theorem dX7_clearest_145 : decode cX7_clearest 145 = .ok (.goto 4, 3) := by decide +kernel
theorem dX7_clearest_148 : decode cX7_clearest 148 = .ok (.iload_n 3, 1) := by decide +kernel
theorem dX7_clearest_149 : decode cX7_clearest 149 = .ok (.ireturn, 1) := by decide +kernel
theorem dX7_unlike_0 : decode cX7_unlike 0 = .ok (.iconst 0, 1) := by decide +kernel
theorem dX7_unlike_1 : decode cX7_unlike 1 = .ok (.istore_n 1, 1) := by decide +kernel
theorem dX7_unlike_2 : decode cX7_unlike 2 = .ok (.iconst 0, 1) := by decide +kernel
theorem dX7_unlike_3 : decode cX7_unlike 3 = .ok (.istore_n 2, 1) := by decide +kernel
theorem dX7_unlike_4 : decode cX7_unlike 4 = .ok (.iload_n 2, 1) := by decide +kernel
theorem dX7_unlike_5 : decode cX7_unlike 5 = .ok (.aload_n 0, 1) := by decide +kernel
theorem dX7_unlike_6 : decode cX7_unlike 6 = .ok (.getfield 7, 3) := by decide +kernel
theorem dX7_unlike_9 : decode cX7_unlike 9 = .ok (.iconst 0, 1) := by decide +kernel
theorem dX7_unlike_10 : decode cX7_unlike 10 = .ok (.iaload, 1) := by decide +kernel
theorem dX7_unlike_11 : decode cX7_unlike 11 = .ok (.if_icmp .ge 70, 3) := by decide +kernel
theorem dX7_unlike_14 : decode cX7_unlike 14 = .ok (.iconst 1, 1) := by decide +kernel
theorem dX7_unlike_15 : decode cX7_unlike 15 = .ok (.istore_n 3, 1) := by decide +kernel
theorem dX7_unlike_16 : decode cX7_unlike 16 = .ok (.iconst 0, 1) := by decide +kernel
theorem dX7_unlike_17 : decode cX7_unlike 17 = .ok (.istore 4, 2) := by decide +kernel
theorem dX7_unlike_19 : decode cX7_unlike 19 = .ok (.iload 4, 2) := by decide +kernel
theorem dX7_unlike_21 : decode cX7_unlike 21 = .ok (.iload_n 2, 1) := by decide +kernel
theorem dX7_unlike_22 : decode cX7_unlike 22 = .ok (.if_icmp .ge 41, 3) := by decide +kernel
theorem dX7_unlike_25 : decode cX7_unlike 25 = .ok (.iload_n 3, 1) := by decide +kernel
theorem dX7_unlike_26 : decode cX7_unlike 26 = .ok (.ifCond .eq 29, 3) := by decide +kernel
theorem dX7_unlike_29 : decode cX7_unlike 29 = .ok (.aload_n 0, 1) := by decide +kernel
theorem dX7_unlike_30 : decode cX7_unlike 30 = .ok (.getfield 7, 3) := by decide +kernel
theorem dX7_unlike_33 : decode cX7_unlike 33 = .ok (.bipush 8, 2) := by decide +kernel
theorem dX7_unlike_35 : decode cX7_unlike 35 = .ok (.iload 4, 2) := by decide +kernel
theorem dX7_unlike_37 : decode cX7_unlike 37 = .ok (.iadd, 1) := by decide +kernel
theorem dX7_unlike_38 : decode cX7_unlike 38 = .ok (.iaload, 1) := by decide +kernel
theorem dX7_unlike_39 : decode cX7_unlike 39 = .ok (.aload_n 0, 1) := by decide +kernel
theorem dX7_unlike_40 : decode cX7_unlike 40 = .ok (.getfield 7, 3) := by decide +kernel
theorem dX7_unlike_43 : decode cX7_unlike 43 = .ok (.bipush 8, 2) := by decide +kernel
theorem dX7_unlike_45 : decode cX7_unlike 45 = .ok (.iload_n 2, 1) := by decide +kernel
theorem dX7_unlike_46 : decode cX7_unlike 46 = .ok (.iadd, 1) := by decide +kernel
theorem dX7_unlike_47 : decode cX7_unlike 47 = .ok (.iaload, 1) := by decide +kernel
theorem dX7_unlike_48 : decode cX7_unlike 48 = .ok (.if_icmp .eq 7, 3) := by decide +kernel
theorem dX7_unlike_51 : decode cX7_unlike 51 = .ok (.iconst 1, 1) := by decide +kernel
theorem dX7_unlike_52 : decode cX7_unlike 52 = .ok (.goto 4, 3) := by decide +kernel
theorem dX7_unlike_55 : decode cX7_unlike 55 = .ok (.iconst 0, 1) := by decide +kernel
theorem dX7_unlike_56 : decode cX7_unlike 56 = .ok (.istore_n 3, 1) := by decide +kernel
theorem dX7_unlike_57 : decode cX7_unlike 57 = .ok (.iinc 4 1, 3) := by decide +kernel
theorem dX7_unlike_60 : decode cX7_unlike 60 = .ok (.goto (-41), 3) := by decide +kernel
theorem dX7_unlike_63 : decode cX7_unlike 63 = .ok (.iload_n 1, 1) := by decide +kernel
theorem dX7_unlike_64 : decode cX7_unlike 64 = .ok (.iload_n 3, 1) := by decide +kernel
theorem dX7_unlike_65 : decode cX7_unlike 65 = .ok (.ifCond .eq 7, 3) := by decide +kernel
theorem dX7_unlike_68 : decode cX7_unlike 68 = .ok (.iconst 1, 1) := by decide +kernel
theorem dX7_unlike_69 : decode cX7_unlike 69 = .ok (.goto 4, 3) := by decide +kernel
theorem dX7_unlike_72 : decode cX7_unlike 72 = .ok (.iconst 0, 1) := by decide +kernel
theorem dX7_unlike_73 : decode cX7_unlike 73 = .ok (.iadd, 1) := by decide +kernel
theorem dX7_unlike_74 : decode cX7_unlike 74 = .ok (.istore_n 1, 1) := by decide +kernel
theorem dX7_unlike_75 : decode cX7_unlike 75 = .ok (.iinc 2 1, 3) := by decide +kernel
theorem dX7_unlike_78 : decode cX7_unlike 78 = .ok (.goto (-74), 3) := by decide +kernel
theorem dX7_unlike_81 : decode cX7_unlike 81 = .ok (.iload_n 1, 1) := by decide +kernel
theorem dX7_unlike_82 : decode cX7_unlike 82 = .ok (.ireturn, 1) := by decide +kernel
set_option maxRecDepth 20000 in
theorem ggX7_count_X7_unlike : GoodIn wsX7_count wsX7_unlike := goodIn_r _ [9, 1, 13, 14, 15, 16, 17, 18, 19, 20, 21, 22, 23, 24] (by decide +kernel) (by decide +kernel)
set_option maxRecDepth 20000 in
theorem gX7_count_X7_unlike : GoodIn wsX7_count (wsV RX7 135 RX7 yX7_unlike wsX7_unlike) := goodIn_app (goodIn_of _ (by decide +kernel)) ggX7_count_X7_unlike
set_option maxRecDepth 20000 in
theorem ggX7_count_X7_in : GoodIn wsX7_count wsX7_in := goodIn_r _ [12] (by decide +kernel) (by decide +kernel)
set_option maxRecDepth 20000 in
theorem gX7_count_X7_in : GoodIn wsX7_count (va_wsS RX7 35 yX7_in wsX7_in) := goodIn_app (goodIn_of _ (by decide +kernel)) ggX7_count_X7_in
theorem dX7_count_0 : decode cX7_count 0 = .ok (.iload_n 1, 1) := by decide +kernel
theorem dX7_count_1 : decode cX7_count 1 = .ok (.tableswitch 68 0 5 #[39, 39, 46, 51, 58, 63], 39) := by decide +kernel
theorem dX7_count_40 : decode cX7_count 40 = .ok (.aload_n 0, 1) := by decide +kernel
theorem dX7_count_41 : decode cX7_count 41 = .ok (.getfield 7, 3) := by decide +kernel
theorem dX7_count_44 : decode cX7_count 44 = .ok (.iload_n 1, 1) := by decide +kernel
theorem dX7_count_45 : decode cX7_count 45 = .ok (.iaload, 1) := by decide +kernel
theorem dX7_count_46 : decode cX7_count 46 = .ok (.ireturn, 1) := by decide +kernel
theorem dX7_count_47 : decode cX7_count 47 = .ok (.aload_n 0, 1) := by decide +kernel
theorem dX7_count_48 : decode cX7_count 48 = .ok (.invokevirtual 135, 3) := by decide +kernel
theorem dX7_count_51 : decode cX7_count 51 = .ok (.ireturn, 1) := by decide +kernel
theorem dX7_count_52 : decode cX7_count 52 = .ok (.aload_n 0, 1) := by decide +kernel
theorem dX7_count_53 : decode cX7_count 53 = .ok (.getfield 7, 3) := by decide +kernel
theorem dX7_count_56 : decode cX7_count 56 = .ok (.iconst 2, 1) := by decide +kernel
theorem dX7_count_57 : decode cX7_count 57 = .ok (.iaload, 1) := by decide +kernel
theorem dX7_count_58 : decode cX7_count 58 = .ok (.ireturn, 1) := by decide +kernel
theorem dX7_count_59 : decode cX7_count 59 = .ok (.aload_n 0, 1) := by decide +kernel
theorem dX7_count_60 : decode cX7_count 60 = .ok (.getfield 44, 3) := by decide +kernel
theorem dX7_count_63 : decode cX7_count 63 = .ok (.ireturn, 1) := by decide +kernel
theorem dX7_count_64 : decode cX7_count 64 = .ok (.aload_n 0, 1) := by decide +kernel
theorem dX7_count_65 : decode cX7_count 65 = .ok (.getfield 139, 3) := by decide +kernel
theorem dX7_count_68 : decode cX7_count 68 = .ok (.ireturn, 1) := by decide +kernel
theorem dX7_count_69 : decode cX7_count 69 = .ok (.iload_n 1, 1) := by decide +kernel
theorem dX7_count_70 : decode cX7_count 70 = .ok (.bipush 20, 2) := by decide +kernel
theorem dX7_count_72 : decode cX7_count 72 = .ok (.bipush 24, 2) := by decide +kernel
theorem dX7_count_74 : decode cX7_count 74 = .ok (.invokestatic 35, 3) := by decide +kernel
theorem dX7_count_77 : decode cX7_count 77 = .ok (.ifCond .eq 17, 3) := by decide +kernel
theorem dX7_count_80 : decode cX7_count 80 = .ok (.aload_n 0, 1) := by decide +kernel
theorem dX7_count_81 : decode cX7_count 81 = .ok (.getfield 7, 3) := by decide +kernel
theorem dX7_count_84 : decode cX7_count 84 = .ok (.iconst 3, 1) := by decide +kernel
theorem dX7_count_85 : decode cX7_count 85 = .ok (.iload_n 1, 1) := by decide +kernel
theorem dX7_count_86 : decode cX7_count 86 = .ok (.iadd, 1) := by decide +kernel
theorem dX7_count_87 : decode cX7_count 87 = .ok (.bipush 20, 2) := by decide +kernel
theorem dX7_count_89 : decode cX7_count 89 = .ok (.isub, 1) := by decide +kernel
theorem dX7_count_90 : decode cX7_count 90 = .ok (.iaload, 1) := by decide +kernel
theorem dX7_count_91 : decode cX7_count 91 = .ok (.goto 5, 3) := by decide +kernel
theorem dX7_count_94 : decode cX7_count 94 = .ok (.ldc 43, 2) := by decide +kernel
theorem dX7_count_96 : decode cX7_count 96 = .ok (.ireturn, 1) := by decide +kernel
theorem dX7_undo_0 : decode cX7_undo 0 = .ok (.aload_n 0, 1) := by decide +kernel
theorem dX7_undo_1 : decode cX7_undo 1 = .ok (.getfield 44, 3) := by decide +kernel
theorem dX7_undo_4 : decode cX7_undo 4 = .ok (.ifCond .ne 6, 3) := by decide +kernel
theorem dX7_undo_7 : decode cX7_undo 7 = .ok (.ldc 99, 2) := by decide +kernel
theorem dX7_undo_9 : decode cX7_undo 9 = .ok (.ireturn, 1) := by decide +kernel
theorem dX7_undo_10 : decode cX7_undo 10 = .ok (.aload_n 0, 1) := by decide +kernel
theorem dX7_undo_11 : decode cX7_undo 11 = .ok (.dup, 1) := by decide +kernel
theorem dX7_undo_12 : decode cX7_undo 12 = .ok (.getfield 44, 3) := by decide +kernel
theorem dX7_undo_15 : decode cX7_undo 15 = .ok (.iconst 1, 1) := by decide +kernel
theorem dX7_undo_16 : decode cX7_undo 16 = .ok (.isub, 1) := by decide +kernel
theorem dX7_undo_17 : decode cX7_undo 17 = .ok (.putfield 44, 3) := by decide +kernel
theorem dX7_undo_20 : decode cX7_undo 20 = .ok (.iconst 0, 1) := by decide +kernel
theorem dX7_undo_21 : decode cX7_undo 21 = .ok (.istore_n 1, 1) := by decide +kernel
theorem dX7_undo_22 : decode cX7_undo 22 = .ok (.iload_n 1, 1) := by decide +kernel
theorem dX7_undo_23 : decode cX7_undo 23 = .ok (.bipush 90, 2) := by decide +kernel
theorem dX7_undo_25 : decode cX7_undo 25 = .ok (.if_icmp .ge 29, 3) := by decide +kernel
theorem dX7_undo_28 : decode cX7_undo 28 = .ok (.aload_n 0, 1) := by decide +kernel
theorem dX7_undo_29 : decode cX7_undo 29 = .ok (.getfield 7, 3) := by decide +kernel
theorem dX7_undo_32 : decode cX7_undo 32 = .ok (.iload_n 1, 1) := by decide +kernel
theorem dX7_undo_33 : decode cX7_undo 33 = .ok (.aload_n 0, 1) := by decide +kernel
theorem dX7_undo_34 : decode cX7_undo 34 = .ok (.getfield 13, 3) := by decide +kernel
theorem dX7_undo_37 : decode cX7_undo 37 = .ok (.bipush 90, 2) := by decide +kernel
theorem dX7_undo_39 : decode cX7_undo 39 = .ok (.aload_n 0, 1) := by decide +kernel
theorem dX7_undo_40 : decode cX7_undo 40 = .ok (.getfield 44, 3) := by decide +kernel
theorem dX7_undo_43 : decode cX7_undo 43 = .ok (.imul, 1) := by decide +kernel
theorem dX7_undo_44 : decode cX7_undo 44 = .ok (.iload_n 1, 1) := by decide +kernel
theorem dX7_undo_45 : decode cX7_undo 45 = .ok (.iadd, 1) := by decide +kernel
theorem dX7_undo_46 : decode cX7_undo 46 = .ok (.iaload, 1) := by decide +kernel
theorem dX7_undo_47 : decode cX7_undo 47 = .ok (.iastore, 1) := by decide +kernel
theorem dX7_undo_48 : decode cX7_undo 48 = .ok (.iinc 1 1, 3) := by decide +kernel
theorem dX7_undo_51 : decode cX7_undo 51 = .ok (.goto (-29), 3) := by decide +kernel
theorem dX7_undo_54 : decode cX7_undo 54 = .ok (.aload_n 0, 1) := by decide +kernel
theorem dX7_undo_55 : decode cX7_undo 55 = .ok (.getfield 44, 3) := by decide +kernel
theorem dX7_undo_58 : decode cX7_undo 58 = .ok (.ireturn, 1) := by decide +kernel
set_option maxRecDepth 20000 in
theorem ggX7_type_X7_in : GoodIn wsX7_type wsX7_in := goodIn_r _ [8] (by decide +kernel) (by decide +kernel)
set_option maxRecDepth 20000 in
theorem gX7_type_X7_in : GoodIn wsX7_type (va_wsS RX7 35 yX7_in wsX7_in) := goodIn_app (goodIn_of _ (by decide +kernel)) ggX7_type_X7_in
theorem dX7_type_0 : decode cX7_type 0 = .ok (.iload_n 1, 1) := by decide +kernel
theorem dX7_type_1 : decode cX7_type 1 = .ok (.bipush 32, 2) := by decide +kernel
theorem dX7_type_3 : decode cX7_type 3 = .ok (.bipush 126, 2) := by decide +kernel
theorem dX7_type_5 : decode cX7_type 5 = .ok (.invokestatic 35, 3) := by decide +kernel
theorem dX7_type_8 : decode cX7_type 8 = .ok (.ifCond .ne 6, 3) := by decide +kernel
theorem dX7_type_11 : decode cX7_type 11 = .ok (.ldc 43, 2) := by decide +kernel
theorem dX7_type_13 : decode cX7_type 13 = .ok (.ireturn, 1) := by decide +kernel
theorem dX7_type_14 : decode cX7_type 14 = .ok (.aload_n 0, 1) := by decide +kernel
theorem dX7_type_15 : decode cX7_type 15 = .ok (.getfield 139, 3) := by decide +kernel
theorem dX7_type_18 : decode cX7_type 18 = .ok (.bipush 60, 2) := by decide +kernel
theorem dX7_type_20 : decode cX7_type 20 = .ok (.if_icmp .ne 6, 3) := by decide +kernel
theorem dX7_type_23 : decode cX7_type 23 = .ok (.ldc 52, 2) := by decide +kernel
theorem dX7_type_25 : decode cX7_type 25 = .ok (.ireturn, 1) := by decide +kernel
theorem dX7_type_26 : decode cX7_type 26 = .ok (.aload_n 0, 1) := by decide +kernel
theorem dX7_type_27 : decode cX7_type 27 = .ok (.getfield 22, 3) := by decide +kernel
theorem dX7_type_30 : decode cX7_type 30 = .ok (.aload_n 0, 1) := by decide +kernel
theorem dX7_type_31 : decode cX7_type 31 = .ok (.getfield 139, 3) := by decide +kernel
theorem dX7_type_34 : decode cX7_type 34 = .ok (.iload_n 1, 1) := by decide +kernel
theorem dX7_type_35 : decode cX7_type 35 = .ok (.i2c, 1) := by decide +kernel
theorem dX7_type_36 : decode cX7_type 36 = .ok (.castore, 1) := by decide +kernel
theorem dX7_type_37 : decode cX7_type 37 = .ok (.aload_n 0, 1) := by decide +kernel
theorem dX7_type_38 : decode cX7_type 38 = .ok (.dup, 1) := by decide +kernel
theorem dX7_type_39 : decode cX7_type 39 = .ok (.getfield 139, 3) := by decide +kernel
theorem dX7_type_42 : decode cX7_type 42 = .ok (.iconst 1, 1) := by decide +kernel
theorem dX7_type_43 : decode cX7_type 43 = .ok (.iadd, 1) := by decide +kernel
theorem dX7_type_44 : decode cX7_type 44 = .ok (.putfield 139, 3) := by decide +kernel
theorem dX7_type_47 : decode cX7_type 47 = .ok (.aload_n 0, 1) := by decide +kernel
theorem dX7_type_48 : decode cX7_type 48 = .ok (.getfield 139, 3) := by decide +kernel
theorem dX7_type_51 : decode cX7_type 51 = .ok (.ireturn, 1) := by decide +kernel
theorem dX7_clearText_0 : decode cX7_clearText 0 = .ok (.aload_n 0, 1) := by decide +kernel
theorem dX7_clearText_1 : decode cX7_clearText 1 = .ok (.getfield 139, 3) := by decide +kernel
theorem dX7_clearText_4 : decode cX7_clearText 4 = .ok (.istore_n 1, 1) := by decide +kernel
theorem dX7_clearText_5 : decode cX7_clearText 5 = .ok (.aload_n 0, 1) := by decide +kernel
theorem dX7_clearText_6 : decode cX7_clearText 6 = .ok (.iconst 0, 1) := by decide +kernel
theorem dX7_clearText_7 : decode cX7_clearText 7 = .ok (.putfield 139, 3) := by decide +kernel
theorem dX7_clearText_10 : decode cX7_clearText 10 = .ok (.iload_n 1, 1) := by decide +kernel
theorem dX7_clearText_11 : decode cX7_clearText 11 = .ok (.ireturn, 1) := by decide +kernel
theorem dX7_sign_0 : decode cX7_sign 0 = .ok (.aload_n 0, 1) := by decide +kernel
theorem dX7_sign_1 : decode cX7_sign 1 = .ok (.getfield 142, 3) := by decide +kernel
theorem dX7_sign_4 : decode cX7_sign 4 = .ok (.aload_n 0, 1) := by decide +kernel
theorem dX7_sign_5 : decode cX7_sign 5 = .ok (.getfield 139, 3) := by decide +kernel
theorem dX7_sign_8 : decode cX7_sign 8 = .ok (.if_icmp .ge 15, 3) := by decide +kernel
theorem dX7_sign_11 : decode cX7_sign 11 = .ok (.aload_n 0, 1) := by decide +kernel
theorem dX7_sign_12 : decode cX7_sign 12 = .ok (.getfield 22, 3) := by decide +kernel
theorem dX7_sign_15 : decode cX7_sign 15 = .ok (.aload_n 0, 1) := by decide +kernel
theorem dX7_sign_16 : decode cX7_sign 16 = .ok (.getfield 142, 3) := by decide +kernel
theorem dX7_sign_19 : decode cX7_sign 19 = .ok (.caload, 1) := by decide +kernel
theorem dX7_sign_20 : decode cX7_sign 20 = .ok (.goto 4, 3) := by decide +kernel
theorem dX7_sign_23 : decode cX7_sign 23 = .ok (.iconst (-1), 1) := by decide +kernel
theorem dX7_sign_24 : decode cX7_sign 24 = .ok (.ireturn, 1) := by decide +kernel
set_option maxRecDepth 20000 in
theorem ggX7_readsNumber_X7_sign : GoodIn wsX7_readsNumber wsX7_sign := goodIn_r _ [7, 1, 8, 9, 13, 14, 15, 16, 17, 18, 19, 20, 21, 22, 23, 24] (by decide +kernel) (by decide +kernel)
set_option maxRecDepth 20000 in
theorem gX7_readsNumber_X7_sign : GoodIn wsX7_readsNumber (wsV RX7 145 RX7 yX7_sign wsX7_sign) := goodIn_app (goodIn_of _ (by decide +kernel)) ggX7_readsNumber_X7_sign
set_option maxRecDepth 20000 in
theorem ggX7_readsNumber_X7_in : GoodIn wsX7_readsNumber wsX7_in := goodIn_r _ [12] (by decide +kernel) (by decide +kernel)
set_option maxRecDepth 20000 in
theorem gX7_readsNumber_X7_in : GoodIn wsX7_readsNumber (va_wsS RX7 35 yX7_in wsX7_in) := goodIn_app (goodIn_of _ (by decide +kernel)) ggX7_readsNumber_X7_in
theorem dX7_readsNumber_0 : decode cX7_readsNumber 0 = .ok (.aload_n 0, 1) := by decide +kernel
theorem dX7_readsNumber_1 : decode cX7_readsNumber 1 = .ok (.getfield 142, 3) := by decide +kernel
theorem dX7_readsNumber_4 : decode cX7_readsNumber 4 = .ok (.istore_n 2, 1) := by decide +kernel
theorem dX7_readsNumber_5 : decode cX7_readsNumber 5 = .ok (.iconst 0, 1) := by decide +kernel
theorem dX7_readsNumber_6 : decode cX7_readsNumber 6 = .ok (.istore_n 3, 1) := by decide +kernel
theorem dX7_readsNumber_7 : decode cX7_readsNumber 7 = .ok (.aload_n 0, 1) := by decide +kernel
theorem dX7_readsNumber_8 : decode cX7_readsNumber 8 = .ok (.invokevirtual 145, 3) := by decide +kernel
theorem dX7_readsNumber_11 : decode cX7_readsNumber 11 = .ok (.bipush 48, 2) := by decide +kernel
theorem dX7_readsNumber_13 : decode cX7_readsNumber 13 = .ok (.bipush 57, 2) := by decide +kernel
theorem dX7_readsNumber_15 : decode cX7_readsNumber 15 = .ok (.invokestatic 35, 3) := by decide +kernel
theorem dX7_readsNumber_18 : decode cX7_readsNumber 18 = .ok (.ifCond .eq 39, 3) := by decide +kernel
theorem dX7_readsNumber_21 : decode cX7_readsNumber 21 = .ok (.aload_n 0, 1) := by decide +kernel
theorem dX7_readsNumber_22 : decode cX7_readsNumber 22 = .ok (.getfield 142, 3) := by decide +kernel
theorem dX7_readsNumber_25 : decode cX7_readsNumber 25 = .ok (.iload_n 2, 1) := by decide +kernel
theorem dX7_readsNumber_26 : decode cX7_readsNumber 26 = .ok (.iconst 2, 1) := by decide +kernel
theorem dX7_readsNumber_27 : decode cX7_readsNumber 27 = .ok (.iadd, 1) := by decide +kernel
theorem dX7_readsNumber_28 : decode cX7_readsNumber 28 = .ok (.if_icmp .ge 29, 3) := by decide +kernel
theorem dX7_readsNumber_31 : decode cX7_readsNumber 31 = .ok (.bipush 10, 2) := by decide +kernel
theorem dX7_readsNumber_33 : decode cX7_readsNumber 33 = .ok (.iload_n 3, 1) := by decide +kernel
theorem dX7_readsNumber_34 : decode cX7_readsNumber 34 = .ok (.imul, 1) := by decide +kernel
theorem dX7_readsNumber_35 : decode cX7_readsNumber 35 = .ok (.aload_n 0, 1) := by decide +kernel
theorem dX7_readsNumber_36 : decode cX7_readsNumber 36 = .ok (.invokevirtual 145, 3) := by decide +kernel
theorem dX7_readsNumber_39 : decode cX7_readsNumber 39 = .ok (.iadd, 1) := by decide +kernel
theorem dX7_readsNumber_40 : decode cX7_readsNumber 40 = .ok (.bipush 48, 2) := by decide +kernel
theorem dX7_readsNumber_42 : decode cX7_readsNumber 42 = .ok (.isub, 1) := by decide +kernel
theorem dX7_readsNumber_43 : decode cX7_readsNumber 43 = .ok (.istore_n 3, 1) := by decide +kernel
theorem dX7_readsNumber_44 : decode cX7_readsNumber 44 = .ok (.aload_n 0, 1) := by decide +kernel
theorem dX7_readsNumber_45 : decode cX7_readsNumber 45 = .ok (.dup, 1) := by decide +kernel
theorem dX7_readsNumber_46 : decode cX7_readsNumber 46 = .ok (.getfield 142, 3) := by decide +kernel
theorem dX7_readsNumber_49 : decode cX7_readsNumber 49 = .ok (.iconst 1, 1) := by decide +kernel
theorem dX7_readsNumber_50 : decode cX7_readsNumber 50 = .ok (.iadd, 1) := by decide +kernel
theorem dX7_readsNumber_51 : decode cX7_readsNumber 51 = .ok (.putfield 142, 3) := by decide +kernel
theorem dX7_readsNumber_54 : decode cX7_readsNumber 54 = .ok (.goto (-47), 3) := by decide +kernel
theorem dX7_readsNumber_57 : decode cX7_readsNumber 57 = .ok (.aload_n 0, 1) := by decide +kernel
theorem dX7_readsNumber_58 : decode cX7_readsNumber 58 = .ok (.getfield 26, 3) := by decide +kernel
theorem dX7_readsNumber_61 : decode cX7_readsNumber 61 = .ok (.iload_n 1, 1) := by decide +kernel
theorem dX7_readsNumber_62 : decode cX7_readsNumber 62 = .ok (.iload_n 3, 1) := by decide +kernel
theorem dX7_readsNumber_63 : decode cX7_readsNumber 63 = .ok (.iastore, 1) := by decide +kernel
theorem dX7_readsNumber_64 : decode cX7_readsNumber 64 = .ok (.aload_n 0, 1) := by decide +kernel
theorem dX7_readsNumber_65 : decode cX7_readsNumber 65 = .ok (.getfield 142, 3) := by decide +kernel
theorem dX7_readsNumber_68 : decode cX7_readsNumber 68 = .ok (.iload_n 2, 1) := by decide +kernel
theorem dX7_readsNumber_69 : decode cX7_readsNumber 69 = .ok (.if_icmp .le 7, 3) := by decide +kernel
theorem dX7_readsNumber_72 : decode cX7_readsNumber 72 = .ok (.iconst 1, 1) := by decide +kernel
theorem dX7_readsNumber_73 : decode cX7_readsNumber 73 = .ok (.goto 4, 3) := by decide +kernel
theorem dX7_readsNumber_76 : decode cX7_readsNumber 76 = .ok (.iconst 0, 1) := by decide +kernel
theorem dX7_readsNumber_77 : decode cX7_readsNumber 77 = .ok (.ireturn, 1) := by decide +kernel
set_option maxRecDepth 20000 in
theorem ggX7_reads_X7_sign : GoodIn wsX7_reads wsX7_sign := goodIn_r _ [6, 1, 7, 8, 17, 18, 19, 20, 21, 22, 23, 24, 25, 26, 27, 28] (by decide +kernel) (by decide +kernel)
set_option maxRecDepth 20000 in
theorem gX7_reads_X7_sign : GoodIn wsX7_reads (wsV RX7 145 RX7 yX7_sign wsX7_sign) := goodIn_app (goodIn_of _ (by decide +kernel)) ggX7_reads_X7_sign
set_option maxRecDepth 20000 in
theorem ggX7_reads_X7_readsNumber : GoodIn wsX7_reads wsX7_readsNumber := goodIn_r _ [12, 1, 13, 2, 3, 4, 5, 6, 7, 8, 14, 15, 16, 17, 18, 19, 20, 21, 22, 23, 24, 25, 26, 27, 28] (by decide +kernel) (by decide +kernel)
set_option maxRecDepth 20000 in
theorem gX7_reads_X7_readsNumber : GoodIn wsX7_reads (wsV RX7 148 RX7 yX7_readsNumber wsX7_readsNumber) := goodIn_app (goodIn_of _ (by decide +kernel)) ggX7_reads_X7_readsNumber
theorem dX7_reads_0 : decode cX7_reads 0 = .ok (.iload_n 1, 1) := by decide +kernel
theorem dX7_reads_1 : decode cX7_reads 1 = .ok (.ifCond .le 7, 3) := by decide +kernel
theorem dX7_reads_4 : decode cX7_reads 4 = .ok (.iconst 1, 1) := by decide +kernel
theorem dX7_reads_5 : decode cX7_reads 5 = .ok (.goto 4, 3) := by decide +kernel
theorem dX7_reads_8 : decode cX7_reads 8 = .ok (.iconst 0, 1) := by decide +kernel
theorem dX7_reads_9 : decode cX7_reads 9 = .ok (.istore_n 2, 1) := by decide +kernel
theorem dX7_reads_10 : decode cX7_reads 10 = .ok (.iconst 0, 1) := by decide +kernel
theorem dX7_reads_11 : decode cX7_reads 11 = .ok (.istore_n 3, 1) := by decide +kernel
theorem dX7_reads_12 : decode cX7_reads 12 = .ok (.iload_n 3, 1) := by decide +kernel
theorem dX7_reads_13 : decode cX7_reads 13 = .ok (.iload_n 1, 1) := by decide +kernel
theorem dX7_reads_14 : decode cX7_reads 14 = .ok (.if_icmp .ge 60, 3) := by decide +kernel
theorem dX7_reads_17 : decode cX7_reads 17 = .ok (.iload_n 2, 1) := by decide +kernel
theorem dX7_reads_18 : decode cX7_reads 18 = .ok (.ifCond .eq 56, 3) := by decide +kernel
theorem dX7_reads_21 : decode cX7_reads 21 = .ok (.iload_n 3, 1) := by decide +kernel
theorem dX7_reads_22 : decode cX7_reads 22 = .ok (.ifCond .le 28, 3) := by decide +kernel
theorem dX7_reads_25 : decode cX7_reads 25 = .ok (.aload_n 0, 1) := by decide +kernel
theorem dX7_reads_26 : decode cX7_reads 26 = .ok (.invokevirtual 145, 3) := by decide +kernel
theorem dX7_reads_29 : decode cX7_reads 29 = .ok (.bipush 44, 2) := by decide +kernel
theorem dX7_reads_31 : decode cX7_reads 31 = .ok (.if_icmp .ne 7, 3) := by decide +kernel
theorem dX7_reads_34 : decode cX7_reads 34 = .ok (.iconst 1, 1) := by decide +kernel
theorem dX7_reads_35 : decode cX7_reads 35 = .ok (.goto 4, 3) := by decide +kernel
theorem dX7_reads_38 : decode cX7_reads 38 = .ok (.iconst 0, 1) := by decide +kernel
theorem dX7_reads_39 : decode cX7_reads 39 = .ok (.istore_n 2, 1) := by decide +kernel
theorem dX7_reads_40 : decode cX7_reads 40 = .ok (.aload_n 0, 1) := by decide +kernel
theorem dX7_reads_41 : decode cX7_reads 41 = .ok (.dup, 1) := by decide +kernel
theorem dX7_reads_42 : decode cX7_reads 42 = .ok (.getfield 142, 3) := by decide +kernel
theorem dX7_reads_45 : decode cX7_reads 45 = .ok (.iconst 1, 1) := by decide +kernel
theorem dX7_reads_46 : decode cX7_reads 46 = .ok (.iadd, 1) := by decide +kernel
theorem dX7_reads_47 : decode cX7_reads 47 = .ok (.putfield 142, 3) := by decide +kernel
theorem dX7_reads_50 : decode cX7_reads 50 = .ok (.iload_n 2, 1) := by decide +kernel
theorem dX7_reads_51 : decode cX7_reads 51 = .ok (.ifCond .eq 15, 3) := by decide +kernel
theorem dX7_reads_54 : decode cX7_reads 54 = .ok (.aload_n 0, 1) := by decide +kernel
theorem dX7_reads_55 : decode cX7_reads 55 = .ok (.iload_n 3, 1) := by decide +kernel
theorem dX7_reads_56 : decode cX7_reads 56 = .ok (.invokevirtual 148, 3) := by decide +kernel
theorem dX7_reads_59 : decode cX7_reads 59 = .ok (.ifCond .eq 7, 3) := by decide +kernel
theorem dX7_reads_62 : decode cX7_reads 62 = .ok (.iconst 1, 1) := by decide +kernel
theorem dX7_reads_63 : decode cX7_reads 63 = .ok (.goto 4, 3) := by decide +kernel
theorem dX7_reads_66 : decode cX7_reads 66 = .ok (.iconst 0, 1) := by decide +kernel
theorem dX7_reads_67 : decode cX7_reads 67 = .ok (.istore_n 2, 1) := by decide +kernel
theorem dX7_reads_68 : decode cX7_reads 68 = .ok (.iinc 3 1, 3) := by decide +kernel
theorem dX7_reads_71 : decode cX7_reads 71 = .ok (.goto (-59), 3) := by decide +kernel
theorem dX7_reads_74 : decode cX7_reads 74 = .ok (.iload_n 2, 1) := by decide +kernel
theorem dX7_reads_75 : decode cX7_reads 75 = .ok (.ifCond .eq 16, 3) := by decide +kernel
theorem dX7_reads_78 : decode cX7_reads 78 = .ok (.aload_n 0, 1) := by decide +kernel
theorem dX7_reads_79 : decode cX7_reads 79 = .ok (.invokevirtual 145, 3) := by decide +kernel
theorem dX7_reads_82 : decode cX7_reads 82 = .ok (.bipush 59, 2) := by decide +kernel
theorem dX7_reads_84 : decode cX7_reads 84 = .ok (.if_icmp .ne 7, 3) := by decide +kernel
theorem dX7_reads_87 : decode cX7_reads 87 = .ok (.iconst 1, 1) := by decide +kernel
theorem dX7_reads_88 : decode cX7_reads 88 = .ok (.goto 4, 3) := by decide +kernel
theorem dX7_reads_91 : decode cX7_reads 91 = .ok (.iconst 0, 1) := by decide +kernel
theorem dX7_reads_92 : decode cX7_reads 92 = .ok (.istore_n 2, 1) := by decide +kernel
theorem dX7_reads_93 : decode cX7_reads 93 = .ok (.aload_n 0, 1) := by decide +kernel
theorem dX7_reads_94 : decode cX7_reads 94 = .ok (.dup, 1) := by decide +kernel
theorem dX7_reads_95 : decode cX7_reads 95 = .ok (.getfield 142, 3) := by decide +kernel
theorem dX7_reads_98 : decode cX7_reads 98 = .ok (.iconst 1, 1) := by decide +kernel
theorem dX7_reads_99 : decode cX7_reads 99 = .ok (.iadd, 1) := by decide +kernel
theorem dX7_reads_100 : decode cX7_reads 100 = .ok (.putfield 142, 3) := by decide +kernel
theorem dX7_reads_103 : decode cX7_reads 103 = .ok (.iload_n 2, 1) := by decide +kernel
theorem dX7_reads_104 : decode cX7_reads 104 = .ok (.ireturn, 1) := by decide +kernel
set_option maxRecDepth 20000 in
theorem ggX7_doesNext_X7_sign : GoodIn wsX7_doesNext wsX7_sign := goodIn_r _ [9, 1, 10, 11, 56, 57, 58, 59, 60, 61, 62, 63, 64, 65, 66, 67] (by decide +kernel) (by decide +kernel)
set_option maxRecDepth 20000 in
theorem gX7_doesNext_X7_sign : GoodIn wsX7_doesNext (wsV RX7 145 RX7 yX7_sign wsX7_sign) := goodIn_app (goodIn_of _ (by decide +kernel)) ggX7_doesNext_X7_sign
set_option maxRecDepth 20000 in
theorem ggX7_doesNext_X7_reads : GoodIn wsX7_doesNext wsX7_reads := goodIn_r _ [15, 1, 5, 6, 7, 8, 9, 10, 11, 16, 17, 18, 19, 2, 20, 21, 22, 56, 57, 58, 59, 60, 61, 62, 63, 64, 65, 66, 67] (by decide +kernel) (by decide +kernel)
set_option maxRecDepth 20000 in
theorem gX7_doesNext_X7_reads : GoodIn wsX7_doesNext (wsV RX7 151 RX7 yX7_reads wsX7_reads) := goodIn_app (goodIn_of _ (by decide +kernel)) ggX7_doesNext_X7_reads
set_option maxRecDepth 20000 in
theorem ggX7_doesNext_X7_puts : GoodIn wsX7_doesNext wsX7_puts := goodIn_r _ [26, 27, 3, 4, 20, 21, 8, 22, 28, 29, 30, 31, 32, 33, 34, 35, 56, 57, 58, 59, 60, 61, 62, 63, 64, 65, 66, 67] (by decide +kernel) (by decide +kernel)
set_option maxRecDepth 20000 in
theorem gX7_doesNext_X7_puts : GoodIn wsX7_doesNext (wsV RX7 60 RX7 yX7_puts wsX7_puts) := goodIn_app (goodIn_of _ (by decide +kernel)) ggX7_doesNext_X7_puts
set_option maxRecDepth 20000 in
theorem ggX7_doesNext_X7_takes : GoodIn wsX7_doesNext wsX7_takes := goodIn_r _ [39, 3, 27, 40, 41, 42, 8, 43, 20, 21, 22, 28, 29, 30, 31, 32, 33, 34, 35, 56, 57, 58, 59, 60, 61, 62, 63, 64, 65, 66, 67] (by decide +kernel) (by decide +kernel)
set_option maxRecDepth 20000 in
theorem gX7_doesNext_X7_takes : GoodIn wsX7_doesNext (wsV RX7 67 RX7 yX7_takes wsX7_takes) := goodIn_app (goodIn_of _ (by decide +kernel)) ggX7_doesNext_X7_takes
set_option maxRecDepth 20000 in
theorem ggX7_doesNext_X7_changes : GoodIn wsX7_doesNext wsX7_changes := goodIn_r _ [47, 3, 27, 40, 41, 42, 8, 43, 20, 21, 22, 28, 29, 30, 31, 32, 33, 34, 35, 56, 57, 58, 59, 60, 61, 62, 63, 64, 65, 66, 67] (by decide +kernel) (by decide +kernel)
set_option maxRecDepth 20000 in
theorem gX7_doesNext_X7_changes : GoodIn wsX7_doesNext (wsV RX7 70 RX7 yX7_changes wsX7_changes) := goodIn_app (goodIn_of _ (by decide +kernel)) ggX7_doesNext_X7_changes
set_option maxRecDepth 20000 in
theorem ggX7_doesNext_X7_moves : GoodIn wsX7_doesNext wsX7_moves := goodIn_r _ [51, 27, 3, 52, 40, 41, 42, 8, 43, 20, 21, 22, 53, 54, 55, 32, 33, 34, 35, 56, 57, 58, 59, 60, 61, 62, 63, 64, 65, 66, 67] (by decide +kernel) (by decide +kernel)
set_option maxRecDepth 20000 in
theorem gX7_doesNext_X7_moves : GoodIn wsX7_doesNext (wsV RX7 77 RX7 yX7_moves wsX7_moves) := goodIn_app (goodIn_of _ (by decide +kernel)) ggX7_doesNext_X7_moves
theorem dX7_doesNext_0 : decode cX7_doesNext 0 = .ok (.aload_n 0, 1) := by decide +kernel
theorem dX7_doesNext_1 : decode cX7_doesNext 1 = .ok (.invokevirtual 145, 3) := by decide +kernel
theorem dX7_doesNext_4 : decode cX7_doesNext 4 = .ok (.istore_n 1, 1) := by decide +kernel
theorem dX7_doesNext_5 : decode cX7_doesNext 5 = .ok (.aload_n 0, 1) := by decide +kernel
theorem dX7_doesNext_6 : decode cX7_doesNext 6 = .ok (.dup, 1) := by decide +kernel
theorem dX7_doesNext_7 : decode cX7_doesNext 7 = .ok (.getfield 142, 3) := by decide +kernel
theorem dX7_doesNext_10 : decode cX7_doesNext 10 = .ok (.iconst 1, 1) := by decide +kernel
theorem dX7_doesNext_11 : decode cX7_doesNext 11 = .ok (.iadd, 1) := by decide +kernel
theorem dX7_doesNext_12 : decode cX7_doesNext 12 = .ok (.putfield 142, 3) := by decide +kernel
theorem dX7_doesNext_15 : decode cX7_doesNext 15 = .ok (.aload_n 0, 1) := by decide +kernel
theorem dX7_doesNext_16 : decode cX7_doesNext 16 = .ok (.iload_n 1, 1) := by decide +kernel
theorem dX7_doesNext_17 : decode cX7_doesNext 17 = .ok (.bipush 45, 2) := by decide +kernel
theorem dX7_doesNext_19 : decode cX7_doesNext 19 = .ok (.if_icmp .ne 7, 3) := by decide +kernel
theorem dX7_doesNext_22 : decode cX7_doesNext 22 = .ok (.iconst 1, 1) := by decide +kernel
theorem dX7_doesNext_23 : decode cX7_doesNext 23 = .ok (.goto 30, 3) := by decide +kernel
theorem dX7_doesNext_26 : decode cX7_doesNext 26 = .ok (.iload_n 1, 1) := by decide +kernel
theorem dX7_doesNext_27 : decode cX7_doesNext 27 = .ok (.bipush 43, 2) := by decide +kernel
theorem dX7_doesNext_29 : decode cX7_doesNext 29 = .ok (.if_icmp .eq 9, 3) := by decide +kernel
theorem dX7_doesNext_32 : decode cX7_doesNext 32 = .ok (.iload_n 1, 1) := by decide +kernel
theorem dX7_doesNext_33 : decode cX7_doesNext 33 = .ok (.bipush 61, 2) := by decide +kernel
theorem dX7_doesNext_35 : decode cX7_doesNext 35 = .ok (.if_icmp .ne 7, 3) := by decide +kernel
theorem dX7_doesNext_38 : decode cX7_doesNext 38 = .ok (.iconst 2, 1) := by decide +kernel
theorem dX7_doesNext_39 : decode cX7_doesNext 39 = .ok (.goto 14, 3) := by decide +kernel
theorem dX7_doesNext_42 : decode cX7_doesNext 42 = .ok (.iload_n 1, 1) := by decide +kernel
theorem dX7_doesNext_43 : decode cX7_doesNext 43 = .ok (.bipush 62, 2) := by decide +kernel
theorem dX7_doesNext_45 : decode cX7_doesNext 45 = .ok (.if_icmp .ne 7, 3) := by decide +kernel
theorem dX7_doesNext_48 : decode cX7_doesNext 48 = .ok (.iconst 3, 1) := by decide +kernel
theorem dX7_doesNext_49 : decode cX7_doesNext 49 = .ok (.goto 4, 3) := by decide +kernel
theorem dX7_doesNext_52 : decode cX7_doesNext 52 = .ok (.iconst 0, 1) := by decide +kernel
theorem dX7_doesNext_53 : decode cX7_doesNext 53 = .ok (.invokevirtual 151, 3) := by decide +kernel
theorem dX7_doesNext_56 : decode cX7_doesNext 56 = .ok (.ifCond .ne 5, 3) := by decide +kernel
theorem dX7_doesNext_59 : decode cX7_doesNext 59 = .ok (.iconst 1, 1) := by decide +kernel
theorem dX7_doesNext_60 : decode cX7_doesNext 60 = .ok (.ireturn, 1) := by decide +kernel
theorem dX7_doesNext_61 : decode cX7_doesNext 61 = .ok (.iconst 0, 1) := by decide +kernel
theorem dX7_doesNext_62 : decode cX7_doesNext 62 = .ok (.istore_n 2, 1) := by decide +kernel
theorem dX7_doesNext_63 : decode cX7_doesNext 63 = .ok (.iload_n 1, 1) := by decide +kernel
theorem dX7_doesNext_64 : decode cX7_doesNext 64 = .ok (.lookupswitch 90 #[(43, 36), (45, 56), (61, 70)], 36) := by decide +kernel
theorem dX7_doesNext_100 : decode cX7_doesNext 100 = .ok (.aload_n 0, 1) := by decide +kernel
theorem dX7_doesNext_101 : decode cX7_doesNext 101 = .ok (.aload_n 0, 1) := by decide +kernel
theorem dX7_doesNext_102 : decode cX7_doesNext 102 = .ok (.getfield 26, 3) := by decide +kernel
theorem dX7_doesNext_105 : decode cX7_doesNext 105 = .ok (.iconst 0, 1) := by decide +kernel
theorem dX7_doesNext_106 : decode cX7_doesNext 106 = .ok (.iaload, 1) := by decide +kernel
theorem dX7_doesNext_107 : decode cX7_doesNext 107 = .ok (.aload_n 0, 1) := by decide +kernel
theorem dX7_doesNext_108 : decode cX7_doesNext 108 = .ok (.getfield 26, 3) := by decide +kernel
theorem dX7_doesNext_111 : decode cX7_doesNext 111 = .ok (.iconst 1, 1) := by decide +kernel
theorem dX7_doesNext_112 : decode cX7_doesNext 112 = .ok (.iaload, 1) := by decide +kernel
theorem dX7_doesNext_113 : decode cX7_doesNext 113 = .ok (.invokevirtual 60, 3) := by decide +kernel
theorem dX7_doesNext_116 : decode cX7_doesNext 116 = .ok (.istore_n 2, 1) := by decide +kernel
theorem dX7_doesNext_117 : decode cX7_doesNext 117 = .ok (.goto 60, 3) := by decide +kernel
theorem dX7_doesNext_120 : decode cX7_doesNext 120 = .ok (.aload_n 0, 1) := by decide +kernel
theorem dX7_doesNext_121 : decode cX7_doesNext 121 = .ok (.aload_n 0, 1) := by decide +kernel
theorem dX7_doesNext_122 : decode cX7_doesNext 122 = .ok (.getfield 26, 3) := by decide +kernel
theorem dX7_doesNext_125 : decode cX7_doesNext 125 = .ok (.iconst 0, 1) := by decide +kernel
theorem dX7_doesNext_126 : decode cX7_doesNext 126 = .ok (.iaload, 1) := by decide +kernel
theorem dX7_doesNext_127 : decode cX7_doesNext 127 = .ok (.invokevirtual 67, 3) := by decide +kernel
theorem dX7_doesNext_130 : decode cX7_doesNext 130 = .ok (.istore_n 2, 1) := by decide +kernel
theorem dX7_doesNext_131 : decode cX7_doesNext 131 = .ok (.goto 46, 3) := by decide +kernel
theorem dX7_doesNext_134 : decode cX7_doesNext 134 = .ok (.aload_n 0, 1) := by decide +kernel
theorem dX7_doesNext_135 : decode cX7_doesNext 135 = .ok (.aload_n 0, 1) := by decide +kernel
theorem dX7_doesNext_136 : decode cX7_doesNext 136 = .ok (.getfield 26, 3) := by decide +kernel
theorem dX7_doesNext_139 : decode cX7_doesNext 139 = .ok (.iconst 0, 1) := by decide +kernel
theorem dX7_doesNext_140 : decode cX7_doesNext 140 = .ok (.iaload, 1) := by decide +kernel
theorem dX7_doesNext_141 : decode cX7_doesNext 141 = .ok (.aload_n 0, 1) := by decide +kernel
theorem dX7_doesNext_142 : decode cX7_doesNext 142 = .ok (.getfield 26, 3) := by decide +kernel
theorem dX7_doesNext_145 : decode cX7_doesNext 145 = .ok (.iconst 1, 1) := by decide +kernel
theorem dX7_doesNext_146 : decode cX7_doesNext 146 = .ok (.iaload, 1) := by decide +kernel
theorem dX7_doesNext_147 : decode cX7_doesNext 147 = .ok (.invokevirtual 70, 3) := by decide +kernel
theorem dX7_doesNext_150 : decode cX7_doesNext 150 = .ok (.istore_n 2, 1) := by decide +kernel
theorem dX7_doesNext_151 : decode cX7_doesNext 151 = .ok (.goto 26, 3) := by decide +kernel
theorem dX7_doesNext_154 : decode cX7_doesNext 154 = .ok (.aload_n 0, 1) := by decide +kernel
theorem dX7_doesNext_155 : decode cX7_doesNext 155 = .ok (.aload_n 0, 1) := by decide +kernel
theorem dX7_doesNext_156 : decode cX7_doesNext 156 = .ok (.getfield 26, 3) := by decide +kernel
theorem dX7_doesNext_159 : decode cX7_doesNext 159 = .ok (.iconst 0, 1) := by decide +kernel
theorem dX7_doesNext_160 : decode cX7_doesNext 160 = .ok (.iaload, 1) := by decide +kernel
theorem dX7_doesNext_161 : decode cX7_doesNext 161 = .ok (.aload_n 0, 1) := by decide +kernel
theorem dX7_doesNext_162 : decode cX7_doesNext 162 = .ok (.getfield 26, 3) := by decide +kernel
theorem dX7_doesNext_165 : decode cX7_doesNext 165 = .ok (.iconst 1, 1) := by decide +kernel
theorem dX7_doesNext_166 : decode cX7_doesNext 166 = .ok (.iaload, 1) := by decide +kernel
theorem dX7_doesNext_167 : decode cX7_doesNext 167 = .ok (.aload_n 0, 1) := by decide +kernel
theorem dX7_doesNext_168 : decode cX7_doesNext 168 = .ok (.getfield 26, 3) := by decide +kernel
theorem dX7_doesNext_171 : decode cX7_doesNext 171 = .ok (.iconst 2, 1) := by decide +kernel
theorem dX7_doesNext_172 : decode cX7_doesNext 172 = .ok (.iaload, 1) := by decide +kernel
theorem dX7_doesNext_173 : decode cX7_doesNext 173 = .ok (.invokevirtual 77, 3) := by decide +kernel
theorem dX7_doesNext_176 : decode cX7_doesNext 176 = .ok (.istore_n 2, 1) := by decide +kernel
theorem dX7_doesNext_177 : decode cX7_doesNext 177 = .ok (.iload_n 2, 1) := by decide +kernel
theorem dX7_doesNext_178 : decode cX7_doesNext 178 = .ok (.ldc 43, 2) := by decide +kernel
theorem dX7_doesNext_180 : decode cX7_doesNext 180 = .ok (.if_icmp .ne 7, 3) := by decide +kernel
theorem dX7_doesNext_183 : decode cX7_doesNext 183 = .ok (.iconst 2, 1) := by decide +kernel
theorem dX7_doesNext_184 : decode cX7_doesNext 184 = .ok (.goto 14, 3) := by decide +kernel
theorem dX7_doesNext_187 : decode cX7_doesNext 187 = .ok (.iload_n 2, 1) := by decide +kernel
theorem dX7_doesNext_188 : decode cX7_doesNext 188 = .ok (.ldc 52, 2) := by decide +kernel
theorem dX7_doesNext_190 : decode cX7_doesNext 190 = .ok (.if_icmp .ne 7, 3) := by decide +kernel
theorem dX7_doesNext_193 : decode cX7_doesNext 193 = .ok (.iconst 3, 1) := by decide +kernel
theorem dX7_doesNext_194 : decode cX7_doesNext 194 = .ok (.goto 4, 3) := by decide +kernel
theorem dX7_doesNext_197 : decode cX7_doesNext 197 = .ok (.iconst 0, 1) := by decide +kernel
theorem dX7_doesNext_198 : decode cX7_doesNext 198 = .ok (.ireturn, 1) := by decide +kernel
set_option maxRecDepth 20000 in
theorem ggX7_faulty_X7_lays : GoodIn wsX7_faulty wsX7_lays := goodIn_r _ [9, 10, 11, 71, 72, 73, 74, 75, 76, 77, 78, 79, 80, 81, 82] (by decide +kernel) (by decide +kernel)
set_option maxRecDepth 20000 in
theorem gX7_faulty_X7_lays : GoodIn wsX7_faulty (wsV RX7 123 RX7 yX7_lays wsX7_lays) := goodIn_app (goodIn_of _ (by decide +kernel)) ggX7_faulty_X7_lays
set_option maxRecDepth 20000 in
theorem ggX7_faulty_X7_doesNext : GoodIn wsX7_faulty wsX7_doesNext := goodIn_r _ [15, 2, 16, 17, 18, 19, 20, 21, 8, 22, 3, 23, 24, 25, 26, 27, 28, 29, 30, 31, 32, 33, 34, 35, 36, 37, 38, 11, 39, 40, 41, 42, 43, 44, 45, 46, 47, 48, 49, 50, 51, 52, 53, 54, 55, 56, 57, 58, 59, 60, 61, 62, 63, 64, 65, 66, 71, 72, 73, 74, 75, 76, 77, 78, 79, 80, 81, 82] (by decide +kernel) (by decide +kernel)
set_option maxRecDepth 20000 in
theorem gX7_faulty_X7_doesNext : GoodIn wsX7_faulty (wsV RX7 154 RX7 yX7_doesNext wsX7_doesNext) := goodIn_app (goodIn_of _ (by decide +kernel)) ggX7_faulty_X7_doesNext
set_option maxRecDepth 20000 in
theorem ggX7_faulty_X7_restores : GoodIn wsX7_faulty wsX7_restores := goodIn_r _ [70, 11, 10, 71, 72, 73, 74, 75, 76, 77, 78, 79, 80, 81, 82] (by decide +kernel) (by decide +kernel)
set_option maxRecDepth 20000 in
theorem gX7_faulty_X7_restores : GoodIn wsX7_faulty (wsV RX7 126 RX7 yX7_restores wsX7_restores) := goodIn_app (goodIn_of _ (by decide +kernel)) ggX7_faulty_X7_restores
theorem dX7_faulty_0 : decode cX7_faulty 0 = .ok (.aload_n 0, 1) := by decide +kernel
theorem dX7_faulty_1 : decode cX7_faulty 1 = .ok (.invokevirtual 123, 3) := by decide +kernel
theorem dX7_faulty_4 : decode cX7_faulty 4 = .ok (.ldc 100, 2) := by decide +kernel
theorem dX7_faulty_6 : decode cX7_faulty 6 = .ok (.istore_n 1, 1) := by decide +kernel
theorem dX7_faulty_7 : decode cX7_faulty 7 = .ok (.aload_n 0, 1) := by decide +kernel
theorem dX7_faulty_8 : decode cX7_faulty 8 = .ok (.iconst 0, 1) := by decide +kernel
theorem dX7_faulty_9 : decode cX7_faulty 9 = .ok (.putfield 142, 3) := by decide +kernel
theorem dX7_faulty_12 : decode cX7_faulty 12 = .ok (.aload_n 0, 1) := by decide +kernel
theorem dX7_faulty_13 : decode cX7_faulty 13 = .ok (.getfield 142, 3) := by decide +kernel
theorem dX7_faulty_16 : decode cX7_faulty 16 = .ok (.aload_n 0, 1) := by decide +kernel
theorem dX7_faulty_17 : decode cX7_faulty 17 = .ok (.getfield 139, 3) := by decide +kernel
theorem dX7_faulty_20 : decode cX7_faulty 20 = .ok (.if_icmp .ge 38, 3) := by decide +kernel
theorem dX7_faulty_23 : decode cX7_faulty 23 = .ok (.iload_n 1, 1) := by decide +kernel
theorem dX7_faulty_24 : decode cX7_faulty 24 = .ok (.ldc 100, 2) := by decide +kernel
theorem dX7_faulty_26 : decode cX7_faulty 26 = .ok (.if_icmp .ne 32, 3) := by decide +kernel
theorem dX7_faulty_29 : decode cX7_faulty 29 = .ok (.aload_n 0, 1) := by decide +kernel
theorem dX7_faulty_30 : decode cX7_faulty 30 = .ok (.getfield 142, 3) := by decide +kernel
theorem dX7_faulty_33 : decode cX7_faulty 33 = .ok (.istore_n 2, 1) := by decide +kernel
theorem dX7_faulty_34 : decode cX7_faulty 34 = .ok (.aload_n 0, 1) := by decide +kernel
theorem dX7_faulty_35 : decode cX7_faulty 35 = .ok (.aload_n 0, 1) := by decide +kernel
theorem dX7_faulty_36 : decode cX7_faulty 36 = .ok (.invokevirtual 154, 3) := by decide +kernel
theorem dX7_faulty_39 : decode cX7_faulty 39 = .ok (.putfield 157, 3) := by decide +kernel
theorem dX7_faulty_42 : decode cX7_faulty 42 = .ok (.aload_n 0, 1) := by decide +kernel
theorem dX7_faulty_43 : decode cX7_faulty 43 = .ok (.getfield 157, 3) := by decide +kernel
theorem dX7_faulty_46 : decode cX7_faulty 46 = .ok (.ifCond .le 7, 3) := by decide +kernel
theorem dX7_faulty_49 : decode cX7_faulty 49 = .ok (.iload_n 2, 1) := by decide +kernel
theorem dX7_faulty_50 : decode cX7_faulty 50 = .ok (.goto 4, 3) := by decide +kernel
theorem dX7_faulty_53 : decode cX7_faulty 53 = .ok (.iload_n 1, 1) := by decide +kernel
theorem dX7_faulty_54 : decode cX7_faulty 54 = .ok (.istore_n 1, 1) := by decide +kernel
theorem dX7_faulty_55 : decode cX7_faulty 55 = .ok (.goto (-43), 3) := by decide +kernel
theorem dX7_faulty_58 : decode cX7_faulty 58 = .ok (.aload_n 0, 1) := by decide +kernel
theorem dX7_faulty_59 : decode cX7_faulty 59 = .ok (.invokevirtual 126, 3) := by decide +kernel
theorem dX7_faulty_62 : decode cX7_faulty 62 = .ok (.iload_n 1, 1) := by decide +kernel
theorem dX7_faulty_63 : decode cX7_faulty 63 = .ok (.ireturn, 1) := by decide +kernel
set_option maxRecDepth 20000 in
theorem ggX7_fault_X7_in : GoodIn wsX7_fault wsX7_in := goodIn_r _ [7] (by decide +kernel) (by decide +kernel)
set_option maxRecDepth 20000 in
theorem gX7_fault_X7_in : GoodIn wsX7_fault (va_wsS RX7 35 yX7_in wsX7_in) := goodIn_app (goodIn_of _ (by decide +kernel)) ggX7_fault_X7_in
set_option maxRecDepth 20000 in
theorem ggX7_fault_X7_faulty : GoodIn wsX7_fault wsX7_faulty := goodIn_r _ [11, 2, 12, 13, 3, 14, 15, 16, 6, 17, 18, 19, 20, 21, 22, 23, 24, 1, 25, 26, 27, 28, 29, 30, 31, 32, 33, 34, 35, 36, 37, 38, 4, 5, 7, 39, 40, 41, 42, 43, 44, 45, 46, 47, 48, 49, 50, 51, 52, 53, 54, 55, 56, 57, 58, 59, 60, 61, 62, 63, 64, 65, 66, 67, 68, 69, 70, 71, 72, 73, 74, 75, 76, 77, 78, 79, 80, 81, 82, 83, 84, 85, 86] (by decide +kernel) (by decide +kernel)
set_option maxRecDepth 20000 in
theorem gX7_fault_X7_faulty : GoodIn wsX7_fault (wsV RX7 160 RX7 yX7_faulty wsX7_faulty) := goodIn_app (goodIn_of _ (by decide +kernel)) ggX7_fault_X7_faulty
theorem dX7_fault_0 : decode cX7_fault 0 = .ok (.iload_n 1, 1) := by decide +kernel
theorem dX7_fault_1 : decode cX7_fault 1 = .ok (.iconst 0, 1) := by decide +kernel
theorem dX7_fault_2 : decode cX7_fault 2 = .ok (.iconst 1, 1) := by decide +kernel
theorem dX7_fault_3 : decode cX7_fault 3 = .ok (.invokestatic 35, 3) := by decide +kernel
theorem dX7_fault_6 : decode cX7_fault 6 = .ok (.ifCond .ne 6, 3) := by decide +kernel
theorem dX7_fault_9 : decode cX7_fault 9 = .ok (.ldc 43, 2) := by decide +kernel
theorem dX7_fault_11 : decode cX7_fault 11 = .ok (.ireturn, 1) := by decide +kernel
theorem dX7_fault_12 : decode cX7_fault 12 = .ok (.aload_n 0, 1) := by decide +kernel
theorem dX7_fault_13 : decode cX7_fault 13 = .ok (.invokevirtual 160, 3) := by decide +kernel
theorem dX7_fault_16 : decode cX7_fault 16 = .ok (.istore_n 2, 1) := by decide +kernel
theorem dX7_fault_17 : decode cX7_fault 17 = .ok (.iload_n 2, 1) := by decide +kernel
theorem dX7_fault_18 : decode cX7_fault 18 = .ok (.ldc 100, 2) := by decide +kernel
theorem dX7_fault_20 : decode cX7_fault 20 = .ok (.if_icmp .eq 7, 3) := by decide +kernel
theorem dX7_fault_23 : decode cX7_fault 23 = .ok (.iload_n 1, 1) := by decide +kernel
theorem dX7_fault_24 : decode cX7_fault 24 = .ok (.ifCond .ne 7, 3) := by decide +kernel
theorem dX7_fault_27 : decode cX7_fault 27 = .ok (.iload_n 2, 1) := by decide +kernel
theorem dX7_fault_28 : decode cX7_fault 28 = .ok (.goto 7, 3) := by decide +kernel
theorem dX7_fault_31 : decode cX7_fault 31 = .ok (.aload_n 0, 1) := by decide +kernel
theorem dX7_fault_32 : decode cX7_fault 32 = .ok (.getfield 157, 3) := by decide +kernel
theorem dX7_fault_35 : decode cX7_fault 35 = .ok (.ireturn, 1) := by decide +kernel
set_option maxRecDepth 20000 in
theorem ggX7_play_X7_faulty : GoodIn wsX7_play wsX7_faulty := goodIn_r _ [10, 1, 3, 4, 11, 12, 13, 14, 9, 15, 16, 5, 17, 18, 19, 20, 21, 22, 23, 24, 25, 26, 27, 28, 29, 30, 31, 32, 33, 34, 35, 36, 37, 38, 39, 40, 41, 42, 43, 44, 45, 46, 47, 48, 49, 50, 51, 52, 53, 54, 55, 56, 57, 58, 59, 60, 61, 62, 63, 64, 65, 66, 67, 68, 69, 70, 71, 72, 73, 74, 75, 87, 88, 89, 90, 91, 92, 93, 94, 95, 96, 97, 98] (by decide +kernel) (by decide +kernel)
set_option maxRecDepth 20000 in
theorem gX7_play_X7_faulty : GoodIn wsX7_play (wsV RX7 160 RX7 yX7_faulty wsX7_faulty) := goodIn_app (goodIn_of _ (by decide +kernel)) ggX7_play_X7_faulty
set_option maxRecDepth 20000 in
theorem ggX7_play_X7_keeps : GoodIn wsX7_play wsX7_keeps := goodIn_r _ [79, 80, 5, 87, 88, 89, 90, 91, 92, 93, 94, 95, 96, 97, 98] (by decide +kernel) (by decide +kernel)
set_option maxRecDepth 20000 in
theorem gX7_play_X7_keeps : GoodIn wsX7_play (wsV RX7 57 RX7 yX7_keeps wsX7_keeps) := goodIn_app (goodIn_of _ (by decide +kernel)) ggX7_play_X7_keeps
set_option maxRecDepth 20000 in
theorem ggX7_play_X7_doesNext : GoodIn wsX7_play wsX7_doesNext := goodIn_r _ [20, 3, 21, 22, 23, 24, 25, 26, 9, 27, 4, 28, 29, 30, 31, 32, 33, 34, 35, 36, 37, 38, 39, 40, 41, 42, 43, 5, 44, 45, 46, 47, 48, 49, 50, 51, 52, 53, 54, 55, 56, 57, 58, 59, 60, 61, 62, 63, 64, 65, 66, 67, 68, 69, 70, 71, 87, 88, 89, 90, 91, 92, 93, 94, 95, 96, 97, 98] (by decide +kernel) (by decide +kernel)
set_option maxRecDepth 20000 in
theorem gX7_play_X7_doesNext : GoodIn wsX7_play (wsV RX7 154 RX7 yX7_doesNext wsX7_doesNext) := goodIn_app (goodIn_of _ (by decide +kernel)) ggX7_play_X7_doesNext
set_option maxRecDepth 20000 in
theorem ggX7_play_X7_acted : GoodIn wsX7_play wsX7_acted := goodIn_r _ [84, 22, 85, 86, 80, 87, 88, 89, 90, 91, 92, 93, 94, 95, 96, 97, 98] (by decide +kernel) (by decide +kernel)
set_option maxRecDepth 20000 in
theorem gX7_play_X7_acted : GoodIn wsX7_play (wsV RX7 63 RX7 yX7_acted wsX7_acted) := goodIn_app (goodIn_of _ (by decide +kernel)) ggX7_play_X7_acted
theorem dX7_play_0 : decode cX7_play 0 = .ok (.aload_n 0, 1) := by decide +kernel
theorem dX7_play_1 : decode cX7_play 1 = .ok (.invokevirtual 160, 3) := by decide +kernel
theorem dX7_play_4 : decode cX7_play 4 = .ok (.ldc 100, 2) := by decide +kernel
theorem dX7_play_6 : decode cX7_play 6 = .ok (.if_icmp .eq 6, 3) := by decide +kernel
theorem dX7_play_9 : decode cX7_play 9 = .ok (.ldc 99, 2) := by decide +kernel
theorem dX7_play_11 : decode cX7_play 11 = .ok (.ireturn, 1) := by decide +kernel
theorem dX7_play_12 : decode cX7_play 12 = .ok (.aload_n 0, 1) := by decide +kernel
theorem dX7_play_13 : decode cX7_play 13 = .ok (.invokevirtual 57, 3) := by decide +kernel
theorem dX7_play_16 : decode cX7_play 16 = .ok (.aload_n 0, 1) := by decide +kernel
theorem dX7_play_17 : decode cX7_play 17 = .ok (.iconst 0, 1) := by decide +kernel
theorem dX7_play_18 : decode cX7_play 18 = .ok (.putfield 142, 3) := by decide +kernel
theorem dX7_play_21 : decode cX7_play 21 = .ok (.aload_n 0, 1) := by decide +kernel
theorem dX7_play_22 : decode cX7_play 22 = .ok (.getfield 142, 3) := by decide +kernel
theorem dX7_play_25 : decode cX7_play 25 = .ok (.aload_n 0, 1) := by decide +kernel
theorem dX7_play_26 : decode cX7_play 26 = .ok (.getfield 139, 3) := by decide +kernel
theorem dX7_play_29 : decode cX7_play 29 = .ok (.if_icmp .ge 11, 3) := by decide +kernel
theorem dX7_play_32 : decode cX7_play 32 = .ok (.aload_n 0, 1) := by decide +kernel
theorem dX7_play_33 : decode cX7_play 33 = .ok (.invokevirtual 154, 3) := by decide +kernel
theorem dX7_play_36 : decode cX7_play 36 = .ok (.pop, 1) := by decide +kernel
theorem dX7_play_37 : decode cX7_play 37 = .ok (.goto (-16), 3) := by decide +kernel
theorem dX7_play_40 : decode cX7_play 40 = .ok (.aload_n 0, 1) := by decide +kernel
theorem dX7_play_41 : decode cX7_play 41 = .ok (.aload_n 0, 1) := by decide +kernel
theorem dX7_play_42 : decode cX7_play 42 = .ok (.getfield 7, 3) := by decide +kernel
theorem dX7_play_45 : decode cX7_play 45 = .ok (.iconst 0, 1) := by decide +kernel
theorem dX7_play_46 : decode cX7_play 46 = .ok (.iaload, 1) := by decide +kernel
theorem dX7_play_47 : decode cX7_play 47 = .ok (.invokevirtual 63, 3) := by decide +kernel
theorem dX7_play_50 : decode cX7_play 50 = .ok (.ireturn, 1) := by decide +kernel
theorem dJ6_bitCount_0f7a4_0 : decode cJ6_bitCount_0f7a4 0 = .ok (.iload_n 0, 1) := by decide +kernel
theorem dJ6_bitCount_0f7a4_1 : decode cJ6_bitCount_0f7a4 1 = .ok (.iload_n 0, 1) := by decide +kernel
theorem dJ6_bitCount_0f7a4_2 : decode cJ6_bitCount_0f7a4 2 = .ok (.iconst 1, 1) := by decide +kernel
theorem dJ6_bitCount_0f7a4_3 : decode cJ6_bitCount_0f7a4 3 = .ok (.iushr, 1) := by decide +kernel
theorem dJ6_bitCount_0f7a4_4 : decode cJ6_bitCount_0f7a4 4 = .ok (.ldc_w 265, 3) := by decide +kernel
theorem dJ6_bitCount_0f7a4_7 : decode cJ6_bitCount_0f7a4 7 = .ok (.iand, 1) := by decide +kernel
theorem dJ6_bitCount_0f7a4_8 : decode cJ6_bitCount_0f7a4 8 = .ok (.isub, 1) := by decide +kernel
theorem dJ6_bitCount_0f7a4_9 : decode cJ6_bitCount_0f7a4 9 = .ok (.istore_n 0, 1) := by decide +kernel
theorem dJ6_bitCount_0f7a4_10 : decode cJ6_bitCount_0f7a4 10 = .ok (.iload_n 0, 1) := by decide +kernel
theorem dJ6_bitCount_0f7a4_11 : decode cJ6_bitCount_0f7a4 11 = .ok (.ldc_w 266, 3) := by decide +kernel
theorem dJ6_bitCount_0f7a4_14 : decode cJ6_bitCount_0f7a4 14 = .ok (.iand, 1) := by decide +kernel
theorem dJ6_bitCount_0f7a4_15 : decode cJ6_bitCount_0f7a4 15 = .ok (.iload_n 0, 1) := by decide +kernel
theorem dJ6_bitCount_0f7a4_16 : decode cJ6_bitCount_0f7a4 16 = .ok (.iconst 2, 1) := by decide +kernel
theorem dJ6_bitCount_0f7a4_17 : decode cJ6_bitCount_0f7a4 17 = .ok (.iushr, 1) := by decide +kernel
theorem dJ6_bitCount_0f7a4_18 : decode cJ6_bitCount_0f7a4 18 = .ok (.ldc_w 266, 3) := by decide +kernel
theorem dJ6_bitCount_0f7a4_21 : decode cJ6_bitCount_0f7a4 21 = .ok (.iand, 1) := by decide +kernel
theorem dJ6_bitCount_0f7a4_22 : decode cJ6_bitCount_0f7a4 22 = .ok (.iadd, 1) := by decide +kernel
theorem dJ6_bitCount_0f7a4_23 : decode cJ6_bitCount_0f7a4 23 = .ok (.istore_n 0, 1) := by decide +kernel
theorem dJ6_bitCount_0f7a4_24 : decode cJ6_bitCount_0f7a4 24 = .ok (.iload_n 0, 1) := by decide +kernel
theorem dJ6_bitCount_0f7a4_25 : decode cJ6_bitCount_0f7a4 25 = .ok (.iload_n 0, 1) := by decide +kernel
theorem dJ6_bitCount_0f7a4_26 : decode cJ6_bitCount_0f7a4 26 = .ok (.iconst 4, 1) := by decide +kernel
theorem dJ6_bitCount_0f7a4_27 : decode cJ6_bitCount_0f7a4 27 = .ok (.iushr, 1) := by decide +kernel
theorem dJ6_bitCount_0f7a4_28 : decode cJ6_bitCount_0f7a4 28 = .ok (.iadd, 1) := by decide +kernel
theorem dJ6_bitCount_0f7a4_29 : decode cJ6_bitCount_0f7a4 29 = .ok (.ldc_w 267, 3) := by decide +kernel
theorem dJ6_bitCount_0f7a4_32 : decode cJ6_bitCount_0f7a4 32 = .ok (.iand, 1) := by decide +kernel
theorem dJ6_bitCount_0f7a4_33 : decode cJ6_bitCount_0f7a4 33 = .ok (.istore_n 0, 1) := by decide +kernel
theorem dJ6_bitCount_0f7a4_34 : decode cJ6_bitCount_0f7a4 34 = .ok (.iload_n 0, 1) := by decide +kernel
theorem dJ6_bitCount_0f7a4_35 : decode cJ6_bitCount_0f7a4 35 = .ok (.iload_n 0, 1) := by decide +kernel
theorem dJ6_bitCount_0f7a4_36 : decode cJ6_bitCount_0f7a4 36 = .ok (.bipush 8, 2) := by decide +kernel
theorem dJ6_bitCount_0f7a4_38 : decode cJ6_bitCount_0f7a4 38 = .ok (.iushr, 1) := by decide +kernel
theorem dJ6_bitCount_0f7a4_39 : decode cJ6_bitCount_0f7a4 39 = .ok (.iadd, 1) := by decide +kernel
theorem dJ6_bitCount_0f7a4_40 : decode cJ6_bitCount_0f7a4 40 = .ok (.istore_n 0, 1) := by decide +kernel
theorem dJ6_bitCount_0f7a4_41 : decode cJ6_bitCount_0f7a4 41 = .ok (.iload_n 0, 1) := by decide +kernel
theorem dJ6_bitCount_0f7a4_42 : decode cJ6_bitCount_0f7a4 42 = .ok (.iload_n 0, 1) := by decide +kernel
theorem dJ6_bitCount_0f7a4_43 : decode cJ6_bitCount_0f7a4 43 = .ok (.bipush 16, 2) := by decide +kernel
theorem dJ6_bitCount_0f7a4_45 : decode cJ6_bitCount_0f7a4 45 = .ok (.iushr, 1) := by decide +kernel
theorem dJ6_bitCount_0f7a4_46 : decode cJ6_bitCount_0f7a4 46 = .ok (.iadd, 1) := by decide +kernel
theorem dJ6_bitCount_0f7a4_47 : decode cJ6_bitCount_0f7a4 47 = .ok (.istore_n 0, 1) := by decide +kernel
theorem dJ6_bitCount_0f7a4_48 : decode cJ6_bitCount_0f7a4 48 = .ok (.iload_n 0, 1) := by decide +kernel
theorem dJ6_bitCount_0f7a4_49 : decode cJ6_bitCount_0f7a4 49 = .ok (.bipush 63, 2) := by decide +kernel
theorem dJ6_bitCount_0f7a4_51 : decode cJ6_bitCount_0f7a4 51 = .ok (.iand, 1) := by decide +kernel
theorem dJ6_bitCount_0f7a4_52 : decode cJ6_bitCount_0f7a4 52 = .ok (.ireturn, 1) := by decide +kernel
theorem dJ9_abs_0f7a4_0 : decode cJ9_abs_0f7a4 0 = .ok (.iload_n 0, 1) := by decide +kernel
theorem dJ9_abs_0f7a4_1 : decode cJ9_abs_0f7a4 1 = .ok (.ifCond .ge 8, 3) := by decide +kernel
theorem dJ9_abs_0f7a4_4 : decode cJ9_abs_0f7a4 4 = .ok (.iload_n 0, 1) := by decide +kernel
theorem dJ9_abs_0f7a4_5 : decode cJ9_abs_0f7a4 5 = .ok (.ineg, 1) := by decide +kernel
theorem dJ9_abs_0f7a4_6 : decode cJ9_abs_0f7a4 6 = .ok (.goto 4, 3) := by decide +kernel
theorem dJ9_abs_0f7a4_9 : decode cJ9_abs_0f7a4 9 = .ok (.iload_n 0, 1) := by decide +kernel
theorem dJ9_abs_0f7a4_10 : decode cJ9_abs_0f7a4 10 = .ok (.ireturn, 1) := by decide +kernel
