theorem dX7_init_0 : decode cX7_init 0 = .ok (.aload_n 0, 1) := by decide +kernel
theorem dX7_init_1 : decode cX7_init 1 = .ok (.invokespecial 1, 3) := by decide +kernel
theorem dX7_init_4 : decode cX7_init 4 = .ok (.aload_n 0, 1) := by decide +kernel
theorem dX7_init_5 : decode cX7_init 5 = .ok (.bipush 90, 2) := by decide +kernel
theorem dX7_init_7 : decode cX7_init 7 = .ok (.newarray .int, 2) := by decide +kernel
theorem dX7_init_9 : decode cX7_init 9 = .ok (.putfield 7, 3) := by decide +kernel
theorem dX7_init_12 : decode cX7_init 12 = .ok (.aload_n 0, 1) := by decide +kernel
theorem dX7_init_13 : decode cX7_init 13 = .ok (.sipush 360, 3) := by decide +kernel
theorem dX7_init_16 : decode cX7_init 16 = .ok (.newarray .int, 2) := by decide +kernel
theorem dX7_init_18 : decode cX7_init 18 = .ok (.putfield 13, 3) := by decide +kernel
theorem dX7_init_21 : decode cX7_init 21 = .ok (.aload_n 0, 1) := by decide +kernel
theorem dX7_init_22 : decode cX7_init 22 = .ok (.bipush 90, 2) := by decide +kernel
theorem dX7_init_24 : decode cX7_init 24 = .ok (.newarray .int, 2) := by decide +kernel
theorem dX7_init_26 : decode cX7_init 26 = .ok (.putfield 16, 3) := by decide +kernel
theorem dX7_init_29 : decode cX7_init 29 = .ok (.aload_n 0, 1) := by decide +kernel
theorem dX7_init_30 : decode cX7_init 30 = .ok (.bipush 90, 2) := by decide +kernel
theorem dX7_init_32 : decode cX7_init 32 = .ok (.newarray .int, 2) := by decide +kernel
theorem dX7_init_34 : decode cX7_init 34 = .ok (.putfield 19, 3) := by decide +kernel
theorem dX7_init_37 : decode cX7_init 37 = .ok (.aload_n 0, 1) := by decide +kernel
theorem dX7_init_38 : decode cX7_init 38 = .ok (.bipush 60, 2) := by decide +kernel
theorem dX7_init_40 : decode cX7_init 40 = .ok (.newarray .char, 2) := by decide +kernel
theorem dX7_init_42 : decode cX7_init 42 = .ok (.putfield 22, 3) := by decide +kernel
theorem dX7_init_45 : decode cX7_init 45 = .ok (.aload_n 0, 1) := by decide +kernel
theorem dX7_init_46 : decode cX7_init 46 = .ok (.iconst 3, 1) := by decide +kernel
theorem dX7_init_47 : decode cX7_init 47 = .ok (.newarray .int, 2) := by decide +kernel
theorem dX7_init_49 : decode cX7_init 49 = .ok (.putfield 26, 3) := by decide +kernel
theorem dX7_init_52 : decode cX7_init 52 = .ok (.aload_n 0, 1) := by decide +kernel
theorem dX7_init_53 : decode cX7_init 53 = .ok (.bipush 40, 2) := by decide +kernel
theorem dX7_init_55 : decode cX7_init 55 = .ok (.newarray .int, 2) := by decide +kernel
theorem dX7_init_57 : decode cX7_init 57 = .ok (.putfield 29, 3) := by decide +kernel
theorem dX7_init_60 : decode cX7_init 60 = .ok (.aload_n 0, 1) := by decide +kernel
theorem dX7_init_61 : decode cX7_init 61 = .ok (.bipush 6, 2) := by decide +kernel
theorem dX7_init_63 : decode cX7_init 63 = .ok (.newarray .int, 2) := by decide +kernel
theorem dX7_init_65 : decode cX7_init 65 = .ok (.putfield 32, 3) := by decide +kernel
theorem dX7_init_68 : decode cX7_init 68 = .ok (.aload_n 0, 1) := by decide +kernel
theorem dX7_init_69 : decode cX7_init 69 = .ok (.getfield 7, 3) := by decide +kernel
theorem dX7_init_72 : decode cX7_init 72 = .ok (.iconst 3, 1) := by decide +kernel
theorem dX7_init_73 : decode cX7_init 73 = .ok (.bipush 6, 2) := by decide +kernel
theorem dX7_init_75 : decode cX7_init 75 = .ok (.iastore, 1) := by decide +kernel
theorem dX7_init_76 : decode cX7_init 76 = .ok (.aload_n 0, 1) := by decide +kernel
theorem dX7_init_77 : decode cX7_init 77 = .ok (.getfield 7, 3) := by decide +kernel
theorem dX7_init_80 : decode cX7_init 80 = .ok (.iconst 4, 1) := by decide +kernel
theorem dX7_init_81 : decode cX7_init 81 = .ok (.iconst 3, 1) := by decide +kernel
theorem dX7_init_82 : decode cX7_init 82 = .ok (.iastore, 1) := by decide +kernel
theorem dX7_init_83 : decode cX7_init 83 = .ok (.aload_n 0, 1) := by decide +kernel
theorem dX7_init_84 : decode cX7_init 84 = .ok (.getfield 7, 3) := by decide +kernel
theorem dX7_init_87 : decode cX7_init 87 = .ok (.iconst 5, 1) := by decide +kernel
theorem dX7_init_88 : decode cX7_init 88 = .ok (.iconst 1, 1) := by decide +kernel
theorem dX7_init_89 : decode cX7_init 89 = .ok (.iastore, 1) := by decide +kernel
theorem dX7_init_90 : decode cX7_init 90 = .ok (.aload_n 0, 1) := by decide +kernel
theorem dX7_init_91 : decode cX7_init 91 = .ok (.getfield 7, 3) := by decide +kernel
theorem dX7_init_94 : decode cX7_init 94 = .ok (.bipush 6, 2) := by decide +kernel
theorem dX7_init_96 : decode cX7_init 96 = .ok (.iconst 5, 1) := by decide +kernel
theorem dX7_init_97 : decode cX7_init 97 = .ok (.iastore, 1) := by decide +kernel
theorem dX7_init_98 : decode cX7_init 98 = .ok (.aload_n 0, 1) := by decide +kernel
theorem dX7_init_99 : decode cX7_init 99 = .ok (.getfield 7, 3) := by decide +kernel
theorem dX7_init_102 : decode cX7_init 102 = .ok (.bipush 7, 2) := by decide +kernel
theorem dX7_init_104 : decode cX7_init 104 = .ok (.iconst 2, 1) := by decide +kernel
theorem dX7_init_105 : decode cX7_init 105 = .ok (.iastore, 1) := by decide +kernel
theorem dX7_init_106 : decode cX7_init 106 = .ok (.return_, 1) := by decide +kernel
theorem dX7_in_0 : decode cX7_in 0 = .ok (.iload_n 0, 1) := by decide +kernel
theorem dX7_in_1 : decode cX7_in 1 = .ok (.iload_n 1, 1) := by decide +kernel
theorem dX7_in_2 : decode cX7_in 2 = .ok (.if_icmp .lt 12, 3) := by decide +kernel
theorem dX7_in_5 : decode cX7_in 5 = .ok (.iload_n 0, 1) := by decide +kernel
theorem dX7_in_6 : decode cX7_in 6 = .ok (.iload_n 2, 1) := by decide +kernel
theorem dX7_in_7 : decode cX7_in 7 = .ok (.if_icmp .gt 7, 3) := by decide +kernel
theorem dX7_in_10 : decode cX7_in 10 = .ok (.iconst 1, 1) := by decide +kernel
theorem dX7_in_11 : decode cX7_in 11 = .ok (.goto 4, 3) := by decide +kernel
theorem dX7_in_14 : decode cX7_in 14 = .ok (.iconst 0, 1) := by decide +kernel
theorem dX7_in_15 : decode cX7_in 15 = .ok (.ireturn, 1) := by decide +kernel
theorem dX7_an_0 : decode cX7_an 0 = .ok (.aload_n 0, 1) := by decide +kernel
theorem dX7_an_1 : decode cX7_an 1 = .ok (.getfield 7, 3) := by decide +kernel
theorem dX7_an_4 : decode cX7_an 4 = .ok (.bipush 48, 2) := by decide +kernel
theorem dX7_an_6 : decode cX7_an 6 = .ok (.bipush 7, 2) := by decide +kernel
theorem dX7_an_8 : decode cX7_an 8 = .ok (.iload_n 1, 1) := by decide +kernel
theorem dX7_an_9 : decode cX7_an 9 = .ok (.imul, 1) := by decide +kernel
theorem dX7_an_10 : decode cX7_an 10 = .ok (.iadd, 1) := by decide +kernel
theorem dX7_an_11 : decode cX7_an 11 = .ok (.iload_n 2, 1) := by decide +kernel
theorem dX7_an_12 : decode cX7_an 12 = .ok (.iadd, 1) := by decide +kernel
theorem dX7_an_13 : decode cX7_an 13 = .ok (.iaload, 1) := by decide +kernel
theorem dX7_an_14 : decode cX7_an 14 = .ok (.ireturn, 1) := by decide +kernel
set_option maxRecDepth 20000 in
theorem ggX7_isPlace_X7_in : GoodIn wsX7_isPlace wsX7_in := goodIn_r _ [5] (by decide +kernel) (by decide +kernel)
set_option maxRecDepth 20000 in
theorem gX7_isPlace_X7_in : GoodIn wsX7_isPlace (va_wsS RX7 35 yX7_in wsX7_in) := goodIn_app (goodIn_of _ (by decide +kernel)) ggX7_isPlace_X7_in
theorem dX7_isPlace_0 : decode cX7_isPlace 0 = .ok (.iload_n 1, 1) := by decide +kernel
theorem dX7_isPlace_1 : decode cX7_isPlace 1 = .ok (.iconst 0, 1) := by decide +kernel
theorem dX7_isPlace_2 : decode cX7_isPlace 2 = .ok (.aload_n 0, 1) := by decide +kernel
theorem dX7_isPlace_3 : decode cX7_isPlace 3 = .ok (.getfield 7, 3) := by decide +kernel
theorem dX7_isPlace_6 : decode cX7_isPlace 6 = .ok (.iconst 0, 1) := by decide +kernel
theorem dX7_isPlace_7 : decode cX7_isPlace 7 = .ok (.iaload, 1) := by decide +kernel
theorem dX7_isPlace_8 : decode cX7_isPlace 8 = .ok (.iconst 1, 1) := by decide +kernel
theorem dX7_isPlace_9 : decode cX7_isPlace 9 = .ok (.isub, 1) := by decide +kernel
theorem dX7_isPlace_10 : decode cX7_isPlace 10 = .ok (.invokestatic 35, 3) := by decide +kernel
theorem dX7_isPlace_13 : decode cX7_isPlace 13 = .ok (.ireturn, 1) := by decide +kernel
set_option maxRecDepth 20000 in
theorem ggX7_isAnchor_X7_in : GoodIn wsX7_isAnchor wsX7_in := goodIn_r _ [5] (by decide +kernel) (by decide +kernel)
set_option maxRecDepth 20000 in
theorem gX7_isAnchor_X7_in : GoodIn wsX7_isAnchor (va_wsS RX7 35 yX7_in wsX7_in) := goodIn_app (goodIn_of _ (by decide +kernel)) ggX7_isAnchor_X7_in
theorem dX7_isAnchor_0 : decode cX7_isAnchor 0 = .ok (.iload_n 1, 1) := by decide +kernel
theorem dX7_isAnchor_1 : decode cX7_isAnchor 1 = .ok (.iconst 0, 1) := by decide +kernel
theorem dX7_isAnchor_2 : decode cX7_isAnchor 2 = .ok (.aload_n 0, 1) := by decide +kernel
theorem dX7_isAnchor_3 : decode cX7_isAnchor 3 = .ok (.getfield 7, 3) := by decide +kernel
theorem dX7_isAnchor_6 : decode cX7_isAnchor 6 = .ok (.iconst 1, 1) := by decide +kernel
theorem dX7_isAnchor_7 : decode cX7_isAnchor 7 = .ok (.iaload, 1) := by decide +kernel
theorem dX7_isAnchor_8 : decode cX7_isAnchor 8 = .ok (.iconst 1, 1) := by decide +kernel
theorem dX7_isAnchor_9 : decode cX7_isAnchor 9 = .ok (.isub, 1) := by decide +kernel
theorem dX7_isAnchor_10 : decode cX7_isAnchor 10 = .ok (.invokestatic 35, 3) := by decide +kernel
theorem dX7_isAnchor_13 : decode cX7_isAnchor 13 = .ok (.ireturn, 1) := by decide +kernel
set_option maxRecDepth 20000 in
theorem ggX7_word_X7_isPlace : GoodIn wsX7_word wsX7_isPlace := goodIn_r _ [6, 1, 7, 8, 5, 9, 10, 11, 12, 13, 14, 15, 16, 17, 18, 19, 20, 21] (by decide +kernel) (by decide +kernel)
set_option maxRecDepth 20000 in
theorem gX7_word_X7_isPlace : GoodIn wsX7_word (wsV RX7 39 RX7 yX7_isPlace wsX7_isPlace) := goodIn_app (goodIn_of _ (by decide +kernel)) ggX7_word_X7_isPlace
theorem dX7_word_0 : decode cX7_word 0 = .ok (.aload_n 0, 1) := by decide +kernel
theorem dX7_word_1 : decode cX7_word 1 = .ok (.iload_n 1, 1) := by decide +kernel
theorem dX7_word_2 : decode cX7_word 2 = .ok (.invokevirtual 39, 3) := by decide +kernel
theorem dX7_word_5 : decode cX7_word 5 = .ok (.ifCond .eq 15, 3) := by decide +kernel
theorem dX7_word_8 : decode cX7_word 8 = .ok (.aload_n 0, 1) := by decide +kernel
theorem dX7_word_9 : decode cX7_word 9 = .ok (.getfield 7, 3) := by decide +kernel
theorem dX7_word_12 : decode cX7_word 12 = .ok (.bipush 8, 2) := by decide +kernel
theorem dX7_word_14 : decode cX7_word 14 = .ok (.iload_n 1, 1) := by decide +kernel
theorem dX7_word_15 : decode cX7_word 15 = .ok (.iadd, 1) := by decide +kernel
theorem dX7_word_16 : decode cX7_word 16 = .ok (.iaload, 1) := by decide +kernel
theorem dX7_word_17 : decode cX7_word 17 = .ok (.goto 4, 3) := by decide +kernel
theorem dX7_word_20 : decode cX7_word 20 = .ok (.iconst (-1), 1) := by decide +kernel
theorem dX7_word_21 : decode cX7_word 21 = .ok (.ireturn, 1) := by decide +kernel
theorem dX7_keeps_0 : decode cX7_keeps 0 = .ok (.iconst 0, 1) := by decide +kernel
theorem dX7_keeps_1 : decode cX7_keeps 1 = .ok (.istore_n 1, 1) := by decide +kernel
theorem dX7_keeps_2 : decode cX7_keeps 2 = .ok (.iload_n 1, 1) := by decide +kernel
theorem dX7_keeps_3 : decode cX7_keeps 3 = .ok (.bipush 90, 2) := by decide +kernel
theorem dX7_keeps_5 : decode cX7_keeps 5 = .ok (.if_icmp .ge 21, 3) := by decide +kernel
theorem dX7_keeps_8 : decode cX7_keeps 8 = .ok (.aload_n 0, 1) := by decide +kernel
theorem dX7_keeps_9 : decode cX7_keeps 9 = .ok (.getfield 16, 3) := by decide +kernel
theorem dX7_keeps_12 : decode cX7_keeps 12 = .ok (.iload_n 1, 1) := by decide +kernel
theorem dX7_keeps_13 : decode cX7_keeps 13 = .ok (.aload_n 0, 1) := by decide +kernel
theorem dX7_keeps_14 : decode cX7_keeps 14 = .ok (.getfield 7, 3) := by decide +kernel
theorem dX7_keeps_17 : decode cX7_keeps 17 = .ok (.iload_n 1, 1) := by decide +kernel
theorem dX7_keeps_18 : decode cX7_keeps 18 = .ok (.iaload, 1) := by decide +kernel
theorem dX7_keeps_19 : decode cX7_keeps 19 = .ok (.iastore, 1) := by decide +kernel
theorem dX7_keeps_20 : decode cX7_keeps 20 = .ok (.iinc 1 1, 3) := by decide +kernel
theorem dX7_keeps_23 : decode cX7_keeps 23 = .ok (.goto (-21), 3) := by decide +kernel
theorem dX7_keeps_26 : decode cX7_keeps 26 = .ok (.return_, 1) := by decide +kernel
theorem dX7_acted_0 : decode cX7_acted 0 = .ok (.iload_n 1, 1) := by decide +kernel
theorem dX7_acted_1 : decode cX7_acted 1 = .ok (.ldc 43, 2) := by decide +kernel
theorem dX7_acted_3 : decode cX7_acted 3 = .ok (.if_icmp .le 95, 3) := by decide +kernel
theorem dX7_acted_6 : decode cX7_acted 6 = .ok (.aload_n 0, 1) := by decide +kernel
theorem dX7_acted_7 : decode cX7_acted 7 = .ok (.getfield 44, 3) := by decide +kernel
theorem dX7_acted_10 : decode cX7_acted 10 = .ok (.iconst 4, 1) := by decide +kernel
theorem dX7_acted_11 : decode cX7_acted 11 = .ok (.if_icmp .ne 43, 3) := by decide +kernel
theorem dX7_acted_14 : decode cX7_acted 14 = .ok (.iconst 0, 1) := by decide +kernel
theorem dX7_acted_15 : decode cX7_acted 15 = .ok (.istore_n 2, 1) := by decide +kernel
theorem dX7_acted_16 : decode cX7_acted 16 = .ok (.iload_n 2, 1) := by decide +kernel
theorem dX7_acted_17 : decode cX7_acted 17 = .ok (.sipush 270, 3) := by decide +kernel
theorem dX7_acted_20 : decode cX7_acted 20 = .ok (.if_icmp .ge 24, 3) := by decide +kernel
theorem dX7_acted_23 : decode cX7_acted 23 = .ok (.aload_n 0, 1) := by decide +kernel
theorem dX7_acted_24 : decode cX7_acted 24 = .ok (.getfield 13, 3) := by decide +kernel
theorem dX7_acted_27 : decode cX7_acted 27 = .ok (.iload_n 2, 1) := by decide +kernel
theorem dX7_acted_28 : decode cX7_acted 28 = .ok (.aload_n 0, 1) := by decide +kernel
theorem dX7_acted_29 : decode cX7_acted 29 = .ok (.getfield 13, 3) := by decide +kernel
theorem dX7_acted_32 : decode cX7_acted 32 = .ok (.iload_n 2, 1) := by decide +kernel
theorem dX7_acted_33 : decode cX7_acted 33 = .ok (.bipush 90, 2) := by decide +kernel
theorem dX7_acted_35 : decode cX7_acted 35 = .ok (.iadd, 1) := by decide +kernel
theorem dX7_acted_36 : decode cX7_acted 36 = .ok (.iaload, 1) := by decide +kernel
theorem dX7_acted_37 : decode cX7_acted 37 = .ok (.iastore, 1) := by decide +kernel
theorem dX7_acted_38 : decode cX7_acted 38 = .ok (.iinc 2 1, 3) := by decide +kernel
theorem dX7_acted_41 : decode cX7_acted 41 = .ok (.goto (-25), 3) := by decide +kernel
theorem dX7_acted_44 : decode cX7_acted 44 = .ok (.aload_n 0, 1) := by decide +kernel
theorem dX7_acted_45 : decode cX7_acted 45 = .ok (.dup, 1) := by decide +kernel
theorem dX7_acted_46 : decode cX7_acted 46 = .ok (.getfield 44, 3) := by decide +kernel
theorem dX7_acted_49 : decode cX7_acted 49 = .ok (.iconst 1, 1) := by decide +kernel
theorem dX7_acted_50 : decode cX7_acted 50 = .ok (.isub, 1) := by decide +kernel
theorem dX7_acted_51 : decode cX7_acted 51 = .ok (.putfield 44, 3) := by decide +kernel
theorem dX7_acted_54 : decode cX7_acted 54 = .ok (.iconst 0, 1) := by decide +kernel
theorem dX7_acted_55 : decode cX7_acted 55 = .ok (.istore_n 2, 1) := by decide +kernel
theorem dX7_acted_56 : decode cX7_acted 56 = .ok (.iload_n 2, 1) := by decide +kernel
theorem dX7_acted_57 : decode cX7_acted 57 = .ok (.bipush 90, 2) := by decide +kernel
theorem dX7_acted_59 : decode cX7_acted 59 = .ok (.if_icmp .ge 29, 3) := by decide +kernel
theorem dX7_acted_62 : decode cX7_acted 62 = .ok (.aload_n 0, 1) := by decide +kernel
theorem dX7_acted_63 : decode cX7_acted 63 = .ok (.getfield 13, 3) := by decide +kernel
theorem dX7_acted_66 : decode cX7_acted 66 = .ok (.bipush 90, 2) := by decide +kernel
theorem dX7_acted_68 : decode cX7_acted 68 = .ok (.aload_n 0, 1) := by decide +kernel
theorem dX7_acted_69 : decode cX7_acted 69 = .ok (.getfield 44, 3) := by decide +kernel
theorem dX7_acted_72 : decode cX7_acted 72 = .ok (.imul, 1) := by decide +kernel
theorem dX7_acted_73 : decode cX7_acted 73 = .ok (.iload_n 2, 1) := by decide +kernel
theorem dX7_acted_74 : decode cX7_acted 74 = .ok (.iadd, 1) := by decide +kernel
theorem dX7_acted_75 : decode cX7_acted 75 = .ok (.aload_n 0, 1) := by decide +kernel
theorem dX7_acted_76 : decode cX7_acted 76 = .ok (.getfield 16, 3) := by decide +kernel
theorem dX7_acted_79 : decode cX7_acted 79 = .ok (.iload_n 2, 1) := by decide +kernel
theorem dX7_acted_80 : decode cX7_acted 80 = .ok (.iaload, 1) := by decide +kernel
theorem dX7_acted_81 : decode cX7_acted 81 = .ok (.iastore, 1) := by decide +kernel
theorem dX7_acted_82 : decode cX7_acted 82 = .ok (.iinc 2 1, 3) := by decide +kernel
theorem dX7_acted_85 : decode cX7_acted 85 = .ok (.goto (-29), 3) := by decide +kernel
theorem dX7_acted_88 : decode cX7_acted 88 = .ok (.aload_n 0, 1) := by decide +kernel
theorem dX7_acted_89 : decode cX7_acted 89 = .ok (.dup, 1) := by decide +kernel
theorem dX7_acted_90 : decode cX7_acted 90 = .ok (.getfield 44, 3) := by decide +kernel
theorem dX7_acted_93 : decode cX7_acted 93 = .ok (.iconst 1, 1) := by decide +kernel
theorem dX7_acted_94 : decode cX7_acted 94 = .ok (.iadd, 1) := by decide +kernel
theorem dX7_acted_95 : decode cX7_acted 95 = .ok (.putfield 44, 3) := by decide +kernel
theorem dX7_acted_98 : decode cX7_acted 98 = .ok (.iload_n 1, 1) := by decide +kernel
theorem dX7_acted_99 : decode cX7_acted 99 = .ok (.ireturn, 1) := by decide +kernel
theorem dX7_lays_0 : decode cX7_lays 0 = .ok (.iconst 0, 1) := by decide +kernel
theorem dX7_lays_1 : decode cX7_lays 1 = .ok (.istore_n 1, 1) := by decide +kernel
theorem dX7_lays_2 : decode cX7_lays 2 = .ok (.iload_n 1, 1) := by decide +kernel
theorem dX7_lays_3 : decode cX7_lays 3 = .ok (.bipush 90, 2) := by decide +kernel
theorem dX7_lays_5 : decode cX7_lays 5 = .ok (.if_icmp .ge 21, 3) := by decide +kernel
theorem dX7_lays_8 : decode cX7_lays 8 = .ok (.aload_n 0, 1) := by decide +kernel
theorem dX7_lays_9 : decode cX7_lays 9 = .ok (.getfield 19, 3) := by decide +kernel
theorem dX7_lays_12 : decode cX7_lays 12 = .ok (.iload_n 1, 1) := by decide +kernel
theorem dX7_lays_13 : decode cX7_lays 13 = .ok (.aload_n 0, 1) := by decide +kernel
theorem dX7_lays_14 : decode cX7_lays 14 = .ok (.getfield 7, 3) := by decide +kernel
theorem dX7_lays_17 : decode cX7_lays 17 = .ok (.iload_n 1, 1) := by decide +kernel
theorem dX7_lays_18 : decode cX7_lays 18 = .ok (.iaload, 1) := by decide +kernel
theorem dX7_lays_19 : decode cX7_lays 19 = .ok (.iastore, 1) := by decide +kernel
theorem dX7_lays_20 : decode cX7_lays 20 = .ok (.iinc 1 1, 3) := by decide +kernel
theorem dX7_lays_23 : decode cX7_lays 23 = .ok (.goto (-21), 3) := by decide +kernel
theorem dX7_lays_26 : decode cX7_lays 26 = .ok (.return_, 1) := by decide +kernel
theorem dX7_restores_0 : decode cX7_restores 0 = .ok (.iconst 0, 1) := by decide +kernel
theorem dX7_restores_1 : decode cX7_restores 1 = .ok (.istore_n 1, 1) := by decide +kernel
theorem dX7_restores_2 : decode cX7_restores 2 = .ok (.iload_n 1, 1) := by decide +kernel
theorem dX7_restores_3 : decode cX7_restores 3 = .ok (.bipush 90, 2) := by decide +kernel
theorem dX7_restores_5 : decode cX7_restores 5 = .ok (.if_icmp .ge 21, 3) := by decide +kernel
theorem dX7_restores_8 : decode cX7_restores 8 = .ok (.aload_n 0, 1) := by decide +kernel
theorem dX7_restores_9 : decode cX7_restores 9 = .ok (.getfield 7, 3) := by decide +kernel
theorem dX7_restores_12 : decode cX7_restores 12 = .ok (.iload_n 1, 1) := by decide +kernel
theorem dX7_restores_13 : decode cX7_restores 13 = .ok (.aload_n 0, 1) := by decide +kernel
theorem dX7_restores_14 : decode cX7_restores 14 = .ok (.getfield 19, 3) := by decide +kernel
theorem dX7_restores_17 : decode cX7_restores 17 = .ok (.iload_n 1, 1) := by decide +kernel
theorem dX7_restores_18 : decode cX7_restores 18 = .ok (.iaload, 1) := by decide +kernel
theorem dX7_restores_19 : decode cX7_restores 19 = .ok (.iastore, 1) := by decide +kernel
theorem dX7_restores_20 : decode cX7_restores 20 = .ok (.iinc 1 1, 3) := by decide +kernel
theorem dX7_restores_23 : decode cX7_restores 23 = .ok (.goto (-21), 3) := by decide +kernel
theorem dX7_restores_26 : decode cX7_restores 26 = .ok (.return_, 1) := by decide +kernel
set_option maxRecDepth 20000 in
theorem ggX7_follows_X7_an : GoodIn wsX7_follows wsX7_an := goodIn_r _ [6, 1, 7, 8, 9, 10, 11, 12, 13, 14, 15, 16, 17, 18] (by decide +kernel) (by decide +kernel)
set_option maxRecDepth 20000 in
theorem gX7_follows_X7_an : GoodIn wsX7_follows (wsV RX7 48 RX7 yX7_an wsX7_an) := goodIn_app (goodIn_of _ (by decide +kernel)) ggX7_follows_X7_an
theorem dX7_follows_0 : decode cX7_follows 0 = .ok (.iconst 0, 1) := by decide +kernel
theorem dX7_follows_1 : decode cX7_follows 1 = .ok (.istore 4, 2) := by decide +kernel
theorem dX7_follows_3 : decode cX7_follows 3 = .ok (.iload 4, 2) := by decide +kernel
theorem dX7_follows_5 : decode cX7_follows 5 = .ok (.aload_n 0, 1) := by decide +kernel
theorem dX7_follows_6 : decode cX7_follows 6 = .ok (.getfield 7, 3) := by decide +kernel
theorem dX7_follows_9 : decode cX7_follows 9 = .ok (.iconst 1, 1) := by decide +kernel
theorem dX7_follows_10 : decode cX7_follows 10 = .ok (.iaload, 1) := by decide +kernel
theorem dX7_follows_11 : decode cX7_follows 11 = .ok (.if_icmp .ge 75, 3) := by decide +kernel
theorem dX7_follows_14 : decode cX7_follows 14 = .ok (.aload_n 0, 1) := by decide +kernel
theorem dX7_follows_15 : decode cX7_follows 15 = .ok (.iload 4, 2) := by decide +kernel
theorem dX7_follows_17 : decode cX7_follows 17 = .ok (.iconst 1, 1) := by decide +kernel
theorem dX7_follows_18 : decode cX7_follows 18 = .ok (.invokevirtual 48, 3) := by decide +kernel
theorem dX7_follows_21 : decode cX7_follows 21 = .ok (.istore 5, 2) := by decide +kernel
theorem dX7_follows_23 : decode cX7_follows 23 = .ok (.iload 5, 2) := by decide +kernel
theorem dX7_follows_25 : decode cX7_follows 25 = .ok (.iload_n 1, 1) := by decide +kernel
theorem dX7_follows_26 : decode cX7_follows 26 = .ok (.if_icmp .ne 11, 3) := by decide +kernel
theorem dX7_follows_29 : decode cX7_follows 29 = .ok (.iload_n 3, 1) := by decide +kernel
theorem dX7_follows_30 : decode cX7_follows 30 = .ok (.ifCond .eq 7, 3) := by decide +kernel
theorem dX7_follows_33 : decode cX7_follows 33 = .ok (.iconst (-1), 1) := by decide +kernel
theorem dX7_follows_34 : decode cX7_follows 34 = .ok (.goto 18, 3) := by decide +kernel
theorem dX7_follows_37 : decode cX7_follows 37 = .ok (.iload 5, 2) := by decide +kernel
theorem dX7_follows_39 : decode cX7_follows 39 = .ok (.iload_n 1, 1) := by decide +kernel
theorem dX7_follows_40 : decode cX7_follows 40 = .ok (.if_icmp .lt 10, 3) := by decide +kernel
theorem dX7_follows_43 : decode cX7_follows 43 = .ok (.iload 5, 2) := by decide +kernel
theorem dX7_follows_45 : decode cX7_follows 45 = .ok (.iload_n 2, 1) := by decide +kernel
theorem dX7_follows_46 : decode cX7_follows 46 = .ok (.iadd, 1) := by decide +kernel
theorem dX7_follows_47 : decode cX7_follows 47 = .ok (.goto 5, 3) := by decide +kernel
theorem dX7_follows_50 : decode cX7_follows 50 = .ok (.iload 5, 2) := by decide +kernel
theorem dX7_follows_52 : decode cX7_follows 52 = .ok (.istore 6, 2) := by decide +kernel
theorem dX7_follows_54 : decode cX7_follows 54 = .ok (.aload_n 0, 1) := by decide +kernel
theorem dX7_follows_55 : decode cX7_follows 55 = .ok (.getfield 7, 3) := by decide +kernel
theorem dX7_follows_58 : decode cX7_follows 58 = .ok (.bipush 48, 2) := by decide +kernel
theorem dX7_follows_60 : decode cX7_follows 60 = .ok (.bipush 7, 2) := by decide +kernel
theorem dX7_follows_62 : decode cX7_follows 62 = .ok (.iload 4, 2) := by decide +kernel
theorem dX7_follows_64 : decode cX7_follows 64 = .ok (.imul, 1) := by decide +kernel
theorem dX7_follows_65 : decode cX7_follows 65 = .ok (.iadd, 1) := by decide +kernel
theorem dX7_follows_66 : decode cX7_follows 66 = .ok (.iconst 1, 1) := by decide +kernel
theorem dX7_follows_67 : decode cX7_follows 67 = .ok (.iadd, 1) := by decide +kernel
theorem dX7_follows_68 : decode cX7_follows 68 = .ok (.iload 5, 2) := by decide +kernel
theorem dX7_follows_70 : decode cX7_follows 70 = .ok (.ifCond .ge 7, 3) := by decide +kernel
theorem dX7_follows_73 : decode cX7_follows 73 = .ok (.iconst (-1), 1) := by decide +kernel
theorem dX7_follows_74 : decode cX7_follows 74 = .ok (.goto 5, 3) := by decide +kernel
theorem dX7_follows_77 : decode cX7_follows 77 = .ok (.iload 6, 2) := by decide +kernel
theorem dX7_follows_79 : decode cX7_follows 79 = .ok (.iastore, 1) := by decide +kernel
theorem dX7_follows_80 : decode cX7_follows 80 = .ok (.iinc 4 1, 3) := by decide +kernel
theorem dX7_follows_83 : decode cX7_follows 83 = .ok (.goto (-80), 3) := by decide +kernel
theorem dX7_follows_86 : decode cX7_follows 86 = .ok (.return_, 1) := by decide +kernel
set_option maxRecDepth 20000 in
theorem ggX7_puts_X7_in : GoodIn wsX7_puts wsX7_in := goodIn_r _ [7] (by decide +kernel) (by decide +kernel)
set_option maxRecDepth 20000 in
theorem gX7_puts_X7_in : GoodIn wsX7_puts (va_wsS RX7 35 yX7_in wsX7_in) := goodIn_app (goodIn_of _ (by decide +kernel)) ggX7_puts_X7_in
set_option maxRecDepth 20000 in
theorem ggX7_puts_X7_follows : GoodIn wsX7_puts wsX7_follows := goodIn_r _ [11, 1, 12, 13, 14, 6, 15, 16, 17, 18, 19, 20, 21, 22, 23, 24, 25, 26, 27] (by decide +kernel) (by decide +kernel)
set_option maxRecDepth 20000 in
theorem gX7_puts_X7_follows : GoodIn wsX7_puts (wsV RX7 53 RX7 yX7_follows wsX7_follows) := goodIn_app (goodIn_of _ (by decide +kernel)) ggX7_puts_X7_follows
theorem dX7_puts_0 : decode cX7_puts 0 = .ok (.iload_n 1, 1) := by decide +kernel
theorem dX7_puts_1 : decode cX7_puts 1 = .ok (.iconst 0, 1) := by decide +kernel
theorem dX7_puts_2 : decode cX7_puts 2 = .ok (.aload_n 0, 1) := by decide +kernel
theorem dX7_puts_3 : decode cX7_puts 3 = .ok (.getfield 7, 3) := by decide +kernel
theorem dX7_puts_6 : decode cX7_puts 6 = .ok (.iconst 0, 1) := by decide +kernel
theorem dX7_puts_7 : decode cX7_puts 7 = .ok (.iaload, 1) := by decide +kernel
theorem dX7_puts_8 : decode cX7_puts 8 = .ok (.invokestatic 35, 3) := by decide +kernel
theorem dX7_puts_11 : decode cX7_puts 11 = .ok (.ifCond .eq 13, 3) := by decide +kernel
theorem dX7_puts_14 : decode cX7_puts 14 = .ok (.iload_n 2, 1) := by decide +kernel
theorem dX7_puts_15 : decode cX7_puts 15 = .ok (.iconst 0, 1) := by decide +kernel
theorem dX7_puts_16 : decode cX7_puts 16 = .ok (.bipush 99, 2) := by decide +kernel
theorem dX7_puts_18 : decode cX7_puts 18 = .ok (.invokestatic 35, 3) := by decide +kernel
theorem dX7_puts_21 : decode cX7_puts 21 = .ok (.ifCond .ne 6, 3) := by decide +kernel
theorem dX7_puts_24 : decode cX7_puts 24 = .ok (.ldc 43, 2) := by decide +kernel
theorem dX7_puts_26 : decode cX7_puts 26 = .ok (.ireturn, 1) := by decide +kernel
theorem dX7_puts_27 : decode cX7_puts 27 = .ok (.aload_n 0, 1) := by decide +kernel
theorem dX7_puts_28 : decode cX7_puts 28 = .ok (.getfield 7, 3) := by decide +kernel
theorem dX7_puts_31 : decode cX7_puts 31 = .ok (.iconst 0, 1) := by decide +kernel
theorem dX7_puts_32 : decode cX7_puts 32 = .ok (.iaload, 1) := by decide +kernel
theorem dX7_puts_33 : decode cX7_puts 33 = .ok (.bipush 40, 2) := by decide +kernel
theorem dX7_puts_35 : decode cX7_puts 35 = .ok (.if_icmp .ne 6, 3) := by decide +kernel
theorem dX7_puts_38 : decode cX7_puts 38 = .ok (.ldc 52, 2) := by decide +kernel
theorem dX7_puts_40 : decode cX7_puts 40 = .ok (.ireturn, 1) := by decide +kernel
theorem dX7_puts_41 : decode cX7_puts 41 = .ok (.aload_n 0, 1) := by decide +kernel
theorem dX7_puts_42 : decode cX7_puts 42 = .ok (.getfield 7, 3) := by decide +kernel
theorem dX7_puts_45 : decode cX7_puts 45 = .ok (.iconst 0, 1) := by decide +kernel
theorem dX7_puts_46 : decode cX7_puts 46 = .ok (.iaload, 1) := by decide +kernel
theorem dX7_puts_47 : decode cX7_puts 47 = .ok (.istore_n 3, 1) := by decide +kernel
theorem dX7_puts_48 : decode cX7_puts 48 = .ok (.iload_n 3, 1) := by decide +kernel
theorem dX7_puts_49 : decode cX7_puts 49 = .ok (.iload_n 1, 1) := by decide +kernel
theorem dX7_puts_50 : decode cX7_puts 50 = .ok (.if_icmp .le 29, 3) := by decide +kernel
theorem dX7_puts_53 : decode cX7_puts 53 = .ok (.aload_n 0, 1) := by decide +kernel
theorem dX7_puts_54 : decode cX7_puts 54 = .ok (.getfield 7, 3) := by decide +kernel
theorem dX7_puts_57 : decode cX7_puts 57 = .ok (.bipush 8, 2) := by decide +kernel
theorem dX7_puts_59 : decode cX7_puts 59 = .ok (.iload_n 3, 1) := by decide +kernel
theorem dX7_puts_60 : decode cX7_puts 60 = .ok (.iadd, 1) := by decide +kernel
theorem dX7_puts_61 : decode cX7_puts 61 = .ok (.aload_n 0, 1) := by decide +kernel
theorem dX7_puts_62 : decode cX7_puts 62 = .ok (.getfield 7, 3) := by decide +kernel
theorem dX7_puts_65 : decode cX7_puts 65 = .ok (.bipush 8, 2) := by decide +kernel
theorem dX7_puts_67 : decode cX7_puts 67 = .ok (.iload_n 3, 1) := by decide +kernel
theorem dX7_puts_68 : decode cX7_puts 68 = .ok (.iadd, 1) := by decide +kernel
theorem dX7_puts_69 : decode cX7_puts 69 = .ok (.iconst 1, 1) := by decide +kernel
theorem dX7_puts_70 : decode cX7_puts 70 = .ok (.isub, 1) := by decide +kernel
theorem dX7_puts_71 : decode cX7_puts 71 = .ok (.iaload, 1) := by decide +kernel
theorem dX7_puts_72 : decode cX7_puts 72 = .ok (.iastore, 1) := by decide +kernel
theorem dX7_puts_73 : decode cX7_puts 73 = .ok (.iinc 3 (-1), 3) := by decide +kernel
theorem dX7_puts_76 : decode cX7_puts 76 = .ok (.goto (-28), 3) := by decide +kernel
theorem dX7_puts_79 : decode cX7_puts 79 = .ok (.aload_n 0, 1) := by decide +kernel
theorem dX7_puts_80 : decode cX7_puts 80 = .ok (.getfield 7, 3) := by decide +kernel
theorem dX7_puts_83 : decode cX7_puts 83 = .ok (.bipush 8, 2) := by decide +kernel
theorem dX7_puts_85 : decode cX7_puts 85 = .ok (.iload_n 1, 1) := by decide +kernel
theorem dX7_puts_86 : decode cX7_puts 86 = .ok (.iadd, 1) := by decide +kernel
theorem dX7_puts_87 : decode cX7_puts 87 = .ok (.iload_n 2, 1) := by decide +kernel
theorem dX7_puts_88 : decode cX7_puts 88 = .ok (.iastore, 1) := by decide +kernel
theorem dX7_puts_89 : decode cX7_puts 89 = .ok (.aload_n 0, 1) := by decide +kernel
theorem dX7_puts_90 : decode cX7_puts 90 = .ok (.getfield 7, 3) := by decide +kernel
theorem dX7_puts_93 : decode cX7_puts 93 = .ok (.iconst 0, 1) := by decide +kernel
theorem dX7_puts_94 : decode cX7_puts 94 = .ok (.dup2, 1) := by decide +kernel
theorem dX7_puts_95 : decode cX7_puts 95 = .ok (.iaload, 1) := by decide +kernel
theorem dX7_puts_96 : decode cX7_puts 96 = .ok (.iconst 1, 1) := by decide +kernel
theorem dX7_puts_97 : decode cX7_puts 97 = .ok (.iadd, 1) := by decide +kernel
theorem dX7_puts_98 : decode cX7_puts 98 = .ok (.iastore, 1) := by decide +kernel
theorem dX7_puts_99 : decode cX7_puts 99 = .ok (.aload_n 0, 1) := by decide +kernel
theorem dX7_puts_100 : decode cX7_puts 100 = .ok (.getfield 7, 3) := by decide +kernel
theorem dX7_puts_103 : decode cX7_puts 103 = .ok (.iconst 2, 1) := by decide +kernel
theorem dX7_puts_104 : decode cX7_puts 104 = .ok (.dup2, 1) := by decide +kernel
theorem dX7_puts_105 : decode cX7_puts 105 = .ok (.iaload, 1) := by decide +kernel
theorem dX7_puts_106 : decode cX7_puts 106 = .ok (.iconst 1, 1) := by decide +kernel
theorem dX7_puts_107 : decode cX7_puts 107 = .ok (.iadd, 1) := by decide +kernel
theorem dX7_puts_108 : decode cX7_puts 108 = .ok (.iastore, 1) := by decide +kernel
theorem dX7_puts_109 : decode cX7_puts 109 = .ok (.aload_n 0, 1) := by decide +kernel
theorem dX7_puts_110 : decode cX7_puts 110 = .ok (.iload_n 1, 1) := by decide +kernel
theorem dX7_puts_111 : decode cX7_puts 111 = .ok (.iconst 1, 1) := by decide +kernel
theorem dX7_puts_112 : decode cX7_puts 112 = .ok (.iconst 0, 1) := by decide +kernel
theorem dX7_puts_113 : decode cX7_puts 113 = .ok (.invokevirtual 53, 3) := by decide +kernel
theorem dX7_puts_116 : decode cX7_puts 116 = .ok (.aload_n 0, 1) := by decide +kernel
theorem dX7_puts_117 : decode cX7_puts 117 = .ok (.getfield 7, 3) := by decide +kernel
theorem dX7_puts_120 : decode cX7_puts 120 = .ok (.iconst 0, 1) := by decide +kernel
theorem dX7_puts_121 : decode cX7_puts 121 = .ok (.iaload, 1) := by decide +kernel
theorem dX7_puts_122 : decode cX7_puts 122 = .ok (.ireturn, 1) := by decide +kernel
set_option maxRecDepth 20000 in
theorem ggX7_put_X7_keeps : GoodIn wsX7_put wsX7_keeps := goodIn_r _ [5, 6, 7, 31, 32, 33, 34, 35, 36, 37, 38, 39, 40, 41, 42] (by decide +kernel) (by decide +kernel)
set_option maxRecDepth 20000 in
theorem gX7_put_X7_keeps : GoodIn wsX7_put (wsV RX7 57 RX7 yX7_keeps wsX7_keeps) := goodIn_app (goodIn_of _ (by decide +kernel)) ggX7_put_X7_keeps
set_option maxRecDepth 20000 in
theorem ggX7_put_X7_puts : GoodIn wsX7_put wsX7_puts := goodIn_r _ [11, 7, 12, 13, 14, 15, 4, 16, 17, 18, 19, 20, 21, 22, 23, 24, 31, 32, 33, 34, 35, 36, 37, 38, 39, 40, 41, 42] (by decide +kernel) (by decide +kernel)
set_option maxRecDepth 20000 in
theorem gX7_put_X7_puts : GoodIn wsX7_put (wsV RX7 60 RX7 yX7_puts wsX7_puts) := goodIn_app (goodIn_of _ (by decide +kernel)) ggX7_put_X7_puts
set_option maxRecDepth 20000 in
theorem ggX7_put_X7_acted : GoodIn wsX7_put wsX7_acted := goodIn_r _ [28, 12, 29, 30, 6, 31, 32, 33, 34, 35, 36, 37, 38, 39, 40, 41, 42] (by decide +kernel) (by decide +kernel)
set_option maxRecDepth 20000 in
theorem gX7_put_X7_acted : GoodIn wsX7_put (wsV RX7 63 RX7 yX7_acted wsX7_acted) := goodIn_app (goodIn_of _ (by decide +kernel)) ggX7_put_X7_acted
theorem dX7_put_0 : decode cX7_put 0 = .ok (.aload_n 0, 1) := by decide +kernel
theorem dX7_put_1 : decode cX7_put 1 = .ok (.invokevirtual 57, 3) := by decide +kernel
theorem dX7_put_4 : decode cX7_put 4 = .ok (.aload_n 0, 1) := by decide +kernel
theorem dX7_put_5 : decode cX7_put 5 = .ok (.aload_n 0, 1) := by decide +kernel
theorem dX7_put_6 : decode cX7_put 6 = .ok (.iload_n 1, 1) := by decide +kernel
theorem dX7_put_7 : decode cX7_put 7 = .ok (.iload_n 2, 1) := by decide +kernel
theorem dX7_put_8 : decode cX7_put 8 = .ok (.invokevirtual 60, 3) := by decide +kernel
theorem dX7_put_11 : decode cX7_put 11 = .ok (.invokevirtual 63, 3) := by decide +kernel
theorem dX7_put_14 : decode cX7_put 14 = .ok (.ireturn, 1) := by decide +kernel
set_option maxRecDepth 20000 in
theorem ggX7_takes_X7_isPlace : GoodIn wsX7_takes wsX7_isPlace := goodIn_r _ [7, 2, 8, 9, 6, 10, 19, 20, 21, 22, 23, 24, 25, 26, 27, 28, 29, 30] (by decide +kernel) (by decide +kernel)
set_option maxRecDepth 20000 in
theorem gX7_takes_X7_isPlace : GoodIn wsX7_takes (wsV RX7 39 RX7 yX7_isPlace wsX7_isPlace) := goodIn_app (goodIn_of _ (by decide +kernel)) ggX7_takes_X7_isPlace
set_option maxRecDepth 20000 in
theorem ggX7_takes_X7_follows : GoodIn wsX7_takes wsX7_follows := goodIn_r _ [14, 2, 15, 16, 17, 6, 18, 19, 20, 21, 22, 23, 24, 25, 26, 27, 28, 29, 30] (by decide +kernel) (by decide +kernel)
set_option maxRecDepth 20000 in
theorem gX7_takes_X7_follows : GoodIn wsX7_takes (wsV RX7 53 RX7 yX7_follows wsX7_follows) := goodIn_app (goodIn_of _ (by decide +kernel)) ggX7_takes_X7_follows
theorem dX7_takes_0 : decode cX7_takes 0 = .ok (.aload_n 0, 1) := by decide +kernel
theorem dX7_takes_1 : decode cX7_takes 1 = .ok (.iload_n 1, 1) := by decide +kernel
theorem dX7_takes_2 : decode cX7_takes 2 = .ok (.invokevirtual 39, 3) := by decide +kernel
theorem dX7_takes_5 : decode cX7_takes 5 = .ok (.ifCond .ne 6, 3) := by decide +kernel
theorem dX7_takes_8 : decode cX7_takes 8 = .ok (.ldc 43, 2) := by decide +kernel
theorem dX7_takes_10 : decode cX7_takes 10 = .ok (.ireturn, 1) := by decide +kernel
theorem dX7_takes_11 : decode cX7_takes 11 = .ok (.aload_n 0, 1) := by decide +kernel
theorem dX7_takes_12 : decode cX7_takes 12 = .ok (.getfield 7, 3) := by decide +kernel
theorem dX7_takes_15 : decode cX7_takes 15 = .ok (.bipush 8, 2) := by decide +kernel
theorem dX7_takes_17 : decode cX7_takes 17 = .ok (.iload_n 1, 1) := by decide +kernel
theorem dX7_takes_18 : decode cX7_takes 18 = .ok (.iadd, 1) := by decide +kernel
theorem dX7_takes_19 : decode cX7_takes 19 = .ok (.iaload, 1) := by decide +kernel
theorem dX7_takes_20 : decode cX7_takes 20 = .ok (.istore_n 2, 1) := by decide +kernel
theorem dX7_takes_21 : decode cX7_takes 21 = .ok (.aload_n 0, 1) := by decide +kernel
theorem dX7_takes_22 : decode cX7_takes 22 = .ok (.getfield 7, 3) := by decide +kernel
theorem dX7_takes_25 : decode cX7_takes 25 = .ok (.iconst 0, 1) := by decide +kernel
theorem dX7_takes_26 : decode cX7_takes 26 = .ok (.dup2, 1) := by decide +kernel
theorem dX7_takes_27 : decode cX7_takes 27 = .ok (.iaload, 1) := by decide +kernel
theorem dX7_takes_28 : decode cX7_takes 28 = .ok (.iconst 1, 1) := by decide +kernel
theorem dX7_takes_29 : decode cX7_takes 29 = .ok (.isub, 1) := by decide +kernel
theorem dX7_takes_30 : decode cX7_takes 30 = .ok (.iastore, 1) := by decide +kernel
theorem dX7_takes_31 : decode cX7_takes 31 = .ok (.iload_n 1, 1) := by decide +kernel
theorem dX7_takes_32 : decode cX7_takes 32 = .ok (.istore_n 3, 1) := by decide +kernel
theorem dX7_takes_33 : decode cX7_takes 33 = .ok (.iload_n 3, 1) := by decide +kernel
theorem dX7_takes_34 : decode cX7_takes 34 = .ok (.aload_n 0, 1) := by decide +kernel
theorem dX7_takes_35 : decode cX7_takes 35 = .ok (.getfield 7, 3) := by decide +kernel
theorem dX7_takes_38 : decode cX7_takes 38 = .ok (.iconst 0, 1) := by decide +kernel
theorem dX7_takes_39 : decode cX7_takes 39 = .ok (.iaload, 1) := by decide +kernel
theorem dX7_takes_40 : decode cX7_takes 40 = .ok (.if_icmp .ge 29, 3) := by decide +kernel
theorem dX7_takes_43 : decode cX7_takes 43 = .ok (.aload_n 0, 1) := by decide +kernel
theorem dX7_takes_44 : decode cX7_takes 44 = .ok (.getfield 7, 3) := by decide +kernel
theorem dX7_takes_47 : decode cX7_takes 47 = .ok (.bipush 8, 2) := by decide +kernel
theorem dX7_takes_49 : decode cX7_takes 49 = .ok (.iload_n 3, 1) := by decide +kernel
theorem dX7_takes_50 : decode cX7_takes 50 = .ok (.iadd, 1) := by decide +kernel
theorem dX7_takes_51 : decode cX7_takes 51 = .ok (.aload_n 0, 1) := by decide +kernel
theorem dX7_takes_52 : decode cX7_takes 52 = .ok (.getfield 7, 3) := by decide +kernel
theorem dX7_takes_55 : decode cX7_takes 55 = .ok (.bipush 8, 2) := by decide +kernel
theorem dX7_takes_57 : decode cX7_takes 57 = .ok (.iload_n 3, 1) := by decide +kernel
theorem dX7_takes_58 : decode cX7_takes 58 = .ok (.iadd, 1) := by decide +kernel
theorem dX7_takes_59 : decode cX7_takes 59 = .ok (.iconst 1, 1) := by decide +kernel
theorem dX7_takes_60 : decode cX7_takes 60 = .ok (.iadd, 1) := by decide +kernel
theorem dX7_takes_61 : decode cX7_takes 61 = .ok (.iaload, 1) := by decide +kernel
theorem dX7_takes_62 : decode cX7_takes 62 = .ok (.iastore, 1) := by decide +kernel
theorem dX7_takes_63 : decode cX7_takes 63 = .ok (.iinc 3 1, 3) := by decide +kernel
theorem dX7_takes_66 : decode cX7_takes 66 = .ok (.goto (-33), 3) := by decide +kernel
theorem dX7_takes_69 : decode cX7_takes 69 = .ok (.aload_n 0, 1) := by decide +kernel
theorem dX7_takes_70 : decode cX7_takes 70 = .ok (.getfield 7, 3) := by decide +kernel
theorem dX7_takes_73 : decode cX7_takes 73 = .ok (.iconst 2, 1) := by decide +kernel
theorem dX7_takes_74 : decode cX7_takes 74 = .ok (.dup2, 1) := by decide +kernel
theorem dX7_takes_75 : decode cX7_takes 75 = .ok (.iaload, 1) := by decide +kernel
theorem dX7_takes_76 : decode cX7_takes 76 = .ok (.iconst 1, 1) := by decide +kernel
theorem dX7_takes_77 : decode cX7_takes 77 = .ok (.iadd, 1) := by decide +kernel
theorem dX7_takes_78 : decode cX7_takes 78 = .ok (.iastore, 1) := by decide +kernel
theorem dX7_takes_79 : decode cX7_takes 79 = .ok (.aload_n 0, 1) := by decide +kernel
theorem dX7_takes_80 : decode cX7_takes 80 = .ok (.iload_n 1, 1) := by decide +kernel
theorem dX7_takes_81 : decode cX7_takes 81 = .ok (.iconst (-1), 1) := by decide +kernel
theorem dX7_takes_82 : decode cX7_takes 82 = .ok (.iconst 1, 1) := by decide +kernel
theorem dX7_takes_83 : decode cX7_takes 83 = .ok (.invokevirtual 53, 3) := by decide +kernel
theorem dX7_takes_86 : decode cX7_takes 86 = .ok (.iload_n 2, 1) := by decide +kernel
theorem dX7_takes_87 : decode cX7_takes 87 = .ok (.ireturn, 1) := by decide +kernel
set_option maxRecDepth 20000 in
theorem ggX7_take_X7_keeps : GoodIn wsX7_take wsX7_keeps := goodIn_r _ [5, 6, 7, 34, 35, 36, 37, 38, 39, 40, 41, 42, 43, 44, 45] (by decide +kernel) (by decide +kernel)
set_option maxRecDepth 20000 in
theorem gX7_take_X7_keeps : GoodIn wsX7_take (wsV RX7 57 RX7 yX7_keeps wsX7_keeps) := goodIn_app (goodIn_of _ (by decide +kernel)) ggX7_take_X7_keeps
set_option maxRecDepth 20000 in
theorem ggX7_take_X7_takes : GoodIn wsX7_take wsX7_takes := goodIn_r _ [11, 12, 7, 13, 14, 15, 4, 16, 17, 18, 19, 20, 21, 22, 23, 24, 25, 26, 27, 34, 35, 36, 37, 38, 39, 40, 41, 42, 43, 44, 45] (by decide +kernel) (by decide +kernel)
set_option maxRecDepth 20000 in
theorem gX7_take_X7_takes : GoodIn wsX7_take (wsV RX7 67 RX7 yX7_takes wsX7_takes) := goodIn_app (goodIn_of _ (by decide +kernel)) ggX7_take_X7_takes
set_option maxRecDepth 20000 in
theorem ggX7_take_X7_acted : GoodIn wsX7_take wsX7_acted := goodIn_r _ [31, 12, 32, 33, 6, 34, 35, 36, 37, 38, 39, 40, 41, 42, 43, 44, 45] (by decide +kernel) (by decide +kernel)
set_option maxRecDepth 20000 in
theorem gX7_take_X7_acted : GoodIn wsX7_take (wsV RX7 63 RX7 yX7_acted wsX7_acted) := goodIn_app (goodIn_of _ (by decide +kernel)) ggX7_take_X7_acted
theorem dX7_take_0 : decode cX7_take 0 = .ok (.aload_n 0, 1) := by decide +kernel
theorem dX7_take_1 : decode cX7_take 1 = .ok (.invokevirtual 57, 3) := by decide +kernel
theorem dX7_take_4 : decode cX7_take 4 = .ok (.aload_n 0, 1) := by decide +kernel
theorem dX7_take_5 : decode cX7_take 5 = .ok (.aload_n 0, 1) := by decide +kernel
theorem dX7_take_6 : decode cX7_take 6 = .ok (.iload_n 1, 1) := by decide +kernel
theorem dX7_take_7 : decode cX7_take 7 = .ok (.invokevirtual 67, 3) := by decide +kernel
theorem dX7_take_10 : decode cX7_take 10 = .ok (.invokevirtual 63, 3) := by decide +kernel
theorem dX7_take_13 : decode cX7_take 13 = .ok (.ireturn, 1) := by decide +kernel
set_option maxRecDepth 20000 in
theorem ggX7_changes_X7_isPlace : GoodIn wsX7_changes wsX7_isPlace := goodIn_r _ [7, 2, 8, 9, 6, 10, 19, 20, 21, 22, 23, 24, 25, 26, 27, 28, 29, 30] (by decide +kernel) (by decide +kernel)
set_option maxRecDepth 20000 in
theorem gX7_changes_X7_isPlace : GoodIn wsX7_changes (wsV RX7 39 RX7 yX7_isPlace wsX7_isPlace) := goodIn_app (goodIn_of _ (by decide +kernel)) ggX7_changes_X7_isPlace
set_option maxRecDepth 20000 in
theorem ggX7_changes_X7_in : GoodIn wsX7_changes wsX7_in := goodIn_r _ [10] (by decide +kernel) (by decide +kernel)
set_option maxRecDepth 20000 in
theorem gX7_changes_X7_in : GoodIn wsX7_changes (va_wsS RX7 35 yX7_in wsX7_in) := goodIn_app (goodIn_of _ (by decide +kernel)) ggX7_changes_X7_in
set_option maxRecDepth 20000 in
theorem ggX7_changes_X7_follows : GoodIn wsX7_changes wsX7_follows := goodIn_r _ [14, 2, 15, 16, 17, 6, 18, 19, 20, 21, 22, 23, 24, 25, 26, 27, 28, 29, 30] (by decide +kernel) (by decide +kernel)
set_option maxRecDepth 20000 in
theorem gX7_changes_X7_follows : GoodIn wsX7_changes (wsV RX7 53 RX7 yX7_follows wsX7_follows) := goodIn_app (goodIn_of _ (by decide +kernel)) ggX7_changes_X7_follows
theorem dX7_changes_0 : decode cX7_changes 0 = .ok (.aload_n 0, 1) := by decide +kernel
theorem dX7_changes_1 : decode cX7_changes 1 = .ok (.iload_n 1, 1) := by decide +kernel
theorem dX7_changes_2 : decode cX7_changes 2 = .ok (.invokevirtual 39, 3) := by decide +kernel
theorem dX7_changes_5 : decode cX7_changes 5 = .ok (.ifCond .eq 13, 3) := by decide +kernel
theorem dX7_changes_8 : decode cX7_changes 8 = .ok (.iload_n 2, 1) := by decide +kernel
theorem dX7_changes_9 : decode cX7_changes 9 = .ok (.iconst 0, 1) := by decide +kernel
theorem dX7_changes_10 : decode cX7_changes 10 = .ok (.bipush 99, 2) := by decide +kernel
theorem dX7_changes_12 : decode cX7_changes 12 = .ok (.invokestatic 35, 3) := by decide +kernel
theorem dX7_changes_15 : decode cX7_changes 15 = .ok (.ifCond .ne 6, 3) := by decide +kernel
theorem dX7_changes_18 : decode cX7_changes 18 = .ok (.ldc 43, 2) := by decide +kernel
theorem dX7_changes_20 : decode cX7_changes 20 = .ok (.ireturn, 1) := by decide +kernel
theorem dX7_changes_21 : decode cX7_changes 21 = .ok (.aload_n 0, 1) := by decide +kernel
theorem dX7_changes_22 : decode cX7_changes 22 = .ok (.getfield 7, 3) := by decide +kernel
theorem dX7_changes_25 : decode cX7_changes 25 = .ok (.bipush 8, 2) := by decide +kernel
theorem dX7_changes_27 : decode cX7_changes 27 = .ok (.iload_n 1, 1) := by decide +kernel
theorem dX7_changes_28 : decode cX7_changes 28 = .ok (.iadd, 1) := by decide +kernel
theorem dX7_changes_29 : decode cX7_changes 29 = .ok (.iaload, 1) := by decide +kernel
theorem dX7_changes_30 : decode cX7_changes 30 = .ok (.istore_n 3, 1) := by decide +kernel
theorem dX7_changes_31 : decode cX7_changes 31 = .ok (.aload_n 0, 1) := by decide +kernel
theorem dX7_changes_32 : decode cX7_changes 32 = .ok (.getfield 7, 3) := by decide +kernel
theorem dX7_changes_35 : decode cX7_changes 35 = .ok (.bipush 8, 2) := by decide +kernel
theorem dX7_changes_37 : decode cX7_changes 37 = .ok (.iload_n 1, 1) := by decide +kernel
theorem dX7_changes_38 : decode cX7_changes 38 = .ok (.iadd, 1) := by decide +kernel
theorem dX7_changes_39 : decode cX7_changes 39 = .ok (.iload_n 2, 1) := by decide +kernel
theorem dX7_changes_40 : decode cX7_changes 40 = .ok (.iastore, 1) := by decide +kernel
theorem dX7_changes_41 : decode cX7_changes 41 = .ok (.aload_n 0, 1) := by decide +kernel
theorem dX7_changes_42 : decode cX7_changes 42 = .ok (.getfield 7, 3) := by decide +kernel
theorem dX7_changes_45 : decode cX7_changes 45 = .ok (.iconst 2, 1) := by decide +kernel
theorem dX7_changes_46 : decode cX7_changes 46 = .ok (.dup2, 1) := by decide +kernel
theorem dX7_changes_47 : decode cX7_changes 47 = .ok (.iaload, 1) := by decide +kernel
theorem dX7_changes_48 : decode cX7_changes 48 = .ok (.iconst 1, 1) := by decide +kernel
theorem dX7_changes_49 : decode cX7_changes 49 = .ok (.iadd, 1) := by decide +kernel
theorem dX7_changes_50 : decode cX7_changes 50 = .ok (.iastore, 1) := by decide +kernel
theorem dX7_changes_51 : decode cX7_changes 51 = .ok (.aload_n 0, 1) := by decide +kernel
theorem dX7_changes_52 : decode cX7_changes 52 = .ok (.iload_n 1, 1) := by decide +kernel
theorem dX7_changes_53 : decode cX7_changes 53 = .ok (.iconst 0, 1) := by decide +kernel
theorem dX7_changes_54 : decode cX7_changes 54 = .ok (.iconst 1, 1) := by decide +kernel
theorem dX7_changes_55 : decode cX7_changes 55 = .ok (.invokevirtual 53, 3) := by decide +kernel
theorem dX7_changes_58 : decode cX7_changes 58 = .ok (.iload_n 3, 1) := by decide +kernel
theorem dX7_changes_59 : decode cX7_changes 59 = .ok (.ireturn, 1) := by decide +kernel
set_option maxRecDepth 20000 in
theorem ggX7_change_X7_keeps : GoodIn wsX7_change wsX7_keeps := goodIn_r _ [5, 6, 7, 34, 35, 36, 37, 38, 39, 40, 41, 42, 43, 44, 45] (by decide +kernel) (by decide +kernel)
set_option maxRecDepth 20000 in
theorem gX7_change_X7_keeps : GoodIn wsX7_change (wsV RX7 57 RX7 yX7_keeps wsX7_keeps) := goodIn_app (goodIn_of _ (by decide +kernel)) ggX7_change_X7_keeps
set_option maxRecDepth 20000 in
theorem ggX7_change_X7_changes : GoodIn wsX7_change wsX7_changes := goodIn_r _ [11, 12, 7, 13, 14, 15, 4, 16, 17, 18, 19, 20, 21, 22, 23, 24, 25, 26, 27, 34, 35, 36, 37, 38, 39, 40, 41, 42, 43, 44, 45] (by decide +kernel) (by decide +kernel)
set_option maxRecDepth 20000 in
theorem gX7_change_X7_changes : GoodIn wsX7_change (wsV RX7 70 RX7 yX7_changes wsX7_changes) := goodIn_app (goodIn_of _ (by decide +kernel)) ggX7_change_X7_changes
set_option maxRecDepth 20000 in
theorem ggX7_change_X7_acted : GoodIn wsX7_change wsX7_acted := goodIn_r _ [31, 12, 32, 33, 6, 34, 35, 36, 37, 38, 39, 40, 41, 42, 43, 44, 45] (by decide +kernel) (by decide +kernel)
set_option maxRecDepth 20000 in
theorem gX7_change_X7_acted : GoodIn wsX7_change (wsV RX7 63 RX7 yX7_acted wsX7_acted) := goodIn_app (goodIn_of _ (by decide +kernel)) ggX7_change_X7_acted
theorem dX7_change_0 : decode cX7_change 0 = .ok (.aload_n 0, 1) := by decide +kernel
theorem dX7_change_1 : decode cX7_change 1 = .ok (.invokevirtual 57, 3) := by decide +kernel
theorem dX7_change_4 : decode cX7_change 4 = .ok (.aload_n 0, 1) := by decide +kernel
theorem dX7_change_5 : decode cX7_change 5 = .ok (.aload_n 0, 1) := by decide +kernel
theorem dX7_change_6 : decode cX7_change 6 = .ok (.iload_n 1, 1) := by decide +kernel
theorem dX7_change_7 : decode cX7_change 7 = .ok (.iload_n 2, 1) := by decide +kernel
theorem dX7_change_8 : decode cX7_change 8 = .ok (.invokevirtual 70, 3) := by decide +kernel
theorem dX7_change_11 : decode cX7_change 11 = .ok (.invokevirtual 63, 3) := by decide +kernel
theorem dX7_change_14 : decode cX7_change 14 = .ok (.ireturn, 1) := by decide +kernel
set_option maxRecDepth 20000 in
theorem ggX7_then_X7_in : GoodIn wsX7_then wsX7_in := goodIn_r _ [4] (by decide +kernel) (by decide +kernel)
set_option maxRecDepth 20000 in
theorem gX7_then_X7_in : GoodIn wsX7_then (va_wsS RX7 35 yX7_in wsX7_in) := goodIn_app (goodIn_of _ (by decide +kernel)) ggX7_then_X7_in
theorem dX7_then_0 : decode cX7_then 0 = .ok (.iload_n 0, 1) := by decide +kernel
theorem dX7_then_1 : decode cX7_then 1 = .ok (.iload_n 1, 1) := by decide +kernel
theorem dX7_then_2 : decode cX7_then 2 = .ok (.iload_n 1, 1) := by decide +kernel
theorem dX7_then_3 : decode cX7_then 3 = .ok (.iload_n 2, 1) := by decide +kernel
theorem dX7_then_4 : decode cX7_then 4 = .ok (.iadd, 1) := by decide +kernel
theorem dX7_then_5 : decode cX7_then 5 = .ok (.iconst 1, 1) := by decide +kernel
theorem dX7_then_6 : decode cX7_then 6 = .ok (.isub, 1) := by decide +kernel
theorem dX7_then_7 : decode cX7_then 7 = .ok (.invokestatic 35, 3) := by decide +kernel
theorem dX7_then_10 : decode cX7_then 10 = .ok (.ifCond .eq 9, 3) := by decide +kernel
theorem dX7_then_13 : decode cX7_then 13 = .ok (.iload_n 0, 1) := by decide +kernel
theorem dX7_then_14 : decode cX7_then 14 = .ok (.iload_n 1, 1) := by decide +kernel
theorem dX7_then_15 : decode cX7_then 15 = .ok (.isub, 1) := by decide +kernel
theorem dX7_then_16 : decode cX7_then 16 = .ok (.iload_n 3, 1) := by decide +kernel
theorem dX7_then_17 : decode cX7_then 17 = .ok (.iadd, 1) := by decide +kernel
theorem dX7_then_18 : decode cX7_then 18 = .ok (.ireturn, 1) := by decide +kernel
theorem dX7_then_19 : decode cX7_then 19 = .ok (.iload_n 0, 1) := by decide +kernel
theorem dX7_then_20 : decode cX7_then 20 = .ok (.iload_n 1, 1) := by decide +kernel
theorem dX7_then_21 : decode cX7_then 21 = .ok (.if_icmp .ge 7, 3) := by decide +kernel
theorem dX7_then_24 : decode cX7_then 24 = .ok (.iload_n 0, 1) := by decide +kernel
theorem dX7_then_25 : decode cX7_then 25 = .ok (.goto 6, 3) := by decide +kernel
theorem dX7_then_28 : decode cX7_then 28 = .ok (.iload_n 0, 1) := by decide +kernel
theorem dX7_then_29 : decode cX7_then 29 = .ok (.iload_n 2, 1) := by decide +kernel
theorem dX7_then_30 : decode cX7_then 30 = .ok (.isub, 1) := by decide +kernel
theorem dX7_then_31 : decode cX7_then 31 = .ok (.istore 4, 2) := by decide +kernel
theorem dX7_then_33 : decode cX7_then 33 = .ok (.iload 4, 2) := by decide +kernel
theorem dX7_then_35 : decode cX7_then 35 = .ok (.iload_n 3, 1) := by decide +kernel
theorem dX7_then_36 : decode cX7_then 36 = .ok (.if_icmp .ge 8, 3) := by decide +kernel
theorem dX7_then_39 : decode cX7_then 39 = .ok (.iload 4, 2) := by decide +kernel
theorem dX7_then_41 : decode cX7_then 41 = .ok (.goto 7, 3) := by decide +kernel
theorem dX7_then_44 : decode cX7_then 44 = .ok (.iload 4, 2) := by decide +kernel
theorem dX7_then_46 : decode cX7_then 46 = .ok (.iload_n 2, 1) := by decide +kernel
theorem dX7_then_47 : decode cX7_then 47 = .ok (.iadd, 1) := by decide +kernel
theorem dX7_then_48 : decode cX7_then 48 = .ok (.ireturn, 1) := by decide +kernel
set_option maxRecDepth 20000 in
theorem ggX7_moves_X7_isPlace : GoodIn wsX7_moves wsX7_isPlace := goodIn_r _ [8, 1, 9, 10, 7, 11, 19, 20, 21, 22, 23, 24, 25, 26, 27, 28, 29, 30] (by decide +kernel) (by decide +kernel)
set_option maxRecDepth 20000 in
theorem gX7_moves_X7_isPlace : GoodIn wsX7_moves (wsV RX7 39 RX7 yX7_isPlace wsX7_isPlace) := goodIn_app (goodIn_of _ (by decide +kernel)) ggX7_moves_X7_isPlace
set_option maxRecDepth 20000 in
theorem ggX7_moves_X7_in : GoodIn wsX7_moves wsX7_in := goodIn_r _ [11] (by decide +kernel) (by decide +kernel)
set_option maxRecDepth 20000 in
theorem gX7_moves_X7_in : GoodIn wsX7_moves (va_wsS RX7 35 yX7_in wsX7_in) := goodIn_app (goodIn_of _ (by decide +kernel)) ggX7_moves_X7_in
set_option maxRecDepth 20000 in
theorem ggX7_moves_X7_then : GoodIn wsX7_moves wsX7_then := goodIn_r _ [14, 9, 10, 7, 11] (by decide +kernel) (by decide +kernel)
set_option maxRecDepth 20000 in
theorem gX7_moves_X7_then : GoodIn wsX7_moves (va_wsS RX7 73 yX7_then wsX7_then) := goodIn_app (goodIn_of _ (by decide +kernel)) ggX7_moves_X7_then
set_option maxRecDepth 20000 in
theorem ggX7_moves_X7_an : GoodIn wsX7_moves wsX7_an := goodIn_r _ [18, 1, 19, 20, 21, 22, 23, 24, 25, 26, 27, 28, 29, 30] (by decide +kernel) (by decide +kernel)
set_option maxRecDepth 20000 in
theorem gX7_moves_X7_an : GoodIn wsX7_moves (wsV RX7 48 RX7 yX7_an wsX7_an) := goodIn_app (goodIn_of _ (by decide +kernel)) ggX7_moves_X7_an
theorem dX7_moves_0 : decode cX7_moves 0 = .ok (.aload_n 0, 1) := by decide +kernel
theorem dX7_moves_1 : decode cX7_moves 1 = .ok (.iload_n 1, 1) := by decide +kernel
theorem dX7_moves_2 : decode cX7_moves 2 = .ok (.invokevirtual 39, 3) := by decide +kernel
theorem dX7_moves_5 : decode cX7_moves 5 = .ok (.ifCond .eq 36, 3) := by decide +kernel
theorem dX7_moves_8 : decode cX7_moves 8 = .ok (.iload_n 2, 1) := by decide +kernel
theorem dX7_moves_9 : decode cX7_moves 9 = .ok (.iconst 1, 1) := by decide +kernel
theorem dX7_moves_10 : decode cX7_moves 10 = .ok (.if_icmp .lt 31, 3) := by decide +kernel
theorem dX7_moves_13 : decode cX7_moves 13 = .ok (.iload_n 2, 1) := by decide +kernel
theorem dX7_moves_14 : decode cX7_moves 14 = .ok (.aload_n 0, 1) := by decide +kernel
theorem dX7_moves_15 : decode cX7_moves 15 = .ok (.getfield 7, 3) := by decide +kernel
theorem dX7_moves_18 : decode cX7_moves 18 = .ok (.iconst 0, 1) := by decide +kernel
theorem dX7_moves_19 : decode cX7_moves 19 = .ok (.iaload, 1) := by decide +kernel
theorem dX7_moves_20 : decode cX7_moves 20 = .ok (.iload_n 1, 1) := by decide +kernel
theorem dX7_moves_21 : decode cX7_moves 21 = .ok (.isub, 1) := by decide +kernel
theorem dX7_moves_22 : decode cX7_moves 22 = .ok (.if_icmp .gt 19, 3) := by decide +kernel
theorem dX7_moves_25 : decode cX7_moves 25 = .ok (.iload_n 3, 1) := by decide +kernel
theorem dX7_moves_26 : decode cX7_moves 26 = .ok (.iconst 0, 1) := by decide +kernel
theorem dX7_moves_27 : decode cX7_moves 27 = .ok (.aload_n 0, 1) := by decide +kernel
theorem dX7_moves_28 : decode cX7_moves 28 = .ok (.getfield 7, 3) := by decide +kernel
theorem dX7_moves_31 : decode cX7_moves 31 = .ok (.iconst 0, 1) := by decide +kernel
theorem dX7_moves_32 : decode cX7_moves 32 = .ok (.iaload, 1) := by decide +kernel
theorem dX7_moves_33 : decode cX7_moves 33 = .ok (.iload_n 2, 1) := by decide +kernel
theorem dX7_moves_34 : decode cX7_moves 34 = .ok (.isub, 1) := by decide +kernel
theorem dX7_moves_35 : decode cX7_moves 35 = .ok (.invokestatic 35, 3) := by decide +kernel
theorem dX7_moves_38 : decode cX7_moves 38 = .ok (.ifCond .ne 6, 3) := by decide +kernel
theorem dX7_moves_41 : decode cX7_moves 41 = .ok (.ldc 43, 2) := by decide +kernel
theorem dX7_moves_43 : decode cX7_moves 43 = .ok (.ireturn, 1) := by decide +kernel
theorem dX7_moves_44 : decode cX7_moves 44 = .ok (.iconst 0, 1) := by decide +kernel
theorem dX7_moves_45 : decode cX7_moves 45 = .ok (.istore 4, 2) := by decide +kernel
theorem dX7_moves_47 : decode cX7_moves 47 = .ok (.iconst 0, 1) := by decide +kernel
theorem dX7_moves_48 : decode cX7_moves 48 = .ok (.istore 5, 2) := by decide +kernel
theorem dX7_moves_50 : decode cX7_moves 50 = .ok (.iload 5, 2) := by decide +kernel
theorem dX7_moves_52 : decode cX7_moves 52 = .ok (.aload_n 0, 1) := by decide +kernel
theorem dX7_moves_53 : decode cX7_moves 53 = .ok (.getfield 7, 3) := by decide +kernel
theorem dX7_moves_56 : decode cX7_moves 56 = .ok (.iconst 0, 1) := by decide +kernel
theorem dX7_moves_57 : decode cX7_moves 57 = .ok (.iaload, 1) := by decide +kernel
theorem dX7_moves_58 : decode cX7_moves 58 = .ok (.if_icmp .ge 53, 3) := by decide +kernel
theorem dX7_moves_61 : decode cX7_moves 61 = .ok (.iload 5, 2) := by decide +kernel
theorem dX7_moves_63 : decode cX7_moves 63 = .ok (.iload_n 1, 1) := by decide +kernel
theorem dX7_moves_64 : decode cX7_moves 64 = .ok (.iload_n 2, 1) := by decide +kernel
theorem dX7_moves_65 : decode cX7_moves 65 = .ok (.iload_n 3, 1) := by decide +kernel
theorem dX7_moves_66 : decode cX7_moves 66 = .ok (.invokestatic 73, 3) := by decide +kernel
theorem dX7_moves_69 : decode cX7_moves 69 = .ok (.istore 6, 2) := by decide +kernel
theorem dX7_moves_71 : decode cX7_moves 71 = .ok (.aload_n 0, 1) := by decide +kernel
theorem dX7_moves_72 : decode cX7_moves 72 = .ok (.getfield 29, 3) := by decide +kernel
theorem dX7_moves_75 : decode cX7_moves 75 = .ok (.iload 6, 2) := by decide +kernel
theorem dX7_moves_77 : decode cX7_moves 77 = .ok (.aload_n 0, 1) := by decide +kernel
theorem dX7_moves_78 : decode cX7_moves 78 = .ok (.getfield 7, 3) := by decide +kernel
theorem dX7_moves_81 : decode cX7_moves 81 = .ok (.bipush 8, 2) := by decide +kernel
theorem dX7_moves_83 : decode cX7_moves 83 = .ok (.iload 5, 2) := by decide +kernel
theorem dX7_moves_85 : decode cX7_moves 85 = .ok (.iadd, 1) := by decide +kernel
theorem dX7_moves_86 : decode cX7_moves 86 = .ok (.iaload, 1) := by decide +kernel
theorem dX7_moves_87 : decode cX7_moves 87 = .ok (.iastore, 1) := by decide +kernel
theorem dX7_moves_88 : decode cX7_moves 88 = .ok (.iload 4, 2) := by decide +kernel
theorem dX7_moves_90 : decode cX7_moves 90 = .ok (.iload 6, 2) := by decide +kernel
theorem dX7_moves_92 : decode cX7_moves 92 = .ok (.iload 5, 2) := by decide +kernel
theorem dX7_moves_94 : decode cX7_moves 94 = .ok (.if_icmp .eq 7, 3) := by decide +kernel
theorem dX7_moves_97 : decode cX7_moves 97 = .ok (.iconst 1, 1) := by decide +kernel
theorem dX7_moves_98 : decode cX7_moves 98 = .ok (.goto 4, 3) := by decide +kernel
theorem dX7_moves_101 : decode cX7_moves 101 = .ok (.iconst 0, 1) := by decide +kernel
theorem dX7_moves_102 : decode cX7_moves 102 = .ok (.iadd, 1) := by decide +kernel
theorem dX7_moves_103 : decode cX7_moves 103 = .ok (.istore 4, 2) := by decide +kernel
theorem dX7_moves_105 : decode cX7_moves 105 = .ok (.iinc 5 1, 3) := by decide +kernel
theorem dX7_moves_108 : decode cX7_moves 108 = .ok (.goto (-58), 3) := by decide +kernel
theorem dX7_moves_111 : decode cX7_moves 111 = .ok (.iconst 0, 1) := by decide +kernel
theorem dX7_moves_112 : decode cX7_moves 112 = .ok (.istore 5, 2) := by decide +kernel
theorem dX7_moves_114 : decode cX7_moves 114 = .ok (.iload 5, 2) := by decide +kernel
theorem dX7_moves_116 : decode cX7_moves 116 = .ok (.aload_n 0, 1) := by decide +kernel
theorem dX7_moves_117 : decode cX7_moves 117 = .ok (.getfield 7, 3) := by decide +kernel
theorem dX7_moves_120 : decode cX7_moves 120 = .ok (.iconst 0, 1) := by decide +kernel
theorem dX7_moves_121 : decode cX7_moves 121 = .ok (.iaload, 1) := by decide +kernel
theorem dX7_moves_122 : decode cX7_moves 122 = .ok (.if_icmp .ge 26, 3) := by decide +kernel
theorem dX7_moves_125 : decode cX7_moves 125 = .ok (.aload_n 0, 1) := by decide +kernel
theorem dX7_moves_126 : decode cX7_moves 126 = .ok (.getfield 7, 3) := by decide +kernel
theorem dX7_moves_129 : decode cX7_moves 129 = .ok (.bipush 8, 2) := by decide +kernel
theorem dX7_moves_131 : decode cX7_moves 131 = .ok (.iload 5, 2) := by decide +kernel
theorem dX7_moves_133 : decode cX7_moves 133 = .ok (.iadd, 1) := by decide +kernel
theorem dX7_moves_134 : decode cX7_moves 134 = .ok (.aload_n 0, 1) := by decide +kernel
theorem dX7_moves_135 : decode cX7_moves 135 = .ok (.getfield 29, 3) := by decide +kernel
theorem dX7_moves_138 : decode cX7_moves 138 = .ok (.iload 5, 2) := by decide +kernel
theorem dX7_moves_140 : decode cX7_moves 140 = .ok (.iaload, 1) := by decide +kernel
theorem dX7_moves_141 : decode cX7_moves 141 = .ok (.iastore, 1) := by decide +kernel
theorem dX7_moves_142 : decode cX7_moves 142 = .ok (.iinc 5 1, 3) := by decide +kernel
theorem dX7_moves_145 : decode cX7_moves 145 = .ok (.goto (-31), 3) := by decide +kernel
theorem dX7_moves_148 : decode cX7_moves 148 = .ok (.iconst 0, 1) := by decide +kernel
theorem dX7_moves_149 : decode cX7_moves 149 = .ok (.istore 5, 2) := by decide +kernel
theorem dX7_moves_151 : decode cX7_moves 151 = .ok (.iload 5, 2) := by decide +kernel
theorem dX7_moves_153 : decode cX7_moves 153 = .ok (.aload_n 0, 1) := by decide +kernel
theorem dX7_moves_154 : decode cX7_moves 154 = .ok (.getfield 7, 3) := by decide +kernel
theorem dX7_moves_157 : decode cX7_moves 157 = .ok (.iconst 1, 1) := by decide +kernel
theorem dX7_moves_158 : decode cX7_moves 158 = .ok (.iaload, 1) := by decide +kernel
theorem dX7_moves_159 : decode cX7_moves 159 = .ok (.if_icmp .ge 50, 3) := by decide +kernel
theorem dX7_moves_162 : decode cX7_moves 162 = .ok (.aload_n 0, 1) := by decide +kernel
theorem dX7_moves_163 : decode cX7_moves 163 = .ok (.iload 5, 2) := by decide +kernel
theorem dX7_moves_165 : decode cX7_moves 165 = .ok (.iconst 1, 1) := by decide +kernel
theorem dX7_moves_166 : decode cX7_moves 166 = .ok (.invokevirtual 48, 3) := by decide +kernel
theorem dX7_moves_169 : decode cX7_moves 169 = .ok (.istore 6, 2) := by decide +kernel
theorem dX7_moves_171 : decode cX7_moves 171 = .ok (.aload_n 0, 1) := by decide +kernel
theorem dX7_moves_172 : decode cX7_moves 172 = .ok (.getfield 7, 3) := by decide +kernel
theorem dX7_moves_175 : decode cX7_moves 175 = .ok (.bipush 48, 2) := by decide +kernel
theorem dX7_moves_177 : decode cX7_moves 177 = .ok (.bipush 7, 2) := by decide +kernel
theorem dX7_moves_179 : decode cX7_moves 179 = .ok (.iload 5, 2) := by decide +kernel
theorem dX7_moves_181 : decode cX7_moves 181 = .ok (.imul, 1) := by decide +kernel
theorem dX7_moves_182 : decode cX7_moves 182 = .ok (.iadd, 1) := by decide +kernel
theorem dX7_moves_183 : decode cX7_moves 183 = .ok (.iconst 1, 1) := by decide +kernel
theorem dX7_moves_184 : decode cX7_moves 184 = .ok (.iadd, 1) := by decide +kernel
theorem dX7_moves_185 : decode cX7_moves 185 = .ok (.iload 6, 2) := by decide +kernel
theorem dX7_moves_187 : decode cX7_moves 187 = .ok (.ifCond .ge 7, 3) := by decide +kernel
theorem dX7_moves_190 : decode cX7_moves 190 = .ok (.iconst (-1), 1) := by decide +kernel
theorem dX7_moves_191 : decode cX7_moves 191 = .ok (.goto 11, 3) := by decide +kernel
theorem dX7_moves_194 : decode cX7_moves 194 = .ok (.iload 6, 2) := by decide +kernel
theorem dX7_moves_196 : decode cX7_moves 196 = .ok (.iload_n 1, 1) := by decide +kernel
theorem dX7_moves_197 : decode cX7_moves 197 = .ok (.iload_n 2, 1) := by decide +kernel
theorem dX7_moves_198 : decode cX7_moves 198 = .ok (.iload_n 3, 1) := by decide +kernel
theorem dX7_moves_199 : decode cX7_moves 199 = .ok (.invokestatic 73, 3) := by decide +kernel
theorem dX7_moves_202 : decode cX7_moves 202 = .ok (.iastore, 1) := by decide +kernel
theorem dX7_moves_203 : decode cX7_moves 203 = .ok (.iinc 5 1, 3) := by decide +kernel
theorem dX7_moves_206 : decode cX7_moves 206 = .ok (.goto (-55), 3) := by decide +kernel
theorem dX7_moves_209 : decode cX7_moves 209 = .ok (.aload_n 0, 1) := by decide +kernel
theorem dX7_moves_210 : decode cX7_moves 210 = .ok (.getfield 7, 3) := by decide +kernel
theorem dX7_moves_213 : decode cX7_moves 213 = .ok (.iconst 2, 1) := by decide +kernel
theorem dX7_moves_214 : decode cX7_moves 214 = .ok (.dup2, 1) := by decide +kernel
theorem dX7_moves_215 : decode cX7_moves 215 = .ok (.iaload, 1) := by decide +kernel
theorem dX7_moves_216 : decode cX7_moves 216 = .ok (.iconst 1, 1) := by decide +kernel
theorem dX7_moves_217 : decode cX7_moves 217 = .ok (.iadd, 1) := by decide +kernel
theorem dX7_moves_218 : decode cX7_moves 218 = .ok (.iastore, 1) := by decide +kernel
theorem dX7_moves_219 : decode cX7_moves 219 = .ok (.iload 4, 2) := by decide +kernel
theorem dX7_moves_221 : decode cX7_moves 221 = .ok (.ireturn, 1) := by decide +kernel
set_option maxRecDepth 20000 in
theorem ggX7_move_X7_keeps : GoodIn wsX7_move wsX7_keeps := goodIn_r _ [5, 6, 7, 34, 35, 36, 37, 38, 39, 40, 41, 42, 43, 44, 45] (by decide +kernel) (by decide +kernel)
set_option maxRecDepth 20000 in
theorem gX7_move_X7_keeps : GoodIn wsX7_move (wsV RX7 57 RX7 yX7_keeps wsX7_keeps) := goodIn_app (goodIn_of _ (by decide +kernel)) ggX7_move_X7_keeps
set_option maxRecDepth 20000 in
theorem ggX7_move_X7_moves : GoodIn wsX7_move wsX7_moves := goodIn_r _ [11, 7, 12, 13, 14, 15, 16, 4, 17, 18, 19, 20, 21, 22, 23, 24, 25, 26, 27, 34, 35, 36, 37, 38, 39, 40, 41, 42, 43, 44, 45] (by decide +kernel) (by decide +kernel)
set_option maxRecDepth 20000 in
theorem gX7_move_X7_moves : GoodIn wsX7_move (wsV RX7 77 RX7 yX7_moves wsX7_moves) := goodIn_app (goodIn_of _ (by decide +kernel)) ggX7_move_X7_moves
set_option maxRecDepth 20000 in
theorem ggX7_move_X7_acted : GoodIn wsX7_move wsX7_acted := goodIn_r _ [31, 12, 32, 33, 6, 34, 35, 36, 37, 38, 39, 40, 41, 42, 43, 44, 45] (by decide +kernel) (by decide +kernel)
set_option maxRecDepth 20000 in
theorem gX7_move_X7_acted : GoodIn wsX7_move (wsV RX7 63 RX7 yX7_acted wsX7_acted) := goodIn_app (goodIn_of _ (by decide +kernel)) ggX7_move_X7_acted
theorem dX7_move_0 : decode cX7_move 0 = .ok (.aload_n 0, 1) := by decide +kernel
theorem dX7_move_1 : decode cX7_move 1 = .ok (.invokevirtual 57, 3) := by decide +kernel
theorem dX7_move_4 : decode cX7_move 4 = .ok (.aload_n 0, 1) := by decide +kernel
theorem dX7_move_5 : decode cX7_move 5 = .ok (.aload_n 0, 1) := by decide +kernel
theorem dX7_move_6 : decode cX7_move 6 = .ok (.iload_n 1, 1) := by decide +kernel
theorem dX7_move_7 : decode cX7_move 7 = .ok (.iload_n 2, 1) := by decide +kernel
theorem dX7_move_8 : decode cX7_move 8 = .ok (.iload_n 3, 1) := by decide +kernel
theorem dX7_move_9 : decode cX7_move 9 = .ok (.invokevirtual 77, 3) := by decide +kernel
theorem dX7_move_12 : decode cX7_move 12 = .ok (.invokevirtual 63, 3) := by decide +kernel
theorem dX7_move_15 : decode cX7_move 15 = .ok (.ireturn, 1) := by decide +kernel
set_option maxRecDepth 20000 in
theorem ggX7_remembers_X7_an : GoodIn wsX7_remembers wsX7_an := goodIn_r _ [6, 1, 18, 19, 20, 21, 22, 23, 24, 25, 26, 27, 28, 29] (by decide +kernel) (by decide +kernel)
set_option maxRecDepth 20000 in
theorem gX7_remembers_X7_an : GoodIn wsX7_remembers (wsV RX7 48 RX7 yX7_an wsX7_an) := goodIn_app (goodIn_of _ (by decide +kernel)) ggX7_remembers_X7_an
set_option maxRecDepth 20000 in
theorem ggX7_remembers_X7_word : GoodIn wsX7_remembers wsX7_word := goodIn_r _ [10, 1, 11, 12, 13, 5, 14, 15, 16, 17, 18, 19, 20, 21, 22, 23, 24, 25, 26, 27, 28, 29] (by decide +kernel) (by decide +kernel)
set_option maxRecDepth 20000 in
theorem gX7_remembers_X7_word : GoodIn wsX7_remembers (wsV RX7 81 RX7 yX7_word wsX7_word) := goodIn_app (goodIn_of _ (by decide +kernel)) ggX7_remembers_X7_word
theorem dX7_remembers_0 : decode cX7_remembers 0 = .ok (.iconst 0, 1) := by decide +kernel
theorem dX7_remembers_1 : decode cX7_remembers 1 = .ok (.istore_n 2, 1) := by decide +kernel
theorem dX7_remembers_2 : decode cX7_remembers 2 = .ok (.iconst 0, 1) := by decide +kernel
theorem dX7_remembers_3 : decode cX7_remembers 3 = .ok (.istore_n 3, 1) := by decide +kernel
theorem dX7_remembers_4 : decode cX7_remembers 4 = .ok (.iload_n 3, 1) := by decide +kernel
theorem dX7_remembers_5 : decode cX7_remembers 5 = .ok (.iconst 5, 1) := by decide +kernel
theorem dX7_remembers_6 : decode cX7_remembers 6 = .ok (.if_icmp .ge 64, 3) := by decide +kernel
theorem dX7_remembers_9 : decode cX7_remembers 9 = .ok (.aload_n 0, 1) := by decide +kernel
theorem dX7_remembers_10 : decode cX7_remembers 10 = .ok (.aload_n 0, 1) := by decide +kernel
theorem dX7_remembers_11 : decode cX7_remembers 11 = .ok (.iload_n 1, 1) := by decide +kernel
theorem dX7_remembers_12 : decode cX7_remembers 12 = .ok (.iconst 0, 1) := by decide +kernel
theorem dX7_remembers_13 : decode cX7_remembers 13 = .ok (.invokevirtual 48, 3) := by decide +kernel
theorem dX7_remembers_16 : decode cX7_remembers 16 = .ok (.iload_n 3, 1) := by decide +kernel
theorem dX7_remembers_17 : decode cX7_remembers 17 = .ok (.iadd, 1) := by decide +kernel
theorem dX7_remembers_18 : decode cX7_remembers 18 = .ok (.iconst 2, 1) := by decide +kernel
theorem dX7_remembers_19 : decode cX7_remembers 19 = .ok (.isub, 1) := by decide +kernel
theorem dX7_remembers_20 : decode cX7_remembers 20 = .ok (.invokevirtual 81, 3) := by decide +kernel
theorem dX7_remembers_23 : decode cX7_remembers 23 = .ok (.istore 4, 2) := by decide +kernel
theorem dX7_remembers_25 : decode cX7_remembers 25 = .ok (.iload_n 2, 1) := by decide +kernel
theorem dX7_remembers_26 : decode cX7_remembers 26 = .ok (.iload 4, 2) := by decide +kernel
theorem dX7_remembers_28 : decode cX7_remembers 28 = .ok (.aload_n 0, 1) := by decide +kernel
theorem dX7_remembers_29 : decode cX7_remembers 29 = .ok (.iload_n 1, 1) := by decide +kernel
theorem dX7_remembers_30 : decode cX7_remembers 30 = .ok (.iconst 2, 1) := by decide +kernel
theorem dX7_remembers_31 : decode cX7_remembers 31 = .ok (.iload_n 3, 1) := by decide +kernel
theorem dX7_remembers_32 : decode cX7_remembers 32 = .ok (.iadd, 1) := by decide +kernel
theorem dX7_remembers_33 : decode cX7_remembers 33 = .ok (.invokevirtual 48, 3) := by decide +kernel
theorem dX7_remembers_36 : decode cX7_remembers 36 = .ok (.if_icmp .eq 7, 3) := by decide +kernel
theorem dX7_remembers_39 : decode cX7_remembers 39 = .ok (.iconst 1, 1) := by decide +kernel
theorem dX7_remembers_40 : decode cX7_remembers 40 = .ok (.goto 4, 3) := by decide +kernel
theorem dX7_remembers_43 : decode cX7_remembers 43 = .ok (.iconst 0, 1) := by decide +kernel
theorem dX7_remembers_44 : decode cX7_remembers 44 = .ok (.iadd, 1) := by decide +kernel
theorem dX7_remembers_45 : decode cX7_remembers 45 = .ok (.istore_n 2, 1) := by decide +kernel
theorem dX7_remembers_46 : decode cX7_remembers 46 = .ok (.aload_n 0, 1) := by decide +kernel
theorem dX7_remembers_47 : decode cX7_remembers 47 = .ok (.getfield 7, 3) := by decide +kernel
theorem dX7_remembers_50 : decode cX7_remembers 50 = .ok (.bipush 48, 2) := by decide +kernel
theorem dX7_remembers_52 : decode cX7_remembers 52 = .ok (.bipush 7, 2) := by decide +kernel
theorem dX7_remembers_54 : decode cX7_remembers 54 = .ok (.iload_n 1, 1) := by decide +kernel
theorem dX7_remembers_55 : decode cX7_remembers 55 = .ok (.imul, 1) := by decide +kernel
theorem dX7_remembers_56 : decode cX7_remembers 56 = .ok (.iadd, 1) := by decide +kernel
theorem dX7_remembers_57 : decode cX7_remembers 57 = .ok (.iconst 2, 1) := by decide +kernel
theorem dX7_remembers_58 : decode cX7_remembers 58 = .ok (.iadd, 1) := by decide +kernel
theorem dX7_remembers_59 : decode cX7_remembers 59 = .ok (.iload_n 3, 1) := by decide +kernel
theorem dX7_remembers_60 : decode cX7_remembers 60 = .ok (.iadd, 1) := by decide +kernel
theorem dX7_remembers_61 : decode cX7_remembers 61 = .ok (.iload 4, 2) := by decide +kernel
theorem dX7_remembers_63 : decode cX7_remembers 63 = .ok (.iastore, 1) := by decide +kernel
theorem dX7_remembers_64 : decode cX7_remembers 64 = .ok (.iinc 3 1, 3) := by decide +kernel
theorem dX7_remembers_67 : decode cX7_remembers 67 = .ok (.goto (-63), 3) := by decide +kernel
theorem dX7_remembers_70 : decode cX7_remembers 70 = .ok (.aload_n 0, 1) := by decide +kernel
theorem dX7_remembers_71 : decode cX7_remembers 71 = .ok (.getfield 7, 3) := by decide +kernel
theorem dX7_remembers_74 : decode cX7_remembers 74 = .ok (.bipush 48, 2) := by decide +kernel
theorem dX7_remembers_76 : decode cX7_remembers 76 = .ok (.bipush 7, 2) := by decide +kernel
theorem dX7_remembers_78 : decode cX7_remembers 78 = .ok (.iload_n 1, 1) := by decide +kernel
theorem dX7_remembers_79 : decode cX7_remembers 79 = .ok (.imul, 1) := by decide +kernel
theorem dX7_remembers_80 : decode cX7_remembers 80 = .ok (.iadd, 1) := by decide +kernel
theorem dX7_remembers_81 : decode cX7_remembers 81 = .ok (.iconst 1, 1) := by decide +kernel
theorem dX7_remembers_82 : decode cX7_remembers 82 = .ok (.iadd, 1) := by decide +kernel
theorem dX7_remembers_83 : decode cX7_remembers 83 = .ok (.aload_n 0, 1) := by decide +kernel
theorem dX7_remembers_84 : decode cX7_remembers 84 = .ok (.iload_n 1, 1) := by decide +kernel
theorem dX7_remembers_85 : decode cX7_remembers 85 = .ok (.iconst 0, 1) := by decide +kernel
theorem dX7_remembers_86 : decode cX7_remembers 86 = .ok (.invokevirtual 48, 3) := by decide +kernel
theorem dX7_remembers_89 : decode cX7_remembers 89 = .ok (.iastore, 1) := by decide +kernel
theorem dX7_remembers_90 : decode cX7_remembers 90 = .ok (.iload_n 2, 1) := by decide +kernel
theorem dX7_remembers_91 : decode cX7_remembers 91 = .ok (.ireturn, 1) := by decide +kernel
set_option maxRecDepth 20000 in
theorem ggX7_anchor_X7_isPlace : GoodIn wsX7_anchor wsX7_isPlace := goodIn_r _ [8, 2, 9, 10, 7, 11, 35, 36, 37, 38, 39, 40, 41, 42, 43, 44, 45, 46] (by decide +kernel) (by decide +kernel)
set_option maxRecDepth 20000 in
theorem gX7_anchor_X7_isPlace : GoodIn wsX7_anchor (wsV RX7 39 RX7 yX7_isPlace wsX7_isPlace) := goodIn_app (goodIn_of _ (by decide +kernel)) ggX7_anchor_X7_isPlace
set_option maxRecDepth 20000 in
theorem ggX7_anchor_X7_keeps : GoodIn wsX7_anchor wsX7_keeps := goodIn_r _ [15, 16, 2, 35, 36, 37, 38, 39, 40, 41, 42, 43, 44, 45, 46] (by decide +kernel) (by decide +kernel)
set_option maxRecDepth 20000 in
theorem gX7_anchor_X7_keeps : GoodIn wsX7_anchor (wsV RX7 57 RX7 yX7_keeps wsX7_keeps) := goodIn_app (goodIn_of _ (by decide +kernel)) ggX7_anchor_X7_keeps
set_option maxRecDepth 20000 in
theorem ggX7_anchor_X7_remembers : GoodIn wsX7_anchor wsX7_remembers := goodIn_r _ [20, 2, 21, 22, 23, 7, 24, 25, 26, 27, 28, 4, 5, 6, 8, 9, 10, 11, 35, 36, 37, 38, 39, 40, 41, 42, 43, 44, 45, 46] (by decide +kernel) (by decide +kernel)
set_option maxRecDepth 20000 in
theorem gX7_anchor_X7_remembers : GoodIn wsX7_anchor (wsV RX7 84 RX7 yX7_remembers wsX7_remembers) := goodIn_app (goodIn_of _ (by decide +kernel)) ggX7_anchor_X7_remembers
set_option maxRecDepth 20000 in
theorem ggX7_anchor_X7_acted : GoodIn wsX7_anchor wsX7_acted := goodIn_r _ [32, 1, 33, 34, 16, 35, 36, 37, 38, 39, 40, 41, 42, 43, 44, 45, 46] (by decide +kernel) (by decide +kernel)
set_option maxRecDepth 20000 in
theorem gX7_anchor_X7_acted : GoodIn wsX7_anchor (wsV RX7 63 RX7 yX7_acted wsX7_acted) := goodIn_app (goodIn_of _ (by decide +kernel)) ggX7_anchor_X7_acted
theorem dX7_anchor_0 : decode cX7_anchor 0 = .ok (.aload_n 0, 1) := by decide +kernel
theorem dX7_anchor_1 : decode cX7_anchor 1 = .ok (.iload_n 1, 1) := by decide +kernel
theorem dX7_anchor_2 : decode cX7_anchor 2 = .ok (.invokevirtual 39, 3) := by decide +kernel
theorem dX7_anchor_5 : decode cX7_anchor 5 = .ok (.ifCond .ne 6, 3) := by decide +kernel
theorem dX7_anchor_8 : decode cX7_anchor 8 = .ok (.ldc 43, 2) := by decide +kernel
theorem dX7_anchor_10 : decode cX7_anchor 10 = .ok (.ireturn, 1) := by decide +kernel
theorem dX7_anchor_11 : decode cX7_anchor 11 = .ok (.aload_n 0, 1) := by decide +kernel
theorem dX7_anchor_12 : decode cX7_anchor 12 = .ok (.getfield 7, 3) := by decide +kernel
theorem dX7_anchor_15 : decode cX7_anchor 15 = .ok (.iconst 1, 1) := by decide +kernel
theorem dX7_anchor_16 : decode cX7_anchor 16 = .ok (.iaload, 1) := by decide +kernel
theorem dX7_anchor_17 : decode cX7_anchor 17 = .ok (.bipush 6, 2) := by decide +kernel
theorem dX7_anchor_19 : decode cX7_anchor 19 = .ok (.if_icmp .ne 6, 3) := by decide +kernel
theorem dX7_anchor_22 : decode cX7_anchor 22 = .ok (.ldc 52, 2) := by decide +kernel
theorem dX7_anchor_24 : decode cX7_anchor 24 = .ok (.ireturn, 1) := by decide +kernel
theorem dX7_anchor_25 : decode cX7_anchor 25 = .ok (.aload_n 0, 1) := by decide +kernel
theorem dX7_anchor_26 : decode cX7_anchor 26 = .ok (.invokevirtual 57, 3) := by decide +kernel
theorem dX7_anchor_29 : decode cX7_anchor 29 = .ok (.aload_n 0, 1) := by decide +kernel
theorem dX7_anchor_30 : decode cX7_anchor 30 = .ok (.getfield 7, 3) := by decide +kernel
theorem dX7_anchor_33 : decode cX7_anchor 33 = .ok (.iconst 1, 1) := by decide +kernel
theorem dX7_anchor_34 : decode cX7_anchor 34 = .ok (.iaload, 1) := by decide +kernel
theorem dX7_anchor_35 : decode cX7_anchor 35 = .ok (.istore_n 2, 1) := by decide +kernel
theorem dX7_anchor_36 : decode cX7_anchor 36 = .ok (.aload_n 0, 1) := by decide +kernel
theorem dX7_anchor_37 : decode cX7_anchor 37 = .ok (.getfield 7, 3) := by decide +kernel
theorem dX7_anchor_40 : decode cX7_anchor 40 = .ok (.bipush 48, 2) := by decide +kernel
theorem dX7_anchor_42 : decode cX7_anchor 42 = .ok (.bipush 7, 2) := by decide +kernel
theorem dX7_anchor_44 : decode cX7_anchor 44 = .ok (.iload_n 2, 1) := by decide +kernel
theorem dX7_anchor_45 : decode cX7_anchor 45 = .ok (.imul, 1) := by decide +kernel
theorem dX7_anchor_46 : decode cX7_anchor 46 = .ok (.iadd, 1) := by decide +kernel
theorem dX7_anchor_47 : decode cX7_anchor 47 = .ok (.iload_n 1, 1) := by decide +kernel
theorem dX7_anchor_48 : decode cX7_anchor 48 = .ok (.iastore, 1) := by decide +kernel
theorem dX7_anchor_49 : decode cX7_anchor 49 = .ok (.aload_n 0, 1) := by decide +kernel
theorem dX7_anchor_50 : decode cX7_anchor 50 = .ok (.iload_n 2, 1) := by decide +kernel
theorem dX7_anchor_51 : decode cX7_anchor 51 = .ok (.invokevirtual 84, 3) := by decide +kernel
theorem dX7_anchor_54 : decode cX7_anchor 54 = .ok (.pop, 1) := by decide +kernel
theorem dX7_anchor_55 : decode cX7_anchor 55 = .ok (.aload_n 0, 1) := by decide +kernel
theorem dX7_anchor_56 : decode cX7_anchor 56 = .ok (.getfield 7, 3) := by decide +kernel
theorem dX7_anchor_59 : decode cX7_anchor 59 = .ok (.iconst 1, 1) := by decide +kernel
theorem dX7_anchor_60 : decode cX7_anchor 60 = .ok (.dup2, 1) := by decide +kernel
theorem dX7_anchor_61 : decode cX7_anchor 61 = .ok (.iaload, 1) := by decide +kernel
theorem dX7_anchor_62 : decode cX7_anchor 62 = .ok (.iconst 1, 1) := by decide +kernel
theorem dX7_anchor_63 : decode cX7_anchor 63 = .ok (.iadd, 1) := by decide +kernel
theorem dX7_anchor_64 : decode cX7_anchor 64 = .ok (.iastore, 1) := by decide +kernel
theorem dX7_anchor_65 : decode cX7_anchor 65 = .ok (.aload_n 0, 1) := by decide +kernel
theorem dX7_anchor_66 : decode cX7_anchor 66 = .ok (.iload_n 2, 1) := by decide +kernel
theorem dX7_anchor_67 : decode cX7_anchor 67 = .ok (.invokevirtual 63, 3) := by decide +kernel
theorem dX7_anchor_70 : decode cX7_anchor 70 = .ok (.ireturn, 1) := by decide +kernel
set_option maxRecDepth 20000 in
theorem ggX7_drop_X7_isAnchor : GoodIn wsX7_drop wsX7_isAnchor := goodIn_r _ [7, 2, 8, 9, 6, 10, 22, 23, 24, 25, 26, 27, 28, 29, 30, 31, 32, 33] (by decide +kernel) (by decide +kernel)
set_option maxRecDepth 20000 in
theorem gX7_drop_X7_isAnchor : GoodIn wsX7_drop (wsV RX7 87 RX7 yX7_isAnchor wsX7_isAnchor) := goodIn_app (goodIn_of _ (by decide +kernel)) ggX7_drop_X7_isAnchor
set_option maxRecDepth 20000 in
theorem ggX7_drop_X7_keeps : GoodIn wsX7_drop wsX7_keeps := goodIn_r _ [14, 15, 2, 22, 23, 24, 25, 26, 27, 28, 29, 30, 31, 32, 33] (by decide +kernel) (by decide +kernel)
set_option maxRecDepth 20000 in
theorem gX7_drop_X7_keeps : GoodIn wsX7_drop (wsV RX7 57 RX7 yX7_keeps wsX7_keeps) := goodIn_app (goodIn_of _ (by decide +kernel)) ggX7_drop_X7_keeps
set_option maxRecDepth 20000 in
theorem ggX7_drop_X7_acted : GoodIn wsX7_drop wsX7_acted := goodIn_r _ [19, 1, 20, 21, 15, 22, 23, 24, 25, 26, 27, 28, 29, 30, 31, 32, 33] (by decide +kernel) (by decide +kernel)
set_option maxRecDepth 20000 in
theorem gX7_drop_X7_acted : GoodIn wsX7_drop (wsV RX7 63 RX7 yX7_acted wsX7_acted) := goodIn_app (goodIn_of _ (by decide +kernel)) ggX7_drop_X7_acted
theorem dX7_drop_0 : decode cX7_drop 0 = .ok (.aload_n 0, 1) := by decide +kernel
theorem dX7_drop_1 : decode cX7_drop 1 = .ok (.iload_n 1, 1) := by decide +kernel
theorem dX7_drop_2 : decode cX7_drop 2 = .ok (.invokevirtual 87, 3) := by decide +kernel
theorem dX7_drop_5 : decode cX7_drop 5 = .ok (.ifCond .ne 6, 3) := by decide +kernel
theorem dX7_drop_8 : decode cX7_drop 8 = .ok (.ldc 43, 2) := by decide +kernel
theorem dX7_drop_10 : decode cX7_drop 10 = .ok (.ireturn, 1) := by decide +kernel
theorem dX7_drop_11 : decode cX7_drop 11 = .ok (.aload_n 0, 1) := by decide +kernel
theorem dX7_drop_12 : decode cX7_drop 12 = .ok (.invokevirtual 57, 3) := by decide +kernel
theorem dX7_drop_15 : decode cX7_drop 15 = .ok (.aload_n 0, 1) := by decide +kernel
theorem dX7_drop_16 : decode cX7_drop 16 = .ok (.getfield 7, 3) := by decide +kernel
theorem dX7_drop_19 : decode cX7_drop 19 = .ok (.iconst 1, 1) := by decide +kernel
theorem dX7_drop_20 : decode cX7_drop 20 = .ok (.dup2, 1) := by decide +kernel
theorem dX7_drop_21 : decode cX7_drop 21 = .ok (.iaload, 1) := by decide +kernel
theorem dX7_drop_22 : decode cX7_drop 22 = .ok (.iconst 1, 1) := by decide +kernel
theorem dX7_drop_23 : decode cX7_drop 23 = .ok (.isub, 1) := by decide +kernel
theorem dX7_drop_24 : decode cX7_drop 24 = .ok (.iastore, 1) := by decide +kernel
theorem dX7_drop_25 : decode cX7_drop 25 = .ok (.bipush 7, 2) := by decide +kernel
theorem dX7_drop_27 : decode cX7_drop 27 = .ok (.iload_n 1, 1) := by decide +kernel
theorem dX7_drop_28 : decode cX7_drop 28 = .ok (.imul, 1) := by decide +kernel
theorem dX7_drop_29 : decode cX7_drop 29 = .ok (.istore_n 2, 1) := by decide +kernel
theorem dX7_drop_30 : decode cX7_drop 30 = .ok (.iload_n 2, 1) := by decide +kernel
theorem dX7_drop_31 : decode cX7_drop 31 = .ok (.bipush 7, 2) := by decide +kernel
theorem dX7_drop_33 : decode cX7_drop 33 = .ok (.aload_n 0, 1) := by decide +kernel
theorem dX7_drop_34 : decode cX7_drop 34 = .ok (.getfield 7, 3) := by decide +kernel
theorem dX7_drop_37 : decode cX7_drop 37 = .ok (.iconst 1, 1) := by decide +kernel
theorem dX7_drop_38 : decode cX7_drop 38 = .ok (.iaload, 1) := by decide +kernel
theorem dX7_drop_39 : decode cX7_drop 39 = .ok (.imul, 1) := by decide +kernel
theorem dX7_drop_40 : decode cX7_drop 40 = .ok (.if_icmp .ge 30, 3) := by decide +kernel
theorem dX7_drop_43 : decode cX7_drop 43 = .ok (.aload_n 0, 1) := by decide +kernel
theorem dX7_drop_44 : decode cX7_drop 44 = .ok (.getfield 7, 3) := by decide +kernel
theorem dX7_drop_47 : decode cX7_drop 47 = .ok (.bipush 48, 2) := by decide +kernel
theorem dX7_drop_49 : decode cX7_drop 49 = .ok (.iload_n 2, 1) := by decide +kernel
theorem dX7_drop_50 : decode cX7_drop 50 = .ok (.iadd, 1) := by decide +kernel
theorem dX7_drop_51 : decode cX7_drop 51 = .ok (.aload_n 0, 1) := by decide +kernel
theorem dX7_drop_52 : decode cX7_drop 52 = .ok (.getfield 7, 3) := by decide +kernel
theorem dX7_drop_55 : decode cX7_drop 55 = .ok (.bipush 48, 2) := by decide +kernel
theorem dX7_drop_57 : decode cX7_drop 57 = .ok (.iload_n 2, 1) := by decide +kernel
theorem dX7_drop_58 : decode cX7_drop 58 = .ok (.iadd, 1) := by decide +kernel
theorem dX7_drop_59 : decode cX7_drop 59 = .ok (.bipush 7, 2) := by decide +kernel
theorem dX7_drop_61 : decode cX7_drop 61 = .ok (.iadd, 1) := by decide +kernel
theorem dX7_drop_62 : decode cX7_drop 62 = .ok (.iaload, 1) := by decide +kernel
theorem dX7_drop_63 : decode cX7_drop 63 = .ok (.iastore, 1) := by decide +kernel
theorem dX7_drop_64 : decode cX7_drop 64 = .ok (.iinc 2 1, 3) := by decide +kernel
theorem dX7_drop_67 : decode cX7_drop 67 = .ok (.goto (-37), 3) := by decide +kernel
theorem dX7_drop_70 : decode cX7_drop 70 = .ok (.aload_n 0, 1) := by decide +kernel
theorem dX7_drop_71 : decode cX7_drop 71 = .ok (.aload_n 0, 1) := by decide +kernel
theorem dX7_drop_72 : decode cX7_drop 72 = .ok (.getfield 7, 3) := by decide +kernel
theorem dX7_drop_75 : decode cX7_drop 75 = .ok (.iconst 1, 1) := by decide +kernel
theorem dX7_drop_76 : decode cX7_drop 76 = .ok (.iaload, 1) := by decide +kernel
theorem dX7_drop_77 : decode cX7_drop 77 = .ok (.invokevirtual 63, 3) := by decide +kernel
theorem dX7_drop_80 : decode cX7_drop 80 = .ok (.ireturn, 1) := by decide +kernel
set_option maxRecDepth 20000 in
theorem ggX7_scoreAt_X7_word : GoodIn wsX7_scoreAt wsX7_word := goodIn_r _ [6, 1, 7, 8, 9, 5, 10, 11, 12, 13, 18, 19, 20, 21, 22, 23, 24, 25, 26, 27, 28, 29] (by decide +kernel) (by decide +kernel)
set_option maxRecDepth 20000 in
theorem gX7_scoreAt_X7_word : GoodIn wsX7_scoreAt (wsV RX7 81 RX7 yX7_word wsX7_word) := goodIn_app (goodIn_of _ (by decide +kernel)) ggX7_scoreAt_X7_word
set_option maxRecDepth 20000 in
theorem ggX7_scoreAt_X7_an : GoodIn wsX7_scoreAt wsX7_an := goodIn_r _ [17, 1, 18, 19, 20, 21, 22, 23, 24, 25, 26, 27, 28, 29] (by decide +kernel) (by decide +kernel)
set_option maxRecDepth 20000 in
theorem gX7_scoreAt_X7_an : GoodIn wsX7_scoreAt (wsV RX7 48 RX7 yX7_an wsX7_an) := goodIn_app (goodIn_of _ (by decide +kernel)) ggX7_scoreAt_X7_an
theorem dX7_scoreAt_0 : decode cX7_scoreAt 0 = .ok (.iconst 0, 1) := by decide +kernel
theorem dX7_scoreAt_1 : decode cX7_scoreAt 1 = .ok (.istore_n 3, 1) := by decide +kernel
theorem dX7_scoreAt_2 : decode cX7_scoreAt 2 = .ok (.iconst 0, 1) := by decide +kernel
theorem dX7_scoreAt_3 : decode cX7_scoreAt 3 = .ok (.istore 4, 2) := by decide +kernel
theorem dX7_scoreAt_5 : decode cX7_scoreAt 5 = .ok (.iload 4, 2) := by decide +kernel
theorem dX7_scoreAt_7 : decode cX7_scoreAt 7 = .ok (.iconst 5, 1) := by decide +kernel
theorem dX7_scoreAt_8 : decode cX7_scoreAt 8 = .ok (.if_icmp .ge 66, 3) := by decide +kernel
theorem dX7_scoreAt_11 : decode cX7_scoreAt 11 = .ok (.iload 4, 2) := by decide +kernel
theorem dX7_scoreAt_13 : decode cX7_scoreAt 13 = .ok (.iconst 2, 1) := by decide +kernel
theorem dX7_scoreAt_14 : decode cX7_scoreAt 14 = .ok (.if_icmp .ge 10, 3) := by decide +kernel
theorem dX7_scoreAt_17 : decode cX7_scoreAt 17 = .ok (.iconst 2, 1) := by decide +kernel
theorem dX7_scoreAt_18 : decode cX7_scoreAt 18 = .ok (.iload 4, 2) := by decide +kernel
theorem dX7_scoreAt_20 : decode cX7_scoreAt 20 = .ok (.isub, 1) := by decide +kernel
theorem dX7_scoreAt_21 : decode cX7_scoreAt 21 = .ok (.goto 7, 3) := by decide +kernel
theorem dX7_scoreAt_24 : decode cX7_scoreAt 24 = .ok (.iload 4, 2) := by decide +kernel
theorem dX7_scoreAt_26 : decode cX7_scoreAt 26 = .ok (.iconst 2, 1) := by decide +kernel
theorem dX7_scoreAt_27 : decode cX7_scoreAt 27 = .ok (.isub, 1) := by decide +kernel
theorem dX7_scoreAt_28 : decode cX7_scoreAt 28 = .ok (.istore 5, 2) := by decide +kernel
theorem dX7_scoreAt_30 : decode cX7_scoreAt 30 = .ok (.iload_n 3, 1) := by decide +kernel
theorem dX7_scoreAt_31 : decode cX7_scoreAt 31 = .ok (.aload_n 0, 1) := by decide +kernel
theorem dX7_scoreAt_32 : decode cX7_scoreAt 32 = .ok (.iload_n 2, 1) := by decide +kernel
theorem dX7_scoreAt_33 : decode cX7_scoreAt 33 = .ok (.iload 4, 2) := by decide +kernel
theorem dX7_scoreAt_35 : decode cX7_scoreAt 35 = .ok (.iadd, 1) := by decide +kernel
theorem dX7_scoreAt_36 : decode cX7_scoreAt 36 = .ok (.iconst 2, 1) := by decide +kernel
theorem dX7_scoreAt_37 : decode cX7_scoreAt 37 = .ok (.isub, 1) := by decide +kernel
theorem dX7_scoreAt_38 : decode cX7_scoreAt 38 = .ok (.invokevirtual 81, 3) := by decide +kernel
theorem dX7_scoreAt_41 : decode cX7_scoreAt 41 = .ok (.aload_n 0, 1) := by decide +kernel
theorem dX7_scoreAt_42 : decode cX7_scoreAt 42 = .ok (.iload_n 1, 1) := by decide +kernel
theorem dX7_scoreAt_43 : decode cX7_scoreAt 43 = .ok (.iconst 2, 1) := by decide +kernel
theorem dX7_scoreAt_44 : decode cX7_scoreAt 44 = .ok (.iload 4, 2) := by decide +kernel
theorem dX7_scoreAt_46 : decode cX7_scoreAt 46 = .ok (.iadd, 1) := by decide +kernel
theorem dX7_scoreAt_47 : decode cX7_scoreAt 47 = .ok (.invokevirtual 48, 3) := by decide +kernel
theorem dX7_scoreAt_50 : decode cX7_scoreAt 50 = .ok (.if_icmp .ne 15, 3) := by decide +kernel
theorem dX7_scoreAt_53 : decode cX7_scoreAt 53 = .ok (.aload_n 0, 1) := by decide +kernel
theorem dX7_scoreAt_54 : decode cX7_scoreAt 54 = .ok (.getfield 7, 3) := by decide +kernel
theorem dX7_scoreAt_57 : decode cX7_scoreAt 57 = .ok (.iconst 3, 1) := by decide +kernel
theorem dX7_scoreAt_58 : decode cX7_scoreAt 58 = .ok (.iload 5, 2) := by decide +kernel
theorem dX7_scoreAt_60 : decode cX7_scoreAt 60 = .ok (.iadd, 1) := by decide +kernel
theorem dX7_scoreAt_61 : decode cX7_scoreAt 61 = .ok (.iaload, 1) := by decide +kernel
theorem dX7_scoreAt_62 : decode cX7_scoreAt 62 = .ok (.goto 4, 3) := by decide +kernel
theorem dX7_scoreAt_65 : decode cX7_scoreAt 65 = .ok (.iconst 0, 1) := by decide +kernel
theorem dX7_scoreAt_66 : decode cX7_scoreAt 66 = .ok (.iadd, 1) := by decide +kernel
theorem dX7_scoreAt_67 : decode cX7_scoreAt 67 = .ok (.istore_n 3, 1) := by decide +kernel
theorem dX7_scoreAt_68 : decode cX7_scoreAt 68 = .ok (.iinc 4 1, 3) := by decide +kernel
theorem dX7_scoreAt_71 : decode cX7_scoreAt 71 = .ok (.goto (-66), 3) := by decide +kernel
theorem dX7_scoreAt_74 : decode cX7_scoreAt 74 = .ok (.iload_n 3, 1) := by decide +kernel
theorem dX7_scoreAt_75 : decode cX7_scoreAt 75 = .ok (.ireturn, 1) := by decide +kernel
set_option maxRecDepth 20000 in
theorem ggX7_best_X7_scoreAt : GoodIn wsX7_best wsX7_scoreAt := goodIn_r _ [6, 1, 7, 8, 9, 5, 10, 11, 12, 13, 14, 15, 16, 17, 18, 19, 20, 21, 22, 23, 24, 25, 26, 27, 28, 29, 30, 31, 32, 33] (by decide +kernel) (by decide +kernel)
set_option maxRecDepth 20000 in
theorem gX7_best_X7_scoreAt : GoodIn wsX7_best (wsV RX7 90 RX7 yX7_scoreAt wsX7_scoreAt) := goodIn_app (goodIn_of _ (by decide +kernel)) ggX7_best_X7_scoreAt
set_option maxRecDepth 20000 in
theorem ggX7_best_X7_an : GoodIn wsX7_best wsX7_an := goodIn_r _ [21, 1, 22, 23, 24, 25, 26, 27, 28, 29, 30, 31, 32, 33] (by decide +kernel) (by decide +kernel)
set_option maxRecDepth 20000 in
theorem gX7_best_X7_an : GoodIn wsX7_best (wsV RX7 48 RX7 yX7_an wsX7_an) := goodIn_app (goodIn_of _ (by decide +kernel)) ggX7_best_X7_an
theorem dX7_best_0 : decode cX7_best 0 = .ok (.iconst (-1), 1) := by decide +kernel
theorem dX7_best_1 : decode cX7_best 1 = .ok (.istore_n 3, 1) := by decide +kernel
theorem dX7_best_2 : decode cX7_best 2 = .ok (.iconst (-1), 1) := by decide +kernel
theorem dX7_best_3 : decode cX7_best 3 = .ok (.istore 4, 2) := by decide +kernel
theorem dX7_best_5 : decode cX7_best 5 = .ok (.iconst 0, 1) := by decide +kernel
theorem dX7_best_6 : decode cX7_best 6 = .ok (.istore 5, 2) := by decide +kernel
theorem dX7_best_8 : decode cX7_best 8 = .ok (.iconst 0, 1) := by decide +kernel
theorem dX7_best_9 : decode cX7_best 9 = .ok (.istore 6, 2) := by decide +kernel
theorem dX7_best_11 : decode cX7_best 11 = .ok (.iload 6, 2) := by decide +kernel
theorem dX7_best_13 : decode cX7_best 13 = .ok (.aload_n 0, 1) := by decide +kernel
theorem dX7_best_14 : decode cX7_best 14 = .ok (.getfield 7, 3) := by decide +kernel
theorem dX7_best_17 : decode cX7_best 17 = .ok (.iconst 0, 1) := by decide +kernel
theorem dX7_best_18 : decode cX7_best 18 = .ok (.iaload, 1) := by decide +kernel
theorem dX7_best_19 : decode cX7_best 19 = .ok (.if_icmp .ge 82, 3) := by decide +kernel
theorem dX7_best_22 : decode cX7_best 22 = .ok (.aload_n 0, 1) := by decide +kernel
theorem dX7_best_23 : decode cX7_best 23 = .ok (.iload_n 1, 1) := by decide +kernel
theorem dX7_best_24 : decode cX7_best 24 = .ok (.iload 6, 2) := by decide +kernel
theorem dX7_best_26 : decode cX7_best 26 = .ok (.invokevirtual 90, 3) := by decide +kernel
theorem dX7_best_29 : decode cX7_best 29 = .ok (.istore 7, 2) := by decide +kernel
theorem dX7_best_31 : decode cX7_best 31 = .ok (.iload 6, 2) := by decide +kernel
theorem dX7_best_33 : decode cX7_best 33 = .ok (.aload_n 0, 1) := by decide +kernel
theorem dX7_best_34 : decode cX7_best 34 = .ok (.iload_n 1, 1) := by decide +kernel
theorem dX7_best_35 : decode cX7_best 35 = .ok (.iconst 0, 1) := by decide +kernel
theorem dX7_best_36 : decode cX7_best 36 = .ok (.invokevirtual 48, 3) := by decide +kernel
theorem dX7_best_39 : decode cX7_best 39 = .ok (.isub, 1) := by decide +kernel
theorem dX7_best_40 : decode cX7_best 40 = .ok (.istore 8, 2) := by decide +kernel
theorem dX7_best_42 : decode cX7_best 42 = .ok (.iload 8, 2) := by decide +kernel
theorem dX7_best_44 : decode cX7_best 44 = .ok (.ifCond .ge 9, 3) := by decide +kernel
theorem dX7_best_47 : decode cX7_best 47 = .ok (.iload 8, 2) := by decide +kernel
theorem dX7_best_49 : decode cX7_best 49 = .ok (.ineg, 1) := by decide +kernel
theorem dX7_best_50 : decode cX7_best 50 = .ok (.goto 5, 3) := by decide +kernel
theorem dX7_best_53 : decode cX7_best 53 = .ok (.iload 8, 2) := by decide +kernel
theorem dX7_best_55 : decode cX7_best 55 = .ok (.istore 8, 2) := by decide +kernel
theorem dX7_best_57 : decode cX7_best 57 = .ok (.iload 6, 2) := by decide +kernel
theorem dX7_best_59 : decode cX7_best 59 = .ok (.iload_n 2, 1) := by decide +kernel
theorem dX7_best_60 : decode cX7_best 60 = .ok (.if_icmp .eq 35, 3) := by decide +kernel
theorem dX7_best_63 : decode cX7_best 63 = .ok (.iload 7, 2) := by decide +kernel
theorem dX7_best_65 : decode cX7_best 65 = .ok (.iload 4, 2) := by decide +kernel
theorem dX7_best_67 : decode cX7_best 67 = .ok (.if_icmp .gt 17, 3) := by decide +kernel
theorem dX7_best_70 : decode cX7_best 70 = .ok (.iload 7, 2) := by decide +kernel
theorem dX7_best_72 : decode cX7_best 72 = .ok (.iload 4, 2) := by decide +kernel
theorem dX7_best_74 : decode cX7_best 74 = .ok (.if_icmp .ne 21, 3) := by decide +kernel
theorem dX7_best_77 : decode cX7_best 77 = .ok (.iload 8, 2) := by decide +kernel
theorem dX7_best_79 : decode cX7_best 79 = .ok (.iload 5, 2) := by decide +kernel
theorem dX7_best_81 : decode cX7_best 81 = .ok (.if_icmp .ge 14, 3) := by decide +kernel
theorem dX7_best_84 : decode cX7_best 84 = .ok (.iload 6, 2) := by decide +kernel
theorem dX7_best_86 : decode cX7_best 86 = .ok (.istore_n 3, 1) := by decide +kernel
theorem dX7_best_87 : decode cX7_best 87 = .ok (.iload 7, 2) := by decide +kernel
theorem dX7_best_89 : decode cX7_best 89 = .ok (.istore 4, 2) := by decide +kernel
theorem dX7_best_91 : decode cX7_best 91 = .ok (.iload 8, 2) := by decide +kernel
theorem dX7_best_93 : decode cX7_best 93 = .ok (.istore 5, 2) := by decide +kernel
theorem dX7_best_95 : decode cX7_best 95 = .ok (.iinc 6 1, 3) := by decide +kernel
theorem dX7_best_98 : decode cX7_best 98 = .ok (.goto (-87), 3) := by decide +kernel
theorem dX7_best_101 : decode cX7_best 101 = .ok (.iload_n 3, 1) := by decide +kernel
theorem dX7_best_102 : decode cX7_best 102 = .ok (.ireturn, 1) := by decide +kernel
set_option maxRecDepth 20000 in
theorem ggX7_how_X7_best : GoodIn wsX7_how wsX7_best := goodIn_r _ [6, 1, 7, 8, 9, 5, 10, 11, 12, 13, 14, 15, 16, 17, 18, 19, 20, 21, 22, 23, 24, 25, 26, 27, 28, 29, 30, 31, 32, 33, 34, 35, 36, 37] (by decide +kernel) (by decide +kernel)
set_option maxRecDepth 20000 in
theorem gX7_how_X7_best : GoodIn wsX7_how (wsV RX7 93 RX7 yX7_best wsX7_best) := goodIn_app (goodIn_of _ (by decide +kernel)) ggX7_how_X7_best
set_option maxRecDepth 20000 in
theorem ggX7_how_X7_scoreAt : GoodIn wsX7_how wsX7_scoreAt := goodIn_r _ [10, 1, 11, 12, 13, 5, 14, 15, 16, 17, 18, 19, 20, 21, 22, 23, 24, 25, 26, 27, 28, 29, 30, 31, 32, 33, 34, 35, 36, 37] (by decide +kernel) (by decide +kernel)
set_option maxRecDepth 20000 in
theorem gX7_how_X7_scoreAt : GoodIn wsX7_how (wsV RX7 90 RX7 yX7_scoreAt wsX7_scoreAt) := goodIn_app (goodIn_of _ (by decide +kernel)) ggX7_how_X7_scoreAt
theorem dX7_how_0 : decode cX7_how 0 = .ok (.aload_n 0, 1) := by decide +kernel
theorem dX7_how_1 : decode cX7_how 1 = .ok (.iload_n 1, 1) := by decide +kernel
theorem dX7_how_2 : decode cX7_how 2 = .ok (.iconst (-1), 1) := by decide +kernel
theorem dX7_how_3 : decode cX7_how 3 = .ok (.invokevirtual 93, 3) := by decide +kernel
theorem dX7_how_6 : decode cX7_how 6 = .ok (.istore_n 2, 1) := by decide +kernel
theorem dX7_how_7 : decode cX7_how 7 = .ok (.iload_n 2, 1) := by decide +kernel
theorem dX7_how_8 : decode cX7_how 8 = .ok (.ifCond .lt 19, 3) := by decide +kernel
theorem dX7_how_11 : decode cX7_how 11 = .ok (.aload_n 0, 1) := by decide +kernel
theorem dX7_how_12 : decode cX7_how 12 = .ok (.iload_n 1, 1) := by decide +kernel
theorem dX7_how_13 : decode cX7_how 13 = .ok (.iload_n 2, 1) := by decide +kernel
theorem dX7_how_14 : decode cX7_how 14 = .ok (.invokevirtual 90, 3) := by decide +kernel
theorem dX7_how_17 : decode cX7_how 17 = .ok (.aload_n 0, 1) := by decide +kernel
theorem dX7_how_18 : decode cX7_how 18 = .ok (.getfield 7, 3) := by decide +kernel
theorem dX7_how_21 : decode cX7_how 21 = .ok (.bipush 6, 2) := by decide +kernel
theorem dX7_how_23 : decode cX7_how 23 = .ok (.iaload, 1) := by decide +kernel
theorem dX7_how_24 : decode cX7_how 24 = .ok (.if_icmp .ge 5, 3) := by decide +kernel
theorem dX7_how_27 : decode cX7_how 27 = .ok (.iconst 2, 1) := by decide +kernel
theorem dX7_how_28 : decode cX7_how 28 = .ok (.ireturn, 1) := by decide +kernel
theorem dX7_how_29 : decode cX7_how 29 = .ok (.aload_n 0, 1) := by decide +kernel
theorem dX7_how_30 : decode cX7_how 30 = .ok (.iload_n 1, 1) := by decide +kernel
theorem dX7_how_31 : decode cX7_how 31 = .ok (.iload_n 2, 1) := by decide +kernel
theorem dX7_how_32 : decode cX7_how 32 = .ok (.invokevirtual 93, 3) := by decide +kernel
theorem dX7_how_35 : decode cX7_how 35 = .ok (.istore_n 3, 1) := by decide +kernel
theorem dX7_how_36 : decode cX7_how 36 = .ok (.iload_n 3, 1) := by decide +kernel
theorem dX7_how_37 : decode cX7_how 37 = .ok (.ifCond .lt 30, 3) := by decide +kernel
theorem dX7_how_40 : decode cX7_how 40 = .ok (.aload_n 0, 1) := by decide +kernel
theorem dX7_how_41 : decode cX7_how 41 = .ok (.iload_n 1, 1) := by decide +kernel
theorem dX7_how_42 : decode cX7_how 42 = .ok (.iload_n 3, 1) := by decide +kernel
theorem dX7_how_43 : decode cX7_how 43 = .ok (.invokevirtual 90, 3) := by decide +kernel
theorem dX7_how_46 : decode cX7_how 46 = .ok (.aload_n 0, 1) := by decide +kernel
theorem dX7_how_47 : decode cX7_how 47 = .ok (.iload_n 1, 1) := by decide +kernel
theorem dX7_how_48 : decode cX7_how 48 = .ok (.iload_n 2, 1) := by decide +kernel
theorem dX7_how_49 : decode cX7_how 49 = .ok (.invokevirtual 90, 3) := by decide +kernel
theorem dX7_how_52 : decode cX7_how 52 = .ok (.aload_n 0, 1) := by decide +kernel
theorem dX7_how_53 : decode cX7_how 53 = .ok (.getfield 7, 3) := by decide +kernel
theorem dX7_how_56 : decode cX7_how 56 = .ok (.bipush 7, 2) := by decide +kernel
theorem dX7_how_58 : decode cX7_how 58 = .ok (.iaload, 1) := by decide +kernel
theorem dX7_how_59 : decode cX7_how 59 = .ok (.isub, 1) := by decide +kernel
theorem dX7_how_60 : decode cX7_how 60 = .ok (.if_icmp .lt 7, 3) := by decide +kernel
theorem dX7_how_63 : decode cX7_how 63 = .ok (.iconst 1, 1) := by decide +kernel
theorem dX7_how_64 : decode cX7_how 64 = .ok (.goto 4, 3) := by decide +kernel
theorem dX7_how_67 : decode cX7_how 67 = .ok (.iconst 0, 1) := by decide +kernel
theorem dX7_how_68 : decode cX7_how 68 = .ok (.ireturn, 1) := by decide +kernel
set_option maxRecDepth 20000 in
theorem ggX7_find_X7_isAnchor : GoodIn wsX7_find wsX7_isAnchor := goodIn_r _ [8, 3, 9, 10, 7, 11, 47, 48, 49, 50, 51, 52, 53, 54, 55, 56, 57, 58] (by decide +kernel) (by decide +kernel)
set_option maxRecDepth 20000 in
theorem gX7_find_X7_isAnchor : GoodIn wsX7_find (wsV RX7 87 RX7 yX7_isAnchor wsX7_isAnchor) := goodIn_app (goodIn_of _ (by decide +kernel)) ggX7_find_X7_isAnchor
set_option maxRecDepth 20000 in
theorem ggX7_find_X7_how : GoodIn wsX7_find wsX7_how := goodIn_r _ [15, 3, 16, 17, 18, 7, 19, 20, 21, 22, 23, 24, 25, 26, 27, 28, 29, 30, 31, 9, 10, 11, 32, 33, 34, 35, 47, 48, 49, 50, 51, 52, 53, 54, 55, 56, 57, 58] (by decide +kernel) (by decide +kernel)
set_option maxRecDepth 20000 in
theorem gX7_find_X7_how : GoodIn wsX7_find (wsV RX7 96 RX7 yX7_how wsX7_how) := goodIn_app (goodIn_of _ (by decide +kernel)) ggX7_find_X7_how
set_option maxRecDepth 20000 in
theorem ggX7_find_X7_keeps : GoodIn wsX7_find wsX7_keeps := goodIn_r _ [39, 40, 3, 47, 48, 49, 50, 51, 52, 53, 54, 55, 56, 57, 58] (by decide +kernel) (by decide +kernel)
set_option maxRecDepth 20000 in
theorem gX7_find_X7_keeps : GoodIn wsX7_find (wsV RX7 57 RX7 yX7_keeps wsX7_keeps) := goodIn_app (goodIn_of _ (by decide +kernel)) ggX7_find_X7_keeps
set_option maxRecDepth 20000 in
theorem ggX7_find_X7_best : GoodIn wsX7_find wsX7_best := goodIn_r _ [19, 3, 20, 21, 22, 7, 23, 24, 25, 26, 27, 28, 29, 30, 31, 9, 10, 11, 32, 33, 34, 35, 47, 48, 49, 50, 51, 52, 53, 54, 55, 56, 57, 58] (by decide +kernel) (by decide +kernel)
set_option maxRecDepth 20000 in
theorem gX7_find_X7_best : GoodIn wsX7_find (wsV RX7 93 RX7 yX7_best wsX7_best) := goodIn_app (goodIn_of _ (by decide +kernel)) ggX7_find_X7_best
set_option maxRecDepth 20000 in
theorem ggX7_find_X7_an : GoodIn wsX7_find wsX7_an := goodIn_r _ [35, 3, 47, 48, 49, 50, 51, 52, 53, 54, 55, 56, 57, 58] (by decide +kernel) (by decide +kernel)
set_option maxRecDepth 20000 in
theorem gX7_find_X7_an : GoodIn wsX7_find (wsV RX7 48 RX7 yX7_an wsX7_an) := goodIn_app (goodIn_of _ (by decide +kernel)) ggX7_find_X7_an
set_option maxRecDepth 20000 in
theorem ggX7_find_X7_acted : GoodIn wsX7_find wsX7_acted := goodIn_r _ [44, 1, 45, 46, 40, 47, 48, 49, 50, 51, 52, 53, 54, 55, 56, 57, 58] (by decide +kernel) (by decide +kernel)
set_option maxRecDepth 20000 in
theorem gX7_find_X7_acted : GoodIn wsX7_find (wsV RX7 63 RX7 yX7_acted wsX7_acted) := goodIn_app (goodIn_of _ (by decide +kernel)) ggX7_find_X7_acted
theorem dX7_find_0 : decode cX7_find 0 = .ok (.aload_n 0, 1) := by decide +kernel
theorem dX7_find_1 : decode cX7_find 1 = .ok (.iload_n 1, 1) := by decide +kernel
theorem dX7_find_2 : decode cX7_find 2 = .ok (.invokevirtual 87, 3) := by decide +kernel
theorem dX7_find_5 : decode cX7_find 5 = .ok (.ifCond .ne 6, 3) := by decide +kernel
theorem dX7_find_8 : decode cX7_find 8 = .ok (.ldc 43, 2) := by decide +kernel
theorem dX7_find_10 : decode cX7_find 10 = .ok (.ireturn, 1) := by decide +kernel
theorem dX7_find_11 : decode cX7_find 11 = .ok (.aload_n 0, 1) := by decide +kernel
theorem dX7_find_12 : decode cX7_find 12 = .ok (.iload_n 1, 1) := by decide +kernel
theorem dX7_find_13 : decode cX7_find 13 = .ok (.invokevirtual 96, 3) := by decide +kernel
theorem dX7_find_16 : decode cX7_find 16 = .ok (.iconst 2, 1) := by decide +kernel
theorem dX7_find_17 : decode cX7_find 17 = .ok (.if_icmp .ne 6, 3) := by decide +kernel
theorem dX7_find_20 : decode cX7_find 20 = .ok (.ldc 99, 2) := by decide +kernel
theorem dX7_find_22 : decode cX7_find 22 = .ok (.ireturn, 1) := by decide +kernel
theorem dX7_find_23 : decode cX7_find 23 = .ok (.aload_n 0, 1) := by decide +kernel
theorem dX7_find_24 : decode cX7_find 24 = .ok (.invokevirtual 57, 3) := by decide +kernel
theorem dX7_find_27 : decode cX7_find 27 = .ok (.aload_n 0, 1) := by decide +kernel
theorem dX7_find_28 : decode cX7_find 28 = .ok (.getfield 7, 3) := by decide +kernel
theorem dX7_find_31 : decode cX7_find 31 = .ok (.bipush 48, 2) := by decide +kernel
theorem dX7_find_33 : decode cX7_find 33 = .ok (.bipush 7, 2) := by decide +kernel
theorem dX7_find_35 : decode cX7_find 35 = .ok (.iload_n 1, 1) := by decide +kernel
theorem dX7_find_36 : decode cX7_find 36 = .ok (.imul, 1) := by decide +kernel
theorem dX7_find_37 : decode cX7_find 37 = .ok (.iadd, 1) := by decide +kernel
theorem dX7_find_38 : decode cX7_find 38 = .ok (.aload_n 0, 1) := by decide +kernel
theorem dX7_find_39 : decode cX7_find 39 = .ok (.iload_n 1, 1) := by decide +kernel
theorem dX7_find_40 : decode cX7_find 40 = .ok (.iconst (-1), 1) := by decide +kernel
theorem dX7_find_41 : decode cX7_find 41 = .ok (.invokevirtual 93, 3) := by decide +kernel
theorem dX7_find_44 : decode cX7_find 44 = .ok (.iastore, 1) := by decide +kernel
theorem dX7_find_45 : decode cX7_find 45 = .ok (.aload_n 0, 1) := by decide +kernel
theorem dX7_find_46 : decode cX7_find 46 = .ok (.aload_n 0, 1) := by decide +kernel
theorem dX7_find_47 : decode cX7_find 47 = .ok (.iload_n 1, 1) := by decide +kernel
theorem dX7_find_48 : decode cX7_find 48 = .ok (.iconst 0, 1) := by decide +kernel
theorem dX7_find_49 : decode cX7_find 49 = .ok (.invokevirtual 48, 3) := by decide +kernel
theorem dX7_find_52 : decode cX7_find 52 = .ok (.invokevirtual 63, 3) := by decide +kernel
theorem dX7_find_55 : decode cX7_find 55 = .ok (.ireturn, 1) := by decide +kernel
set_option maxRecDepth 20000 in
theorem ggX7_findAll_X7_keeps : GoodIn wsX7_findAll wsX7_keeps := goodIn_r _ [6, 7, 1, 42, 43, 44, 45, 46, 47, 48, 49, 50, 51, 52, 53] (by decide +kernel) (by decide +kernel)
set_option maxRecDepth 20000 in
theorem gX7_findAll_X7_keeps : GoodIn wsX7_findAll (wsV RX7 57 RX7 yX7_keeps wsX7_keeps) := goodIn_app (goodIn_of _ (by decide +kernel)) ggX7_findAll_X7_keeps
set_option maxRecDepth 20000 in
theorem ggX7_findAll_X7_how : GoodIn wsX7_findAll wsX7_how := goodIn_r _ [11, 1, 12, 13, 14, 5, 15, 16, 17, 18, 19, 20, 21, 22, 23, 24, 25, 26, 27, 28, 29, 30, 31, 32, 33, 34, 42, 43, 44, 45, 46, 47, 48, 49, 50, 51, 52, 53] (by decide +kernel) (by decide +kernel)
set_option maxRecDepth 20000 in
theorem gX7_findAll_X7_how : GoodIn wsX7_findAll (wsV RX7 96 RX7 yX7_how wsX7_how) := goodIn_app (goodIn_of _ (by decide +kernel)) ggX7_findAll_X7_how
set_option maxRecDepth 20000 in
theorem ggX7_findAll_X7_an : GoodIn wsX7_findAll wsX7_an := goodIn_r _ [34, 1, 42, 43, 44, 45, 46, 47, 48, 49, 50, 51, 52, 53] (by decide +kernel) (by decide +kernel)
set_option maxRecDepth 20000 in
theorem gX7_findAll_X7_an : GoodIn wsX7_findAll (wsV RX7 48 RX7 yX7_an wsX7_an) := goodIn_app (goodIn_of _ (by decide +kernel)) ggX7_findAll_X7_an
set_option maxRecDepth 20000 in
theorem ggX7_findAll_X7_best : GoodIn wsX7_findAll wsX7_best := goodIn_r _ [15, 1, 16, 17, 18, 5, 19, 20, 21, 22, 23, 24, 25, 26, 27, 28, 29, 30, 31, 32, 33, 34, 42, 43, 44, 45, 46, 47, 48, 49, 50, 51, 52, 53] (by decide +kernel) (by decide +kernel)
set_option maxRecDepth 20000 in
theorem gX7_findAll_X7_best : GoodIn wsX7_findAll (wsV RX7 93 RX7 yX7_best wsX7_best) := goodIn_app (goodIn_of _ (by decide +kernel)) ggX7_findAll_X7_best
set_option maxRecDepth 20000 in
theorem ggX7_findAll_X7_acted : GoodIn wsX7_findAll wsX7_acted := goodIn_r _ [38, 39, 40, 41, 7, 42, 43, 44, 45, 46, 47, 48, 49, 50, 51, 52, 53] (by decide +kernel) (by decide +kernel)
set_option maxRecDepth 20000 in
theorem gX7_findAll_X7_acted : GoodIn wsX7_findAll (wsV RX7 63 RX7 yX7_acted wsX7_acted) := goodIn_app (goodIn_of _ (by decide +kernel)) ggX7_findAll_X7_acted
theorem dX7_findAll_0 : decode cX7_findAll 0 = .ok (.aload_n 0, 1) := by decide +kernel
theorem dX7_findAll_1 : decode cX7_findAll 1 = .ok (.invokevirtual 57, 3) := by decide +kernel
theorem dX7_findAll_4 : decode cX7_findAll 4 = .ok (.iconst 0, 1) := by decide +kernel
theorem dX7_findAll_5 : decode cX7_findAll 5 = .ok (.istore_n 1, 1) := by decide +kernel
theorem dX7_findAll_6 : decode cX7_findAll 6 = .ok (.iconst 0, 1) := by decide +kernel
theorem dX7_findAll_7 : decode cX7_findAll 7 = .ok (.istore_n 2, 1) := by decide +kernel
theorem dX7_findAll_8 : decode cX7_findAll 8 = .ok (.iload_n 2, 1) := by decide +kernel
theorem dX7_findAll_9 : decode cX7_findAll 9 = .ok (.aload_n 0, 1) := by decide +kernel
theorem dX7_findAll_10 : decode cX7_findAll 10 = .ok (.getfield 7, 3) := by decide +kernel
theorem dX7_findAll_13 : decode cX7_findAll 13 = .ok (.iconst 1, 1) := by decide +kernel
theorem dX7_findAll_14 : decode cX7_findAll 14 = .ok (.iaload, 1) := by decide +kernel
theorem dX7_findAll_15 : decode cX7_findAll 15 = .ok (.if_icmp .ge 65, 3) := by decide +kernel
theorem dX7_findAll_18 : decode cX7_findAll 18 = .ok (.aload_n 0, 1) := by decide +kernel
theorem dX7_findAll_19 : decode cX7_findAll 19 = .ok (.iload_n 2, 1) := by decide +kernel
theorem dX7_findAll_20 : decode cX7_findAll 20 = .ok (.invokevirtual 96, 3) := by decide +kernel
theorem dX7_findAll_23 : decode cX7_findAll 23 = .ok (.iconst 2, 1) := by decide +kernel
theorem dX7_findAll_24 : decode cX7_findAll 24 = .ok (.if_icmp .ne 12, 3) := by decide +kernel
theorem dX7_findAll_27 : decode cX7_findAll 27 = .ok (.aload_n 0, 1) := by decide +kernel
theorem dX7_findAll_28 : decode cX7_findAll 28 = .ok (.iload_n 2, 1) := by decide +kernel
theorem dX7_findAll_29 : decode cX7_findAll 29 = .ok (.iconst 0, 1) := by decide +kernel
theorem dX7_findAll_30 : decode cX7_findAll 30 = .ok (.invokevirtual 48, 3) := by decide +kernel
theorem dX7_findAll_33 : decode cX7_findAll 33 = .ok (.goto 9, 3) := by decide +kernel
theorem dX7_findAll_36 : decode cX7_findAll 36 = .ok (.aload_n 0, 1) := by decide +kernel
theorem dX7_findAll_37 : decode cX7_findAll 37 = .ok (.iload_n 2, 1) := by decide +kernel
theorem dX7_findAll_38 : decode cX7_findAll 38 = .ok (.iconst (-1), 1) := by decide +kernel
theorem dX7_findAll_39 : decode cX7_findAll 39 = .ok (.invokevirtual 93, 3) := by decide +kernel
theorem dX7_findAll_42 : decode cX7_findAll 42 = .ok (.istore_n 3, 1) := by decide +kernel
theorem dX7_findAll_43 : decode cX7_findAll 43 = .ok (.iload_n 1, 1) := by decide +kernel
theorem dX7_findAll_44 : decode cX7_findAll 44 = .ok (.iload_n 3, 1) := by decide +kernel
theorem dX7_findAll_45 : decode cX7_findAll 45 = .ok (.aload_n 0, 1) := by decide +kernel
theorem dX7_findAll_46 : decode cX7_findAll 46 = .ok (.iload_n 2, 1) := by decide +kernel
theorem dX7_findAll_47 : decode cX7_findAll 47 = .ok (.iconst 0, 1) := by decide +kernel
theorem dX7_findAll_48 : decode cX7_findAll 48 = .ok (.invokevirtual 48, 3) := by decide +kernel
theorem dX7_findAll_51 : decode cX7_findAll 51 = .ok (.if_icmp .eq 7, 3) := by decide +kernel
theorem dX7_findAll_54 : decode cX7_findAll 54 = .ok (.iconst 1, 1) := by decide +kernel
theorem dX7_findAll_55 : decode cX7_findAll 55 = .ok (.goto 4, 3) := by decide +kernel
theorem dX7_findAll_58 : decode cX7_findAll 58 = .ok (.iconst 0, 1) := by decide +kernel
theorem dX7_findAll_59 : decode cX7_findAll 59 = .ok (.iadd, 1) := by decide +kernel
theorem dX7_findAll_60 : decode cX7_findAll 60 = .ok (.istore_n 1, 1) := by decide +kernel
theorem dX7_findAll_61 : decode cX7_findAll 61 = .ok (.aload_n 0, 1) := by decide +kernel
theorem dX7_findAll_62 : decode cX7_findAll 62 = .ok (.getfield 7, 3) := by decide +kernel
theorem dX7_findAll_65 : decode cX7_findAll 65 = .ok (.bipush 48, 2) := by decide +kernel
theorem dX7_findAll_67 : decode cX7_findAll 67 = .ok (.bipush 7, 2) := by decide +kernel
theorem dX7_findAll_69 : decode cX7_findAll 69 = .ok (.iload_n 2, 1) := by decide +kernel
theorem dX7_findAll_70 : decode cX7_findAll 70 = .ok (.imul, 1) := by decide +kernel
theorem dX7_findAll_71 : decode cX7_findAll 71 = .ok (.iadd, 1) := by decide +kernel
theorem dX7_findAll_72 : decode cX7_findAll 72 = .ok (.iload_n 3, 1) := by decide +kernel
theorem dX7_findAll_73 : decode cX7_findAll 73 = .ok (.iastore, 1) := by decide +kernel
theorem dX7_findAll_74 : decode cX7_findAll 74 = .ok (.iinc 2 1, 3) := by decide +kernel
theorem dX7_findAll_77 : decode cX7_findAll 77 = .ok (.goto (-69), 3) := by decide +kernel
theorem dX7_findAll_80 : decode cX7_findAll 80 = .ok (.aload_n 0, 1) := by decide +kernel
theorem dX7_findAll_81 : decode cX7_findAll 81 = .ok (.iload_n 1, 1) := by decide +kernel
theorem dX7_findAll_82 : decode cX7_findAll 82 = .ok (.invokevirtual 63, 3) := by decide +kernel
theorem dX7_findAll_85 : decode cX7_findAll 85 = .ok (.ireturn, 1) := by decide +kernel
set_option maxRecDepth 20000 in
theorem ggX7_remember_X7_isAnchor : GoodIn wsX7_remember wsX7_isAnchor := goodIn_r _ [7, 8, 9, 10, 6, 11, 39, 40, 41, 42, 43, 44, 45, 46, 47, 48, 49, 50] (by decide +kernel) (by decide +kernel)
set_option maxRecDepth 20000 in
theorem gX7_remember_X7_isAnchor : GoodIn wsX7_remember (wsV RX7 87 RX7 yX7_isAnchor wsX7_isAnchor) := goodIn_app (goodIn_of _ (by decide +kernel)) ggX7_remember_X7_isAnchor
set_option maxRecDepth 20000 in
theorem ggX7_remember_X7_an : GoodIn wsX7_remember wsX7_an := goodIn_r _ [15, 8, 39, 40, 41, 42, 43, 44, 45, 46, 47, 48, 49, 50] (by decide +kernel) (by decide +kernel)
set_option maxRecDepth 20000 in
theorem gX7_remember_X7_an : GoodIn wsX7_remember (wsV RX7 48 RX7 yX7_an wsX7_an) := goodIn_app (goodIn_of _ (by decide +kernel)) ggX7_remember_X7_an
set_option maxRecDepth 20000 in
theorem ggX7_remember_X7_isPlace : GoodIn wsX7_remember wsX7_isPlace := goodIn_r _ [19, 8, 9, 10, 6, 11, 39, 40, 41, 42, 43, 44, 45, 46, 47, 48, 49, 50] (by decide +kernel) (by decide +kernel)
set_option maxRecDepth 20000 in
theorem gX7_remember_X7_isPlace : GoodIn wsX7_remember (wsV RX7 39 RX7 yX7_isPlace wsX7_isPlace) := goodIn_app (goodIn_of _ (by decide +kernel)) ggX7_remember_X7_isPlace
set_option maxRecDepth 20000 in
theorem ggX7_remember_X7_keeps : GoodIn wsX7_remember wsX7_keeps := goodIn_r _ [23, 24, 8, 39, 40, 41, 42, 43, 44, 45, 46, 47, 48, 49, 50] (by decide +kernel) (by decide +kernel)
set_option maxRecDepth 20000 in
theorem gX7_remember_X7_keeps : GoodIn wsX7_remember (wsV RX7 57 RX7 yX7_keeps wsX7_keeps) := goodIn_app (goodIn_of _ (by decide +kernel)) ggX7_remember_X7_keeps
set_option maxRecDepth 20000 in
theorem ggX7_remember_X7_remembers : GoodIn wsX7_remember wsX7_remembers := goodIn_r _ [28, 8, 12, 13, 14, 6, 15, 29, 30, 31, 32, 16, 17, 18, 19, 9, 10, 11, 39, 40, 41, 42, 43, 44, 45, 46, 47, 48, 49, 50] (by decide +kernel) (by decide +kernel)
set_option maxRecDepth 20000 in
theorem gX7_remember_X7_remembers : GoodIn wsX7_remember (wsV RX7 84 RX7 yX7_remembers wsX7_remembers) := goodIn_app (goodIn_of _ (by decide +kernel)) ggX7_remember_X7_remembers
set_option maxRecDepth 20000 in
theorem ggX7_remember_X7_acted : GoodIn wsX7_remember wsX7_acted := goodIn_r _ [36, 1, 37, 38, 24, 39, 40, 41, 42, 43, 44, 45, 46, 47, 48, 49, 50] (by decide +kernel) (by decide +kernel)
set_option maxRecDepth 20000 in
theorem gX7_remember_X7_acted : GoodIn wsX7_remember (wsV RX7 63 RX7 yX7_acted wsX7_acted) := goodIn_app (goodIn_of _ (by decide +kernel)) ggX7_remember_X7_acted
theorem dX7_remember_0 : decode cX7_remember 0 = .ok (.aload_n 0, 1) := by decide +kernel
theorem dX7_remember_1 : decode cX7_remember 1 = .ok (.iload_n 1, 1) := by decide +kernel
theorem dX7_remember_2 : decode cX7_remember 2 = .ok (.invokevirtual 87, 3) := by decide +kernel
theorem dX7_remember_5 : decode cX7_remember 5 = .ok (.ifCond .ne 6, 3) := by decide +kernel
theorem dX7_remember_8 : decode cX7_remember 8 = .ok (.ldc 43, 2) := by decide +kernel
theorem dX7_remember_10 : decode cX7_remember 10 = .ok (.ireturn, 1) := by decide +kernel
theorem dX7_remember_11 : decode cX7_remember 11 = .ok (.aload_n 0, 1) := by decide +kernel
theorem dX7_remember_12 : decode cX7_remember 12 = .ok (.aload_n 0, 1) := by decide +kernel
theorem dX7_remember_13 : decode cX7_remember 13 = .ok (.iload_n 1, 1) := by decide +kernel
theorem dX7_remember_14 : decode cX7_remember 14 = .ok (.iconst 0, 1) := by decide +kernel
theorem dX7_remember_15 : decode cX7_remember 15 = .ok (.invokevirtual 48, 3) := by decide +kernel
theorem dX7_remember_18 : decode cX7_remember 18 = .ok (.invokevirtual 39, 3) := by decide +kernel
theorem dX7_remember_21 : decode cX7_remember 21 = .ok (.ifCond .ne 6, 3) := by decide +kernel
theorem dX7_remember_24 : decode cX7_remember 24 = .ok (.ldc 99, 2) := by decide +kernel
theorem dX7_remember_26 : decode cX7_remember 26 = .ok (.ireturn, 1) := by decide +kernel
theorem dX7_remember_27 : decode cX7_remember 27 = .ok (.aload_n 0, 1) := by decide +kernel
theorem dX7_remember_28 : decode cX7_remember 28 = .ok (.invokevirtual 57, 3) := by decide +kernel
theorem dX7_remember_31 : decode cX7_remember 31 = .ok (.aload_n 0, 1) := by decide +kernel
theorem dX7_remember_32 : decode cX7_remember 32 = .ok (.aload_n 0, 1) := by decide +kernel
theorem dX7_remember_33 : decode cX7_remember 33 = .ok (.iload_n 1, 1) := by decide +kernel
theorem dX7_remember_34 : decode cX7_remember 34 = .ok (.invokevirtual 84, 3) := by decide +kernel
theorem dX7_remember_37 : decode cX7_remember 37 = .ok (.invokevirtual 63, 3) := by decide +kernel
theorem dX7_remember_40 : decode cX7_remember 40 = .ok (.ireturn, 1) := by decide +kernel
set_option maxRecDepth 20000 in
theorem ggX7_set_X7_in : GoodIn wsX7_set wsX7_in := goodIn_r _ [6] (by decide +kernel) (by decide +kernel)
set_option maxRecDepth 20000 in
theorem gX7_set_X7_in : GoodIn wsX7_set (va_wsS RX7 35 yX7_in wsX7_in) := goodIn_app (goodIn_of _ (by decide +kernel)) ggX7_set_X7_in
set_option maxRecDepth 20000 in
theorem ggX7_set_X7_keeps : GoodIn wsX7_set wsX7_keeps := goodIn_r _ [10, 11, 2, 18, 19, 20, 21, 22, 23, 24, 25, 26, 27, 28, 29] (by decide +kernel) (by decide +kernel)
set_option maxRecDepth 20000 in
theorem gX7_set_X7_keeps : GoodIn wsX7_set (wsV RX7 57 RX7 yX7_keeps wsX7_keeps) := goodIn_app (goodIn_of _ (by decide +kernel)) ggX7_set_X7_keeps
set_option maxRecDepth 20000 in
theorem ggX7_set_X7_acted : GoodIn wsX7_set wsX7_acted := goodIn_r _ [15, 1, 16, 17, 11, 18, 19, 20, 21, 22, 23, 24, 25, 26, 27, 28, 29] (by decide +kernel) (by decide +kernel)
set_option maxRecDepth 20000 in
theorem gX7_set_X7_acted : GoodIn wsX7_set (wsV RX7 63 RX7 yX7_acted wsX7_acted) := goodIn_app (goodIn_of _ (by decide +kernel)) ggX7_set_X7_acted
theorem dX7_set_0 : decode cX7_set 0 = .ok (.iload_n 1, 1) := by decide +kernel
theorem dX7_set_1 : decode cX7_set 1 = .ok (.iconst 0, 1) := by decide +kernel
theorem dX7_set_2 : decode cX7_set 2 = .ok (.iconst 4, 1) := by decide +kernel
theorem dX7_set_3 : decode cX7_set 3 = .ok (.invokestatic 35, 3) := by decide +kernel
theorem dX7_set_6 : decode cX7_set 6 = .ok (.ifCond .eq 23, 3) := by decide +kernel
theorem dX7_set_9 : decode cX7_set 9 = .ok (.iload_n 2, 1) := by decide +kernel
theorem dX7_set_10 : decode cX7_set 10 = .ok (.iconst 0, 1) := by decide +kernel
theorem dX7_set_11 : decode cX7_set 11 = .ok (.iload_n 1, 1) := by decide +kernel
theorem dX7_set_12 : decode cX7_set 12 = .ok (.iconst 3, 1) := by decide +kernel
theorem dX7_set_13 : decode cX7_set 13 = .ok (.if_icmp .ge 8, 3) := by decide +kernel
theorem dX7_set_16 : decode cX7_set 16 = .ok (.bipush 20, 2) := by decide +kernel
theorem dX7_set_18 : decode cX7_set 18 = .ok (.goto 5, 3) := by decide +kernel
theorem dX7_set_21 : decode cX7_set 21 = .ok (.bipush 60, 2) := by decide +kernel
theorem dX7_set_23 : decode cX7_set 23 = .ok (.invokestatic 35, 3) := by decide +kernel
theorem dX7_set_26 : decode cX7_set 26 = .ok (.ifCond .ne 6, 3) := by decide +kernel
theorem dX7_set_29 : decode cX7_set 29 = .ok (.ldc 43, 2) := by decide +kernel
theorem dX7_set_31 : decode cX7_set 31 = .ok (.ireturn, 1) := by decide +kernel
theorem dX7_set_32 : decode cX7_set 32 = .ok (.aload_n 0, 1) := by decide +kernel
theorem dX7_set_33 : decode cX7_set 33 = .ok (.invokevirtual 57, 3) := by decide +kernel
theorem dX7_set_36 : decode cX7_set 36 = .ok (.aload_n 0, 1) := by decide +kernel
theorem dX7_set_37 : decode cX7_set 37 = .ok (.getfield 7, 3) := by decide +kernel
theorem dX7_set_40 : decode cX7_set 40 = .ok (.iconst 3, 1) := by decide +kernel
theorem dX7_set_41 : decode cX7_set 41 = .ok (.iload_n 1, 1) := by decide +kernel
theorem dX7_set_42 : decode cX7_set 42 = .ok (.iadd, 1) := by decide +kernel
theorem dX7_set_43 : decode cX7_set 43 = .ok (.iaload, 1) := by decide +kernel
theorem dX7_set_44 : decode cX7_set 44 = .ok (.istore_n 3, 1) := by decide +kernel
