theorem dX0_init_0 : decode cX0_init 0 = .ok (.aload_n 0, 1) := by decide +kernel
theorem dX0_init_1 : decode cX0_init 1 = .ok (.invokespecial 3, 3) := by decide +kernel
theorem dX0_init_4 : decode cX0_init 4 = .ok (.aload_n 0, 1) := by decide +kernel
theorem dX0_init_5 : decode cX0_init 5 = .ok (.iconst 5, 1) := by decide +kernel
theorem dX0_init_6 : decode cX0_init 6 = .ok (.newarray .int, 2) := by decide +kernel
theorem dX0_init_8 : decode cX0_init 8 = .ok (.putfield 9, 3) := by decide +kernel
theorem dX0_init_11 : decode cX0_init 11 = .ok (.return_, 1) := by decide +kernel
theorem dX0_place_0 : decode cX0_place 0 = .ok (.aload_n 0, 1) := by decide +kernel
theorem dX0_place_1 : decode cX0_place 1 = .ok (.getfield 15, 3) := by decide +kernel
theorem dX0_place_4 : decode cX0_place 4 = .ok (.ireturn, 1) := by decide +kernel
theorem dX0_truePlace_0 : decode cX0_truePlace 0 = .ok (.aload_n 0, 1) := by decide +kernel
theorem dX0_truePlace_1 : decode cX0_truePlace 1 = .ok (.getfield 19, 3) := by decide +kernel
theorem dX0_truePlace_4 : decode cX0_truePlace 4 = .ok (.ireturn, 1) := by decide +kernel
theorem dX0_thing_0 : decode cX0_thing 0 = .ok (.iload_n 1, 1) := by decide +kernel
theorem dX0_thing_1 : decode cX0_thing 1 = .ok (.ifCond .lt 21, 3) := by decide +kernel
theorem dX0_thing_4 : decode cX0_thing 4 = .ok (.iload_n 1, 1) := by decide +kernel
theorem dX0_thing_5 : decode cX0_thing 5 = .ok (.aload_n 0, 1) := by decide +kernel
theorem dX0_thing_6 : decode cX0_thing 6 = .ok (.getfield 9, 3) := by decide +kernel
theorem dX0_thing_9 : decode cX0_thing 9 = .ok (.arraylength, 1) := by decide +kernel
theorem dX0_thing_10 : decode cX0_thing 10 = .ok (.if_icmp .ge 12, 3) := by decide +kernel
theorem dX0_thing_13 : decode cX0_thing 13 = .ok (.aload_n 0, 1) := by decide +kernel
theorem dX0_thing_14 : decode cX0_thing 14 = .ok (.getfield 9, 3) := by decide +kernel
theorem dX0_thing_17 : decode cX0_thing 17 = .ok (.iload_n 1, 1) := by decide +kernel
theorem dX0_thing_18 : decode cX0_thing 18 = .ok (.iaload, 1) := by decide +kernel
theorem dX0_thing_19 : decode cX0_thing 19 = .ok (.goto 4, 3) := by decide +kernel
theorem dX0_thing_22 : decode cX0_thing 22 = .ok (.iconst (-1), 1) := by decide +kernel
theorem dX0_thing_23 : decode cX0_thing 23 = .ok (.ireturn, 1) := by decide +kernel
theorem dX0_goTo_0 : decode cX0_goTo 0 = .ok (.aload_n 0, 1) := by decide +kernel
theorem dX0_goTo_1 : decode cX0_goTo 1 = .ok (.iload_n 1, 1) := by decide +kernel
theorem dX0_goTo_2 : decode cX0_goTo 2 = .ok (.putfield 15, 3) := by decide +kernel
theorem dX0_goTo_5 : decode cX0_goTo 5 = .ok (.return_, 1) := by decide +kernel
set_option maxRecDepth 20000 in
theorem ggX0_setAt_X0_goTo : GoodIn wsX0_setAt wsX0_goTo := goodIn_r _ [5, 6, 20, 21, 22] (by decide +kernel) (by decide +kernel)
set_option maxRecDepth 20000 in
theorem gX0_setAt_X0_goTo : GoodIn wsX0_setAt (wsV RX0 22 RX0 yX0_goTo wsX0_goTo) := goodIn_app (goodIn_of _ (by decide +kernel)) ggX0_setAt_X0_goTo
set_option maxRecDepth 20000 in
theorem ggX0_setAt_X0_look : GoodIn wsX0_setAt wsX0_look := goodIn_r _ [10, 11, 6, 12, 13, 14, 15, 16, 17, 18, 19, 20, 21, 22, 23, 24, 25, 26] (by decide +kernel) (by decide +kernel)
set_option maxRecDepth 20000 in
theorem gX0_setAt_X0_look : GoodIn wsX0_setAt (wsV RX0 26 RX0 yX0_look wsX0_look) := goodIn_app (goodIn_of _ (by decide +kernel)) ggX0_setAt_X0_look
theorem dX0_setAt_0 : decode cX0_setAt 0 = .ok (.aload_n 0, 1) := by decide +kernel
theorem dX0_setAt_1 : decode cX0_setAt 1 = .ok (.iload_n 2, 1) := by decide +kernel
theorem dX0_setAt_2 : decode cX0_setAt 2 = .ok (.invokevirtual 22, 3) := by decide +kernel
theorem dX0_setAt_5 : decode cX0_setAt 5 = .ok (.aload_n 0, 1) := by decide +kernel
theorem dX0_setAt_6 : decode cX0_setAt 6 = .ok (.aload_n 1, 1) := by decide +kernel
theorem dX0_setAt_7 : decode cX0_setAt 7 = .ok (.invokevirtual 26, 3) := by decide +kernel
theorem dX0_setAt_10 : decode cX0_setAt 10 = .ok (.pop, 1) := by decide +kernel
theorem dX0_setAt_11 : decode cX0_setAt 11 = .ok (.return_, 1) := by decide +kernel
set_option maxRecDepth 20000 in
theorem ggX0_look_X4_at : GoodIn wsX0_look wsX4_at := goodIn_r _ [8, 9, 10, 14, 15, 16, 17] (by decide +kernel) (by decide +kernel)
set_option maxRecDepth 20000 in
theorem gX0_look_X4_at : GoodIn wsX0_look (wsV RX0 30 RX4 yX4_at wsX4_at) := goodIn_app (goodIn_of _ (by decide +kernel)) ggX0_look_X4_at
theorem dX0_look_0 : decode cX0_look 0 = .ok (.iconst 0, 1) := by decide +kernel
theorem dX0_look_1 : decode cX0_look 1 = .ok (.istore_n 2, 1) := by decide +kernel
theorem dX0_look_2 : decode cX0_look 2 = .ok (.iconst 0, 1) := by decide +kernel
theorem dX0_look_3 : decode cX0_look 3 = .ok (.istore_n 3, 1) := by decide +kernel
theorem dX0_look_4 : decode cX0_look 4 = .ok (.iload_n 3, 1) := by decide +kernel
theorem dX0_look_5 : decode cX0_look 5 = .ok (.aload_n 0, 1) := by decide +kernel
theorem dX0_look_6 : decode cX0_look 6 = .ok (.getfield 9, 3) := by decide +kernel
theorem dX0_look_9 : decode cX0_look 9 = .ok (.arraylength, 1) := by decide +kernel
theorem dX0_look_10 : decode cX0_look 10 = .ok (.if_icmp .ge 45, 3) := by decide +kernel
theorem dX0_look_13 : decode cX0_look 13 = .ok (.aload_n 1, 1) := by decide +kernel
theorem dX0_look_14 : decode cX0_look 14 = .ok (.aload_n 0, 1) := by decide +kernel
theorem dX0_look_15 : decode cX0_look 15 = .ok (.getfield 15, 3) := by decide +kernel
theorem dX0_look_18 : decode cX0_look 18 = .ok (.iload_n 3, 1) := by decide +kernel
theorem dX0_look_19 : decode cX0_look 19 = .ok (.iadd, 1) := by decide +kernel
theorem dX0_look_20 : decode cX0_look 20 = .ok (.iconst 2, 1) := by decide +kernel
theorem dX0_look_21 : decode cX0_look 21 = .ok (.isub, 1) := by decide +kernel
theorem dX0_look_22 : decode cX0_look 22 = .ok (.invokevirtual 30, 3) := by decide +kernel
theorem dX0_look_25 : decode cX0_look 25 = .ok (.istore 4, 2) := by decide +kernel
theorem dX0_look_27 : decode cX0_look 27 = .ok (.aload_n 0, 1) := by decide +kernel
theorem dX0_look_28 : decode cX0_look 28 = .ok (.getfield 9, 3) := by decide +kernel
theorem dX0_look_31 : decode cX0_look 31 = .ok (.iload_n 3, 1) := by decide +kernel
theorem dX0_look_32 : decode cX0_look 32 = .ok (.iaload, 1) := by decide +kernel
theorem dX0_look_33 : decode cX0_look 33 = .ok (.iload 4, 2) := by decide +kernel
theorem dX0_look_35 : decode cX0_look 35 = .ok (.if_icmp .eq 6, 3) := by decide +kernel
theorem dX0_look_38 : decode cX0_look 38 = .ok (.iinc 2 1, 3) := by decide +kernel
theorem dX0_look_41 : decode cX0_look 41 = .ok (.aload_n 0, 1) := by decide +kernel
theorem dX0_look_42 : decode cX0_look 42 = .ok (.getfield 9, 3) := by decide +kernel
theorem dX0_look_45 : decode cX0_look 45 = .ok (.iload_n 3, 1) := by decide +kernel
theorem dX0_look_46 : decode cX0_look 46 = .ok (.iload 4, 2) := by decide +kernel
theorem dX0_look_48 : decode cX0_look 48 = .ok (.iastore, 1) := by decide +kernel
theorem dX0_look_49 : decode cX0_look 49 = .ok (.iinc 3 1, 3) := by decide +kernel
theorem dX0_look_52 : decode cX0_look 52 = .ok (.goto (-48), 3) := by decide +kernel
theorem dX0_look_55 : decode cX0_look 55 = .ok (.aload_n 0, 1) := by decide +kernel
theorem dX0_look_56 : decode cX0_look 56 = .ok (.aload_n 0, 1) := by decide +kernel
theorem dX0_look_57 : decode cX0_look 57 = .ok (.getfield 15, 3) := by decide +kernel
theorem dX0_look_60 : decode cX0_look 60 = .ok (.putfield 19, 3) := by decide +kernel
theorem dX0_look_63 : decode cX0_look 63 = .ok (.iload_n 2, 1) := by decide +kernel
theorem dX0_look_64 : decode cX0_look 64 = .ok (.ireturn, 1) := by decide +kernel
set_option maxRecDepth 20000 in
theorem ggX0_followWord_X4_targetOf : GoodIn wsX0_followWord wsX4_targetOf := goodIn_r _ [6, 7, 11, 12, 13, 14] (by decide +kernel) (by decide +kernel)
set_option maxRecDepth 20000 in
theorem gX0_followWord_X4_targetOf : GoodIn wsX0_followWord (wsV RX0 36 RX4 yX4_targetOf wsX4_targetOf) := goodIn_app (goodIn_of _ (by decide +kernel)) ggX0_followWord_X4_targetOf
theorem dX0_followWord_0 : decode cX0_followWord 0 = .ok (.aload_n 0, 1) := by decide +kernel
theorem dX0_followWord_1 : decode cX0_followWord 1 = .ok (.aload_n 1, 1) := by decide +kernel
theorem dX0_followWord_2 : decode cX0_followWord 2 = .ok (.aload_n 0, 1) := by decide +kernel
theorem dX0_followWord_3 : decode cX0_followWord 3 = .ok (.getfield 19, 3) := by decide +kernel
theorem dX0_followWord_6 : decode cX0_followWord 6 = .ok (.invokevirtual 36, 3) := by decide +kernel
theorem dX0_followWord_9 : decode cX0_followWord 9 = .ok (.putfield 19, 3) := by decide +kernel
theorem dX0_followWord_12 : decode cX0_followWord 12 = .ok (.return_, 1) := by decide +kernel
set_option maxRecDepth 20000 in
theorem ggX0_copyFrom_X0_thing : GoodIn wsX0_copyFrom wsX0_thing := goodIn_r _ [8, 3, 9, 10, 11] (by decide +kernel) (by decide +kernel)
set_option maxRecDepth 20000 in
theorem gX0_copyFrom_X0_thing : GoodIn wsX0_copyFrom (wsV RX0 39 RX0 yX0_thing wsX0_thing) := goodIn_app (goodIn_of _ (by decide +kernel)) ggX0_copyFrom_X0_thing
theorem dX0_copyFrom_0 : decode cX0_copyFrom 0 = .ok (.aload_n 0, 1) := by decide +kernel
theorem dX0_copyFrom_1 : decode cX0_copyFrom 1 = .ok (.aload_n 1, 1) := by decide +kernel
theorem dX0_copyFrom_2 : decode cX0_copyFrom 2 = .ok (.getfield 15, 3) := by decide +kernel
theorem dX0_copyFrom_5 : decode cX0_copyFrom 5 = .ok (.putfield 15, 3) := by decide +kernel
theorem dX0_copyFrom_8 : decode cX0_copyFrom 8 = .ok (.aload_n 0, 1) := by decide +kernel
theorem dX0_copyFrom_9 : decode cX0_copyFrom 9 = .ok (.aload_n 1, 1) := by decide +kernel
theorem dX0_copyFrom_10 : decode cX0_copyFrom 10 = .ok (.getfield 19, 3) := by decide +kernel
theorem dX0_copyFrom_13 : decode cX0_copyFrom 13 = .ok (.putfield 19, 3) := by decide +kernel
theorem dX0_copyFrom_16 : decode cX0_copyFrom 16 = .ok (.iconst 0, 1) := by decide +kernel
theorem dX0_copyFrom_17 : decode cX0_copyFrom 17 = .ok (.istore_n 2, 1) := by decide +kernel
theorem dX0_copyFrom_18 : decode cX0_copyFrom 18 = .ok (.iload_n 2, 1) := by decide +kernel
theorem dX0_copyFrom_19 : decode cX0_copyFrom 19 = .ok (.aload_n 0, 1) := by decide +kernel
theorem dX0_copyFrom_20 : decode cX0_copyFrom 20 = .ok (.getfield 9, 3) := by decide +kernel
theorem dX0_copyFrom_23 : decode cX0_copyFrom 23 = .ok (.arraylength, 1) := by decide +kernel
theorem dX0_copyFrom_24 : decode cX0_copyFrom 24 = .ok (.if_icmp .ge 20, 3) := by decide +kernel
theorem dX0_copyFrom_27 : decode cX0_copyFrom 27 = .ok (.aload_n 0, 1) := by decide +kernel
theorem dX0_copyFrom_28 : decode cX0_copyFrom 28 = .ok (.getfield 9, 3) := by decide +kernel
theorem dX0_copyFrom_31 : decode cX0_copyFrom 31 = .ok (.iload_n 2, 1) := by decide +kernel
theorem dX0_copyFrom_32 : decode cX0_copyFrom 32 = .ok (.aload_n 1, 1) := by decide +kernel
theorem dX0_copyFrom_33 : decode cX0_copyFrom 33 = .ok (.iload_n 2, 1) := by decide +kernel
theorem dX0_copyFrom_34 : decode cX0_copyFrom 34 = .ok (.invokevirtual 39, 3) := by decide +kernel
theorem dX0_copyFrom_37 : decode cX0_copyFrom 37 = .ok (.iastore, 1) := by decide +kernel
theorem dX0_copyFrom_38 : decode cX0_copyFrom 38 = .ok (.iinc 2 1, 3) := by decide +kernel
theorem dX0_copyFrom_41 : decode cX0_copyFrom 41 = .ok (.goto (-23), 3) := by decide +kernel
theorem dX0_copyFrom_44 : decode cX0_copyFrom 44 = .ok (.return_, 1) := by decide +kernel
theorem dX1_init_0 : decode cX1_init 0 = .ok (.aload_n 0, 1) := by decide +kernel
theorem dX1_init_1 : decode cX1_init 1 = .ok (.invokespecial 3, 3) := by decide +kernel
theorem dX1_init_4 : decode cX1_init 4 = .ok (.aload_n 0, 1) := by decide +kernel
theorem dX1_init_5 : decode cX1_init 5 = .ok (.bipush 6, 2) := by decide +kernel
theorem dX1_init_7 : decode cX1_init 7 = .ok (.newarray .int, 2) := by decide +kernel
theorem dX1_init_9 : decode cX1_init 9 = .ok (.putfield 9, 3) := by decide +kernel
theorem dX1_init_12 : decode cX1_init 12 = .ok (.aload_n 0, 1) := by decide +kernel
theorem dX1_init_13 : decode cX1_init 13 = .ok (.bipush 6, 2) := by decide +kernel
theorem dX1_init_15 : decode cX1_init 15 = .ok (.newarray .int, 2) := by decide +kernel
theorem dX1_init_17 : decode cX1_init 17 = .ok (.putfield 15, 3) := by decide +kernel
theorem dX1_init_20 : decode cX1_init 20 = .ok (.return_, 1) := by decide +kernel
theorem dX1_membersOf_0 : decode cX1_membersOf 0 = .ok (.iload_n 1, 1) := by decide +kernel
theorem dX1_membersOf_1 : decode cX1_membersOf 1 = .ok (.ifCond .lt 29, 3) := by decide +kernel
theorem dX1_membersOf_4 : decode cX1_membersOf 4 = .ok (.iload_n 1, 1) := by decide +kernel
theorem dX1_membersOf_5 : decode cX1_membersOf 5 = .ok (.aload_n 0, 1) := by decide +kernel
theorem dX1_membersOf_6 : decode cX1_membersOf 6 = .ok (.getfield 18, 3) := by decide +kernel
theorem dX1_membersOf_9 : decode cX1_membersOf 9 = .ok (.if_icmp .ge 21, 3) := by decide +kernel
theorem dX1_membersOf_12 : decode cX1_membersOf 12 = .ok (.iload_n 1, 1) := by decide +kernel
theorem dX1_membersOf_13 : decode cX1_membersOf 13 = .ok (.aload_n 0, 1) := by decide +kernel
theorem dX1_membersOf_14 : decode cX1_membersOf 14 = .ok (.getfield 15, 3) := by decide +kernel
theorem dX1_membersOf_17 : decode cX1_membersOf 17 = .ok (.arraylength, 1) := by decide +kernel
theorem dX1_membersOf_18 : decode cX1_membersOf 18 = .ok (.if_icmp .ge 12, 3) := by decide +kernel
theorem dX1_membersOf_21 : decode cX1_membersOf 21 = .ok (.aload_n 0, 1) := by decide +kernel
theorem dX1_membersOf_22 : decode cX1_membersOf 22 = .ok (.getfield 15, 3) := by decide +kernel
theorem dX1_membersOf_25 : decode cX1_membersOf 25 = .ok (.iload_n 1, 1) := by decide +kernel
theorem dX1_membersOf_26 : decode cX1_membersOf 26 = .ok (.iaload, 1) := by decide +kernel
theorem dX1_membersOf_27 : decode cX1_membersOf 27 = .ok (.goto 4, 3) := by decide +kernel
theorem dX1_membersOf_30 : decode cX1_membersOf 30 = .ok (.iconst 0, 1) := by decide +kernel
theorem dX1_membersOf_31 : decode cX1_membersOf 31 = .ok (.ireturn, 1) := by decide +kernel
theorem dX1_shiftOf_0 : decode cX1_shiftOf 0 = .ok (.iload_n 1, 1) := by decide +kernel
theorem dX1_shiftOf_1 : decode cX1_shiftOf 1 = .ok (.ifCond .lt 29, 3) := by decide +kernel
theorem dX1_shiftOf_4 : decode cX1_shiftOf 4 = .ok (.iload_n 1, 1) := by decide +kernel
theorem dX1_shiftOf_5 : decode cX1_shiftOf 5 = .ok (.aload_n 0, 1) := by decide +kernel
theorem dX1_shiftOf_6 : decode cX1_shiftOf 6 = .ok (.getfield 18, 3) := by decide +kernel
theorem dX1_shiftOf_9 : decode cX1_shiftOf 9 = .ok (.if_icmp .ge 21, 3) := by decide +kernel
theorem dX1_shiftOf_12 : decode cX1_shiftOf 12 = .ok (.iload_n 1, 1) := by decide +kernel
theorem dX1_shiftOf_13 : decode cX1_shiftOf 13 = .ok (.aload_n 0, 1) := by decide +kernel
theorem dX1_shiftOf_14 : decode cX1_shiftOf 14 = .ok (.getfield 9, 3) := by decide +kernel
theorem dX1_shiftOf_17 : decode cX1_shiftOf 17 = .ok (.arraylength, 1) := by decide +kernel
theorem dX1_shiftOf_18 : decode cX1_shiftOf 18 = .ok (.if_icmp .ge 12, 3) := by decide +kernel
theorem dX1_shiftOf_21 : decode cX1_shiftOf 21 = .ok (.aload_n 0, 1) := by decide +kernel
theorem dX1_shiftOf_22 : decode cX1_shiftOf 22 = .ok (.getfield 9, 3) := by decide +kernel
theorem dX1_shiftOf_25 : decode cX1_shiftOf 25 = .ok (.iload_n 1, 1) := by decide +kernel
theorem dX1_shiftOf_26 : decode cX1_shiftOf 26 = .ok (.iaload, 1) := by decide +kernel
theorem dX1_shiftOf_27 : decode cX1_shiftOf 27 = .ok (.goto 4, 3) := by decide +kernel
theorem dX1_shiftOf_30 : decode cX1_shiftOf 30 = .ok (.iconst 0, 1) := by decide +kernel
theorem dX1_shiftOf_31 : decode cX1_shiftOf 31 = .ok (.ireturn, 1) := by decide +kernel
set_option maxRecDepth 20000 in
theorem ggX1_gather_X5_anchorCount : GoodIn wsX1_gather wsX5_anchorCount := goodIn_r _ [6, 7, 79, 80, 81, 82, 83] (by decide +kernel) (by decide +kernel)
set_option maxRecDepth 20000 in
theorem gX1_gather_X5_anchorCount : GoodIn wsX1_gather (wsV RX1 22 RX5 yX5_anchorCount wsX5_anchorCount) := goodIn_app (goodIn_of _ (by decide +kernel)) ggX1_gather_X5_anchorCount
set_option maxRecDepth 20000 in
theorem ggX1_gather_X5_anchorNumbered : GoodIn wsX1_gather wsX5_anchorNumbered := goodIn_r _ [11, 7, 12, 79, 80, 81, 82, 83] (by decide +kernel) (by decide +kernel)
set_option maxRecDepth 20000 in
theorem gX1_gather_X5_anchorNumbered : GoodIn wsX1_gather (wsV RX1 28 RX5 yX5_anchorNumbered wsX5_anchorNumbered) := goodIn_app (goodIn_of _ (by decide +kernel)) ggX1_gather_X5_anchorNumbered
set_option maxRecDepth 20000 in
theorem ggX1_gather_X5_shiftOf : GoodIn wsX1_gather wsX5_shiftOf := goodIn_r _ [16, 17, 18, 19, 5, 20, 21, 22, 23, 24, 25, 26, 27, 28, 29, 30, 31, 32, 33, 34, 35, 36, 37, 38, 39, 40, 41, 42, 43, 44, 45, 46, 47, 48, 49, 50, 51, 52, 53, 54, 55, 56, 57, 58, 59, 60, 61, 62, 63, 64, 79, 80, 81, 82, 83, 84, 85, 86, 87, 88, 89, 90] (by decide +kernel) (by decide +kernel)
set_option maxRecDepth 20000 in
theorem gX1_gather_X5_shiftOf : GoodIn wsX1_gather (wsV RX1 32 RX5 yX5_shiftOf wsX5_shiftOf) := goodIn_app (goodIn_of _ (by decide +kernel)) ggX1_gather_X5_shiftOf
set_option maxRecDepth 20000 in
theorem ggX1_gather_X1_enter : GoodIn wsX1_gather wsX1_enter := goodIn_r _ [69, 1, 70, 71, 72, 73, 74, 68, 75, 76, 77, 78] (by decide +kernel) (by decide +kernel)
set_option maxRecDepth 20000 in
theorem gX1_gather_X1_enter : GoodIn wsX1_gather (wsV RX1 36 RX1 yX1_enter wsX1_enter) := goodIn_app (goodIn_of _ (by decide +kernel)) ggX1_gather_X1_enter
theorem dX1_gather_0 : decode cX1_gather 0 = .ok (.aload_n 0, 1) := by decide +kernel
theorem dX1_gather_1 : decode cX1_gather 1 = .ok (.iconst 0, 1) := by decide +kernel
theorem dX1_gather_2 : decode cX1_gather 2 = .ok (.putfield 18, 3) := by decide +kernel
theorem dX1_gather_5 : decode cX1_gather 5 = .ok (.iconst 0, 1) := by decide +kernel
theorem dX1_gather_6 : decode cX1_gather 6 = .ok (.istore_n 2, 1) := by decide +kernel
theorem dX1_gather_7 : decode cX1_gather 7 = .ok (.iload_n 2, 1) := by decide +kernel
theorem dX1_gather_8 : decode cX1_gather 8 = .ok (.aload_n 1, 1) := by decide +kernel
theorem dX1_gather_9 : decode cX1_gather 9 = .ok (.invokevirtual 22, 3) := by decide +kernel
theorem dX1_gather_12 : decode cX1_gather 12 = .ok (.if_icmp .ge 29, 3) := by decide +kernel
theorem dX1_gather_15 : decode cX1_gather 15 = .ok (.aload_n 1, 1) := by decide +kernel
theorem dX1_gather_16 : decode cX1_gather 16 = .ok (.aload_n 1, 1) := by decide +kernel
theorem dX1_gather_17 : decode cX1_gather 17 = .ok (.iload_n 2, 1) := by decide +kernel
theorem dX1_gather_18 : decode cX1_gather 18 = .ok (.invokevirtual 28, 3) := by decide +kernel
theorem dX1_gather_21 : decode cX1_gather 21 = .ok (.invokevirtual 32, 3) := by decide +kernel
theorem dX1_gather_24 : decode cX1_gather 24 = .ok (.istore_n 3, 1) := by decide +kernel
theorem dX1_gather_25 : decode cX1_gather 25 = .ok (.iload_n 3, 1) := by decide +kernel
theorem dX1_gather_26 : decode cX1_gather 26 = .ok (.ifCond .eq 9, 3) := by decide +kernel
theorem dX1_gather_29 : decode cX1_gather 29 = .ok (.aload_n 0, 1) := by decide +kernel
theorem dX1_gather_30 : decode cX1_gather 30 = .ok (.iload_n 2, 1) := by decide +kernel
theorem dX1_gather_31 : decode cX1_gather 31 = .ok (.iload_n 3, 1) := by decide +kernel
theorem dX1_gather_32 : decode cX1_gather 32 = .ok (.invokevirtual 36, 3) := by decide +kernel
theorem dX1_gather_35 : decode cX1_gather 35 = .ok (.iinc 2 1, 3) := by decide +kernel
theorem dX1_gather_38 : decode cX1_gather 38 = .ok (.goto (-31), 3) := by decide +kernel
theorem dX1_gather_41 : decode cX1_gather 41 = .ok (.return_, 1) := by decide +kernel
set_option maxRecDepth 20000 in
theorem ggX1_enter_X1_shiftOf : GoodIn wsX1_enter wsX1_shiftOf := goodIn_r _ [8, 1, 2, 9, 10, 11] (by decide +kernel) (by decide +kernel)
set_option maxRecDepth 20000 in
theorem gX1_enter_X1_shiftOf : GoodIn wsX1_enter (wsV RX1 40 RX1 yX1_shiftOf wsX1_shiftOf) := goodIn_app (goodIn_of _ (by decide +kernel)) ggX1_enter_X1_shiftOf
theorem dX1_enter_0 : decode cX1_enter 0 = .ok (.iconst 0, 1) := by decide +kernel
theorem dX1_enter_1 : decode cX1_enter 1 = .ok (.istore_n 3, 1) := by decide +kernel
theorem dX1_enter_2 : decode cX1_enter 2 = .ok (.iload_n 3, 1) := by decide +kernel
theorem dX1_enter_3 : decode cX1_enter 3 = .ok (.aload_n 0, 1) := by decide +kernel
theorem dX1_enter_4 : decode cX1_enter 4 = .ok (.getfield 18, 3) := by decide +kernel
theorem dX1_enter_7 : decode cX1_enter 7 = .ok (.if_icmp .ge 18, 3) := by decide +kernel
theorem dX1_enter_10 : decode cX1_enter 10 = .ok (.aload_n 0, 1) := by decide +kernel
theorem dX1_enter_11 : decode cX1_enter 11 = .ok (.iload_n 3, 1) := by decide +kernel
theorem dX1_enter_12 : decode cX1_enter 12 = .ok (.invokevirtual 40, 3) := by decide +kernel
theorem dX1_enter_15 : decode cX1_enter 15 = .ok (.iload_n 2, 1) := by decide +kernel
theorem dX1_enter_16 : decode cX1_enter 16 = .ok (.if_icmp .eq 9, 3) := by decide +kernel
theorem dX1_enter_19 : decode cX1_enter 19 = .ok (.iinc 3 1, 3) := by decide +kernel
theorem dX1_enter_22 : decode cX1_enter 22 = .ok (.goto (-20), 3) := by decide +kernel
theorem dX1_enter_25 : decode cX1_enter 25 = .ok (.iload_n 3, 1) := by decide +kernel
theorem dX1_enter_26 : decode cX1_enter 26 = .ok (.aload_n 0, 1) := by decide +kernel
theorem dX1_enter_27 : decode cX1_enter 27 = .ok (.getfield 9, 3) := by decide +kernel
theorem dX1_enter_30 : decode cX1_enter 30 = .ok (.arraylength, 1) := by decide +kernel
theorem dX1_enter_31 : decode cX1_enter 31 = .ok (.if_icmp .ge 12, 3) := by decide +kernel
theorem dX1_enter_34 : decode cX1_enter 34 = .ok (.iload_n 3, 1) := by decide +kernel
theorem dX1_enter_35 : decode cX1_enter 35 = .ok (.aload_n 0, 1) := by decide +kernel
theorem dX1_enter_36 : decode cX1_enter 36 = .ok (.getfield 15, 3) := by decide +kernel
theorem dX1_enter_39 : decode cX1_enter 39 = .ok (.arraylength, 1) := by decide +kernel
theorem dX1_enter_40 : decode cX1_enter 40 = .ok (.if_icmp .lt 4, 3) := by decide +kernel
theorem dX1_enter_43 : decode cX1_enter 43 = .ok (.return_, 1) := by decide +kernel
theorem dX1_enter_44 : decode cX1_enter 44 = .ok (.iload_n 3, 1) := by decide +kernel
theorem dX1_enter_45 : decode cX1_enter 45 = .ok (.aload_n 0, 1) := by decide +kernel
theorem dX1_enter_46 : decode cX1_enter 46 = .ok (.getfield 18, 3) := by decide +kernel
theorem dX1_enter_49 : decode cX1_enter 49 = .ok (.if_icmp .ne 27, 3) := by decide +kernel
theorem dX1_enter_52 : decode cX1_enter 52 = .ok (.aload_n 0, 1) := by decide +kernel
theorem dX1_enter_53 : decode cX1_enter 53 = .ok (.getfield 9, 3) := by decide +kernel
theorem dX1_enter_56 : decode cX1_enter 56 = .ok (.iload_n 3, 1) := by decide +kernel
theorem dX1_enter_57 : decode cX1_enter 57 = .ok (.iload_n 2, 1) := by decide +kernel
theorem dX1_enter_58 : decode cX1_enter 58 = .ok (.iastore, 1) := by decide +kernel
theorem dX1_enter_59 : decode cX1_enter 59 = .ok (.aload_n 0, 1) := by decide +kernel
theorem dX1_enter_60 : decode cX1_enter 60 = .ok (.getfield 15, 3) := by decide +kernel
theorem dX1_enter_63 : decode cX1_enter 63 = .ok (.iload_n 3, 1) := by decide +kernel
theorem dX1_enter_64 : decode cX1_enter 64 = .ok (.iconst 0, 1) := by decide +kernel
theorem dX1_enter_65 : decode cX1_enter 65 = .ok (.iastore, 1) := by decide +kernel
theorem dX1_enter_66 : decode cX1_enter 66 = .ok (.aload_n 0, 1) := by decide +kernel
theorem dX1_enter_67 : decode cX1_enter 67 = .ok (.dup, 1) := by decide +kernel
theorem dX1_enter_68 : decode cX1_enter 68 = .ok (.getfield 18, 3) := by decide +kernel
theorem dX1_enter_71 : decode cX1_enter 71 = .ok (.iconst 1, 1) := by decide +kernel
theorem dX1_enter_72 : decode cX1_enter 72 = .ok (.iadd, 1) := by decide +kernel
theorem dX1_enter_73 : decode cX1_enter 73 = .ok (.putfield 18, 3) := by decide +kernel
theorem dX1_enter_76 : decode cX1_enter 76 = .ok (.aload_n 0, 1) := by decide +kernel
theorem dX1_enter_77 : decode cX1_enter 77 = .ok (.getfield 15, 3) := by decide +kernel
theorem dX1_enter_80 : decode cX1_enter 80 = .ok (.iload_n 3, 1) := by decide +kernel
theorem dX1_enter_81 : decode cX1_enter 81 = .ok (.dup2, 1) := by decide +kernel
theorem dX1_enter_82 : decode cX1_enter 82 = .ok (.iaload, 1) := by decide +kernel
theorem dX1_enter_83 : decode cX1_enter 83 = .ok (.iconst 1, 1) := by decide +kernel
theorem dX1_enter_84 : decode cX1_enter 84 = .ok (.iload_n 1, 1) := by decide +kernel
theorem dX1_enter_85 : decode cX1_enter 85 = .ok (.ishl, 1) := by decide +kernel
theorem dX1_enter_86 : decode cX1_enter 86 = .ok (.ior, 1) := by decide +kernel
theorem dX1_enter_87 : decode cX1_enter 87 = .ok (.iastore, 1) := by decide +kernel
theorem dX1_enter_88 : decode cX1_enter 88 = .ok (.return_, 1) := by decide +kernel
set_option maxRecDepth 20000 in
theorem ggX1_inOrder_X1_blocksAheadOf : GoodIn wsX1_inOrder wsX1_blocksAheadOf := goodIn_r _ [6, 1, 7, 8, 9, 5, 10, 11, 12, 13, 14, 15, 16, 17, 18, 19, 20, 21, 22, 23, 24, 25, 26, 27, 28, 29, 30] (by decide +kernel) (by decide +kernel)
set_option maxRecDepth 20000 in
theorem gX1_inOrder_X1_blocksAheadOf : GoodIn wsX1_inOrder (wsV RX1 43 RX1 yX1_blocksAheadOf wsX1_blocksAheadOf) := goodIn_app (goodIn_of _ (by decide +kernel)) ggX1_inOrder_X1_blocksAheadOf
theorem dX1_inOrder_0 : decode cX1_inOrder 0 = .ok (.iconst 0, 1) := by decide +kernel
theorem dX1_inOrder_1 : decode cX1_inOrder 1 = .ok (.istore_n 2, 1) := by decide +kernel
theorem dX1_inOrder_2 : decode cX1_inOrder 2 = .ok (.iload_n 2, 1) := by decide +kernel
theorem dX1_inOrder_3 : decode cX1_inOrder 3 = .ok (.aload_n 0, 1) := by decide +kernel
theorem dX1_inOrder_4 : decode cX1_inOrder 4 = .ok (.getfield 18, 3) := by decide +kernel
theorem dX1_inOrder_7 : decode cX1_inOrder 7 = .ok (.if_icmp .ge 20, 3) := by decide +kernel
theorem dX1_inOrder_10 : decode cX1_inOrder 10 = .ok (.aload_n 0, 1) := by decide +kernel
theorem dX1_inOrder_11 : decode cX1_inOrder 11 = .ok (.iload_n 2, 1) := by decide +kernel
theorem dX1_inOrder_12 : decode cX1_inOrder 12 = .ok (.invokevirtual 43, 3) := by decide +kernel
theorem dX1_inOrder_15 : decode cX1_inOrder 15 = .ok (.iload_n 1, 1) := by decide +kernel
theorem dX1_inOrder_16 : decode cX1_inOrder 16 = .ok (.if_icmp .ne 5, 3) := by decide +kernel
theorem dX1_inOrder_19 : decode cX1_inOrder 19 = .ok (.iload_n 2, 1) := by decide +kernel
theorem dX1_inOrder_20 : decode cX1_inOrder 20 = .ok (.ireturn, 1) := by decide +kernel
theorem dX1_inOrder_21 : decode cX1_inOrder 21 = .ok (.iinc 2 1, 3) := by decide +kernel
theorem dX1_inOrder_24 : decode cX1_inOrder 24 = .ok (.goto (-22), 3) := by decide +kernel
theorem dX1_inOrder_27 : decode cX1_inOrder 27 = .ok (.iconst (-1), 1) := by decide +kernel
theorem dX1_inOrder_28 : decode cX1_inOrder 28 = .ok (.ireturn, 1) := by decide +kernel
set_option maxRecDepth 20000 in
theorem ggX1_blocksAheadOf_X1_isAhead : GoodIn wsX1_blocksAheadOf wsX1_isAhead := goodIn_r _ [6, 7, 8, 9, 5, 10, 1, 11, 12, 13, 14, 15, 16, 17, 18, 19, 20, 21, 22, 23, 24, 25, 26] (by decide +kernel) (by decide +kernel)
set_option maxRecDepth 20000 in
theorem gX1_blocksAheadOf_X1_isAhead : GoodIn wsX1_blocksAheadOf (wsV RX1 46 RX1 yX1_isAhead wsX1_isAhead) := goodIn_app (goodIn_of _ (by decide +kernel)) ggX1_blocksAheadOf_X1_isAhead
theorem dX1_blocksAheadOf_0 : decode cX1_blocksAheadOf 0 = .ok (.iconst 0, 1) := by decide +kernel
theorem dX1_blocksAheadOf_1 : decode cX1_blocksAheadOf 1 = .ok (.istore_n 2, 1) := by decide +kernel
theorem dX1_blocksAheadOf_2 : decode cX1_blocksAheadOf 2 = .ok (.iconst 0, 1) := by decide +kernel
theorem dX1_blocksAheadOf_3 : decode cX1_blocksAheadOf 3 = .ok (.istore_n 3, 1) := by decide +kernel
theorem dX1_blocksAheadOf_4 : decode cX1_blocksAheadOf 4 = .ok (.iload_n 3, 1) := by decide +kernel
theorem dX1_blocksAheadOf_5 : decode cX1_blocksAheadOf 5 = .ok (.aload_n 0, 1) := by decide +kernel
theorem dX1_blocksAheadOf_6 : decode cX1_blocksAheadOf 6 = .ok (.getfield 18, 3) := by decide +kernel
theorem dX1_blocksAheadOf_9 : decode cX1_blocksAheadOf 9 = .ok (.if_icmp .ge 21, 3) := by decide +kernel
theorem dX1_blocksAheadOf_12 : decode cX1_blocksAheadOf 12 = .ok (.aload_n 0, 1) := by decide +kernel
theorem dX1_blocksAheadOf_13 : decode cX1_blocksAheadOf 13 = .ok (.iload_n 3, 1) := by decide +kernel
theorem dX1_blocksAheadOf_14 : decode cX1_blocksAheadOf 14 = .ok (.iload_n 1, 1) := by decide +kernel
theorem dX1_blocksAheadOf_15 : decode cX1_blocksAheadOf 15 = .ok (.invokevirtual 46, 3) := by decide +kernel
theorem dX1_blocksAheadOf_18 : decode cX1_blocksAheadOf 18 = .ok (.ifCond .eq 6, 3) := by decide +kernel
theorem dX1_blocksAheadOf_21 : decode cX1_blocksAheadOf 21 = .ok (.iinc 2 1, 3) := by decide +kernel
theorem dX1_blocksAheadOf_24 : decode cX1_blocksAheadOf 24 = .ok (.iinc 3 1, 3) := by decide +kernel
theorem dX1_blocksAheadOf_27 : decode cX1_blocksAheadOf 27 = .ok (.goto (-23), 3) := by decide +kernel
theorem dX1_blocksAheadOf_30 : decode cX1_blocksAheadOf 30 = .ok (.iload_n 2, 1) := by decide +kernel
theorem dX1_blocksAheadOf_31 : decode cX1_blocksAheadOf 31 = .ok (.ireturn, 1) := by decide +kernel
set_option maxRecDepth 20000 in
theorem ggX1_isAhead_X1_membersOf : GoodIn wsX1_isAhead wsX1_membersOf := goodIn_r _ [5, 6, 7, 20, 21, 22] (by decide +kernel) (by decide +kernel)
set_option maxRecDepth 20000 in
theorem gX1_isAhead_X1_membersOf : GoodIn wsX1_isAhead (wsV RX1 50 RX1 yX1_membersOf wsX1_membersOf) := goodIn_app (goodIn_of _ (by decide +kernel)) ggX1_isAhead_X1_membersOf
set_option maxRecDepth 20000 in
theorem ggX1_isAhead_J6_bitCount_0f7a4 : GoodIn wsX1_isAhead wsJ6_bitCount_0f7a4 := goodIn_r _ [11, 12, 13, 14] (by decide +kernel) (by decide +kernel)
set_option maxRecDepth 20000 in
theorem gX1_isAhead_J6_bitCount_0f7a4 : GoodIn wsX1_isAhead (va_wsS RX1 53 yJ6_bitCount_0f7a4 wsJ6_bitCount_0f7a4) := goodIn_app (goodIn_of _ (by decide +kernel)) ggX1_isAhead_J6_bitCount_0f7a4
set_option maxRecDepth 20000 in
theorem ggX1_isAhead_X1_shiftOf : GoodIn wsX1_isAhead wsX1_shiftOf := goodIn_r _ [18, 6, 19, 20, 21, 22] (by decide +kernel) (by decide +kernel)
set_option maxRecDepth 20000 in
theorem gX1_isAhead_X1_shiftOf : GoodIn wsX1_isAhead (wsV RX1 40 RX1 yX1_shiftOf wsX1_shiftOf) := goodIn_app (goodIn_of _ (by decide +kernel)) ggX1_isAhead_X1_shiftOf
theorem dX1_isAhead_0 : decode cX1_isAhead 0 = .ok (.aload_n 0, 1) := by decide +kernel
theorem dX1_isAhead_1 : decode cX1_isAhead 1 = .ok (.iload_n 1, 1) := by decide +kernel
theorem dX1_isAhead_2 : decode cX1_isAhead 2 = .ok (.invokevirtual 50, 3) := by decide +kernel
theorem dX1_isAhead_5 : decode cX1_isAhead 5 = .ok (.invokestatic 53, 3) := by decide +kernel
theorem dX1_isAhead_8 : decode cX1_isAhead 8 = .ok (.aload_n 0, 1) := by decide +kernel
theorem dX1_isAhead_9 : decode cX1_isAhead 9 = .ok (.iload_n 2, 1) := by decide +kernel
theorem dX1_isAhead_10 : decode cX1_isAhead 10 = .ok (.invokevirtual 50, 3) := by decide +kernel
theorem dX1_isAhead_13 : decode cX1_isAhead 13 = .ok (.invokestatic 53, 3) := by decide +kernel
theorem dX1_isAhead_16 : decode cX1_isAhead 16 = .ok (.isub, 1) := by decide +kernel
theorem dX1_isAhead_17 : decode cX1_isAhead 17 = .ok (.istore_n 3, 1) := by decide +kernel
theorem dX1_isAhead_18 : decode cX1_isAhead 18 = .ok (.iload_n 3, 1) := by decide +kernel
theorem dX1_isAhead_19 : decode cX1_isAhead 19 = .ok (.ifCond .gt 20, 3) := by decide +kernel
theorem dX1_isAhead_22 : decode cX1_isAhead 22 = .ok (.iload_n 3, 1) := by decide +kernel
theorem dX1_isAhead_23 : decode cX1_isAhead 23 = .ok (.ifCond .ne 20, 3) := by decide +kernel
theorem dX1_isAhead_26 : decode cX1_isAhead 26 = .ok (.aload_n 0, 1) := by decide +kernel
theorem dX1_isAhead_27 : decode cX1_isAhead 27 = .ok (.iload_n 1, 1) := by decide +kernel
theorem dX1_isAhead_28 : decode cX1_isAhead 28 = .ok (.invokevirtual 40, 3) := by decide +kernel
theorem dX1_isAhead_31 : decode cX1_isAhead 31 = .ok (.aload_n 0, 1) := by decide +kernel
theorem dX1_isAhead_32 : decode cX1_isAhead 32 = .ok (.iload_n 2, 1) := by decide +kernel
theorem dX1_isAhead_33 : decode cX1_isAhead 33 = .ok (.invokevirtual 40, 3) := by decide +kernel
theorem dX1_isAhead_36 : decode cX1_isAhead 36 = .ok (.if_icmp .ge 7, 3) := by decide +kernel
theorem dX1_isAhead_39 : decode cX1_isAhead 39 = .ok (.iconst 1, 1) := by decide +kernel
theorem dX1_isAhead_40 : decode cX1_isAhead 40 = .ok (.goto 4, 3) := by decide +kernel
theorem dX1_isAhead_43 : decode cX1_isAhead 43 = .ok (.iconst 0, 1) := by decide +kernel
theorem dX1_isAhead_44 : decode cX1_isAhead 44 = .ok (.ireturn, 1) := by decide +kernel
theorem dX2_init_0 : decode cX2_init 0 = .ok (.aload_n 0, 1) := by decide +kernel
theorem dX2_init_1 : decode cX2_init 1 = .ok (.invokespecial 3, 3) := by decide +kernel
theorem dX2_init_4 : decode cX2_init 4 = .ok (.aload_n 0, 1) := by decide +kernel
theorem dX2_init_5 : decode cX2_init 5 = .ok (.bipush 60, 2) := by decide +kernel
theorem dX2_init_7 : decode cX2_init 7 = .ok (.newarray .char, 2) := by decide +kernel
theorem dX2_init_9 : decode cX2_init 9 = .ok (.putfield 9, 3) := by decide +kernel
theorem dX2_init_12 : decode cX2_init 12 = .ok (.aload_n 0, 1) := by decide +kernel
theorem dX2_init_13 : decode cX2_init 13 = .ok (.iconst 3, 1) := by decide +kernel
theorem dX2_init_14 : decode cX2_init 14 = .ok (.newarray .int, 2) := by decide +kernel
theorem dX2_init_16 : decode cX2_init 16 = .ok (.putfield 15, 3) := by decide +kernel
theorem dX2_init_19 : decode cX2_init 19 = .ok (.return_, 1) := by decide +kernel
theorem dX2_length_0 : decode cX2_length 0 = .ok (.aload_n 0, 1) := by decide +kernel
theorem dX2_length_1 : decode cX2_length 1 = .ok (.getfield 19, 3) := by decide +kernel
theorem dX2_length_4 : decode cX2_length 4 = .ok (.ireturn, 1) := by decide +kernel
set_option maxRecDepth 20000 in
theorem ggX3_init_X5_init : GoodIn wsX3_init wsX5_init := goodIn_r _ [10, 11, 2, 3, 12, 13, 14, 15, 16, 17, 18, 19, 20, 21, 22, 23, 24, 25, 26, 27, 28, 29, 30, 31, 40, 41, 42, 43, 35, 36, 37, 38, 39, 44, 45, 46] (by decide +kernel) (by decide +kernel)
set_option maxRecDepth 20000 in
theorem gX3_init_X5_init : GoodIn wsX3_init (wsX5_init) := ggX3_init_X5_init
theorem dX3_init_0 : decode cX3_init 0 = .ok (.aload_n 0, 1) := by decide +kernel
theorem dX3_init_1 : decode cX3_init 1 = .ok (.invokespecial 3, 3) := by decide +kernel
theorem dX3_init_4 : decode cX3_init 4 = .ok (.aload_n 0, 1) := by decide +kernel
theorem dX3_init_5 : decode cX3_init 5 = .ok (.iconst 4, 1) := by decide +kernel
theorem dX3_init_6 : decode cX3_init 6 = .ok (.anewarray 9, 3) := by decide +kernel
theorem dX3_init_9 : decode cX3_init 9 = .ok (.putfield 11, 3) := by decide +kernel
theorem dX3_init_12 : decode cX3_init 12 = .ok (.iconst 0, 1) := by decide +kernel
theorem dX3_init_13 : decode cX3_init 13 = .ok (.istore_n 1, 1) := by decide +kernel
theorem dX3_init_14 : decode cX3_init 14 = .ok (.iload_n 1, 1) := by decide +kernel
theorem dX3_init_15 : decode cX3_init 15 = .ok (.aload_n 0, 1) := by decide +kernel
theorem dX3_init_16 : decode cX3_init 16 = .ok (.getfield 11, 3) := by decide +kernel
theorem dX3_init_19 : decode cX3_init 19 = .ok (.arraylength, 1) := by decide +kernel
theorem dX3_init_20 : decode cX3_init 20 = .ok (.if_icmp .ge 22, 3) := by decide +kernel
theorem dX3_init_23 : decode cX3_init 23 = .ok (.aload_n 0, 1) := by decide +kernel
theorem dX3_init_24 : decode cX3_init 24 = .ok (.getfield 11, 3) := by decide +kernel
theorem dX3_init_27 : decode cX3_init 27 = .ok (.iload_n 1, 1) := by decide +kernel
theorem dX3_init_28 : decode cX3_init 28 = .ok (.new 9, 3) := by decide +kernel
theorem dX3_init_31 : decode cX3_init 31 = .ok (.dup, 1) := by decide +kernel
theorem dX3_init_32 : decode cX3_init 32 = .ok (.invokespecial 17, 3) := by decide +kernel
theorem dX3_init_35 : decode cX3_init 35 = .ok (.aastore, 1) := by decide +kernel
theorem dX3_init_36 : decode cX3_init 36 = .ok (.iinc 1 1, 3) := by decide +kernel
theorem dX3_init_39 : decode cX3_init 39 = .ok (.goto (-25), 3) := by decide +kernel
theorem dX3_init_42 : decode cX3_init 42 = .ok (.return_, 1) := by decide +kernel
theorem dX3_size_0 : decode cX3_size 0 = .ok (.aload_n 0, 1) := by decide +kernel
theorem dX3_size_1 : decode cX3_size 1 = .ok (.getfield 18, 3) := by decide +kernel
theorem dX3_size_4 : decode cX3_size 4 = .ok (.ireturn, 1) := by decide +kernel
theorem dX3_fromOldest_0 : decode cX3_fromOldest 0 = .ok (.aload_n 0, 1) := by decide +kernel
theorem dX3_fromOldest_1 : decode cX3_fromOldest 1 = .ok (.getfield 22, 3) := by decide +kernel
theorem dX3_fromOldest_4 : decode cX3_fromOldest 4 = .ok (.iload_n 1, 1) := by decide +kernel
theorem dX3_fromOldest_5 : decode cX3_fromOldest 5 = .ok (.iadd, 1) := by decide +kernel
theorem dX3_fromOldest_6 : decode cX3_fromOldest 6 = .ok (.iconst 4, 1) := by decide +kernel
theorem dX3_fromOldest_7 : decode cX3_fromOldest 7 = .ok (.irem, 1) := by decide +kernel
theorem dX3_fromOldest_8 : decode cX3_fromOldest 8 = .ok (.istore_n 2, 1) := by decide +kernel
theorem dX3_fromOldest_9 : decode cX3_fromOldest 9 = .ok (.iload_n 2, 1) := by decide +kernel
theorem dX3_fromOldest_10 : decode cX3_fromOldest 10 = .ok (.ifCond .lt 21, 3) := by decide +kernel
theorem dX3_fromOldest_13 : decode cX3_fromOldest 13 = .ok (.iload_n 2, 1) := by decide +kernel
theorem dX3_fromOldest_14 : decode cX3_fromOldest 14 = .ok (.aload_n 0, 1) := by decide +kernel
theorem dX3_fromOldest_15 : decode cX3_fromOldest 15 = .ok (.getfield 11, 3) := by decide +kernel
theorem dX3_fromOldest_18 : decode cX3_fromOldest 18 = .ok (.arraylength, 1) := by decide +kernel
theorem dX3_fromOldest_19 : decode cX3_fromOldest 19 = .ok (.if_icmp .ge 12, 3) := by decide +kernel
theorem dX3_fromOldest_22 : decode cX3_fromOldest 22 = .ok (.aload_n 0, 1) := by decide +kernel
theorem dX3_fromOldest_23 : decode cX3_fromOldest 23 = .ok (.getfield 11, 3) := by decide +kernel
theorem dX3_fromOldest_26 : decode cX3_fromOldest 26 = .ok (.iload_n 2, 1) := by decide +kernel
theorem dX3_fromOldest_27 : decode cX3_fromOldest 27 = .ok (.aaload, 1) := by decide +kernel
theorem dX3_fromOldest_28 : decode cX3_fromOldest 28 = .ok (.goto 4, 3) := by decide +kernel
theorem dX3_fromOldest_31 : decode cX3_fromOldest 31 = .ok (.aconst_null, 1) := by decide +kernel
theorem dX3_fromOldest_32 : decode cX3_fromOldest 32 = .ok (.areturn, 1) := by decide +kernel
set_option maxRecDepth 20000 in
theorem ggX3_record_X3_fromOldest : GoodIn wsX3_record wsX3_fromOldest := goodIn_r _ [7, 2, 8, 50, 51, 52] (by decide +kernel) (by decide +kernel)
set_option maxRecDepth 20000 in
theorem gX3_record_X3_fromOldest : GoodIn wsX3_record (wsV RX3 25 RX3 yX3_fromOldest wsX3_fromOldest) := goodIn_app (goodIn_of _ (by decide +kernel)) ggX3_record_X3_fromOldest
set_option maxRecDepth 20000 in
theorem ggX3_record_X5_copyFrom : GoodIn wsX3_record wsX5_copyFrom := goodIn_r _ [13, 14, 15, 16, 17, 18, 19, 20, 21, 22, 23, 24, 25, 26, 27, 28, 29, 30, 31, 12, 32, 33, 34, 35, 36, 37, 38, 39, 40, 41, 42, 43, 44, 45, 46, 47, 48, 49, 53, 54, 55, 56, 57, 58, 59, 60, 61, 62, 63, 64] (by decide +kernel) (by decide +kernel)
set_option maxRecDepth 20000 in
theorem gX3_record_X5_copyFrom : GoodIn wsX3_record (wsV RX3 29 RX5 yX5_copyFrom wsX5_copyFrom) := goodIn_app (goodIn_of _ (by decide +kernel)) ggX3_record_X5_copyFrom
theorem dX3_record_0 : decode cX3_record 0 = .ok (.aload_n 0, 1) := by decide +kernel
theorem dX3_record_1 : decode cX3_record 1 = .ok (.aload_n 0, 1) := by decide +kernel
theorem dX3_record_2 : decode cX3_record 2 = .ok (.getfield 18, 3) := by decide +kernel
theorem dX3_record_5 : decode cX3_record 5 = .ok (.invokevirtual 25, 3) := by decide +kernel
theorem dX3_record_8 : decode cX3_record 8 = .ok (.astore_n 2, 1) := by decide +kernel
theorem dX3_record_9 : decode cX3_record 9 = .ok (.aload_n 2, 1) := by decide +kernel
theorem dX3_record_10 : decode cX3_record 10 = .ok (.ifnull 8, 3) := by decide +kernel
theorem dX3_record_13 : decode cX3_record 13 = .ok (.aload_n 2, 1) := by decide +kernel
theorem dX3_record_14 : decode cX3_record 14 = .ok (.aload_n 1, 1) := by decide +kernel
theorem dX3_record_15 : decode cX3_record 15 = .ok (.invokevirtual 29, 3) := by decide +kernel
theorem dX3_record_18 : decode cX3_record 18 = .ok (.aload_n 0, 1) := by decide +kernel
theorem dX3_record_19 : decode cX3_record 19 = .ok (.getfield 18, 3) := by decide +kernel
theorem dX3_record_22 : decode cX3_record 22 = .ok (.iconst 4, 1) := by decide +kernel
theorem dX3_record_23 : decode cX3_record 23 = .ok (.if_icmp .ge 16, 3) := by decide +kernel
theorem dX3_record_26 : decode cX3_record 26 = .ok (.aload_n 0, 1) := by decide +kernel
theorem dX3_record_27 : decode cX3_record 27 = .ok (.dup, 1) := by decide +kernel
theorem dX3_record_28 : decode cX3_record 28 = .ok (.getfield 18, 3) := by decide +kernel
theorem dX3_record_31 : decode cX3_record 31 = .ok (.iconst 1, 1) := by decide +kernel
theorem dX3_record_32 : decode cX3_record 32 = .ok (.iadd, 1) := by decide +kernel
theorem dX3_record_33 : decode cX3_record 33 = .ok (.putfield 18, 3) := by decide +kernel
theorem dX3_record_36 : decode cX3_record 36 = .ok (.goto 15, 3) := by decide +kernel
theorem dX3_record_39 : decode cX3_record 39 = .ok (.aload_n 0, 1) := by decide +kernel
theorem dX3_record_40 : decode cX3_record 40 = .ok (.aload_n 0, 1) := by decide +kernel
theorem dX3_record_41 : decode cX3_record 41 = .ok (.getfield 22, 3) := by decide +kernel
theorem dX3_record_44 : decode cX3_record 44 = .ok (.iconst 1, 1) := by decide +kernel
theorem dX3_record_45 : decode cX3_record 45 = .ok (.iadd, 1) := by decide +kernel
theorem dX3_record_46 : decode cX3_record 46 = .ok (.iconst 4, 1) := by decide +kernel
theorem dX3_record_47 : decode cX3_record 47 = .ok (.irem, 1) := by decide +kernel
theorem dX3_record_48 : decode cX3_record 48 = .ok (.putfield 22, 3) := by decide +kernel
theorem dX3_record_51 : decode cX3_record 51 = .ok (.return_, 1) := by decide +kernel
set_option maxRecDepth 20000 in
theorem ggX3_latest_X3_fromOldest : GoodIn wsX3_latest wsX3_fromOldest := goodIn_r _ [6, 7, 8, 9, 10, 11] (by decide +kernel) (by decide +kernel)
set_option maxRecDepth 20000 in
theorem gX3_latest_X3_fromOldest : GoodIn wsX3_latest (wsV RX3 25 RX3 yX3_fromOldest wsX3_fromOldest) := goodIn_app (goodIn_of _ (by decide +kernel)) ggX3_latest_X3_fromOldest
theorem dX3_latest_0 : decode cX3_latest 0 = .ok (.aload_n 0, 1) := by decide +kernel
theorem dX3_latest_1 : decode cX3_latest 1 = .ok (.getfield 18, 3) := by decide +kernel
theorem dX3_latest_4 : decode cX3_latest 4 = .ok (.ifCond .ne 7, 3) := by decide +kernel
theorem dX3_latest_7 : decode cX3_latest 7 = .ok (.aconst_null, 1) := by decide +kernel
theorem dX3_latest_8 : decode cX3_latest 8 = .ok (.goto 13, 3) := by decide +kernel
theorem dX3_latest_11 : decode cX3_latest 11 = .ok (.aload_n 0, 1) := by decide +kernel
theorem dX3_latest_12 : decode cX3_latest 12 = .ok (.aload_n 0, 1) := by decide +kernel
theorem dX3_latest_13 : decode cX3_latest 13 = .ok (.getfield 18, 3) := by decide +kernel
theorem dX3_latest_16 : decode cX3_latest 16 = .ok (.iconst 1, 1) := by decide +kernel
theorem dX3_latest_17 : decode cX3_latest 17 = .ok (.isub, 1) := by decide +kernel
theorem dX3_latest_18 : decode cX3_latest 18 = .ok (.invokevirtual 25, 3) := by decide +kernel
theorem dX3_latest_21 : decode cX3_latest 21 = .ok (.areturn, 1) := by decide +kernel
theorem dX3_forgetLatest_0 : decode cX3_forgetLatest 0 = .ok (.aload_n 0, 1) := by decide +kernel
theorem dX3_forgetLatest_1 : decode cX3_forgetLatest 1 = .ok (.getfield 18, 3) := by decide +kernel
theorem dX3_forgetLatest_4 : decode cX3_forgetLatest 4 = .ok (.ifCond .le 13, 3) := by decide +kernel
theorem dX3_forgetLatest_7 : decode cX3_forgetLatest 7 = .ok (.aload_n 0, 1) := by decide +kernel
theorem dX3_forgetLatest_8 : decode cX3_forgetLatest 8 = .ok (.dup, 1) := by decide +kernel
theorem dX3_forgetLatest_9 : decode cX3_forgetLatest 9 = .ok (.getfield 18, 3) := by decide +kernel
theorem dX3_forgetLatest_12 : decode cX3_forgetLatest 12 = .ok (.iconst 1, 1) := by decide +kernel
theorem dX3_forgetLatest_13 : decode cX3_forgetLatest 13 = .ok (.isub, 1) := by decide +kernel
theorem dX3_forgetLatest_14 : decode cX3_forgetLatest 14 = .ok (.putfield 18, 3) := by decide +kernel
theorem dX3_forgetLatest_17 : decode cX3_forgetLatest 17 = .ok (.return_, 1) := by decide +kernel
