theorem dX4_init_0 : decode cX4_init 0 = .ok (.aload_n 0, 1) := by decide +kernel
theorem dX4_init_1 : decode cX4_init 1 = .ok (.invokespecial 3, 3) := by decide +kernel
theorem dX4_init_4 : decode cX4_init 4 = .ok (.aload_n 0, 1) := by decide +kernel
theorem dX4_init_5 : decode cX4_init 5 = .ok (.bipush 40, 2) := by decide +kernel
theorem dX4_init_7 : decode cX4_init 7 = .ok (.newarray .int, 2) := by decide +kernel
theorem dX4_init_9 : decode cX4_init 9 = .ok (.putfield 9, 3) := by decide +kernel
theorem dX4_init_12 : decode cX4_init 12 = .ok (.aload_n 0, 1) := by decide +kernel
theorem dX4_init_13 : decode cX4_init 13 = .ok (.bipush 40, 2) := by decide +kernel
theorem dX4_init_15 : decode cX4_init 15 = .ok (.newarray .int, 2) := by decide +kernel
theorem dX4_init_17 : decode cX4_init 17 = .ok (.putfield 15, 3) := by decide +kernel
theorem dX4_init_20 : decode cX4_init 20 = .ok (.aload_n 0, 1) := by decide +kernel
theorem dX4_init_21 : decode cX4_init 21 = .ok (.bipush 40, 2) := by decide +kernel
theorem dX4_init_23 : decode cX4_init 23 = .ok (.newarray .int, 2) := by decide +kernel
theorem dX4_init_25 : decode cX4_init 25 = .ok (.putfield 18, 3) := by decide +kernel
theorem dX4_init_28 : decode cX4_init 28 = .ok (.return_, 1) := by decide +kernel
theorem dX4_size_0 : decode cX4_size 0 = .ok (.aload_n 0, 1) := by decide +kernel
theorem dX4_size_1 : decode cX4_size 1 = .ok (.getfield 21, 3) := by decide +kernel
theorem dX4_size_4 : decode cX4_size 4 = .ok (.ireturn, 1) := by decide +kernel
theorem dX4_isFull_0 : decode cX4_isFull 0 = .ok (.aload_n 0, 1) := by decide +kernel
theorem dX4_isFull_1 : decode cX4_isFull 1 = .ok (.getfield 21, 3) := by decide +kernel
theorem dX4_isFull_4 : decode cX4_isFull 4 = .ok (.aload_n 0, 1) := by decide +kernel
theorem dX4_isFull_5 : decode cX4_isFull 5 = .ok (.getfield 9, 3) := by decide +kernel
theorem dX4_isFull_8 : decode cX4_isFull 8 = .ok (.arraylength, 1) := by decide +kernel
theorem dX4_isFull_9 : decode cX4_isFull 9 = .ok (.if_icmp .lt 7, 3) := by decide +kernel
theorem dX4_isFull_12 : decode cX4_isFull 12 = .ok (.iconst 1, 1) := by decide +kernel
theorem dX4_isFull_13 : decode cX4_isFull 13 = .ok (.goto 4, 3) := by decide +kernel
theorem dX4_isFull_16 : decode cX4_isFull 16 = .ok (.iconst 0, 1) := by decide +kernel
theorem dX4_isFull_17 : decode cX4_isFull 17 = .ok (.ireturn, 1) := by decide +kernel
theorem dX4_holds_0 : decode cX4_holds 0 = .ok (.iload_n 1, 1) := by decide +kernel
theorem dX4_holds_1 : decode cX4_holds 1 = .ok (.ifCond .lt 24, 3) := by decide +kernel
theorem dX4_holds_4 : decode cX4_holds 4 = .ok (.iload_n 1, 1) := by decide +kernel
theorem dX4_holds_5 : decode cX4_holds 5 = .ok (.aload_n 0, 1) := by decide +kernel
theorem dX4_holds_6 : decode cX4_holds 6 = .ok (.getfield 21, 3) := by decide +kernel
theorem dX4_holds_9 : decode cX4_holds 9 = .ok (.if_icmp .ge 16, 3) := by decide +kernel
theorem dX4_holds_12 : decode cX4_holds 12 = .ok (.iload_n 1, 1) := by decide +kernel
theorem dX4_holds_13 : decode cX4_holds 13 = .ok (.aload_n 0, 1) := by decide +kernel
theorem dX4_holds_14 : decode cX4_holds 14 = .ok (.getfield 9, 3) := by decide +kernel
theorem dX4_holds_17 : decode cX4_holds 17 = .ok (.arraylength, 1) := by decide +kernel
theorem dX4_holds_18 : decode cX4_holds 18 = .ok (.if_icmp .ge 7, 3) := by decide +kernel
theorem dX4_holds_21 : decode cX4_holds 21 = .ok (.iconst 1, 1) := by decide +kernel
theorem dX4_holds_22 : decode cX4_holds 22 = .ok (.goto 4, 3) := by decide +kernel
theorem dX4_holds_25 : decode cX4_holds 25 = .ok (.iconst 0, 1) := by decide +kernel
theorem dX4_holds_26 : decode cX4_holds 26 = .ok (.ireturn, 1) := by decide +kernel
theorem dX4_takesAt_0 : decode cX4_takesAt 0 = .ok (.iload_n 1, 1) := by decide +kernel
theorem dX4_takesAt_1 : decode cX4_takesAt 1 = .ok (.ifCond .lt 15, 3) := by decide +kernel
theorem dX4_takesAt_4 : decode cX4_takesAt 4 = .ok (.iload_n 1, 1) := by decide +kernel
theorem dX4_takesAt_5 : decode cX4_takesAt 5 = .ok (.aload_n 0, 1) := by decide +kernel
theorem dX4_takesAt_6 : decode cX4_takesAt 6 = .ok (.getfield 21, 3) := by decide +kernel
theorem dX4_takesAt_9 : decode cX4_takesAt 9 = .ok (.if_icmp .gt 7, 3) := by decide +kernel
theorem dX4_takesAt_12 : decode cX4_takesAt 12 = .ok (.iconst 1, 1) := by decide +kernel
theorem dX4_takesAt_13 : decode cX4_takesAt 13 = .ok (.goto 4, 3) := by decide +kernel
theorem dX4_takesAt_16 : decode cX4_takesAt 16 = .ok (.iconst 0, 1) := by decide +kernel
theorem dX4_takesAt_17 : decode cX4_takesAt 17 = .ok (.ireturn, 1) := by decide +kernel
set_option maxRecDepth 20000 in
theorem ggX4_canShift_X4_holds : GoodIn wsX4_canShift wsX4_holds := goodIn_r _ [6, 1, 7, 8, 9, 10, 11] (by decide +kernel) (by decide +kernel)
set_option maxRecDepth 20000 in
theorem gX4_canShift_X4_holds : GoodIn wsX4_canShift (wsV RX4 25 RX4 yX4_holds wsX4_holds) := goodIn_app (goodIn_of _ (by decide +kernel)) ggX4_canShift_X4_holds
theorem dX4_canShift_0 : decode cX4_canShift 0 = .ok (.aload_n 0, 1) := by decide +kernel
theorem dX4_canShift_1 : decode cX4_canShift 1 = .ok (.iload_n 1, 1) := by decide +kernel
theorem dX4_canShift_2 : decode cX4_canShift 2 = .ok (.invokevirtual 25, 3) := by decide +kernel
theorem dX4_canShift_5 : decode cX4_canShift 5 = .ok (.ifCond .eq 36, 3) := by decide +kernel
theorem dX4_canShift_8 : decode cX4_canShift 8 = .ok (.iload_n 2, 1) := by decide +kernel
theorem dX4_canShift_9 : decode cX4_canShift 9 = .ok (.iconst 1, 1) := by decide +kernel
theorem dX4_canShift_10 : decode cX4_canShift 10 = .ok (.if_icmp .lt 31, 3) := by decide +kernel
theorem dX4_canShift_13 : decode cX4_canShift 13 = .ok (.iload_n 2, 1) := by decide +kernel
theorem dX4_canShift_14 : decode cX4_canShift 14 = .ok (.aload_n 0, 1) := by decide +kernel
theorem dX4_canShift_15 : decode cX4_canShift 15 = .ok (.getfield 21, 3) := by decide +kernel
theorem dX4_canShift_18 : decode cX4_canShift 18 = .ok (.iload_n 1, 1) := by decide +kernel
theorem dX4_canShift_19 : decode cX4_canShift 19 = .ok (.isub, 1) := by decide +kernel
theorem dX4_canShift_20 : decode cX4_canShift 20 = .ok (.if_icmp .gt 21, 3) := by decide +kernel
theorem dX4_canShift_23 : decode cX4_canShift 23 = .ok (.iload_n 3, 1) := by decide +kernel
theorem dX4_canShift_24 : decode cX4_canShift 24 = .ok (.ifCond .lt 17, 3) := by decide +kernel
theorem dX4_canShift_27 : decode cX4_canShift 27 = .ok (.iload_n 3, 1) := by decide +kernel
theorem dX4_canShift_28 : decode cX4_canShift 28 = .ok (.aload_n 0, 1) := by decide +kernel
theorem dX4_canShift_29 : decode cX4_canShift 29 = .ok (.getfield 21, 3) := by decide +kernel
theorem dX4_canShift_32 : decode cX4_canShift 32 = .ok (.iload_n 2, 1) := by decide +kernel
theorem dX4_canShift_33 : decode cX4_canShift 33 = .ok (.isub, 1) := by decide +kernel
theorem dX4_canShift_34 : decode cX4_canShift 34 = .ok (.if_icmp .gt 7, 3) := by decide +kernel
theorem dX4_canShift_37 : decode cX4_canShift 37 = .ok (.iconst 1, 1) := by decide +kernel
theorem dX4_canShift_38 : decode cX4_canShift 38 = .ok (.goto 4, 3) := by decide +kernel
theorem dX4_canShift_41 : decode cX4_canShift 41 = .ok (.iconst 0, 1) := by decide +kernel
theorem dX4_canShift_42 : decode cX4_canShift 42 = .ok (.ireturn, 1) := by decide +kernel
theorem dX4_at_0 : decode cX4_at 0 = .ok (.iload_n 1, 1) := by decide +kernel
theorem dX4_at_1 : decode cX4_at 1 = .ok (.ifCond .lt 29, 3) := by decide +kernel
theorem dX4_at_4 : decode cX4_at 4 = .ok (.iload_n 1, 1) := by decide +kernel
theorem dX4_at_5 : decode cX4_at 5 = .ok (.aload_n 0, 1) := by decide +kernel
theorem dX4_at_6 : decode cX4_at 6 = .ok (.getfield 21, 3) := by decide +kernel
theorem dX4_at_9 : decode cX4_at 9 = .ok (.if_icmp .ge 21, 3) := by decide +kernel
theorem dX4_at_12 : decode cX4_at 12 = .ok (.iload_n 1, 1) := by decide +kernel
theorem dX4_at_13 : decode cX4_at 13 = .ok (.aload_n 0, 1) := by decide +kernel
theorem dX4_at_14 : decode cX4_at 14 = .ok (.getfield 9, 3) := by decide +kernel
theorem dX4_at_17 : decode cX4_at 17 = .ok (.arraylength, 1) := by decide +kernel
theorem dX4_at_18 : decode cX4_at 18 = .ok (.if_icmp .ge 12, 3) := by decide +kernel
theorem dX4_at_21 : decode cX4_at 21 = .ok (.aload_n 0, 1) := by decide +kernel
theorem dX4_at_22 : decode cX4_at 22 = .ok (.getfield 9, 3) := by decide +kernel
theorem dX4_at_25 : decode cX4_at 25 = .ok (.iload_n 1, 1) := by decide +kernel
theorem dX4_at_26 : decode cX4_at 26 = .ok (.iaload, 1) := by decide +kernel
theorem dX4_at_27 : decode cX4_at 27 = .ok (.goto 4, 3) := by decide +kernel
theorem dX4_at_30 : decode cX4_at 30 = .ok (.iconst (-1), 1) := by decide +kernel
theorem dX4_at_31 : decode cX4_at 31 = .ok (.ireturn, 1) := by decide +kernel
set_option maxRecDepth 20000 in
theorem ggX4_insert_X4_takesAt : GoodIn wsX4_insert wsX4_takesAt := goodIn_r _ [7, 2, 26, 27, 28, 29] (by decide +kernel) (by decide +kernel)
set_option maxRecDepth 20000 in
theorem gX4_insert_X4_takesAt : GoodIn wsX4_insert (wsV RX4 29 RX4 yX4_takesAt wsX4_takesAt) := goodIn_app (goodIn_of _ (by decide +kernel)) ggX4_insert_X4_takesAt
set_option maxRecDepth 20000 in
theorem ggX4_insert_X4_isFull : GoodIn wsX4_insert wsX4_isFull := goodIn_r _ [11, 2, 12, 26, 27, 28, 29] (by decide +kernel) (by decide +kernel)
set_option maxRecDepth 20000 in
theorem gX4_insert_X4_isFull : GoodIn wsX4_insert (wsV RX4 32 RX4 yX4_isFull wsX4_isFull) := goodIn_app (goodIn_of _ (by decide +kernel)) ggX4_insert_X4_isFull
set_option maxRecDepth 20000 in
theorem ggX4_insert_X4_relocate : GoodIn wsX4_insert wsX4_relocate := goodIn_r _ [16, 2, 12, 17, 18, 19, 20, 6, 21, 1, 22, 23, 24, 25, 26, 27, 28, 29] (by decide +kernel) (by decide +kernel)
set_option maxRecDepth 20000 in
theorem gX4_insert_X4_relocate : GoodIn wsX4_insert (wsV RX4 36 RX4 yX4_relocate wsX4_relocate) := goodIn_app (goodIn_of _ (by decide +kernel)) ggX4_insert_X4_relocate
set_option maxRecDepth 20000 in
theorem ggX4_insert_X4_write : GoodIn wsX4_insert wsX4_write := goodIn_r _ [25, 12, 26, 27, 28, 29] (by decide +kernel) (by decide +kernel)
set_option maxRecDepth 20000 in
theorem gX4_insert_X4_write : GoodIn wsX4_insert (wsV RX4 40 RX4 yX4_write wsX4_write) := goodIn_app (goodIn_of _ (by decide +kernel)) ggX4_insert_X4_write
theorem dX4_insert_0 : decode cX4_insert 0 = .ok (.aload_n 0, 1) := by decide +kernel
theorem dX4_insert_1 : decode cX4_insert 1 = .ok (.iload_n 1, 1) := by decide +kernel
theorem dX4_insert_2 : decode cX4_insert 2 = .ok (.invokevirtual 29, 3) := by decide +kernel
theorem dX4_insert_5 : decode cX4_insert 5 = .ok (.ifCond .eq 10, 3) := by decide +kernel
theorem dX4_insert_8 : decode cX4_insert 8 = .ok (.aload_n 0, 1) := by decide +kernel
theorem dX4_insert_9 : decode cX4_insert 9 = .ok (.invokevirtual 32, 3) := by decide +kernel
theorem dX4_insert_12 : decode cX4_insert 12 = .ok (.ifCond .eq 4, 3) := by decide +kernel
theorem dX4_insert_15 : decode cX4_insert 15 = .ok (.return_, 1) := by decide +kernel
theorem dX4_insert_16 : decode cX4_insert 16 = .ok (.iconst 0, 1) := by decide +kernel
theorem dX4_insert_17 : decode cX4_insert 17 = .ok (.istore_n 3, 1) := by decide +kernel
theorem dX4_insert_18 : decode cX4_insert 18 = .ok (.iload_n 3, 1) := by decide +kernel
theorem dX4_insert_19 : decode cX4_insert 19 = .ok (.aload_n 0, 1) := by decide +kernel
theorem dX4_insert_20 : decode cX4_insert 20 = .ok (.getfield 15, 3) := by decide +kernel
theorem dX4_insert_23 : decode cX4_insert 23 = .ok (.arraylength, 1) := by decide +kernel
theorem dX4_insert_24 : decode cX4_insert 24 = .ok (.if_icmp .ge 27, 3) := by decide +kernel
theorem dX4_insert_27 : decode cX4_insert 27 = .ok (.aload_n 0, 1) := by decide +kernel
theorem dX4_insert_28 : decode cX4_insert 28 = .ok (.getfield 15, 3) := by decide +kernel
theorem dX4_insert_31 : decode cX4_insert 31 = .ok (.iload_n 3, 1) := by decide +kernel
theorem dX4_insert_32 : decode cX4_insert 32 = .ok (.iload_n 3, 1) := by decide +kernel
theorem dX4_insert_33 : decode cX4_insert 33 = .ok (.iload_n 1, 1) := by decide +kernel
theorem dX4_insert_34 : decode cX4_insert 34 = .ok (.if_icmp .ge 7, 3) := by decide +kernel
theorem dX4_insert_37 : decode cX4_insert 37 = .ok (.iload_n 3, 1) := by decide +kernel
theorem dX4_insert_38 : decode cX4_insert 38 = .ok (.goto 6, 3) := by decide +kernel
theorem dX4_insert_41 : decode cX4_insert 41 = .ok (.iload_n 3, 1) := by decide +kernel
theorem dX4_insert_42 : decode cX4_insert 42 = .ok (.iconst 1, 1) := by decide +kernel
theorem dX4_insert_43 : decode cX4_insert 43 = .ok (.iadd, 1) := by decide +kernel
theorem dX4_insert_44 : decode cX4_insert 44 = .ok (.iastore, 1) := by decide +kernel
theorem dX4_insert_45 : decode cX4_insert 45 = .ok (.iinc 3 1, 3) := by decide +kernel
theorem dX4_insert_48 : decode cX4_insert 48 = .ok (.goto (-30), 3) := by decide +kernel
theorem dX4_insert_51 : decode cX4_insert 51 = .ok (.aload_n 0, 1) := by decide +kernel
theorem dX4_insert_52 : decode cX4_insert 52 = .ok (.aload_n 0, 1) := by decide +kernel
theorem dX4_insert_53 : decode cX4_insert 53 = .ok (.getfield 21, 3) := by decide +kernel
theorem dX4_insert_56 : decode cX4_insert 56 = .ok (.iconst 1, 1) := by decide +kernel
theorem dX4_insert_57 : decode cX4_insert 57 = .ok (.iadd, 1) := by decide +kernel
theorem dX4_insert_58 : decode cX4_insert 58 = .ok (.invokevirtual 36, 3) := by decide +kernel
theorem dX4_insert_61 : decode cX4_insert 61 = .ok (.aload_n 0, 1) := by decide +kernel
theorem dX4_insert_62 : decode cX4_insert 62 = .ok (.iload_n 1, 1) := by decide +kernel
theorem dX4_insert_63 : decode cX4_insert 63 = .ok (.iload_n 2, 1) := by decide +kernel
theorem dX4_insert_64 : decode cX4_insert 64 = .ok (.invokevirtual 40, 3) := by decide +kernel
theorem dX4_insert_67 : decode cX4_insert 67 = .ok (.return_, 1) := by decide +kernel
set_option maxRecDepth 20000 in
theorem ggX4_remove_X4_holds : GoodIn wsX4_remove wsX4_holds := goodIn_r _ [7, 2, 8, 22, 23, 24, 25] (by decide +kernel) (by decide +kernel)
set_option maxRecDepth 20000 in
theorem gX4_remove_X4_holds : GoodIn wsX4_remove (wsV RX4 25 RX4 yX4_holds wsX4_holds) := goodIn_app (goodIn_of _ (by decide +kernel)) ggX4_remove_X4_holds
set_option maxRecDepth 20000 in
theorem ggX4_remove_X4_relocate : GoodIn wsX4_remove wsX4_relocate := goodIn_r _ [12, 2, 8, 13, 14, 15, 16, 6, 17, 1, 18, 19, 20, 21, 22, 23, 24, 25] (by decide +kernel) (by decide +kernel)
set_option maxRecDepth 20000 in
theorem gX4_remove_X4_relocate : GoodIn wsX4_remove (wsV RX4 36 RX4 yX4_relocate wsX4_relocate) := goodIn_app (goodIn_of _ (by decide +kernel)) ggX4_remove_X4_relocate
theorem dX4_remove_0 : decode cX4_remove 0 = .ok (.aload_n 0, 1) := by decide +kernel
theorem dX4_remove_1 : decode cX4_remove 1 = .ok (.iload_n 1, 1) := by decide +kernel
theorem dX4_remove_2 : decode cX4_remove 2 = .ok (.invokevirtual 25, 3) := by decide +kernel
theorem dX4_remove_5 : decode cX4_remove 5 = .ok (.ifCond .ne 4, 3) := by decide +kernel
theorem dX4_remove_8 : decode cX4_remove 8 = .ok (.return_, 1) := by decide +kernel
theorem dX4_remove_9 : decode cX4_remove 9 = .ok (.iconst 0, 1) := by decide +kernel
theorem dX4_remove_10 : decode cX4_remove 10 = .ok (.istore_n 2, 1) := by decide +kernel
theorem dX4_remove_11 : decode cX4_remove 11 = .ok (.iload_n 2, 1) := by decide +kernel
theorem dX4_remove_12 : decode cX4_remove 12 = .ok (.aload_n 0, 1) := by decide +kernel
theorem dX4_remove_13 : decode cX4_remove 13 = .ok (.getfield 15, 3) := by decide +kernel
theorem dX4_remove_16 : decode cX4_remove 16 = .ok (.arraylength, 1) := by decide +kernel
theorem dX4_remove_17 : decode cX4_remove 17 = .ok (.if_icmp .ge 38, 3) := by decide +kernel
theorem dX4_remove_20 : decode cX4_remove 20 = .ok (.iload_n 2, 1) := by decide +kernel
theorem dX4_remove_21 : decode cX4_remove 21 = .ok (.iload_n 1, 1) := by decide +kernel
theorem dX4_remove_22 : decode cX4_remove 22 = .ok (.if_icmp .ne 7, 3) := by decide +kernel
theorem dX4_remove_25 : decode cX4_remove 25 = .ok (.iconst (-1), 1) := by decide +kernel
theorem dX4_remove_26 : decode cX4_remove 26 = .ok (.goto 6, 3) := by decide +kernel
theorem dX4_remove_29 : decode cX4_remove 29 = .ok (.iload_n 2, 1) := by decide +kernel
theorem dX4_remove_30 : decode cX4_remove 30 = .ok (.iconst 1, 1) := by decide +kernel
theorem dX4_remove_31 : decode cX4_remove 31 = .ok (.isub, 1) := by decide +kernel
theorem dX4_remove_32 : decode cX4_remove 32 = .ok (.istore_n 3, 1) := by decide +kernel
theorem dX4_remove_33 : decode cX4_remove 33 = .ok (.aload_n 0, 1) := by decide +kernel
theorem dX4_remove_34 : decode cX4_remove 34 = .ok (.getfield 15, 3) := by decide +kernel
theorem dX4_remove_37 : decode cX4_remove 37 = .ok (.iload_n 2, 1) := by decide +kernel
theorem dX4_remove_38 : decode cX4_remove 38 = .ok (.iload_n 2, 1) := by decide +kernel
theorem dX4_remove_39 : decode cX4_remove 39 = .ok (.iload_n 1, 1) := by decide +kernel
theorem dX4_remove_40 : decode cX4_remove 40 = .ok (.if_icmp .ge 7, 3) := by decide +kernel
theorem dX4_remove_43 : decode cX4_remove 43 = .ok (.iload_n 2, 1) := by decide +kernel
theorem dX4_remove_44 : decode cX4_remove 44 = .ok (.goto 4, 3) := by decide +kernel
theorem dX4_remove_47 : decode cX4_remove 47 = .ok (.iload_n 3, 1) := by decide +kernel
theorem dX4_remove_48 : decode cX4_remove 48 = .ok (.iastore, 1) := by decide +kernel
theorem dX4_remove_49 : decode cX4_remove 49 = .ok (.iinc 2 1, 3) := by decide +kernel
theorem dX4_remove_52 : decode cX4_remove 52 = .ok (.goto (-41), 3) := by decide +kernel
theorem dX4_remove_55 : decode cX4_remove 55 = .ok (.aload_n 0, 1) := by decide +kernel
theorem dX4_remove_56 : decode cX4_remove 56 = .ok (.aload_n 0, 1) := by decide +kernel
theorem dX4_remove_57 : decode cX4_remove 57 = .ok (.getfield 21, 3) := by decide +kernel
theorem dX4_remove_60 : decode cX4_remove 60 = .ok (.iconst 1, 1) := by decide +kernel
theorem dX4_remove_61 : decode cX4_remove 61 = .ok (.isub, 1) := by decide +kernel
theorem dX4_remove_62 : decode cX4_remove 62 = .ok (.invokevirtual 36, 3) := by decide +kernel
theorem dX4_remove_65 : decode cX4_remove 65 = .ok (.return_, 1) := by decide +kernel
set_option maxRecDepth 20000 in
theorem ggX4_replace_X4_holds : GoodIn wsX4_replace wsX4_holds := goodIn_r _ [6, 7, 8, 13, 14, 15, 16] (by decide +kernel) (by decide +kernel)
set_option maxRecDepth 20000 in
theorem gX4_replace_X4_holds : GoodIn wsX4_replace (wsV RX4 25 RX4 yX4_holds wsX4_holds) := goodIn_app (goodIn_of _ (by decide +kernel)) ggX4_replace_X4_holds
set_option maxRecDepth 20000 in
theorem ggX4_replace_X4_write : GoodIn wsX4_replace wsX4_write := goodIn_r _ [12, 8, 13, 14, 15, 16] (by decide +kernel) (by decide +kernel)
set_option maxRecDepth 20000 in
theorem gX4_replace_X4_write : GoodIn wsX4_replace (wsV RX4 40 RX4 yX4_write wsX4_write) := goodIn_app (goodIn_of _ (by decide +kernel)) ggX4_replace_X4_write
theorem dX4_replace_0 : decode cX4_replace 0 = .ok (.aload_n 0, 1) := by decide +kernel
theorem dX4_replace_1 : decode cX4_replace 1 = .ok (.iload_n 1, 1) := by decide +kernel
theorem dX4_replace_2 : decode cX4_replace 2 = .ok (.invokevirtual 25, 3) := by decide +kernel
theorem dX4_replace_5 : decode cX4_replace 5 = .ok (.ifCond .ne 4, 3) := by decide +kernel
theorem dX4_replace_8 : decode cX4_replace 8 = .ok (.return_, 1) := by decide +kernel
theorem dX4_replace_9 : decode cX4_replace 9 = .ok (.iconst 0, 1) := by decide +kernel
theorem dX4_replace_10 : decode cX4_replace 10 = .ok (.istore_n 3, 1) := by decide +kernel
theorem dX4_replace_11 : decode cX4_replace 11 = .ok (.iload_n 3, 1) := by decide +kernel
theorem dX4_replace_12 : decode cX4_replace 12 = .ok (.aload_n 0, 1) := by decide +kernel
theorem dX4_replace_13 : decode cX4_replace 13 = .ok (.getfield 15, 3) := by decide +kernel
theorem dX4_replace_16 : decode cX4_replace 16 = .ok (.arraylength, 1) := by decide +kernel
theorem dX4_replace_17 : decode cX4_replace 17 = .ok (.if_icmp .ge 25, 3) := by decide +kernel
theorem dX4_replace_20 : decode cX4_replace 20 = .ok (.aload_n 0, 1) := by decide +kernel
theorem dX4_replace_21 : decode cX4_replace 21 = .ok (.getfield 15, 3) := by decide +kernel
theorem dX4_replace_24 : decode cX4_replace 24 = .ok (.iload_n 3, 1) := by decide +kernel
theorem dX4_replace_25 : decode cX4_replace 25 = .ok (.iload_n 3, 1) := by decide +kernel
theorem dX4_replace_26 : decode cX4_replace 26 = .ok (.iload_n 1, 1) := by decide +kernel
theorem dX4_replace_27 : decode cX4_replace 27 = .ok (.if_icmp .ne 7, 3) := by decide +kernel
theorem dX4_replace_30 : decode cX4_replace 30 = .ok (.iconst (-1), 1) := by decide +kernel
theorem dX4_replace_31 : decode cX4_replace 31 = .ok (.goto 4, 3) := by decide +kernel
theorem dX4_replace_34 : decode cX4_replace 34 = .ok (.iload_n 3, 1) := by decide +kernel
theorem dX4_replace_35 : decode cX4_replace 35 = .ok (.iastore, 1) := by decide +kernel
theorem dX4_replace_36 : decode cX4_replace 36 = .ok (.iinc 3 1, 3) := by decide +kernel
theorem dX4_replace_39 : decode cX4_replace 39 = .ok (.goto (-28), 3) := by decide +kernel
theorem dX4_replace_42 : decode cX4_replace 42 = .ok (.aload_n 0, 1) := by decide +kernel
theorem dX4_replace_43 : decode cX4_replace 43 = .ok (.iload_n 1, 1) := by decide +kernel
theorem dX4_replace_44 : decode cX4_replace 44 = .ok (.iload_n 2, 1) := by decide +kernel
theorem dX4_replace_45 : decode cX4_replace 45 = .ok (.invokevirtual 40, 3) := by decide +kernel
theorem dX4_replace_48 : decode cX4_replace 48 = .ok (.return_, 1) := by decide +kernel
set_option maxRecDepth 20000 in
theorem ggX4_shift_X4_canShift : GoodIn wsX4_shift wsX4_canShift := goodIn_r _ [7, 2, 8, 9, 10, 6, 11, 12, 29, 30, 31, 32] (by decide +kernel) (by decide +kernel)
set_option maxRecDepth 20000 in
theorem gX4_shift_X4_canShift : GoodIn wsX4_shift (wsV RX4 44 RX4 yX4_canShift wsX4_canShift) := goodIn_app (goodIn_of _ (by decide +kernel)) ggX4_shift_X4_canShift
set_option maxRecDepth 20000 in
theorem ggX4_shift_X4_placeAfterShift : GoodIn wsX4_shift wsX4_placeAfterShift := goodIn_r _ [15] (by decide +kernel) (by decide +kernel)
set_option maxRecDepth 20000 in
theorem gX4_shift_X4_placeAfterShift : GoodIn wsX4_shift (va_wsS RX4 48 yX4_placeAfterShift wsX4_placeAfterShift) := goodIn_app (goodIn_of _ (by decide +kernel)) ggX4_shift_X4_placeAfterShift
set_option maxRecDepth 20000 in
theorem ggX4_shift_X4_relocate : GoodIn wsX4_shift wsX4_relocate := goodIn_r _ [19, 2, 12, 20, 21, 22, 23, 6, 24, 1, 25, 26, 27, 28, 29, 30, 31, 32] (by decide +kernel) (by decide +kernel)
set_option maxRecDepth 20000 in
theorem gX4_shift_X4_relocate : GoodIn wsX4_shift (wsV RX4 36 RX4 yX4_relocate wsX4_relocate) := goodIn_app (goodIn_of _ (by decide +kernel)) ggX4_shift_X4_relocate
theorem dX4_shift_0 : decode cX4_shift 0 = .ok (.aload_n 0, 1) := by decide +kernel
theorem dX4_shift_1 : decode cX4_shift 1 = .ok (.iload_n 1, 1) := by decide +kernel
theorem dX4_shift_2 : decode cX4_shift 2 = .ok (.iload_n 2, 1) := by decide +kernel
theorem dX4_shift_3 : decode cX4_shift 3 = .ok (.iload_n 3, 1) := by decide +kernel
theorem dX4_shift_4 : decode cX4_shift 4 = .ok (.invokevirtual 44, 3) := by decide +kernel
theorem dX4_shift_7 : decode cX4_shift 7 = .ok (.ifCond .ne 4, 3) := by decide +kernel
theorem dX4_shift_10 : decode cX4_shift 10 = .ok (.return_, 1) := by decide +kernel
theorem dX4_shift_11 : decode cX4_shift 11 = .ok (.iconst 0, 1) := by decide +kernel
theorem dX4_shift_12 : decode cX4_shift 12 = .ok (.istore 4, 2) := by decide +kernel
theorem dX4_shift_14 : decode cX4_shift 14 = .ok (.iload 4, 2) := by decide +kernel
theorem dX4_shift_16 : decode cX4_shift 16 = .ok (.aload_n 0, 1) := by decide +kernel
theorem dX4_shift_17 : decode cX4_shift 17 = .ok (.getfield 15, 3) := by decide +kernel
theorem dX4_shift_20 : decode cX4_shift 20 = .ok (.arraylength, 1) := by decide +kernel
theorem dX4_shift_21 : decode cX4_shift 21 = .ok (.if_icmp .ge 24, 3) := by decide +kernel
theorem dX4_shift_24 : decode cX4_shift 24 = .ok (.aload_n 0, 1) := by decide +kernel
theorem dX4_shift_25 : decode cX4_shift 25 = .ok (.getfield 15, 3) := by decide +kernel
theorem dX4_shift_28 : decode cX4_shift 28 = .ok (.iload 4, 2) := by decide +kernel
theorem dX4_shift_30 : decode cX4_shift 30 = .ok (.iload 4, 2) := by decide +kernel
theorem dX4_shift_32 : decode cX4_shift 32 = .ok (.iload_n 1, 1) := by decide +kernel
theorem dX4_shift_33 : decode cX4_shift 33 = .ok (.iload_n 2, 1) := by decide +kernel
theorem dX4_shift_34 : decode cX4_shift 34 = .ok (.iload_n 3, 1) := by decide +kernel
theorem dX4_shift_35 : decode cX4_shift 35 = .ok (.invokestatic 48, 3) := by decide +kernel
theorem dX4_shift_38 : decode cX4_shift 38 = .ok (.iastore, 1) := by decide +kernel
theorem dX4_shift_39 : decode cX4_shift 39 = .ok (.iinc 4 1, 3) := by decide +kernel
theorem dX4_shift_42 : decode cX4_shift 42 = .ok (.goto (-28), 3) := by decide +kernel
theorem dX4_shift_45 : decode cX4_shift 45 = .ok (.aload_n 0, 1) := by decide +kernel
theorem dX4_shift_46 : decode cX4_shift 46 = .ok (.aload_n 0, 1) := by decide +kernel
theorem dX4_shift_47 : decode cX4_shift 47 = .ok (.getfield 21, 3) := by decide +kernel
theorem dX4_shift_50 : decode cX4_shift 50 = .ok (.invokevirtual 36, 3) := by decide +kernel
theorem dX4_shift_53 : decode cX4_shift 53 = .ok (.return_, 1) := by decide +kernel
theorem dX4_placeAfterShift_0 : decode cX4_placeAfterShift 0 = .ok (.iload_n 0, 1) := by decide +kernel
theorem dX4_placeAfterShift_1 : decode cX4_placeAfterShift 1 = .ok (.iload_n 1, 1) := by decide +kernel
theorem dX4_placeAfterShift_2 : decode cX4_placeAfterShift 2 = .ok (.if_icmp .lt 16, 3) := by decide +kernel
theorem dX4_placeAfterShift_5 : decode cX4_placeAfterShift 5 = .ok (.iload_n 0, 1) := by decide +kernel
theorem dX4_placeAfterShift_6 : decode cX4_placeAfterShift 6 = .ok (.iload_n 1, 1) := by decide +kernel
theorem dX4_placeAfterShift_7 : decode cX4_placeAfterShift 7 = .ok (.iload_n 2, 1) := by decide +kernel
theorem dX4_placeAfterShift_8 : decode cX4_placeAfterShift 8 = .ok (.iadd, 1) := by decide +kernel
theorem dX4_placeAfterShift_9 : decode cX4_placeAfterShift 9 = .ok (.if_icmp .ge 9, 3) := by decide +kernel
theorem dX4_placeAfterShift_12 : decode cX4_placeAfterShift 12 = .ok (.iload_n 0, 1) := by decide +kernel
theorem dX4_placeAfterShift_13 : decode cX4_placeAfterShift 13 = .ok (.iload_n 1, 1) := by decide +kernel
theorem dX4_placeAfterShift_14 : decode cX4_placeAfterShift 14 = .ok (.isub, 1) := by decide +kernel
theorem dX4_placeAfterShift_15 : decode cX4_placeAfterShift 15 = .ok (.iload_n 3, 1) := by decide +kernel
theorem dX4_placeAfterShift_16 : decode cX4_placeAfterShift 16 = .ok (.iadd, 1) := by decide +kernel
theorem dX4_placeAfterShift_17 : decode cX4_placeAfterShift 17 = .ok (.ireturn, 1) := by decide +kernel
theorem dX4_placeAfterShift_18 : decode cX4_placeAfterShift 18 = .ok (.iload_n 0, 1) := by decide +kernel
theorem dX4_placeAfterShift_19 : decode cX4_placeAfterShift 19 = .ok (.iload_n 1, 1) := by decide +kernel
theorem dX4_placeAfterShift_20 : decode cX4_placeAfterShift 20 = .ok (.if_icmp .ge 7, 3) := by decide +kernel
theorem dX4_placeAfterShift_23 : decode cX4_placeAfterShift 23 = .ok (.iload_n 0, 1) := by decide +kernel
theorem dX4_placeAfterShift_24 : decode cX4_placeAfterShift 24 = .ok (.goto 6, 3) := by decide +kernel
theorem dX4_placeAfterShift_27 : decode cX4_placeAfterShift 27 = .ok (.iload_n 0, 1) := by decide +kernel
theorem dX4_placeAfterShift_28 : decode cX4_placeAfterShift 28 = .ok (.iload_n 2, 1) := by decide +kernel
theorem dX4_placeAfterShift_29 : decode cX4_placeAfterShift 29 = .ok (.isub, 1) := by decide +kernel
theorem dX4_placeAfterShift_30 : decode cX4_placeAfterShift 30 = .ok (.istore 4, 2) := by decide +kernel
theorem dX4_placeAfterShift_32 : decode cX4_placeAfterShift 32 = .ok (.iload 4, 2) := by decide +kernel
theorem dX4_placeAfterShift_34 : decode cX4_placeAfterShift 34 = .ok (.iload_n 3, 1) := by decide +kernel
theorem dX4_placeAfterShift_35 : decode cX4_placeAfterShift 35 = .ok (.if_icmp .ge 8, 3) := by decide +kernel
theorem dX4_placeAfterShift_38 : decode cX4_placeAfterShift 38 = .ok (.iload 4, 2) := by decide +kernel
theorem dX4_placeAfterShift_40 : decode cX4_placeAfterShift 40 = .ok (.goto 7, 3) := by decide +kernel
theorem dX4_placeAfterShift_43 : decode cX4_placeAfterShift 43 = .ok (.iload 4, 2) := by decide +kernel
theorem dX4_placeAfterShift_45 : decode cX4_placeAfterShift 45 = .ok (.iload_n 2, 1) := by decide +kernel
theorem dX4_placeAfterShift_46 : decode cX4_placeAfterShift 46 = .ok (.iadd, 1) := by decide +kernel
theorem dX4_placeAfterShift_47 : decode cX4_placeAfterShift 47 = .ok (.ireturn, 1) := by decide +kernel
set_option maxRecDepth 20000 in
theorem ggX4_relocate_X4_targetOf : GoodIn wsX4_relocate wsX4_targetOf := goodIn_r _ [8, 9, 14, 15, 16, 17] (by decide +kernel) (by decide +kernel)
set_option maxRecDepth 20000 in
theorem gX4_relocate_X4_targetOf : GoodIn wsX4_relocate (wsV RX4 52 RX4 yX4_targetOf wsX4_targetOf) := goodIn_app (goodIn_of _ (by decide +kernel)) ggX4_relocate_X4_targetOf
set_option maxRecDepth 20000 in
theorem ggX4_relocate_X4_write : GoodIn wsX4_relocate wsX4_write := goodIn_r _ [13, 2, 14, 15, 16, 17] (by decide +kernel) (by decide +kernel)
set_option maxRecDepth 20000 in
theorem gX4_relocate_X4_write : GoodIn wsX4_relocate (wsV RX4 40 RX4 yX4_write wsX4_write) := goodIn_app (goodIn_of _ (by decide +kernel)) ggX4_relocate_X4_write
theorem dX4_relocate_0 : decode cX4_relocate 0 = .ok (.iconst 0, 1) := by decide +kernel
theorem dX4_relocate_1 : decode cX4_relocate 1 = .ok (.istore_n 2, 1) := by decide +kernel
theorem dX4_relocate_2 : decode cX4_relocate 2 = .ok (.iload_n 2, 1) := by decide +kernel
theorem dX4_relocate_3 : decode cX4_relocate 3 = .ok (.aload_n 0, 1) := by decide +kernel
theorem dX4_relocate_4 : decode cX4_relocate 4 = .ok (.getfield 21, 3) := by decide +kernel
theorem dX4_relocate_7 : decode cX4_relocate 7 = .ok (.if_icmp .ge 49, 3) := by decide +kernel
theorem dX4_relocate_10 : decode cX4_relocate 10 = .ok (.iload_n 2, 1) := by decide +kernel
theorem dX4_relocate_11 : decode cX4_relocate 11 = .ok (.aload_n 0, 1) := by decide +kernel
theorem dX4_relocate_12 : decode cX4_relocate 12 = .ok (.getfield 9, 3) := by decide +kernel
theorem dX4_relocate_15 : decode cX4_relocate 15 = .ok (.arraylength, 1) := by decide +kernel
theorem dX4_relocate_16 : decode cX4_relocate 16 = .ok (.if_icmp .ge 40, 3) := by decide +kernel
theorem dX4_relocate_19 : decode cX4_relocate 19 = .ok (.aload_n 0, 1) := by decide +kernel
theorem dX4_relocate_20 : decode cX4_relocate 20 = .ok (.iload_n 2, 1) := by decide +kernel
theorem dX4_relocate_21 : decode cX4_relocate 21 = .ok (.invokevirtual 52, 3) := by decide +kernel
theorem dX4_relocate_24 : decode cX4_relocate 24 = .ok (.istore_n 3, 1) := by decide +kernel
theorem dX4_relocate_25 : decode cX4_relocate 25 = .ok (.iload_n 3, 1) := by decide +kernel
theorem dX4_relocate_26 : decode cX4_relocate 26 = .ok (.ifCond .lt 24, 3) := by decide +kernel
theorem dX4_relocate_29 : decode cX4_relocate 29 = .ok (.iload_n 3, 1) := by decide +kernel
theorem dX4_relocate_30 : decode cX4_relocate 30 = .ok (.aload_n 0, 1) := by decide +kernel
theorem dX4_relocate_31 : decode cX4_relocate 31 = .ok (.getfield 18, 3) := by decide +kernel
theorem dX4_relocate_34 : decode cX4_relocate 34 = .ok (.arraylength, 1) := by decide +kernel
theorem dX4_relocate_35 : decode cX4_relocate 35 = .ok (.if_icmp .ge 15, 3) := by decide +kernel
theorem dX4_relocate_38 : decode cX4_relocate 38 = .ok (.aload_n 0, 1) := by decide +kernel
theorem dX4_relocate_39 : decode cX4_relocate 39 = .ok (.getfield 18, 3) := by decide +kernel
theorem dX4_relocate_42 : decode cX4_relocate 42 = .ok (.iload_n 3, 1) := by decide +kernel
theorem dX4_relocate_43 : decode cX4_relocate 43 = .ok (.aload_n 0, 1) := by decide +kernel
theorem dX4_relocate_44 : decode cX4_relocate 44 = .ok (.getfield 9, 3) := by decide +kernel
theorem dX4_relocate_47 : decode cX4_relocate 47 = .ok (.iload_n 2, 1) := by decide +kernel
theorem dX4_relocate_48 : decode cX4_relocate 48 = .ok (.iaload, 1) := by decide +kernel
theorem dX4_relocate_49 : decode cX4_relocate 49 = .ok (.iastore, 1) := by decide +kernel
theorem dX4_relocate_50 : decode cX4_relocate 50 = .ok (.iinc 2 1, 3) := by decide +kernel
theorem dX4_relocate_53 : decode cX4_relocate 53 = .ok (.goto (-51), 3) := by decide +kernel
theorem dX4_relocate_56 : decode cX4_relocate 56 = .ok (.iconst 0, 1) := by decide +kernel
theorem dX4_relocate_57 : decode cX4_relocate 57 = .ok (.istore_n 2, 1) := by decide +kernel
theorem dX4_relocate_58 : decode cX4_relocate 58 = .ok (.iload_n 2, 1) := by decide +kernel
theorem dX4_relocate_59 : decode cX4_relocate 59 = .ok (.iload_n 1, 1) := by decide +kernel
theorem dX4_relocate_60 : decode cX4_relocate 60 = .ok (.if_icmp .ge 29, 3) := by decide +kernel
theorem dX4_relocate_63 : decode cX4_relocate 63 = .ok (.iload_n 2, 1) := by decide +kernel
theorem dX4_relocate_64 : decode cX4_relocate 64 = .ok (.aload_n 0, 1) := by decide +kernel
theorem dX4_relocate_65 : decode cX4_relocate 65 = .ok (.getfield 18, 3) := by decide +kernel
theorem dX4_relocate_68 : decode cX4_relocate 68 = .ok (.arraylength, 1) := by decide +kernel
theorem dX4_relocate_69 : decode cX4_relocate 69 = .ok (.if_icmp .ge 20, 3) := by decide +kernel
theorem dX4_relocate_72 : decode cX4_relocate 72 = .ok (.aload_n 0, 1) := by decide +kernel
theorem dX4_relocate_73 : decode cX4_relocate 73 = .ok (.iload_n 2, 1) := by decide +kernel
theorem dX4_relocate_74 : decode cX4_relocate 74 = .ok (.aload_n 0, 1) := by decide +kernel
theorem dX4_relocate_75 : decode cX4_relocate 75 = .ok (.getfield 18, 3) := by decide +kernel
theorem dX4_relocate_78 : decode cX4_relocate 78 = .ok (.iload_n 2, 1) := by decide +kernel
theorem dX4_relocate_79 : decode cX4_relocate 79 = .ok (.iaload, 1) := by decide +kernel
theorem dX4_relocate_80 : decode cX4_relocate 80 = .ok (.invokevirtual 40, 3) := by decide +kernel
theorem dX4_relocate_83 : decode cX4_relocate 83 = .ok (.iinc 2 1, 3) := by decide +kernel
theorem dX4_relocate_86 : decode cX4_relocate 86 = .ok (.goto (-28), 3) := by decide +kernel
theorem dX4_relocate_89 : decode cX4_relocate 89 = .ok (.aload_n 0, 1) := by decide +kernel
theorem dX4_relocate_90 : decode cX4_relocate 90 = .ok (.iload_n 1, 1) := by decide +kernel
theorem dX4_relocate_91 : decode cX4_relocate 91 = .ok (.putfield 21, 3) := by decide +kernel
theorem dX4_relocate_94 : decode cX4_relocate 94 = .ok (.return_, 1) := by decide +kernel
theorem dX4_write_0 : decode cX4_write 0 = .ok (.iload_n 1, 1) := by decide +kernel
theorem dX4_write_1 : decode cX4_write 1 = .ok (.ifCond .lt 19, 3) := by decide +kernel
theorem dX4_write_4 : decode cX4_write 4 = .ok (.iload_n 1, 1) := by decide +kernel
theorem dX4_write_5 : decode cX4_write 5 = .ok (.aload_n 0, 1) := by decide +kernel
theorem dX4_write_6 : decode cX4_write 6 = .ok (.getfield 9, 3) := by decide +kernel
theorem dX4_write_9 : decode cX4_write 9 = .ok (.arraylength, 1) := by decide +kernel
theorem dX4_write_10 : decode cX4_write 10 = .ok (.if_icmp .ge 10, 3) := by decide +kernel
theorem dX4_write_13 : decode cX4_write 13 = .ok (.aload_n 0, 1) := by decide +kernel
theorem dX4_write_14 : decode cX4_write 14 = .ok (.getfield 9, 3) := by decide +kernel
theorem dX4_write_17 : decode cX4_write 17 = .ok (.iload_n 1, 1) := by decide +kernel
theorem dX4_write_18 : decode cX4_write 18 = .ok (.iload_n 2, 1) := by decide +kernel
theorem dX4_write_19 : decode cX4_write 19 = .ok (.iastore, 1) := by decide +kernel
theorem dX4_write_20 : decode cX4_write 20 = .ok (.return_, 1) := by decide +kernel
theorem dX4_targetOf_0 : decode cX4_targetOf 0 = .ok (.iload_n 1, 1) := by decide +kernel
theorem dX4_targetOf_1 : decode cX4_targetOf 1 = .ok (.ifCond .lt 21, 3) := by decide +kernel
theorem dX4_targetOf_4 : decode cX4_targetOf 4 = .ok (.iload_n 1, 1) := by decide +kernel
theorem dX4_targetOf_5 : decode cX4_targetOf 5 = .ok (.aload_n 0, 1) := by decide +kernel
theorem dX4_targetOf_6 : decode cX4_targetOf 6 = .ok (.getfield 15, 3) := by decide +kernel
theorem dX4_targetOf_9 : decode cX4_targetOf 9 = .ok (.arraylength, 1) := by decide +kernel
theorem dX4_targetOf_10 : decode cX4_targetOf 10 = .ok (.if_icmp .ge 12, 3) := by decide +kernel
theorem dX4_targetOf_13 : decode cX4_targetOf 13 = .ok (.aload_n 0, 1) := by decide +kernel
theorem dX4_targetOf_14 : decode cX4_targetOf 14 = .ok (.getfield 15, 3) := by decide +kernel
theorem dX4_targetOf_17 : decode cX4_targetOf 17 = .ok (.iload_n 1, 1) := by decide +kernel
theorem dX4_targetOf_18 : decode cX4_targetOf 18 = .ok (.iaload, 1) := by decide +kernel
theorem dX4_targetOf_19 : decode cX4_targetOf 19 = .ok (.goto 4, 3) := by decide +kernel
theorem dX4_targetOf_22 : decode cX4_targetOf 22 = .ok (.iconst (-1), 1) := by decide +kernel
theorem dX4_targetOf_23 : decode cX4_targetOf 23 = .ok (.ireturn, 1) := by decide +kernel
set_option maxRecDepth 20000 in
theorem ggX4_wordsElsewhere_X4_targetOf : GoodIn wsX4_wordsElsewhere wsX4_targetOf := goodIn_r _ [6, 7, 8, 9, 10, 11] (by decide +kernel) (by decide +kernel)
set_option maxRecDepth 20000 in
theorem gX4_wordsElsewhere_X4_targetOf : GoodIn wsX4_wordsElsewhere (wsV RX4 52 RX4 yX4_targetOf wsX4_targetOf) := goodIn_app (goodIn_of _ (by decide +kernel)) ggX4_wordsElsewhere_X4_targetOf
theorem dX4_wordsElsewhere_0 : decode cX4_wordsElsewhere 0 = .ok (.iconst 0, 1) := by decide +kernel
theorem dX4_wordsElsewhere_1 : decode cX4_wordsElsewhere 1 = .ok (.istore_n 1, 1) := by decide +kernel
theorem dX4_wordsElsewhere_2 : decode cX4_wordsElsewhere 2 = .ok (.iconst 0, 1) := by decide +kernel
theorem dX4_wordsElsewhere_3 : decode cX4_wordsElsewhere 3 = .ok (.istore_n 2, 1) := by decide +kernel
theorem dX4_wordsElsewhere_4 : decode cX4_wordsElsewhere 4 = .ok (.iload_n 2, 1) := by decide +kernel
theorem dX4_wordsElsewhere_5 : decode cX4_wordsElsewhere 5 = .ok (.aload_n 0, 1) := by decide +kernel
theorem dX4_wordsElsewhere_6 : decode cX4_wordsElsewhere 6 = .ok (.getfield 21, 3) := by decide +kernel
theorem dX4_wordsElsewhere_9 : decode cX4_wordsElsewhere 9 = .ok (.if_icmp .ge 21, 3) := by decide +kernel
theorem dX4_wordsElsewhere_12 : decode cX4_wordsElsewhere 12 = .ok (.aload_n 0, 1) := by decide +kernel
theorem dX4_wordsElsewhere_13 : decode cX4_wordsElsewhere 13 = .ok (.iload_n 2, 1) := by decide +kernel
theorem dX4_wordsElsewhere_14 : decode cX4_wordsElsewhere 14 = .ok (.invokevirtual 52, 3) := by decide +kernel
theorem dX4_wordsElsewhere_17 : decode cX4_wordsElsewhere 17 = .ok (.iload_n 2, 1) := by decide +kernel
theorem dX4_wordsElsewhere_18 : decode cX4_wordsElsewhere 18 = .ok (.if_icmp .eq 6, 3) := by decide +kernel
theorem dX4_wordsElsewhere_21 : decode cX4_wordsElsewhere 21 = .ok (.iinc 1 1, 3) := by decide +kernel
theorem dX4_wordsElsewhere_24 : decode cX4_wordsElsewhere 24 = .ok (.iinc 2 1, 3) := by decide +kernel
theorem dX4_wordsElsewhere_27 : decode cX4_wordsElsewhere 27 = .ok (.goto (-23), 3) := by decide +kernel
theorem dX4_wordsElsewhere_30 : decode cX4_wordsElsewhere 30 = .ok (.iload_n 1, 1) := by decide +kernel
theorem dX4_wordsElsewhere_31 : decode cX4_wordsElsewhere 31 = .ok (.ireturn, 1) := by decide +kernel
set_option maxRecDepth 20000 in
theorem ggX4_unlikeWords_X4_standsAhead : GoodIn wsX4_unlikeWords wsX4_standsAhead := goodIn_r _ [6, 7, 8, 9, 5, 10, 1, 11, 12, 13, 14, 15] (by decide +kernel) (by decide +kernel)
set_option maxRecDepth 20000 in
theorem gX4_unlikeWords_X4_standsAhead : GoodIn wsX4_unlikeWords (wsV RX4 56 RX4 yX4_standsAhead wsX4_standsAhead) := goodIn_app (goodIn_of _ (by decide +kernel)) ggX4_unlikeWords_X4_standsAhead
theorem dX4_unlikeWords_0 : decode cX4_unlikeWords 0 = .ok (.iconst 0, 1) := by decide +kernel
theorem dX4_unlikeWords_1 : decode cX4_unlikeWords 1 = .ok (.istore_n 1, 1) := by decide +kernel
theorem dX4_unlikeWords_2 : decode cX4_unlikeWords 2 = .ok (.iconst 0, 1) := by decide +kernel
theorem dX4_unlikeWords_3 : decode cX4_unlikeWords 3 = .ok (.istore_n 2, 1) := by decide +kernel
theorem dX4_unlikeWords_4 : decode cX4_unlikeWords 4 = .ok (.iload_n 2, 1) := by decide +kernel
theorem dX4_unlikeWords_5 : decode cX4_unlikeWords 5 = .ok (.aload_n 0, 1) := by decide +kernel
theorem dX4_unlikeWords_6 : decode cX4_unlikeWords 6 = .ok (.getfield 21, 3) := by decide +kernel
theorem dX4_unlikeWords_9 : decode cX4_unlikeWords 9 = .ok (.if_icmp .ge 20, 3) := by decide +kernel
theorem dX4_unlikeWords_12 : decode cX4_unlikeWords 12 = .ok (.aload_n 0, 1) := by decide +kernel
theorem dX4_unlikeWords_13 : decode cX4_unlikeWords 13 = .ok (.iload_n 2, 1) := by decide +kernel
theorem dX4_unlikeWords_14 : decode cX4_unlikeWords 14 = .ok (.invokevirtual 56, 3) := by decide +kernel
theorem dX4_unlikeWords_17 : decode cX4_unlikeWords 17 = .ok (.ifCond .ne 6, 3) := by decide +kernel
theorem dX4_unlikeWords_20 : decode cX4_unlikeWords 20 = .ok (.iinc 1 1, 3) := by decide +kernel
theorem dX4_unlikeWords_23 : decode cX4_unlikeWords 23 = .ok (.iinc 2 1, 3) := by decide +kernel
theorem dX4_unlikeWords_26 : decode cX4_unlikeWords 26 = .ok (.goto (-22), 3) := by decide +kernel
theorem dX4_unlikeWords_29 : decode cX4_unlikeWords 29 = .ok (.iload_n 1, 1) := by decide +kernel
theorem dX4_unlikeWords_30 : decode cX4_unlikeWords 30 = .ok (.ireturn, 1) := by decide +kernel
set_option maxRecDepth 20000 in
theorem ggX4_standsAhead_X4_at : GoodIn wsX4_standsAhead wsX4_at := goodIn_r _ [5, 6, 7, 8, 9, 10, 11] (by decide +kernel) (by decide +kernel)
set_option maxRecDepth 20000 in
theorem gX4_standsAhead_X4_at : GoodIn wsX4_standsAhead (wsV RX4 59 RX4 yX4_at wsX4_at) := goodIn_app (goodIn_of _ (by decide +kernel)) ggX4_standsAhead_X4_at
theorem dX4_standsAhead_0 : decode cX4_standsAhead 0 = .ok (.iconst 0, 1) := by decide +kernel
theorem dX4_standsAhead_1 : decode cX4_standsAhead 1 = .ok (.istore_n 2, 1) := by decide +kernel
theorem dX4_standsAhead_2 : decode cX4_standsAhead 2 = .ok (.iload_n 2, 1) := by decide +kernel
theorem dX4_standsAhead_3 : decode cX4_standsAhead 3 = .ok (.iload_n 1, 1) := by decide +kernel
theorem dX4_standsAhead_4 : decode cX4_standsAhead 4 = .ok (.if_icmp .ge 24, 3) := by decide +kernel
theorem dX4_standsAhead_7 : decode cX4_standsAhead 7 = .ok (.aload_n 0, 1) := by decide +kernel
theorem dX4_standsAhead_8 : decode cX4_standsAhead 8 = .ok (.iload_n 2, 1) := by decide +kernel
theorem dX4_standsAhead_9 : decode cX4_standsAhead 9 = .ok (.invokevirtual 59, 3) := by decide +kernel
theorem dX4_standsAhead_12 : decode cX4_standsAhead 12 = .ok (.aload_n 0, 1) := by decide +kernel
theorem dX4_standsAhead_13 : decode cX4_standsAhead 13 = .ok (.iload_n 1, 1) := by decide +kernel
theorem dX4_standsAhead_14 : decode cX4_standsAhead 14 = .ok (.invokevirtual 59, 3) := by decide +kernel
theorem dX4_standsAhead_17 : decode cX4_standsAhead 17 = .ok (.if_icmp .ne 5, 3) := by decide +kernel
theorem dX4_standsAhead_20 : decode cX4_standsAhead 20 = .ok (.iconst 1, 1) := by decide +kernel
theorem dX4_standsAhead_21 : decode cX4_standsAhead 21 = .ok (.ireturn, 1) := by decide +kernel
theorem dX4_standsAhead_22 : decode cX4_standsAhead 22 = .ok (.iinc 2 1, 3) := by decide +kernel
theorem dX4_standsAhead_25 : decode cX4_standsAhead 25 = .ok (.goto (-23), 3) := by decide +kernel
theorem dX4_standsAhead_28 : decode cX4_standsAhead 28 = .ok (.iconst 0, 1) := by decide +kernel
theorem dX4_standsAhead_29 : decode cX4_standsAhead 29 = .ok (.ireturn, 1) := by decide +kernel
set_option maxRecDepth 20000 in
theorem ggX4_copyFrom_X4_at : GoodIn wsX4_copyFrom wsX4_at := goodIn_r _ [7, 2, 1, 8, 9, 10, 11] (by decide +kernel) (by decide +kernel)
set_option maxRecDepth 20000 in
theorem gX4_copyFrom_X4_at : GoodIn wsX4_copyFrom (wsV RX4 59 RX4 yX4_at wsX4_at) := goodIn_app (goodIn_of _ (by decide +kernel)) ggX4_copyFrom_X4_at
theorem dX4_copyFrom_0 : decode cX4_copyFrom 0 = .ok (.iconst 0, 1) := by decide +kernel
theorem dX4_copyFrom_1 : decode cX4_copyFrom 1 = .ok (.istore_n 2, 1) := by decide +kernel
theorem dX4_copyFrom_2 : decode cX4_copyFrom 2 = .ok (.iload_n 2, 1) := by decide +kernel
theorem dX4_copyFrom_3 : decode cX4_copyFrom 3 = .ok (.aload_n 0, 1) := by decide +kernel
theorem dX4_copyFrom_4 : decode cX4_copyFrom 4 = .ok (.getfield 9, 3) := by decide +kernel
theorem dX4_copyFrom_7 : decode cX4_copyFrom 7 = .ok (.arraylength, 1) := by decide +kernel
theorem dX4_copyFrom_8 : decode cX4_copyFrom 8 = .ok (.if_icmp .ge 20, 3) := by decide +kernel
theorem dX4_copyFrom_11 : decode cX4_copyFrom 11 = .ok (.aload_n 0, 1) := by decide +kernel
theorem dX4_copyFrom_12 : decode cX4_copyFrom 12 = .ok (.getfield 9, 3) := by decide +kernel
theorem dX4_copyFrom_15 : decode cX4_copyFrom 15 = .ok (.iload_n 2, 1) := by decide +kernel
theorem dX4_copyFrom_16 : decode cX4_copyFrom 16 = .ok (.aload_n 1, 1) := by decide +kernel
theorem dX4_copyFrom_17 : decode cX4_copyFrom 17 = .ok (.iload_n 2, 1) := by decide +kernel
theorem dX4_copyFrom_18 : decode cX4_copyFrom 18 = .ok (.invokevirtual 59, 3) := by decide +kernel
theorem dX4_copyFrom_21 : decode cX4_copyFrom 21 = .ok (.iastore, 1) := by decide +kernel
theorem dX4_copyFrom_22 : decode cX4_copyFrom 22 = .ok (.iinc 2 1, 3) := by decide +kernel
theorem dX4_copyFrom_25 : decode cX4_copyFrom 25 = .ok (.goto (-23), 3) := by decide +kernel
theorem dX4_copyFrom_28 : decode cX4_copyFrom 28 = .ok (.aload_n 0, 1) := by decide +kernel
theorem dX4_copyFrom_29 : decode cX4_copyFrom 29 = .ok (.aload_n 1, 1) := by decide +kernel
theorem dX4_copyFrom_30 : decode cX4_copyFrom 30 = .ok (.getfield 21, 3) := by decide +kernel
theorem dX4_copyFrom_33 : decode cX4_copyFrom 33 = .ok (.putfield 21, 3) := by decide +kernel
theorem dX4_copyFrom_36 : decode cX4_copyFrom 36 = .ok (.return_, 1) := by decide +kernel
set_option maxRecDepth 20000 in
theorem ggX5_init_X4_init : GoodIn wsX5_init wsX4_init := goodIn_r _ [15, 16, 2, 3, 10, 17, 18, 19, 24, 25, 26, 27] (by decide +kernel) (by decide +kernel)
set_option maxRecDepth 20000 in
theorem gX5_init_X4_init_n11 : GoodIn wsX5_init (wsX4_init) := ggX5_init_X4_init
set_option maxRecDepth 20000 in
theorem ggX5_init_X0_init : GoodIn wsX5_init wsX0_init := goodIn_r _ [21, 22, 2, 3, 10, 23, 33, 34, 35] (by decide +kernel) (by decide +kernel)
set_option maxRecDepth 20000 in
theorem gX5_init_X0_init_n28 : GoodIn wsX5_init (wsX0_init) := ggX5_init_X0_init
theorem dX5_init_0 : decode cX5_init 0 = .ok (.aload_n 0, 1) := by decide +kernel
theorem dX5_init_1 : decode cX5_init 1 = .ok (.invokespecial 3, 3) := by decide +kernel
theorem dX5_init_4 : decode cX5_init 4 = .ok (.aload_n 0, 1) := by decide +kernel
theorem dX5_init_5 : decode cX5_init 5 = .ok (.new 9, 3) := by decide +kernel
theorem dX5_init_8 : decode cX5_init 8 = .ok (.dup, 1) := by decide +kernel
theorem dX5_init_9 : decode cX5_init 9 = .ok (.invokespecial 11, 3) := by decide +kernel
theorem dX5_init_12 : decode cX5_init 12 = .ok (.putfield 12, 3) := by decide +kernel
theorem dX5_init_15 : decode cX5_init 15 = .ok (.aload_n 0, 1) := by decide +kernel
theorem dX5_init_16 : decode cX5_init 16 = .ok (.bipush 6, 2) := by decide +kernel
theorem dX5_init_18 : decode cX5_init 18 = .ok (.anewarray 18, 3) := by decide +kernel
theorem dX5_init_21 : decode cX5_init 21 = .ok (.putfield 20, 3) := by decide +kernel
theorem dX5_init_24 : decode cX5_init 24 = .ok (.aload_n 0, 1) := by decide +kernel
theorem dX5_init_25 : decode cX5_init 25 = .ok (.iconst 5, 1) := by decide +kernel
theorem dX5_init_26 : decode cX5_init 26 = .ok (.newarray .int, 2) := by decide +kernel
theorem dX5_init_28 : decode cX5_init 28 = .ok (.dup, 1) := by decide +kernel
theorem dX5_init_29 : decode cX5_init 29 = .ok (.iconst 0, 1) := by decide +kernel
theorem dX5_init_30 : decode cX5_init 30 = .ok (.bipush 6, 2) := by decide +kernel
theorem dX5_init_32 : decode cX5_init 32 = .ok (.iastore, 1) := by decide +kernel
theorem dX5_init_33 : decode cX5_init 33 = .ok (.dup, 1) := by decide +kernel
theorem dX5_init_34 : decode cX5_init 34 = .ok (.iconst 1, 1) := by decide +kernel
theorem dX5_init_35 : decode cX5_init 35 = .ok (.iconst 3, 1) := by decide +kernel
theorem dX5_init_36 : decode cX5_init 36 = .ok (.iastore, 1) := by decide +kernel
theorem dX5_init_37 : decode cX5_init 37 = .ok (.dup, 1) := by decide +kernel
theorem dX5_init_38 : decode cX5_init 38 = .ok (.iconst 2, 1) := by decide +kernel
theorem dX5_init_39 : decode cX5_init 39 = .ok (.iconst 1, 1) := by decide +kernel
theorem dX5_init_40 : decode cX5_init 40 = .ok (.iastore, 1) := by decide +kernel
theorem dX5_init_41 : decode cX5_init 41 = .ok (.dup, 1) := by decide +kernel
theorem dX5_init_42 : decode cX5_init 42 = .ok (.iconst 3, 1) := by decide +kernel
theorem dX5_init_43 : decode cX5_init 43 = .ok (.iconst 5, 1) := by decide +kernel
theorem dX5_init_44 : decode cX5_init 44 = .ok (.iastore, 1) := by decide +kernel
theorem dX5_init_45 : decode cX5_init 45 = .ok (.dup, 1) := by decide +kernel
theorem dX5_init_46 : decode cX5_init 46 = .ok (.iconst 4, 1) := by decide +kernel
theorem dX5_init_47 : decode cX5_init 47 = .ok (.iconst 2, 1) := by decide +kernel
theorem dX5_init_48 : decode cX5_init 48 = .ok (.iastore, 1) := by decide +kernel
theorem dX5_init_49 : decode cX5_init 49 = .ok (.putfield 24, 3) := by decide +kernel
theorem dX5_init_52 : decode cX5_init 52 = .ok (.iconst 0, 1) := by decide +kernel
theorem dX5_init_53 : decode cX5_init 53 = .ok (.istore_n 1, 1) := by decide +kernel
theorem dX5_init_54 : decode cX5_init 54 = .ok (.iload_n 1, 1) := by decide +kernel
theorem dX5_init_55 : decode cX5_init 55 = .ok (.aload_n 0, 1) := by decide +kernel
theorem dX5_init_56 : decode cX5_init 56 = .ok (.getfield 20, 3) := by decide +kernel
theorem dX5_init_59 : decode cX5_init 59 = .ok (.arraylength, 1) := by decide +kernel
theorem dX5_init_60 : decode cX5_init 60 = .ok (.if_icmp .ge 22, 3) := by decide +kernel
theorem dX5_init_63 : decode cX5_init 63 = .ok (.aload_n 0, 1) := by decide +kernel
theorem dX5_init_64 : decode cX5_init 64 = .ok (.getfield 20, 3) := by decide +kernel
theorem dX5_init_67 : decode cX5_init 67 = .ok (.iload_n 1, 1) := by decide +kernel
theorem dX5_init_68 : decode cX5_init 68 = .ok (.new 18, 3) := by decide +kernel
theorem dX5_init_71 : decode cX5_init 71 = .ok (.dup, 1) := by decide +kernel
theorem dX5_init_72 : decode cX5_init 72 = .ok (.invokespecial 28, 3) := by decide +kernel
theorem dX5_init_75 : decode cX5_init 75 = .ok (.aastore, 1) := by decide +kernel
theorem dX5_init_76 : decode cX5_init 76 = .ok (.iinc 1 1, 3) := by decide +kernel
theorem dX5_init_79 : decode cX5_init 79 = .ok (.goto (-25), 3) := by decide +kernel
theorem dX5_init_82 : decode cX5_init 82 = .ok (.return_, 1) := by decide +kernel
theorem dX5_anchorCount_0 : decode cX5_anchorCount 0 = .ok (.aload_n 0, 1) := by decide +kernel
theorem dX5_anchorCount_1 : decode cX5_anchorCount 1 = .ok (.getfield 29, 3) := by decide +kernel
theorem dX5_anchorCount_4 : decode cX5_anchorCount 4 = .ok (.ireturn, 1) := by decide +kernel
theorem dX5_edits_0 : decode cX5_edits 0 = .ok (.aload_n 0, 1) := by decide +kernel
theorem dX5_edits_1 : decode cX5_edits 1 = .ok (.getfield 33, 3) := by decide +kernel
theorem dX5_edits_4 : decode cX5_edits 4 = .ok (.ireturn, 1) := by decide +kernel
theorem dX5_setting_0 : decode cX5_setting 0 = .ok (.iload_n 1, 1) := by decide +kernel
theorem dX5_setting_1 : decode cX5_setting 1 = .ok (.ifCond .lt 21, 3) := by decide +kernel
theorem dX5_setting_4 : decode cX5_setting 4 = .ok (.iload_n 1, 1) := by decide +kernel
theorem dX5_setting_5 : decode cX5_setting 5 = .ok (.aload_n 0, 1) := by decide +kernel
theorem dX5_setting_6 : decode cX5_setting 6 = .ok (.getfield 24, 3) := by decide +kernel
theorem dX5_setting_9 : decode cX5_setting 9 = .ok (.arraylength, 1) := by decide +kernel
theorem dX5_setting_10 : decode cX5_setting 10 = .ok (.if_icmp .ge 12, 3) := by decide +kernel
theorem dX5_setting_13 : decode cX5_setting 13 = .ok (.aload_n 0, 1) := by decide +kernel
theorem dX5_setting_14 : decode cX5_setting 14 = .ok (.getfield 24, 3) := by decide +kernel
theorem dX5_setting_17 : decode cX5_setting 17 = .ok (.iload_n 1, 1) := by decide +kernel
theorem dX5_setting_18 : decode cX5_setting 18 = .ok (.iaload, 1) := by decide +kernel
theorem dX5_setting_19 : decode cX5_setting 19 = .ok (.goto 4, 3) := by decide +kernel
theorem dX5_setting_22 : decode cX5_setting 22 = .ok (.iconst 0, 1) := by decide +kernel
theorem dX5_setting_23 : decode cX5_setting 23 = .ok (.ireturn, 1) := by decide +kernel
theorem dX5_anchorNumbered_0 : decode cX5_anchorNumbered 0 = .ok (.iload_n 1, 1) := by decide +kernel
theorem dX5_anchorNumbered_1 : decode cX5_anchorNumbered 1 = .ok (.ifCond .lt 20, 3) := by decide +kernel
theorem dX5_anchorNumbered_4 : decode cX5_anchorNumbered 4 = .ok (.iload_n 1, 1) := by decide +kernel
theorem dX5_anchorNumbered_5 : decode cX5_anchorNumbered 5 = .ok (.aload_n 0, 1) := by decide +kernel
theorem dX5_anchorNumbered_6 : decode cX5_anchorNumbered 6 = .ok (.getfield 29, 3) := by decide +kernel
theorem dX5_anchorNumbered_9 : decode cX5_anchorNumbered 9 = .ok (.if_icmp .ge 12, 3) := by decide +kernel
theorem dX5_anchorNumbered_12 : decode cX5_anchorNumbered 12 = .ok (.iload_n 1, 1) := by decide +kernel
theorem dX5_anchorNumbered_13 : decode cX5_anchorNumbered 13 = .ok (.aload_n 0, 1) := by decide +kernel
theorem dX5_anchorNumbered_14 : decode cX5_anchorNumbered 14 = .ok (.getfield 20, 3) := by decide +kernel
theorem dX5_anchorNumbered_17 : decode cX5_anchorNumbered 17 = .ok (.arraylength, 1) := by decide +kernel
theorem dX5_anchorNumbered_18 : decode cX5_anchorNumbered 18 = .ok (.if_icmp .lt 5, 3) := by decide +kernel
theorem dX5_anchorNumbered_21 : decode cX5_anchorNumbered 21 = .ok (.aconst_null, 1) := by decide +kernel
theorem dX5_anchorNumbered_22 : decode cX5_anchorNumbered 22 = .ok (.areturn, 1) := by decide +kernel
theorem dX5_anchorNumbered_23 : decode cX5_anchorNumbered 23 = .ok (.aload_n 0, 1) := by decide +kernel
theorem dX5_anchorNumbered_24 : decode cX5_anchorNumbered 24 = .ok (.getfield 20, 3) := by decide +kernel
theorem dX5_anchorNumbered_27 : decode cX5_anchorNumbered 27 = .ok (.iload_n 1, 1) := by decide +kernel
theorem dX5_anchorNumbered_28 : decode cX5_anchorNumbered 28 = .ok (.aaload, 1) := by decide +kernel
theorem dX5_anchorNumbered_29 : decode cX5_anchorNumbered 29 = .ok (.areturn, 1) := by decide +kernel
set_option maxRecDepth 20000 in
theorem ggX5_addAnchor_X5_anchorNumbered : GoodIn wsX5_addAnchor wsX5_anchorNumbered := goodIn_r _ [8, 1, 2, 32, 33, 34, 35, 36] (by decide +kernel) (by decide +kernel)
set_option maxRecDepth 20000 in
theorem gX5_addAnchor_X5_anchorNumbered : GoodIn wsX5_addAnchor (wsV RX5 36 RX5 yX5_anchorNumbered wsX5_anchorNumbered) := goodIn_app (goodIn_of _ (by decide +kernel)) ggX5_addAnchor_X5_anchorNumbered
set_option maxRecDepth 20000 in
theorem ggX5_addAnchor_X0_setAt : GoodIn wsX5_addAnchor wsX0_setAt := goodIn_r _ [13, 14, 15, 16, 12, 17, 18, 19, 20, 21, 22, 23, 24, 25, 26, 27, 28, 29, 30, 31, 37, 38, 39, 40, 41, 42, 43] (by decide +kernel) (by decide +kernel)
set_option maxRecDepth 20000 in
theorem gX5_addAnchor_X0_setAt : GoodIn wsX5_addAnchor (wsV RX5 40 RX0 yX0_setAt wsX0_setAt) := goodIn_app (goodIn_of _ (by decide +kernel)) ggX5_addAnchor_X0_setAt
theorem dX5_addAnchor_0 : decode cX5_addAnchor 0 = .ok (.aload_n 0, 1) := by decide +kernel
theorem dX5_addAnchor_1 : decode cX5_addAnchor 1 = .ok (.getfield 29, 3) := by decide +kernel
theorem dX5_addAnchor_4 : decode cX5_addAnchor 4 = .ok (.aload_n 0, 1) := by decide +kernel
theorem dX5_addAnchor_5 : decode cX5_addAnchor 5 = .ok (.getfield 20, 3) := by decide +kernel
theorem dX5_addAnchor_8 : decode cX5_addAnchor 8 = .ok (.arraylength, 1) := by decide +kernel
theorem dX5_addAnchor_9 : decode cX5_addAnchor 9 = .ok (.if_icmp .lt 4, 3) := by decide +kernel
theorem dX5_addAnchor_12 : decode cX5_addAnchor 12 = .ok (.return_, 1) := by decide +kernel
theorem dX5_addAnchor_13 : decode cX5_addAnchor 13 = .ok (.aload_n 0, 1) := by decide +kernel
theorem dX5_addAnchor_14 : decode cX5_addAnchor 14 = .ok (.dup, 1) := by decide +kernel
theorem dX5_addAnchor_15 : decode cX5_addAnchor 15 = .ok (.getfield 29, 3) := by decide +kernel
theorem dX5_addAnchor_18 : decode cX5_addAnchor 18 = .ok (.iconst 1, 1) := by decide +kernel
theorem dX5_addAnchor_19 : decode cX5_addAnchor 19 = .ok (.iadd, 1) := by decide +kernel
theorem dX5_addAnchor_20 : decode cX5_addAnchor 20 = .ok (.putfield 29, 3) := by decide +kernel
theorem dX5_addAnchor_23 : decode cX5_addAnchor 23 = .ok (.aload_n 0, 1) := by decide +kernel
theorem dX5_addAnchor_24 : decode cX5_addAnchor 24 = .ok (.aload_n 0, 1) := by decide +kernel
theorem dX5_addAnchor_25 : decode cX5_addAnchor 25 = .ok (.getfield 29, 3) := by decide +kernel
theorem dX5_addAnchor_28 : decode cX5_addAnchor 28 = .ok (.iconst 1, 1) := by decide +kernel
theorem dX5_addAnchor_29 : decode cX5_addAnchor 29 = .ok (.isub, 1) := by decide +kernel
theorem dX5_addAnchor_30 : decode cX5_addAnchor 30 = .ok (.invokevirtual 36, 3) := by decide +kernel
theorem dX5_addAnchor_33 : decode cX5_addAnchor 33 = .ok (.astore_n 2, 1) := by decide +kernel
theorem dX5_addAnchor_34 : decode cX5_addAnchor 34 = .ok (.aload_n 2, 1) := by decide +kernel
theorem dX5_addAnchor_35 : decode cX5_addAnchor 35 = .ok (.ifnull 12, 3) := by decide +kernel
theorem dX5_addAnchor_38 : decode cX5_addAnchor 38 = .ok (.aload_n 2, 1) := by decide +kernel
theorem dX5_addAnchor_39 : decode cX5_addAnchor 39 = .ok (.aload_n 0, 1) := by decide +kernel
theorem dX5_addAnchor_40 : decode cX5_addAnchor 40 = .ok (.getfield 12, 3) := by decide +kernel
theorem dX5_addAnchor_43 : decode cX5_addAnchor 43 = .ok (.iload_n 1, 1) := by decide +kernel
theorem dX5_addAnchor_44 : decode cX5_addAnchor 44 = .ok (.invokevirtual 40, 3) := by decide +kernel
theorem dX5_addAnchor_47 : decode cX5_addAnchor 47 = .ok (.return_, 1) := by decide +kernel
set_option maxRecDepth 20000 in
theorem ggX5_insertWord_X4_insert : GoodIn wsX5_insertWord wsX4_insert := goodIn_r _ [6, 7, 8, 9, 10, 11, 5, 12, 13, 14, 15, 16, 17, 18, 19, 20, 21, 22, 23, 24, 25, 26, 27, 28, 29, 30, 55, 56, 57, 58] (by decide +kernel) (by decide +kernel)
set_option maxRecDepth 20000 in
theorem gX5_insertWord_X4_insert : GoodIn wsX5_insertWord (wsV RX5 48 RX4 yX4_insert wsX4_insert) := goodIn_app (goodIn_of _ (by decide +kernel)) ggX5_insertWord_X4_insert
set_option maxRecDepth 20000 in
theorem ggX5_insertWord_X5_followWords : GoodIn wsX5_insertWord wsX5_followWords := goodIn_r _ [35, 36, 37, 1, 38, 39, 40, 34, 41, 42, 43, 44, 45, 46, 47, 48, 49, 24, 25, 5, 26, 7, 50, 51, 52, 53, 54, 59, 60, 61, 55, 56, 57, 58] (by decide +kernel) (by decide +kernel)
set_option maxRecDepth 20000 in
theorem gX5_insertWord_X5_followWords : GoodIn wsX5_insertWord (wsV RX5 52 RX5 yX5_followWords wsX5_followWords) := goodIn_app (goodIn_of _ (by decide +kernel)) ggX5_insertWord_X5_followWords
theorem dX5_insertWord_0 : decode cX5_insertWord 0 = .ok (.aload_n 0, 1) := by decide +kernel
theorem dX5_insertWord_1 : decode cX5_insertWord 1 = .ok (.getfield 12, 3) := by decide +kernel
theorem dX5_insertWord_4 : decode cX5_insertWord 4 = .ok (.iload_n 1, 1) := by decide +kernel
theorem dX5_insertWord_5 : decode cX5_insertWord 5 = .ok (.iload_n 2, 1) := by decide +kernel
theorem dX5_insertWord_6 : decode cX5_insertWord 6 = .ok (.invokevirtual 48, 3) := by decide +kernel
theorem dX5_insertWord_9 : decode cX5_insertWord 9 = .ok (.aload_n 0, 1) := by decide +kernel
theorem dX5_insertWord_10 : decode cX5_insertWord 10 = .ok (.invokevirtual 52, 3) := by decide +kernel
theorem dX5_insertWord_13 : decode cX5_insertWord 13 = .ok (.return_, 1) := by decide +kernel
set_option maxRecDepth 20000 in
theorem ggX5_removeWord_X4_remove : GoodIn wsX5_removeWord wsX4_remove := goodIn_r _ [6, 7, 8, 9, 10, 11, 5, 12, 13, 14, 15, 16, 17, 18, 19, 20, 21, 22, 23, 24, 25, 26, 51, 52, 53, 54] (by decide +kernel) (by decide +kernel)
set_option maxRecDepth 20000 in
theorem gX5_removeWord_X4_remove : GoodIn wsX5_removeWord (wsV RX5 55 RX4 yX4_remove wsX4_remove) := goodIn_app (goodIn_of _ (by decide +kernel)) ggX5_removeWord_X4_remove
set_option maxRecDepth 20000 in
theorem ggX5_removeWord_X5_followWords : GoodIn wsX5_removeWord wsX5_followWords := goodIn_r _ [31, 32, 33, 1, 34, 35, 36, 30, 37, 38, 39, 40, 41, 42, 43, 44, 45, 20, 21, 5, 22, 7, 46, 47, 48, 49, 50, 55, 56, 57, 51, 52, 53, 54] (by decide +kernel) (by decide +kernel)
set_option maxRecDepth 20000 in
theorem gX5_removeWord_X5_followWords : GoodIn wsX5_removeWord (wsV RX5 52 RX5 yX5_followWords wsX5_followWords) := goodIn_app (goodIn_of _ (by decide +kernel)) ggX5_removeWord_X5_followWords
theorem dX5_removeWord_0 : decode cX5_removeWord 0 = .ok (.aload_n 0, 1) := by decide +kernel
theorem dX5_removeWord_1 : decode cX5_removeWord 1 = .ok (.getfield 12, 3) := by decide +kernel
theorem dX5_removeWord_4 : decode cX5_removeWord 4 = .ok (.iload_n 1, 1) := by decide +kernel
theorem dX5_removeWord_5 : decode cX5_removeWord 5 = .ok (.invokevirtual 55, 3) := by decide +kernel
theorem dX5_removeWord_8 : decode cX5_removeWord 8 = .ok (.aload_n 0, 1) := by decide +kernel
theorem dX5_removeWord_9 : decode cX5_removeWord 9 = .ok (.invokevirtual 52, 3) := by decide +kernel
theorem dX5_removeWord_12 : decode cX5_removeWord 12 = .ok (.return_, 1) := by decide +kernel
set_option maxRecDepth 20000 in
theorem ggX5_replaceWord_X4_replace : GoodIn wsX5_replaceWord wsX4_replace := goodIn_r _ [6, 7, 8, 9, 10, 5, 11, 12, 13, 14, 15, 16, 17, 45, 46, 47, 48] (by decide +kernel) (by decide +kernel)
set_option maxRecDepth 20000 in
theorem gX5_replaceWord_X4_replace : GoodIn wsX5_replaceWord (wsV RX5 59 RX4 yX4_replace wsX4_replace) := goodIn_app (goodIn_of _ (by decide +kernel)) ggX5_replaceWord_X4_replace
set_option maxRecDepth 20000 in
theorem ggX5_replaceWord_X5_followWords : GoodIn wsX5_replaceWord wsX5_followWords := goodIn_r _ [22, 23, 24, 1, 25, 26, 27, 21, 28, 29, 30, 31, 32, 33, 34, 35, 36, 37, 38, 5, 39, 7, 40, 41, 42, 43, 44, 49, 50, 51, 45, 46, 47, 48] (by decide +kernel) (by decide +kernel)
set_option maxRecDepth 20000 in
theorem gX5_replaceWord_X5_followWords : GoodIn wsX5_replaceWord (wsV RX5 52 RX5 yX5_followWords wsX5_followWords) := goodIn_app (goodIn_of _ (by decide +kernel)) ggX5_replaceWord_X5_followWords
theorem dX5_replaceWord_0 : decode cX5_replaceWord 0 = .ok (.aload_n 0, 1) := by decide +kernel
theorem dX5_replaceWord_1 : decode cX5_replaceWord 1 = .ok (.getfield 12, 3) := by decide +kernel
theorem dX5_replaceWord_4 : decode cX5_replaceWord 4 = .ok (.iload_n 1, 1) := by decide +kernel
theorem dX5_replaceWord_5 : decode cX5_replaceWord 5 = .ok (.iload_n 2, 1) := by decide +kernel
theorem dX5_replaceWord_6 : decode cX5_replaceWord 6 = .ok (.invokevirtual 59, 3) := by decide +kernel
theorem dX5_replaceWord_9 : decode cX5_replaceWord 9 = .ok (.aload_n 0, 1) := by decide +kernel
theorem dX5_replaceWord_10 : decode cX5_replaceWord 10 = .ok (.invokevirtual 52, 3) := by decide +kernel
theorem dX5_replaceWord_13 : decode cX5_replaceWord 13 = .ok (.return_, 1) := by decide +kernel
set_option maxRecDepth 20000 in
theorem ggX5_shiftWords_X4_shift : GoodIn wsX5_shiftWords wsX4_shift := goodIn_r _ [6, 7, 8, 9, 10, 11, 5, 12, 13, 14, 15, 16, 17, 18, 19, 20, 21, 22, 23, 24, 25, 26, 27, 28, 29, 30, 31, 32, 33, 58, 59, 60, 61] (by decide +kernel) (by decide +kernel)
set_option maxRecDepth 20000 in
theorem gX5_shiftWords_X4_shift : GoodIn wsX5_shiftWords (wsV RX5 62 RX4 yX4_shift wsX4_shift) := goodIn_app (goodIn_of _ (by decide +kernel)) ggX5_shiftWords_X4_shift
set_option maxRecDepth 20000 in
theorem ggX5_shiftWords_X5_followWords : GoodIn wsX5_shiftWords wsX5_followWords := goodIn_r _ [38, 39, 40, 1, 41, 42, 43, 37, 44, 45, 46, 47, 48, 49, 50, 51, 52, 27, 28, 5, 29, 7, 53, 54, 55, 56, 57, 62, 63, 64, 58, 59, 60, 61] (by decide +kernel) (by decide +kernel)
set_option maxRecDepth 20000 in
theorem gX5_shiftWords_X5_followWords : GoodIn wsX5_shiftWords (wsV RX5 52 RX5 yX5_followWords wsX5_followWords) := goodIn_app (goodIn_of _ (by decide +kernel)) ggX5_shiftWords_X5_followWords
theorem dX5_shiftWords_0 : decode cX5_shiftWords 0 = .ok (.aload_n 0, 1) := by decide +kernel
theorem dX5_shiftWords_1 : decode cX5_shiftWords 1 = .ok (.getfield 12, 3) := by decide +kernel
theorem dX5_shiftWords_4 : decode cX5_shiftWords 4 = .ok (.iload_n 1, 1) := by decide +kernel
theorem dX5_shiftWords_5 : decode cX5_shiftWords 5 = .ok (.iload_n 2, 1) := by decide +kernel
theorem dX5_shiftWords_6 : decode cX5_shiftWords 6 = .ok (.iload_n 3, 1) := by decide +kernel
theorem dX5_shiftWords_7 : decode cX5_shiftWords 7 = .ok (.invokevirtual 62, 3) := by decide +kernel
theorem dX5_shiftWords_10 : decode cX5_shiftWords 10 = .ok (.aload_n 0, 1) := by decide +kernel
theorem dX5_shiftWords_11 : decode cX5_shiftWords 11 = .ok (.invokevirtual 52, 3) := by decide +kernel
theorem dX5_shiftWords_14 : decode cX5_shiftWords 14 = .ok (.return_, 1) := by decide +kernel
set_option maxRecDepth 20000 in
theorem ggX5_followWords_X5_anchorNumbered : GoodIn wsX5_followWords wsX5_anchorNumbered := goodIn_r _ [8, 2, 9, 22, 23, 24, 25, 26] (by decide +kernel) (by decide +kernel)
set_option maxRecDepth 20000 in
theorem gX5_followWords_X5_anchorNumbered : GoodIn wsX5_followWords (wsV RX5 36 RX5 yX5_anchorNumbered wsX5_anchorNumbered) := goodIn_app (goodIn_of _ (by decide +kernel)) ggX5_followWords_X5_anchorNumbered
set_option maxRecDepth 20000 in
theorem ggX5_followWords_X0_followWord : GoodIn wsX5_followWords wsX0_followWord := goodIn_r _ [14, 15, 16, 17, 18, 19, 20, 21, 27, 28, 29, 30, 31, 32, 33] (by decide +kernel) (by decide +kernel)
set_option maxRecDepth 20000 in
theorem gX5_followWords_X0_followWord : GoodIn wsX5_followWords (wsV RX5 66 RX0 yX0_followWord wsX0_followWord) := goodIn_app (goodIn_of _ (by decide +kernel)) ggX5_followWords_X0_followWord
theorem dX5_followWords_0 : decode cX5_followWords 0 = .ok (.aload_n 0, 1) := by decide +kernel
theorem dX5_followWords_1 : decode cX5_followWords 1 = .ok (.dup, 1) := by decide +kernel
theorem dX5_followWords_2 : decode cX5_followWords 2 = .ok (.getfield 33, 3) := by decide +kernel
theorem dX5_followWords_5 : decode cX5_followWords 5 = .ok (.iconst 1, 1) := by decide +kernel
theorem dX5_followWords_6 : decode cX5_followWords 6 = .ok (.iadd, 1) := by decide +kernel
theorem dX5_followWords_7 : decode cX5_followWords 7 = .ok (.putfield 33, 3) := by decide +kernel
theorem dX5_followWords_10 : decode cX5_followWords 10 = .ok (.iconst 0, 1) := by decide +kernel
theorem dX5_followWords_11 : decode cX5_followWords 11 = .ok (.istore_n 1, 1) := by decide +kernel
theorem dX5_followWords_12 : decode cX5_followWords 12 = .ok (.iload_n 1, 1) := by decide +kernel
theorem dX5_followWords_13 : decode cX5_followWords 13 = .ok (.aload_n 0, 1) := by decide +kernel
theorem dX5_followWords_14 : decode cX5_followWords 14 = .ok (.getfield 29, 3) := by decide +kernel
theorem dX5_followWords_17 : decode cX5_followWords 17 = .ok (.if_icmp .ge 27, 3) := by decide +kernel
theorem dX5_followWords_20 : decode cX5_followWords 20 = .ok (.aload_n 0, 1) := by decide +kernel
theorem dX5_followWords_21 : decode cX5_followWords 21 = .ok (.iload_n 1, 1) := by decide +kernel
theorem dX5_followWords_22 : decode cX5_followWords 22 = .ok (.invokevirtual 36, 3) := by decide +kernel
theorem dX5_followWords_25 : decode cX5_followWords 25 = .ok (.astore_n 2, 1) := by decide +kernel
theorem dX5_followWords_26 : decode cX5_followWords 26 = .ok (.aload_n 2, 1) := by decide +kernel
theorem dX5_followWords_27 : decode cX5_followWords 27 = .ok (.ifnull 11, 3) := by decide +kernel
theorem dX5_followWords_30 : decode cX5_followWords 30 = .ok (.aload_n 2, 1) := by decide +kernel
theorem dX5_followWords_31 : decode cX5_followWords 31 = .ok (.aload_n 0, 1) := by decide +kernel
theorem dX5_followWords_32 : decode cX5_followWords 32 = .ok (.getfield 12, 3) := by decide +kernel
theorem dX5_followWords_35 : decode cX5_followWords 35 = .ok (.invokevirtual 66, 3) := by decide +kernel
theorem dX5_followWords_38 : decode cX5_followWords 38 = .ok (.iinc 1 1, 3) := by decide +kernel
theorem dX5_followWords_41 : decode cX5_followWords 41 = .ok (.goto (-29), 3) := by decide +kernel
theorem dX5_followWords_44 : decode cX5_followWords 44 = .ok (.return_, 1) := by decide +kernel
set_option maxRecDepth 20000 in
theorem ggX5_scoreOf_X0_thing : GoodIn wsX5_scoreOf wsX0_thing := goodIn_r _ [10, 11, 30, 31, 32] (by decide +kernel) (by decide +kernel)
set_option maxRecDepth 20000 in
theorem gX5_scoreOf_X0_thing : GoodIn wsX5_scoreOf (wsV RX5 70 RX0 yX0_thing wsX0_thing) := goodIn_app (goodIn_of _ (by decide +kernel)) ggX5_scoreOf_X0_thing
set_option maxRecDepth 20000 in
theorem ggX5_scoreOf_X4_at : GoodIn wsX5_scoreOf wsX4_at := goodIn_r _ [16, 17, 18, 33, 34, 35, 36] (by decide +kernel) (by decide +kernel)
set_option maxRecDepth 20000 in
theorem gX5_scoreOf_X4_at : GoodIn wsX5_scoreOf (wsV RX5 74 RX4 yX4_at wsX4_at) := goodIn_app (goodIn_of _ (by decide +kernel)) ggX5_scoreOf_X4_at
set_option maxRecDepth 20000 in
theorem ggX5_scoreOf_X5_setting : GoodIn wsX5_scoreOf wsX5_setting := goodIn_r _ [23, 24, 25, 26, 27, 28, 29] (by decide +kernel) (by decide +kernel)
set_option maxRecDepth 20000 in
theorem gX5_scoreOf_X5_setting : GoodIn wsX5_scoreOf (wsV RX5 82 RX5 yX5_setting wsX5_setting) := goodIn_app (goodIn_of _ (by decide +kernel)) ggX5_scoreOf_X5_setting
theorem dX5_scoreOf_0 : decode cX5_scoreOf 0 = .ok (.iconst 0, 1) := by decide +kernel
theorem dX5_scoreOf_1 : decode cX5_scoreOf 1 = .ok (.istore_n 3, 1) := by decide +kernel
theorem dX5_scoreOf_2 : decode cX5_scoreOf 2 = .ok (.iconst 0, 1) := by decide +kernel
theorem dX5_scoreOf_3 : decode cX5_scoreOf 3 = .ok (.istore 4, 2) := by decide +kernel
theorem dX5_scoreOf_5 : decode cX5_scoreOf 5 = .ok (.iload 4, 2) := by decide +kernel
theorem dX5_scoreOf_7 : decode cX5_scoreOf 7 = .ok (.iconst 5, 1) := by decide +kernel
theorem dX5_scoreOf_8 : decode cX5_scoreOf 8 = .ok (.if_icmp .ge 47, 3) := by decide +kernel
theorem dX5_scoreOf_11 : decode cX5_scoreOf 11 = .ok (.iload 4, 2) := by decide +kernel
theorem dX5_scoreOf_13 : decode cX5_scoreOf 13 = .ok (.iconst 2, 1) := by decide +kernel
theorem dX5_scoreOf_14 : decode cX5_scoreOf 14 = .ok (.isub, 1) := by decide +kernel
theorem dX5_scoreOf_15 : decode cX5_scoreOf 15 = .ok (.istore 5, 2) := by decide +kernel
theorem dX5_scoreOf_17 : decode cX5_scoreOf 17 = .ok (.aload_n 1, 1) := by decide +kernel
theorem dX5_scoreOf_18 : decode cX5_scoreOf 18 = .ok (.iload 4, 2) := by decide +kernel
theorem dX5_scoreOf_20 : decode cX5_scoreOf 20 = .ok (.invokevirtual 70, 3) := by decide +kernel
theorem dX5_scoreOf_23 : decode cX5_scoreOf 23 = .ok (.aload_n 0, 1) := by decide +kernel
theorem dX5_scoreOf_24 : decode cX5_scoreOf 24 = .ok (.getfield 12, 3) := by decide +kernel
theorem dX5_scoreOf_27 : decode cX5_scoreOf 27 = .ok (.iload_n 2, 1) := by decide +kernel
theorem dX5_scoreOf_28 : decode cX5_scoreOf 28 = .ok (.iload 5, 2) := by decide +kernel
theorem dX5_scoreOf_30 : decode cX5_scoreOf 30 = .ok (.iadd, 1) := by decide +kernel
theorem dX5_scoreOf_31 : decode cX5_scoreOf 31 = .ok (.invokevirtual 74, 3) := by decide +kernel
theorem dX5_scoreOf_34 : decode cX5_scoreOf 34 = .ok (.if_icmp .ne 15, 3) := by decide +kernel
theorem dX5_scoreOf_37 : decode cX5_scoreOf 37 = .ok (.iload_n 3, 1) := by decide +kernel
theorem dX5_scoreOf_38 : decode cX5_scoreOf 38 = .ok (.aload_n 0, 1) := by decide +kernel
theorem dX5_scoreOf_39 : decode cX5_scoreOf 39 = .ok (.iload 5, 2) := by decide +kernel
theorem dX5_scoreOf_41 : decode cX5_scoreOf 41 = .ok (.invokestatic 77, 3) := by decide +kernel
theorem dX5_scoreOf_44 : decode cX5_scoreOf 44 = .ok (.invokevirtual 82, 3) := by decide +kernel
theorem dX5_scoreOf_47 : decode cX5_scoreOf 47 = .ok (.iadd, 1) := by decide +kernel
theorem dX5_scoreOf_48 : decode cX5_scoreOf 48 = .ok (.istore_n 3, 1) := by decide +kernel
theorem dX5_scoreOf_49 : decode cX5_scoreOf 49 = .ok (.iinc 4 1, 3) := by decide +kernel
theorem dX5_scoreOf_52 : decode cX5_scoreOf 52 = .ok (.goto (-47), 3) := by decide +kernel
theorem dX5_scoreOf_55 : decode cX5_scoreOf 55 = .ok (.iload_n 3, 1) := by decide +kernel
theorem dX5_scoreOf_56 : decode cX5_scoreOf 56 = .ok (.ireturn, 1) := by decide +kernel
set_option maxRecDepth 20000 in
theorem ggX5_bestPlace_X5_bestPlaceBut : GoodIn wsX5_bestPlace wsX5_bestPlaceBut := goodIn_r _ [5, 6, 7, 8, 9, 10, 11, 12, 13, 14, 15, 16, 17, 18, 19, 4, 20, 21, 22, 23, 24, 25, 26, 27, 28, 29, 30, 31, 32, 33, 34, 35, 36, 37, 38, 39, 40, 41, 42, 43, 44, 45, 46, 47, 48, 49, 50, 51, 52, 53] (by decide +kernel) (by decide +kernel)
set_option maxRecDepth 20000 in
theorem gX5_bestPlace_X5_bestPlaceBut : GoodIn wsX5_bestPlace (wsV RX5 85 RX5 yX5_bestPlaceBut wsX5_bestPlaceBut) := goodIn_app (goodIn_of _ (by decide +kernel)) ggX5_bestPlace_X5_bestPlaceBut
theorem dX5_bestPlace_0 : decode cX5_bestPlace 0 = .ok (.aload_n 0, 1) := by decide +kernel
theorem dX5_bestPlace_1 : decode cX5_bestPlace 1 = .ok (.aload_n 1, 1) := by decide +kernel
theorem dX5_bestPlace_2 : decode cX5_bestPlace 2 = .ok (.iconst (-1), 1) := by decide +kernel
theorem dX5_bestPlace_3 : decode cX5_bestPlace 3 = .ok (.invokevirtual 85, 3) := by decide +kernel
theorem dX5_bestPlace_6 : decode cX5_bestPlace 6 = .ok (.ireturn, 1) := by decide +kernel
set_option maxRecDepth 20000 in
theorem ggX5_nextBestPlace_X5_bestPlace : GoodIn wsX5_nextBestPlace wsX5_bestPlace := goodIn_r _ [5, 6, 7, 8, 4, 9, 10, 11, 12, 13, 14, 15, 16, 17, 18, 19, 20, 21, 22, 23, 24, 25, 26, 27, 28, 29, 30, 31, 32, 33, 34, 35, 36, 37, 38, 39, 40, 41, 42, 43, 44, 45, 46, 47, 48, 49, 50, 51, 52, 53, 54, 55, 56, 57] (by decide +kernel) (by decide +kernel)
set_option maxRecDepth 20000 in
theorem gX5_nextBestPlace_X5_bestPlace : GoodIn wsX5_nextBestPlace (wsV RX5 89 RX5 yX5_bestPlace wsX5_bestPlace) := goodIn_app (goodIn_of _ (by decide +kernel)) ggX5_nextBestPlace_X5_bestPlace
set_option maxRecDepth 20000 in
theorem ggX5_nextBestPlace_X5_bestPlaceBut : GoodIn wsX5_nextBestPlace wsX5_bestPlaceBut := goodIn_r _ [9, 10, 11, 12, 13, 14, 15, 16, 17, 18, 19, 20, 21, 22, 23, 4, 24, 25, 26, 27, 28, 29, 30, 31, 32, 33, 34, 35, 36, 37, 38, 39, 40, 41, 42, 43, 44, 45, 46, 47, 48, 49, 50, 51, 52, 53, 54, 55, 56, 57] (by decide +kernel) (by decide +kernel)
set_option maxRecDepth 20000 in
theorem gX5_nextBestPlace_X5_bestPlaceBut : GoodIn wsX5_nextBestPlace (wsV RX5 85 RX5 yX5_bestPlaceBut wsX5_bestPlaceBut) := goodIn_app (goodIn_of _ (by decide +kernel)) ggX5_nextBestPlace_X5_bestPlaceBut
theorem dX5_nextBestPlace_0 : decode cX5_nextBestPlace 0 = .ok (.aload_n 0, 1) := by decide +kernel
theorem dX5_nextBestPlace_1 : decode cX5_nextBestPlace 1 = .ok (.aload_n 1, 1) := by decide +kernel
theorem dX5_nextBestPlace_2 : decode cX5_nextBestPlace 2 = .ok (.aload_n 0, 1) := by decide +kernel
theorem dX5_nextBestPlace_3 : decode cX5_nextBestPlace 3 = .ok (.aload_n 1, 1) := by decide +kernel
theorem dX5_nextBestPlace_4 : decode cX5_nextBestPlace 4 = .ok (.invokevirtual 89, 3) := by decide +kernel
theorem dX5_nextBestPlace_7 : decode cX5_nextBestPlace 7 = .ok (.invokevirtual 85, 3) := by decide +kernel
theorem dX5_nextBestPlace_10 : decode cX5_nextBestPlace 10 = .ok (.ireturn, 1) := by decide +kernel
set_option maxRecDepth 20000 in
theorem ggX5_bestPlaceBut_X4_size : GoodIn wsX5_bestPlaceBut wsX4_size := goodIn_r _ [10, 11, 43, 44, 45, 46] (by decide +kernel) (by decide +kernel)
set_option maxRecDepth 20000 in
theorem gX5_bestPlaceBut_X4_size : GoodIn wsX5_bestPlaceBut (wsV RX5 93 RX4 yX4_size wsX4_size) := goodIn_app (goodIn_of _ (by decide +kernel)) ggX5_bestPlaceBut_X4_size
set_option maxRecDepth 20000 in
theorem ggX5_bestPlaceBut_X5_scoreOf : GoodIn wsX5_bestPlaceBut wsX5_scoreOf := goodIn_r _ [16, 1, 2, 3, 4, 5, 17, 18, 19, 20, 21, 22, 23, 24, 25, 9, 26, 11, 27, 28, 29, 30, 15, 31, 32, 38, 39, 40, 41, 42, 47, 48, 49, 43, 44, 45, 46] (by decide +kernel) (by decide +kernel)
set_option maxRecDepth 20000 in
theorem gX5_bestPlaceBut_X5_scoreOf : GoodIn wsX5_bestPlaceBut (wsV RX5 97 RX5 yX5_scoreOf wsX5_scoreOf) := goodIn_app (goodIn_of _ (by decide +kernel)) ggX5_bestPlaceBut_X5_scoreOf
set_option maxRecDepth 20000 in
theorem ggX5_bestPlaceBut_X0_place : GoodIn wsX5_bestPlaceBut wsX0_place := goodIn_r _ [36, 37, 47, 48, 49] (by decide +kernel) (by decide +kernel)
set_option maxRecDepth 20000 in
theorem gX5_bestPlaceBut_X0_place : GoodIn wsX5_bestPlaceBut (wsV RX5 100 RX0 yX0_place wsX0_place) := goodIn_app (goodIn_of _ (by decide +kernel)) ggX5_bestPlaceBut_X0_place
theorem dX5_bestPlaceBut_0 : decode cX5_bestPlaceBut 0 = .ok (.iconst (-1), 1) := by decide +kernel
theorem dX5_bestPlaceBut_1 : decode cX5_bestPlaceBut 1 = .ok (.istore_n 3, 1) := by decide +kernel
theorem dX5_bestPlaceBut_2 : decode cX5_bestPlaceBut 2 = .ok (.iconst 0, 1) := by decide +kernel
theorem dX5_bestPlaceBut_3 : decode cX5_bestPlaceBut 3 = .ok (.istore 4, 2) := by decide +kernel
theorem dX5_bestPlaceBut_5 : decode cX5_bestPlaceBut 5 = .ok (.iconst 0, 1) := by decide +kernel
theorem dX5_bestPlaceBut_6 : decode cX5_bestPlaceBut 6 = .ok (.istore 5, 2) := by decide +kernel
theorem dX5_bestPlaceBut_8 : decode cX5_bestPlaceBut 8 = .ok (.iconst 0, 1) := by decide +kernel
theorem dX5_bestPlaceBut_9 : decode cX5_bestPlaceBut 9 = .ok (.istore 6, 2) := by decide +kernel
theorem dX5_bestPlaceBut_11 : decode cX5_bestPlaceBut 11 = .ok (.iload 6, 2) := by decide +kernel
theorem dX5_bestPlaceBut_13 : decode cX5_bestPlaceBut 13 = .ok (.aload_n 0, 1) := by decide +kernel
theorem dX5_bestPlaceBut_14 : decode cX5_bestPlaceBut 14 = .ok (.getfield 12, 3) := by decide +kernel
theorem dX5_bestPlaceBut_17 : decode cX5_bestPlaceBut 17 = .ok (.invokevirtual 93, 3) := by decide +kernel
theorem dX5_bestPlaceBut_20 : decode cX5_bestPlaceBut 20 = .ok (.if_icmp .ge 85, 3) := by decide +kernel
theorem dX5_bestPlaceBut_23 : decode cX5_bestPlaceBut 23 = .ok (.aload_n 0, 1) := by decide +kernel
theorem dX5_bestPlaceBut_24 : decode cX5_bestPlaceBut 24 = .ok (.aload_n 1, 1) := by decide +kernel
theorem dX5_bestPlaceBut_25 : decode cX5_bestPlaceBut 25 = .ok (.iload 6, 2) := by decide +kernel
theorem dX5_bestPlaceBut_27 : decode cX5_bestPlaceBut 27 = .ok (.invokevirtual 97, 3) := by decide +kernel
theorem dX5_bestPlaceBut_30 : decode cX5_bestPlaceBut 30 = .ok (.istore 7, 2) := by decide +kernel
theorem dX5_bestPlaceBut_32 : decode cX5_bestPlaceBut 32 = .ok (.iload 6, 2) := by decide +kernel
theorem dX5_bestPlaceBut_34 : decode cX5_bestPlaceBut 34 = .ok (.aload_n 1, 1) := by decide +kernel
theorem dX5_bestPlaceBut_35 : decode cX5_bestPlaceBut 35 = .ok (.invokevirtual 100, 3) := by decide +kernel
theorem dX5_bestPlaceBut_38 : decode cX5_bestPlaceBut 38 = .ok (.isub, 1) := by decide +kernel
theorem dX5_bestPlaceBut_39 : decode cX5_bestPlaceBut 39 = .ok (.invokestatic 77, 3) := by decide +kernel
theorem dX5_bestPlaceBut_42 : decode cX5_bestPlaceBut 42 = .ok (.istore 8, 2) := by decide +kernel
theorem dX5_bestPlaceBut_44 : decode cX5_bestPlaceBut 44 = .ok (.iload_n 3, 1) := by decide +kernel
theorem dX5_bestPlaceBut_45 : decode cX5_bestPlaceBut 45 = .ok (.iconst (-1), 1) := by decide +kernel
theorem dX5_bestPlaceBut_46 : decode cX5_bestPlaceBut 46 = .ok (.if_icmp .eq 24, 3) := by decide +kernel
theorem dX5_bestPlaceBut_49 : decode cX5_bestPlaceBut 49 = .ok (.iload 7, 2) := by decide +kernel
theorem dX5_bestPlaceBut_51 : decode cX5_bestPlaceBut 51 = .ok (.iload 4, 2) := by decide +kernel
theorem dX5_bestPlaceBut_53 : decode cX5_bestPlaceBut 53 = .ok (.if_icmp .gt 17, 3) := by decide +kernel
theorem dX5_bestPlaceBut_56 : decode cX5_bestPlaceBut 56 = .ok (.iload 7, 2) := by decide +kernel
theorem dX5_bestPlaceBut_58 : decode cX5_bestPlaceBut 58 = .ok (.iload 4, 2) := by decide +kernel
theorem dX5_bestPlaceBut_60 : decode cX5_bestPlaceBut 60 = .ok (.if_icmp .ne 14, 3) := by decide +kernel
theorem dX5_bestPlaceBut_63 : decode cX5_bestPlaceBut 63 = .ok (.iload 8, 2) := by decide +kernel
theorem dX5_bestPlaceBut_65 : decode cX5_bestPlaceBut 65 = .ok (.iload 5, 2) := by decide +kernel
theorem dX5_bestPlaceBut_67 : decode cX5_bestPlaceBut 67 = .ok (.if_icmp .ge 7, 3) := by decide +kernel
theorem dX5_bestPlaceBut_70 : decode cX5_bestPlaceBut 70 = .ok (.iconst 1, 1) := by decide +kernel
theorem dX5_bestPlaceBut_71 : decode cX5_bestPlaceBut 71 = .ok (.goto 4, 3) := by decide +kernel
theorem dX5_bestPlaceBut_74 : decode cX5_bestPlaceBut 74 = .ok (.iconst 0, 1) := by decide +kernel
theorem dX5_bestPlaceBut_75 : decode cX5_bestPlaceBut 75 = .ok (.istore 9, 2) := by decide +kernel
theorem dX5_bestPlaceBut_77 : decode cX5_bestPlaceBut 77 = .ok (.iload 6, 2) := by decide +kernel
theorem dX5_bestPlaceBut_79 : decode cX5_bestPlaceBut 79 = .ok (.iload_n 2, 1) := by decide +kernel
theorem dX5_bestPlaceBut_80 : decode cX5_bestPlaceBut 80 = .ok (.if_icmp .eq 19, 3) := by decide +kernel
theorem dX5_bestPlaceBut_83 : decode cX5_bestPlaceBut 83 = .ok (.iload 9, 2) := by decide +kernel
theorem dX5_bestPlaceBut_85 : decode cX5_bestPlaceBut 85 = .ok (.ifCond .eq 14, 3) := by decide +kernel
theorem dX5_bestPlaceBut_88 : decode cX5_bestPlaceBut 88 = .ok (.iload 6, 2) := by decide +kernel
theorem dX5_bestPlaceBut_90 : decode cX5_bestPlaceBut 90 = .ok (.istore_n 3, 1) := by decide +kernel
theorem dX5_bestPlaceBut_91 : decode cX5_bestPlaceBut 91 = .ok (.iload 7, 2) := by decide +kernel
theorem dX5_bestPlaceBut_93 : decode cX5_bestPlaceBut 93 = .ok (.istore 4, 2) := by decide +kernel
theorem dX5_bestPlaceBut_95 : decode cX5_bestPlaceBut 95 = .ok (.iload 8, 2) := by decide +kernel
theorem dX5_bestPlaceBut_97 : decode cX5_bestPlaceBut 97 = .ok (.istore 5, 2) := by decide +kernel
theorem dX5_bestPlaceBut_99 : decode cX5_bestPlaceBut 99 = .ok (.iinc 6 1, 3) := by decide +kernel
theorem dX5_bestPlaceBut_102 : decode cX5_bestPlaceBut 102 = .ok (.goto (-91), 3) := by decide +kernel
theorem dX5_bestPlaceBut_105 : decode cX5_bestPlaceBut 105 = .ok (.iload_n 3, 1) := by decide +kernel
theorem dX5_bestPlaceBut_106 : decode cX5_bestPlaceBut 106 = .ok (.ireturn, 1) := by decide +kernel
set_option maxRecDepth 20000 in
theorem ggX5_isLost_X5_scoreOf : GoodIn wsX5_isLost wsX5_scoreOf := goodIn_r _ [5, 6, 7, 8, 9, 10, 11, 12, 13, 14, 15, 16, 17, 18, 19, 20, 21, 22, 23, 24, 25, 26, 4, 27, 28, 29, 30, 31, 32, 33, 34, 35, 36, 37, 38, 39, 40] (by decide +kernel) (by decide +kernel)
set_option maxRecDepth 20000 in
theorem gX5_isLost_X5_scoreOf : GoodIn wsX5_isLost (wsV RX5 97 RX5 yX5_scoreOf wsX5_scoreOf) := goodIn_app (goodIn_of _ (by decide +kernel)) ggX5_isLost_X5_scoreOf
set_option maxRecDepth 20000 in
theorem ggX5_isLost_X5_setting : GoodIn wsX5_isLost wsX5_setting := goodIn_r _ [27, 28, 29, 30, 31, 32, 33] (by decide +kernel) (by decide +kernel)
set_option maxRecDepth 20000 in
theorem gX5_isLost_X5_setting : GoodIn wsX5_isLost (wsV RX5 82 RX5 yX5_setting wsX5_setting) := goodIn_app (goodIn_of _ (by decide +kernel)) ggX5_isLost_X5_setting
theorem dX5_isLost_0 : decode cX5_isLost 0 = .ok (.iload_n 2, 1) := by decide +kernel
theorem dX5_isLost_1 : decode cX5_isLost 1 = .ok (.iconst (-1), 1) := by decide +kernel
theorem dX5_isLost_2 : decode cX5_isLost 2 = .ok (.if_icmp .eq 17, 3) := by decide +kernel
theorem dX5_isLost_5 : decode cX5_isLost 5 = .ok (.aload_n 0, 1) := by decide +kernel
theorem dX5_isLost_6 : decode cX5_isLost 6 = .ok (.aload_n 1, 1) := by decide +kernel
theorem dX5_isLost_7 : decode cX5_isLost 7 = .ok (.iload_n 2, 1) := by decide +kernel
theorem dX5_isLost_8 : decode cX5_isLost 8 = .ok (.invokevirtual 97, 3) := by decide +kernel
theorem dX5_isLost_11 : decode cX5_isLost 11 = .ok (.aload_n 0, 1) := by decide +kernel
theorem dX5_isLost_12 : decode cX5_isLost 12 = .ok (.iconst 3, 1) := by decide +kernel
theorem dX5_isLost_13 : decode cX5_isLost 13 = .ok (.invokevirtual 82, 3) := by decide +kernel
theorem dX5_isLost_16 : decode cX5_isLost 16 = .ok (.if_icmp .ge 7, 3) := by decide +kernel
theorem dX5_isLost_19 : decode cX5_isLost 19 = .ok (.iconst 1, 1) := by decide +kernel
theorem dX5_isLost_20 : decode cX5_isLost 20 = .ok (.goto 4, 3) := by decide +kernel
theorem dX5_isLost_23 : decode cX5_isLost 23 = .ok (.iconst 0, 1) := by decide +kernel
theorem dX5_isLost_24 : decode cX5_isLost 24 = .ok (.ireturn, 1) := by decide +kernel
set_option maxRecDepth 20000 in
theorem ggX5_standingOf_X5_bestPlaceBut : GoodIn wsX5_standingOf wsX5_bestPlaceBut := goodIn_r _ [5, 6, 7, 8, 9, 10, 11, 12, 13, 14, 15, 16, 17, 18, 19, 4, 20, 21, 22, 23, 24, 25, 26, 27, 28, 29, 30, 31, 32, 33, 34, 35, 36, 37, 38, 39, 40, 41, 46, 47, 48, 49, 50, 51, 52, 53, 54, 55, 56, 57] (by decide +kernel) (by decide +kernel)
set_option maxRecDepth 20000 in
theorem gX5_standingOf_X5_bestPlaceBut : GoodIn wsX5_standingOf (wsV RX5 85 RX5 yX5_bestPlaceBut wsX5_bestPlaceBut) := goodIn_app (goodIn_of _ (by decide +kernel)) ggX5_standingOf_X5_bestPlaceBut
set_option maxRecDepth 20000 in
theorem ggX5_standingOf_X5_isLost : GoodIn wsX5_standingOf wsX5_isLost := goodIn_r _ [45, 17, 18, 19, 4, 20, 6, 7, 8, 9, 10, 21, 22, 23, 24, 25, 26, 27, 28, 29, 14, 30, 16, 31, 32, 33, 34, 35, 36, 46, 47, 48, 49, 50, 55, 56, 57, 51, 52, 53, 54] (by decide +kernel) (by decide +kernel)
set_option maxRecDepth 20000 in
theorem gX5_standingOf_X5_isLost : GoodIn wsX5_standingOf (wsV RX5 103 RX5 yX5_isLost wsX5_isLost) := goodIn_app (goodIn_of _ (by decide +kernel)) ggX5_standingOf_X5_isLost
set_option maxRecDepth 20000 in
theorem ggX5_standingOf_X5_scoreOf : GoodIn wsX5_standingOf wsX5_scoreOf := goodIn_r _ [20, 6, 7, 8, 9, 10, 21, 22, 23, 24, 25, 26, 27, 28, 29, 14, 30, 16, 31, 32, 33, 34, 4, 35, 36, 46, 47, 48, 49, 50, 55, 56, 57, 51, 52, 53, 54] (by decide +kernel) (by decide +kernel)
set_option maxRecDepth 20000 in
theorem gX5_standingOf_X5_scoreOf : GoodIn wsX5_standingOf (wsV RX5 97 RX5 yX5_scoreOf wsX5_scoreOf) := goodIn_app (goodIn_of _ (by decide +kernel)) ggX5_standingOf_X5_scoreOf
set_option maxRecDepth 20000 in
theorem ggX5_standingOf_X5_setting : GoodIn wsX5_standingOf wsX5_setting := goodIn_r _ [35, 36, 46, 47, 48, 49, 50] (by decide +kernel) (by decide +kernel)
set_option maxRecDepth 20000 in
theorem gX5_standingOf_X5_setting : GoodIn wsX5_standingOf (wsV RX5 82 RX5 yX5_setting wsX5_setting) := goodIn_app (goodIn_of _ (by decide +kernel)) ggX5_standingOf_X5_setting
theorem dX5_standingOf_0 : decode cX5_standingOf 0 = .ok (.aload_n 0, 1) := by decide +kernel
theorem dX5_standingOf_1 : decode cX5_standingOf 1 = .ok (.aload_n 1, 1) := by decide +kernel
theorem dX5_standingOf_2 : decode cX5_standingOf 2 = .ok (.iconst (-1), 1) := by decide +kernel
theorem dX5_standingOf_3 : decode cX5_standingOf 3 = .ok (.invokevirtual 85, 3) := by decide +kernel
theorem dX5_standingOf_6 : decode cX5_standingOf 6 = .ok (.istore_n 2, 1) := by decide +kernel
theorem dX5_standingOf_7 : decode cX5_standingOf 7 = .ok (.aload_n 0, 1) := by decide +kernel
theorem dX5_standingOf_8 : decode cX5_standingOf 8 = .ok (.aload_n 1, 1) := by decide +kernel
theorem dX5_standingOf_9 : decode cX5_standingOf 9 = .ok (.iload_n 2, 1) := by decide +kernel
theorem dX5_standingOf_10 : decode cX5_standingOf 10 = .ok (.invokevirtual 103, 3) := by decide +kernel
theorem dX5_standingOf_13 : decode cX5_standingOf 13 = .ok (.ifCond .eq 5, 3) := by decide +kernel
theorem dX5_standingOf_16 : decode cX5_standingOf 16 = .ok (.iconst 2, 1) := by decide +kernel
theorem dX5_standingOf_17 : decode cX5_standingOf 17 = .ok (.ireturn, 1) := by decide +kernel
theorem dX5_standingOf_18 : decode cX5_standingOf 18 = .ok (.aload_n 0, 1) := by decide +kernel
theorem dX5_standingOf_19 : decode cX5_standingOf 19 = .ok (.aload_n 1, 1) := by decide +kernel
theorem dX5_standingOf_20 : decode cX5_standingOf 20 = .ok (.iload_n 2, 1) := by decide +kernel
theorem dX5_standingOf_21 : decode cX5_standingOf 21 = .ok (.invokevirtual 85, 3) := by decide +kernel
theorem dX5_standingOf_24 : decode cX5_standingOf 24 = .ok (.istore_n 3, 1) := by decide +kernel
theorem dX5_standingOf_25 : decode cX5_standingOf 25 = .ok (.aload_n 0, 1) := by decide +kernel
theorem dX5_standingOf_26 : decode cX5_standingOf 26 = .ok (.aload_n 1, 1) := by decide +kernel
theorem dX5_standingOf_27 : decode cX5_standingOf 27 = .ok (.iload_n 2, 1) := by decide +kernel
theorem dX5_standingOf_28 : decode cX5_standingOf 28 = .ok (.invokevirtual 97, 3) := by decide +kernel
theorem dX5_standingOf_31 : decode cX5_standingOf 31 = .ok (.aload_n 0, 1) := by decide +kernel
theorem dX5_standingOf_32 : decode cX5_standingOf 32 = .ok (.iconst 4, 1) := by decide +kernel
theorem dX5_standingOf_33 : decode cX5_standingOf 33 = .ok (.invokevirtual 82, 3) := by decide +kernel
theorem dX5_standingOf_36 : decode cX5_standingOf 36 = .ok (.isub, 1) := by decide +kernel
theorem dX5_standingOf_37 : decode cX5_standingOf 37 = .ok (.istore 4, 2) := by decide +kernel
theorem dX5_standingOf_39 : decode cX5_standingOf 39 = .ok (.iload_n 3, 1) := by decide +kernel
theorem dX5_standingOf_40 : decode cX5_standingOf 40 = .ok (.iconst (-1), 1) := by decide +kernel
theorem dX5_standingOf_41 : decode cX5_standingOf 41 = .ok (.if_icmp .eq 18, 3) := by decide +kernel
theorem dX5_standingOf_44 : decode cX5_standingOf 44 = .ok (.aload_n 0, 1) := by decide +kernel
theorem dX5_standingOf_45 : decode cX5_standingOf 45 = .ok (.aload_n 1, 1) := by decide +kernel
theorem dX5_standingOf_46 : decode cX5_standingOf 46 = .ok (.iload_n 3, 1) := by decide +kernel
theorem dX5_standingOf_47 : decode cX5_standingOf 47 = .ok (.invokevirtual 97, 3) := by decide +kernel
theorem dX5_standingOf_50 : decode cX5_standingOf 50 = .ok (.iload 4, 2) := by decide +kernel
theorem dX5_standingOf_52 : decode cX5_standingOf 52 = .ok (.if_icmp .lt 7, 3) := by decide +kernel
theorem dX5_standingOf_55 : decode cX5_standingOf 55 = .ok (.iconst 1, 1) := by decide +kernel
theorem dX5_standingOf_56 : decode cX5_standingOf 56 = .ok (.goto 4, 3) := by decide +kernel
theorem dX5_standingOf_59 : decode cX5_standingOf 59 = .ok (.iconst 0, 1) := by decide +kernel
theorem dX5_standingOf_60 : decode cX5_standingOf 60 = .ok (.ireturn, 1) := by decide +kernel
set_option maxRecDepth 20000 in
theorem ggX5_shiftOf_X5_bestPlace : GoodIn wsX5_shiftOf wsX5_bestPlace := goodIn_r _ [5, 6, 7, 8, 4, 9, 10, 11, 12, 13, 14, 15, 16, 17, 18, 19, 20, 21, 22, 23, 24, 25, 26, 27, 28, 29, 30, 31, 32, 33, 34, 35, 36, 37, 38, 39, 40, 41, 42, 43, 44, 45, 50, 51, 52, 53, 54, 55, 56, 57, 58, 59, 60, 61] (by decide +kernel) (by decide +kernel)
set_option maxRecDepth 20000 in
theorem gX5_shiftOf_X5_bestPlace : GoodIn wsX5_shiftOf (wsV RX5 89 RX5 yX5_bestPlace wsX5_bestPlace) := goodIn_app (goodIn_of _ (by decide +kernel)) ggX5_shiftOf_X5_bestPlace
set_option maxRecDepth 20000 in
theorem ggX5_shiftOf_X5_isLost : GoodIn wsX5_shiftOf wsX5_isLost := goodIn_r _ [49, 21, 22, 23, 4, 24, 10, 11, 12, 13, 14, 25, 26, 27, 28, 29, 30, 31, 32, 33, 18, 34, 20, 35, 36, 37, 38, 39, 40, 50, 51, 52, 53, 54, 59, 60, 61, 55, 56, 57, 58] (by decide +kernel) (by decide +kernel)
set_option maxRecDepth 20000 in
theorem gX5_shiftOf_X5_isLost : GoodIn wsX5_shiftOf (wsV RX5 103 RX5 yX5_isLost wsX5_isLost) := goodIn_app (goodIn_of _ (by decide +kernel)) ggX5_shiftOf_X5_isLost
set_option maxRecDepth 20000 in
theorem ggX5_shiftOf_X0_place : GoodIn wsX5_shiftOf wsX0_place := goodIn_r _ [44, 45, 59, 60, 61] (by decide +kernel) (by decide +kernel)
set_option maxRecDepth 20000 in
theorem gX5_shiftOf_X0_place : GoodIn wsX5_shiftOf (wsV RX5 100 RX0 yX0_place wsX0_place) := goodIn_app (goodIn_of _ (by decide +kernel)) ggX5_shiftOf_X0_place
theorem dX5_shiftOf_0 : decode cX5_shiftOf 0 = .ok (.aload_n 1, 1) := by decide +kernel
theorem dX5_shiftOf_1 : decode cX5_shiftOf 1 = .ok (.ifnonnull 5, 3) := by decide +kernel
theorem dX5_shiftOf_4 : decode cX5_shiftOf 4 = .ok (.iconst 0, 1) := by decide +kernel
theorem dX5_shiftOf_5 : decode cX5_shiftOf 5 = .ok (.ireturn, 1) := by decide +kernel
theorem dX5_shiftOf_6 : decode cX5_shiftOf 6 = .ok (.aload_n 0, 1) := by decide +kernel
theorem dX5_shiftOf_7 : decode cX5_shiftOf 7 = .ok (.aload_n 1, 1) := by decide +kernel
theorem dX5_shiftOf_8 : decode cX5_shiftOf 8 = .ok (.invokevirtual 89, 3) := by decide +kernel
theorem dX5_shiftOf_11 : decode cX5_shiftOf 11 = .ok (.istore_n 2, 1) := by decide +kernel
theorem dX5_shiftOf_12 : decode cX5_shiftOf 12 = .ok (.aload_n 0, 1) := by decide +kernel
theorem dX5_shiftOf_13 : decode cX5_shiftOf 13 = .ok (.aload_n 1, 1) := by decide +kernel
theorem dX5_shiftOf_14 : decode cX5_shiftOf 14 = .ok (.iload_n 2, 1) := by decide +kernel
theorem dX5_shiftOf_15 : decode cX5_shiftOf 15 = .ok (.invokevirtual 103, 3) := by decide +kernel
theorem dX5_shiftOf_18 : decode cX5_shiftOf 18 = .ok (.ifCond .eq 7, 3) := by decide +kernel
theorem dX5_shiftOf_21 : decode cX5_shiftOf 21 = .ok (.iconst 0, 1) := by decide +kernel
theorem dX5_shiftOf_22 : decode cX5_shiftOf 22 = .ok (.goto 9, 3) := by decide +kernel
theorem dX5_shiftOf_25 : decode cX5_shiftOf 25 = .ok (.iload_n 2, 1) := by decide +kernel
theorem dX5_shiftOf_26 : decode cX5_shiftOf 26 = .ok (.aload_n 1, 1) := by decide +kernel
theorem dX5_shiftOf_27 : decode cX5_shiftOf 27 = .ok (.invokevirtual 100, 3) := by decide +kernel
theorem dX5_shiftOf_30 : decode cX5_shiftOf 30 = .ok (.isub, 1) := by decide +kernel
theorem dX5_shiftOf_31 : decode cX5_shiftOf 31 = .ok (.ireturn, 1) := by decide +kernel
set_option maxRecDepth 20000 in
theorem ggX5_isOfKind_X5_bestPlace : GoodIn wsX5_isOfKind wsX5_bestPlace := goodIn_r _ [5, 6, 7, 8, 4, 9, 10, 11, 12, 13, 14, 15, 16, 17, 18, 19, 20, 21, 22, 23, 24, 25, 26, 27, 28, 29, 30, 31, 32, 33, 34, 35, 36, 37, 38, 39, 40, 41, 42, 43, 44, 45, 59, 60, 61, 62, 63, 64, 65, 66, 67, 68, 69, 70] (by decide +kernel) (by decide +kernel)
set_option maxRecDepth 20000 in
theorem gX5_isOfKind_X5_bestPlace : GoodIn wsX5_isOfKind (wsV RX5 89 RX5 yX5_bestPlace wsX5_bestPlace) := goodIn_app (goodIn_of _ (by decide +kernel)) ggX5_isOfKind_X5_bestPlace
set_option maxRecDepth 20000 in
theorem ggX5_isOfKind_X5_isLost : GoodIn wsX5_isOfKind wsX5_isLost := goodIn_r _ [49, 21, 22, 23, 4, 24, 10, 11, 12, 13, 14, 25, 26, 27, 28, 29, 30, 31, 32, 33, 18, 34, 20, 35, 36, 37, 38, 39, 40, 59, 60, 61, 62, 63, 68, 69, 70, 64, 65, 66, 67] (by decide +kernel) (by decide +kernel)
set_option maxRecDepth 20000 in
theorem gX5_isOfKind_X5_isLost : GoodIn wsX5_isOfKind (wsV RX5 103 RX5 yX5_isLost wsX5_isLost) := goodIn_app (goodIn_of _ (by decide +kernel)) ggX5_isOfKind_X5_isLost
set_option maxRecDepth 20000 in
theorem ggX5_isOfKind_X0_truePlace : GoodIn wsX5_isOfKind wsX0_truePlace := goodIn_r _ [53, 54, 68, 69, 70] (by decide +kernel) (by decide +kernel)
set_option maxRecDepth 20000 in
theorem gX5_isOfKind_X0_truePlace : GoodIn wsX5_isOfKind (wsV RX5 107 RX0 yX0_truePlace wsX0_truePlace) := goodIn_app (goodIn_of _ (by decide +kernel)) ggX5_isOfKind_X0_truePlace
set_option maxRecDepth 20000 in
theorem ggX5_isOfKind_X5_standingOf : GoodIn wsX5_isOfKind wsX5_standingOf := goodIn_r _ [58, 6, 7, 8, 4, 9, 10, 11, 12, 13, 14, 15, 16, 17, 18, 19, 20, 21, 22, 23, 24, 25, 26, 27, 28, 29, 30, 31, 32, 33, 34, 35, 36, 37, 38, 39, 40, 41, 42, 43, 44, 45, 46, 47, 48, 49, 59, 60, 61, 62, 63, 64, 65, 66, 67, 68, 69, 70] (by decide +kernel) (by decide +kernel)
set_option maxRecDepth 20000 in
theorem gX5_isOfKind_X5_standingOf : GoodIn wsX5_isOfKind (wsV RX5 110 RX5 yX5_standingOf wsX5_standingOf) := goodIn_app (goodIn_of _ (by decide +kernel)) ggX5_isOfKind_X5_standingOf
theorem dX5_isOfKind_0 : decode cX5_isOfKind 0 = .ok (.iload_n 2, 1) := by decide +kernel
theorem dX5_isOfKind_1 : decode cX5_isOfKind 1 = .ok (.tableswitch 109 2 5 #[31, 42, 68, 82], 31) := by decide +kernel
theorem dX5_isOfKind_32 : decode cX5_isOfKind 32 = .ok (.aload_n 0, 1) := by decide +kernel
theorem dX5_isOfKind_33 : decode cX5_isOfKind 33 = .ok (.aload_n 1, 1) := by decide +kernel
theorem dX5_isOfKind_34 : decode cX5_isOfKind 34 = .ok (.aload_n 0, 1) := by decide +kernel
theorem dX5_isOfKind_35 : decode cX5_isOfKind 35 = .ok (.aload_n 1, 1) := by decide +kernel
theorem dX5_isOfKind_36 : decode cX5_isOfKind 36 = .ok (.invokevirtual 89, 3) := by decide +kernel
theorem dX5_isOfKind_39 : decode cX5_isOfKind 39 = .ok (.invokevirtual 103, 3) := by decide +kernel
theorem dX5_isOfKind_42 : decode cX5_isOfKind 42 = .ok (.ireturn, 1) := by decide +kernel
theorem dX5_isOfKind_43 : decode cX5_isOfKind 43 = .ok (.aload_n 1, 1) := by decide +kernel
theorem dX5_isOfKind_44 : decode cX5_isOfKind 44 = .ok (.invokevirtual 107, 3) := by decide +kernel
theorem dX5_isOfKind_47 : decode cX5_isOfKind 47 = .ok (.iconst (-1), 1) := by decide +kernel
theorem dX5_isOfKind_48 : decode cX5_isOfKind 48 = .ok (.if_icmp .eq 19, 3) := by decide +kernel
theorem dX5_isOfKind_51 : decode cX5_isOfKind 51 = .ok (.aload_n 1, 1) := by decide +kernel
theorem dX5_isOfKind_52 : decode cX5_isOfKind 52 = .ok (.invokevirtual 107, 3) := by decide +kernel
theorem dX5_isOfKind_55 : decode cX5_isOfKind 55 = .ok (.aload_n 0, 1) := by decide +kernel
theorem dX5_isOfKind_56 : decode cX5_isOfKind 56 = .ok (.aload_n 1, 1) := by decide +kernel
theorem dX5_isOfKind_57 : decode cX5_isOfKind 57 = .ok (.invokevirtual 89, 3) := by decide +kernel
theorem dX5_isOfKind_60 : decode cX5_isOfKind 60 = .ok (.if_icmp .ne 7, 3) := by decide +kernel
theorem dX5_isOfKind_63 : decode cX5_isOfKind 63 = .ok (.iconst 1, 1) := by decide +kernel
theorem dX5_isOfKind_64 : decode cX5_isOfKind 64 = .ok (.goto 4, 3) := by decide +kernel
theorem dX5_isOfKind_67 : decode cX5_isOfKind 67 = .ok (.iconst 0, 1) := by decide +kernel
theorem dX5_isOfKind_68 : decode cX5_isOfKind 68 = .ok (.ireturn, 1) := by decide +kernel
theorem dX5_isOfKind_69 : decode cX5_isOfKind 69 = .ok (.aload_n 1, 1) := by decide +kernel
theorem dX5_isOfKind_70 : decode cX5_isOfKind 70 = .ok (.invokevirtual 107, 3) := by decide +kernel
theorem dX5_isOfKind_73 : decode cX5_isOfKind 73 = .ok (.iconst (-1), 1) := by decide +kernel
theorem dX5_isOfKind_74 : decode cX5_isOfKind 74 = .ok (.if_icmp .ne 7, 3) := by decide +kernel
theorem dX5_isOfKind_77 : decode cX5_isOfKind 77 = .ok (.iconst 1, 1) := by decide +kernel
theorem dX5_isOfKind_78 : decode cX5_isOfKind 78 = .ok (.goto 4, 3) := by decide +kernel
theorem dX5_isOfKind_81 : decode cX5_isOfKind 81 = .ok (.iconst 0, 1) := by decide +kernel
theorem dX5_isOfKind_82 : decode cX5_isOfKind 82 = .ok (.ireturn, 1) := by decide +kernel
theorem dX5_isOfKind_83 : decode cX5_isOfKind 83 = .ok (.aload_n 1, 1) := by decide +kernel
theorem dX5_isOfKind_84 : decode cX5_isOfKind 84 = .ok (.invokevirtual 107, 3) := by decide +kernel
theorem dX5_isOfKind_87 : decode cX5_isOfKind 87 = .ok (.iconst (-1), 1) := by decide +kernel
theorem dX5_isOfKind_88 : decode cX5_isOfKind 88 = .ok (.if_icmp .eq 20, 3) := by decide +kernel
theorem dX5_isOfKind_91 : decode cX5_isOfKind 91 = .ok (.aload_n 0, 1) := by decide +kernel
theorem dX5_isOfKind_92 : decode cX5_isOfKind 92 = .ok (.aload_n 1, 1) := by decide +kernel
theorem dX5_isOfKind_93 : decode cX5_isOfKind 93 = .ok (.aload_n 0, 1) := by decide +kernel
theorem dX5_isOfKind_94 : decode cX5_isOfKind 94 = .ok (.aload_n 1, 1) := by decide +kernel
theorem dX5_isOfKind_95 : decode cX5_isOfKind 95 = .ok (.invokevirtual 89, 3) := by decide +kernel
theorem dX5_isOfKind_98 : decode cX5_isOfKind 98 = .ok (.invokevirtual 103, 3) := by decide +kernel
theorem dX5_isOfKind_101 : decode cX5_isOfKind 101 = .ok (.ifCond .eq 7, 3) := by decide +kernel
theorem dX5_isOfKind_104 : decode cX5_isOfKind 104 = .ok (.iconst 1, 1) := by decide +kernel
theorem dX5_isOfKind_105 : decode cX5_isOfKind 105 = .ok (.goto 4, 3) := by decide +kernel
theorem dX5_isOfKind_108 : decode cX5_isOfKind 108 = .ok (.iconst 0, 1) := by decide +kernel
theorem dX5_isOfKind_109 : decode cX5_isOfKind 109 = .ok (.ireturn, 1) := by decide +kernel
theorem dX5_isOfKind_110 : decode cX5_isOfKind 110 = .ok (.aload_n 0, 1) := by decide +kernel
theorem dX5_isOfKind_111 : decode cX5_isOfKind 111 = .ok (.aload_n 1, 1) := by decide +kernel
theorem dX5_isOfKind_112 : decode cX5_isOfKind 112 = .ok (.invokevirtual 110, 3) := by decide +kernel
theorem dX5_isOfKind_115 : decode cX5_isOfKind 115 = .ok (.iload_n 2, 1) := by decide +kernel
theorem dX5_isOfKind_116 : decode cX5_isOfKind 116 = .ok (.if_icmp .ne 7, 3) := by decide +kernel
theorem dX5_isOfKind_119 : decode cX5_isOfKind 119 = .ok (.iconst 1, 1) := by decide +kernel
theorem dX5_isOfKind_120 : decode cX5_isOfKind 120 = .ok (.goto 4, 3) := by decide +kernel
theorem dX5_isOfKind_123 : decode cX5_isOfKind 123 = .ok (.iconst 0, 1) := by decide +kernel
theorem dX5_isOfKind_124 : decode cX5_isOfKind 124 = .ok (.ireturn, 1) := by decide +kernel
set_option maxRecDepth 20000 in
theorem ggX5_anchorsOfKind_X5_anchorNumbered : GoodIn wsX5_anchorsOfKind wsX5_anchorNumbered := goodIn_r _ [6, 1, 7, 69, 70, 71, 72, 73] (by decide +kernel) (by decide +kernel)
set_option maxRecDepth 20000 in
theorem gX5_anchorsOfKind_X5_anchorNumbered : GoodIn wsX5_anchorsOfKind (wsV RX5 36 RX5 yX5_anchorNumbered wsX5_anchorNumbered) := goodIn_app (goodIn_of _ (by decide +kernel)) ggX5_anchorsOfKind_X5_anchorNumbered
set_option maxRecDepth 20000 in
theorem ggX5_anchorsOfKind_X5_isOfKind : GoodIn wsX5_anchorsOfKind wsX5_isOfKind := goodIn_r _ [11, 12, 13, 14, 5, 15, 16, 17, 18, 19, 20, 21, 22, 23, 24, 25, 26, 27, 28, 29, 30, 31, 32, 33, 34, 35, 36, 37, 38, 39, 40, 41, 42, 43, 44, 45, 46, 47, 48, 49, 50, 51, 52, 53, 54, 55, 56, 57, 58, 59, 60, 61, 62, 63, 64, 65, 66, 67, 68, 69, 70, 71, 72, 73, 74, 75, 76, 77, 78, 79, 80] (by decide +kernel) (by decide +kernel)
set_option maxRecDepth 20000 in
theorem gX5_anchorsOfKind_X5_isOfKind : GoodIn wsX5_anchorsOfKind (wsV RX5 113 RX5 yX5_isOfKind wsX5_isOfKind) := goodIn_app (goodIn_of _ (by decide +kernel)) ggX5_anchorsOfKind_X5_isOfKind
theorem dX5_anchorsOfKind_0 : decode cX5_anchorsOfKind 0 = .ok (.iconst 0, 1) := by decide +kernel
theorem dX5_anchorsOfKind_1 : decode cX5_anchorsOfKind 1 = .ok (.istore_n 2, 1) := by decide +kernel
theorem dX5_anchorsOfKind_2 : decode cX5_anchorsOfKind 2 = .ok (.iconst 0, 1) := by decide +kernel
theorem dX5_anchorsOfKind_3 : decode cX5_anchorsOfKind 3 = .ok (.istore_n 3, 1) := by decide +kernel
theorem dX5_anchorsOfKind_4 : decode cX5_anchorsOfKind 4 = .ok (.iload_n 3, 1) := by decide +kernel
theorem dX5_anchorsOfKind_5 : decode cX5_anchorsOfKind 5 = .ok (.aload_n 0, 1) := by decide +kernel
theorem dX5_anchorsOfKind_6 : decode cX5_anchorsOfKind 6 = .ok (.getfield 29, 3) := by decide +kernel
theorem dX5_anchorsOfKind_9 : decode cX5_anchorsOfKind 9 = .ok (.if_icmp .ge 37, 3) := by decide +kernel
theorem dX5_anchorsOfKind_12 : decode cX5_anchorsOfKind 12 = .ok (.aload_n 0, 1) := by decide +kernel
theorem dX5_anchorsOfKind_13 : decode cX5_anchorsOfKind 13 = .ok (.iload_n 3, 1) := by decide +kernel
theorem dX5_anchorsOfKind_14 : decode cX5_anchorsOfKind 14 = .ok (.invokevirtual 36, 3) := by decide +kernel
theorem dX5_anchorsOfKind_17 : decode cX5_anchorsOfKind 17 = .ok (.astore 4, 2) := by decide +kernel
theorem dX5_anchorsOfKind_19 : decode cX5_anchorsOfKind 19 = .ok (.aload 4, 2) := by decide +kernel
theorem dX5_anchorsOfKind_21 : decode cX5_anchorsOfKind 21 = .ok (.ifnull 19, 3) := by decide +kernel
theorem dX5_anchorsOfKind_24 : decode cX5_anchorsOfKind 24 = .ok (.aload_n 0, 1) := by decide +kernel
theorem dX5_anchorsOfKind_25 : decode cX5_anchorsOfKind 25 = .ok (.aload 4, 2) := by decide +kernel
theorem dX5_anchorsOfKind_27 : decode cX5_anchorsOfKind 27 = .ok (.iload_n 1, 1) := by decide +kernel
theorem dX5_anchorsOfKind_28 : decode cX5_anchorsOfKind 28 = .ok (.invokevirtual 113, 3) := by decide +kernel
theorem dX5_anchorsOfKind_31 : decode cX5_anchorsOfKind 31 = .ok (.ifCond .eq 9, 3) := by decide +kernel
theorem dX5_anchorsOfKind_34 : decode cX5_anchorsOfKind 34 = .ok (.iload_n 2, 1) := by decide +kernel
theorem dX5_anchorsOfKind_35 : decode cX5_anchorsOfKind 35 = .ok (.iconst 1, 1) := by decide +kernel
theorem dX5_anchorsOfKind_36 : decode cX5_anchorsOfKind 36 = .ok (.iload_n 3, 1) := by decide +kernel
theorem dX5_anchorsOfKind_37 : decode cX5_anchorsOfKind 37 = .ok (.ishl, 1) := by decide +kernel
theorem dX5_anchorsOfKind_38 : decode cX5_anchorsOfKind 38 = .ok (.ior, 1) := by decide +kernel
theorem dX5_anchorsOfKind_39 : decode cX5_anchorsOfKind 39 = .ok (.istore_n 2, 1) := by decide +kernel
theorem dX5_anchorsOfKind_40 : decode cX5_anchorsOfKind 40 = .ok (.iinc 3 1, 3) := by decide +kernel
theorem dX5_anchorsOfKind_43 : decode cX5_anchorsOfKind 43 = .ok (.goto (-39), 3) := by decide +kernel
theorem dX5_anchorsOfKind_46 : decode cX5_anchorsOfKind 46 = .ok (.iload_n 2, 1) := by decide +kernel
theorem dX5_anchorsOfKind_47 : decode cX5_anchorsOfKind 47 = .ok (.ireturn, 1) := by decide +kernel
set_option maxRecDepth 20000 in
theorem ggX5_copyFrom_X4_copyFrom : GoodIn wsX5_copyFrom wsX4_copyFrom := goodIn_r _ [9, 10, 11, 12, 13, 14, 8, 15, 43, 44, 45, 46] (by decide +kernel) (by decide +kernel)
set_option maxRecDepth 20000 in
theorem gX5_copyFrom_X4_copyFrom : GoodIn wsX5_copyFrom (wsV RX5 152 RX4 yX4_copyFrom wsX4_copyFrom) := goodIn_app (goodIn_of _ (by decide +kernel)) ggX5_copyFrom_X4_copyFrom
set_option maxRecDepth 20000 in
theorem ggX5_copyFrom_X5_anchorNumbered : GoodIn wsX5_copyFrom wsX5_anchorNumbered := goodIn_r _ [20, 2, 21, 38, 39, 40, 41, 42] (by decide +kernel) (by decide +kernel)
set_option maxRecDepth 20000 in
theorem gX5_copyFrom_X5_anchorNumbered : GoodIn wsX5_copyFrom (wsV RX5 36 RX5 yX5_anchorNumbered wsX5_anchorNumbered) := goodIn_app (goodIn_of _ (by decide +kernel)) ggX5_copyFrom_X5_anchorNumbered
set_option maxRecDepth 20000 in
theorem ggX5_copyFrom_X0_copyFrom : GoodIn wsX5_copyFrom wsX0_copyFrom := goodIn_r _ [26, 27, 28, 29, 30, 31, 32, 25, 33, 47, 48, 49] (by decide +kernel) (by decide +kernel)
set_option maxRecDepth 20000 in
theorem gX5_copyFrom_X0_copyFrom : GoodIn wsX5_copyFrom (wsV RX5 44 RX0 yX0_copyFrom wsX0_copyFrom) := goodIn_app (goodIn_of _ (by decide +kernel)) ggX5_copyFrom_X0_copyFrom
set_option maxRecDepth 20000 in
theorem ggX5_copyFrom_X5_setting : GoodIn wsX5_copyFrom wsX5_setting := goodIn_r _ [37, 3, 38, 39, 40, 41, 42] (by decide +kernel) (by decide +kernel)
set_option maxRecDepth 20000 in
theorem gX5_copyFrom_X5_setting : GoodIn wsX5_copyFrom (wsV RX5 82 RX5 yX5_setting wsX5_setting) := goodIn_app (goodIn_of _ (by decide +kernel)) ggX5_copyFrom_X5_setting
theorem dX5_copyFrom_0 : decode cX5_copyFrom 0 = .ok (.aload_n 0, 1) := by decide +kernel
theorem dX5_copyFrom_1 : decode cX5_copyFrom 1 = .ok (.getfield 12, 3) := by decide +kernel
theorem dX5_copyFrom_4 : decode cX5_copyFrom 4 = .ok (.aload_n 1, 1) := by decide +kernel
theorem dX5_copyFrom_5 : decode cX5_copyFrom 5 = .ok (.getfield 12, 3) := by decide +kernel
theorem dX5_copyFrom_8 : decode cX5_copyFrom 8 = .ok (.invokevirtual 152, 3) := by decide +kernel
theorem dX5_copyFrom_11 : decode cX5_copyFrom 11 = .ok (.aload_n 0, 1) := by decide +kernel
theorem dX5_copyFrom_12 : decode cX5_copyFrom 12 = .ok (.aload_n 1, 1) := by decide +kernel
theorem dX5_copyFrom_13 : decode cX5_copyFrom 13 = .ok (.getfield 29, 3) := by decide +kernel
theorem dX5_copyFrom_16 : decode cX5_copyFrom 16 = .ok (.putfield 29, 3) := by decide +kernel
theorem dX5_copyFrom_19 : decode cX5_copyFrom 19 = .ok (.iconst 0, 1) := by decide +kernel
theorem dX5_copyFrom_20 : decode cX5_copyFrom 20 = .ok (.istore_n 2, 1) := by decide +kernel
theorem dX5_copyFrom_21 : decode cX5_copyFrom 21 = .ok (.iload_n 2, 1) := by decide +kernel
theorem dX5_copyFrom_22 : decode cX5_copyFrom 22 = .ok (.aload_n 0, 1) := by decide +kernel
theorem dX5_copyFrom_23 : decode cX5_copyFrom 23 = .ok (.getfield 29, 3) := by decide +kernel
theorem dX5_copyFrom_26 : decode cX5_copyFrom 26 = .ok (.if_icmp .ge 37, 3) := by decide +kernel
theorem dX5_copyFrom_29 : decode cX5_copyFrom 29 = .ok (.aload_n 0, 1) := by decide +kernel
theorem dX5_copyFrom_30 : decode cX5_copyFrom 30 = .ok (.iload_n 2, 1) := by decide +kernel
theorem dX5_copyFrom_31 : decode cX5_copyFrom 31 = .ok (.invokevirtual 36, 3) := by decide +kernel
theorem dX5_copyFrom_34 : decode cX5_copyFrom 34 = .ok (.astore_n 3, 1) := by decide +kernel
theorem dX5_copyFrom_35 : decode cX5_copyFrom 35 = .ok (.aload_n 1, 1) := by decide +kernel
theorem dX5_copyFrom_36 : decode cX5_copyFrom 36 = .ok (.iload_n 2, 1) := by decide +kernel
theorem dX5_copyFrom_37 : decode cX5_copyFrom 37 = .ok (.invokevirtual 36, 3) := by decide +kernel
theorem dX5_copyFrom_40 : decode cX5_copyFrom 40 = .ok (.astore 4, 2) := by decide +kernel
theorem dX5_copyFrom_42 : decode cX5_copyFrom 42 = .ok (.aload_n 3, 1) := by decide +kernel
theorem dX5_copyFrom_43 : decode cX5_copyFrom 43 = .ok (.ifnull 14, 3) := by decide +kernel
theorem dX5_copyFrom_46 : decode cX5_copyFrom 46 = .ok (.aload 4, 2) := by decide +kernel
theorem dX5_copyFrom_48 : decode cX5_copyFrom 48 = .ok (.ifnull 9, 3) := by decide +kernel
theorem dX5_copyFrom_51 : decode cX5_copyFrom 51 = .ok (.aload_n 3, 1) := by decide +kernel
theorem dX5_copyFrom_52 : decode cX5_copyFrom 52 = .ok (.aload 4, 2) := by decide +kernel
theorem dX5_copyFrom_54 : decode cX5_copyFrom 54 = .ok (.invokevirtual 44, 3) := by decide +kernel
theorem dX5_copyFrom_57 : decode cX5_copyFrom 57 = .ok (.iinc 2 1, 3) := by decide +kernel
theorem dX5_copyFrom_60 : decode cX5_copyFrom 60 = .ok (.goto (-39), 3) := by decide +kernel
theorem dX5_copyFrom_63 : decode cX5_copyFrom 63 = .ok (.iconst 0, 1) := by decide +kernel
theorem dX5_copyFrom_64 : decode cX5_copyFrom 64 = .ok (.istore_n 2, 1) := by decide +kernel
theorem dX5_copyFrom_65 : decode cX5_copyFrom 65 = .ok (.iload_n 2, 1) := by decide +kernel
theorem dX5_copyFrom_66 : decode cX5_copyFrom 66 = .ok (.aload_n 0, 1) := by decide +kernel
theorem dX5_copyFrom_67 : decode cX5_copyFrom 67 = .ok (.getfield 24, 3) := by decide +kernel
theorem dX5_copyFrom_70 : decode cX5_copyFrom 70 = .ok (.arraylength, 1) := by decide +kernel
theorem dX5_copyFrom_71 : decode cX5_copyFrom 71 = .ok (.if_icmp .ge 20, 3) := by decide +kernel
theorem dX5_copyFrom_74 : decode cX5_copyFrom 74 = .ok (.aload_n 0, 1) := by decide +kernel
theorem dX5_copyFrom_75 : decode cX5_copyFrom 75 = .ok (.getfield 24, 3) := by decide +kernel
theorem dX5_copyFrom_78 : decode cX5_copyFrom 78 = .ok (.iload_n 2, 1) := by decide +kernel
theorem dX5_copyFrom_79 : decode cX5_copyFrom 79 = .ok (.aload_n 1, 1) := by decide +kernel
theorem dX5_copyFrom_80 : decode cX5_copyFrom 80 = .ok (.iload_n 2, 1) := by decide +kernel
theorem dX5_copyFrom_81 : decode cX5_copyFrom 81 = .ok (.invokevirtual 82, 3) := by decide +kernel
theorem dX5_copyFrom_84 : decode cX5_copyFrom 84 = .ok (.iastore, 1) := by decide +kernel
theorem dX5_copyFrom_85 : decode cX5_copyFrom 85 = .ok (.iinc 2 1, 3) := by decide +kernel
theorem dX5_copyFrom_88 : decode cX5_copyFrom 88 = .ok (.goto (-23), 3) := by decide +kernel
theorem dX5_copyFrom_91 : decode cX5_copyFrom 91 = .ok (.aload_n 0, 1) := by decide +kernel
theorem dX5_copyFrom_92 : decode cX5_copyFrom 92 = .ok (.aload_n 1, 1) := by decide +kernel
theorem dX5_copyFrom_93 : decode cX5_copyFrom 93 = .ok (.getfield 33, 3) := by decide +kernel
theorem dX5_copyFrom_96 : decode cX5_copyFrom 96 = .ok (.putfield 33, 3) := by decide +kernel
theorem dX5_copyFrom_99 : decode cX5_copyFrom 99 = .ok (.return_, 1) := by decide +kernel
