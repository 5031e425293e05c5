set_option maxRecDepth 20000 in
theorem ggX6_init_X5_init : GoodIn wsX6_init wsX5_init := goodIn_r _ [27, 28, 2, 3, 29, 30, 31, 32, 33, 34, 35, 36, 22, 23, 37, 38, 39, 40, 41, 42, 43, 44, 45, 46, 91, 92, 93, 94, 65, 66, 67, 68, 69, 88, 89, 90] (by decide +kernel) (by decide +kernel)
set_option maxRecDepth 20000 in
theorem gX6_init_X5_init : GoodIn wsX6_init (wsX5_init) := ggX6_init_X5_init
set_option maxRecDepth 20000 in
theorem ggX6_init_X3_init : GoodIn wsX6_init wsX3_init := goodIn_r _ [49, 50, 2, 3, 51, 52, 5, 6, 53, 26, 27, 28, 29, 30, 31, 32, 33, 34, 35, 36, 22, 23, 37, 38, 39, 40, 41, 42, 43, 44, 45, 46, 76, 77, 78, 65, 66, 67, 68, 69, 91, 92, 93, 94, 88, 89, 90] (by decide +kernel) (by decide +kernel)
set_option maxRecDepth 20000 in
theorem gX6_init_X3_init : GoodIn wsX6_init (wsX3_init) := ggX6_init_X3_init
set_option maxRecDepth 20000 in
theorem ggX6_init_X2_init : GoodIn wsX6_init wsX2_init := goodIn_r _ [55, 56, 2, 3, 57, 58, 35, 59, 79, 80, 81, 82, 83, 84] (by decide +kernel) (by decide +kernel)
set_option maxRecDepth 20000 in
theorem gX6_init_X2_init_n28 : GoodIn wsX6_init (wsX2_init) := ggX6_init_X2_init
set_option maxRecDepth 20000 in
theorem ggX6_init_X1_init : GoodIn wsX6_init wsX1_init := goodIn_r _ [61, 62, 2, 3, 35, 63, 64, 85, 86, 87] (by decide +kernel) (by decide +kernel)
set_option maxRecDepth 20000 in
theorem gX6_init_X1_init_n35 : GoodIn wsX6_init (wsX1_init) := ggX6_init_X1_init
set_option maxRecDepth 20000 in
theorem ggX6_init_X0_init : GoodIn wsX6_init wsX0_init := goodIn_r _ [44, 45, 2, 3, 35, 46, 88, 89, 90] (by decide +kernel) (by decide +kernel)
set_option maxRecDepth 20000 in
theorem gX6_init_X0_init_n42 : GoodIn wsX6_init (wsX0_init) := ggX6_init_X0_init
theorem dX6_init_0 : decode cX6_init 0 = .ok (.aload_n 0, 1) := by decide +kernel
theorem dX6_init_1 : decode cX6_init 1 = .ok (.invokespecial 1, 3) := by decide +kernel
theorem dX6_init_4 : decode cX6_init 4 = .ok (.aload_n 0, 1) := by decide +kernel
theorem dX6_init_5 : decode cX6_init 5 = .ok (.new 7, 3) := by decide +kernel
theorem dX6_init_8 : decode cX6_init 8 = .ok (.dup, 1) := by decide +kernel
theorem dX6_init_9 : decode cX6_init 9 = .ok (.invokespecial 9, 3) := by decide +kernel
theorem dX6_init_12 : decode cX6_init 12 = .ok (.putfield 10, 3) := by decide +kernel
theorem dX6_init_15 : decode cX6_init 15 = .ok (.aload_n 0, 1) := by decide +kernel
theorem dX6_init_16 : decode cX6_init 16 = .ok (.new 7, 3) := by decide +kernel
theorem dX6_init_19 : decode cX6_init 19 = .ok (.dup, 1) := by decide +kernel
theorem dX6_init_20 : decode cX6_init 20 = .ok (.invokespecial 9, 3) := by decide +kernel
theorem dX6_init_23 : decode cX6_init 23 = .ok (.putfield 16, 3) := by decide +kernel
theorem dX6_init_26 : decode cX6_init 26 = .ok (.aload_n 0, 1) := by decide +kernel
theorem dX6_init_27 : decode cX6_init 27 = .ok (.new 19, 3) := by decide +kernel
theorem dX6_init_30 : decode cX6_init 30 = .ok (.dup, 1) := by decide +kernel
theorem dX6_init_31 : decode cX6_init 31 = .ok (.invokespecial 21, 3) := by decide +kernel
theorem dX6_init_34 : decode cX6_init 34 = .ok (.putfield 22, 3) := by decide +kernel
theorem dX6_init_37 : decode cX6_init 37 = .ok (.aload_n 0, 1) := by decide +kernel
theorem dX6_init_38 : decode cX6_init 38 = .ok (.new 26, 3) := by decide +kernel
theorem dX6_init_41 : decode cX6_init 41 = .ok (.dup, 1) := by decide +kernel
theorem dX6_init_42 : decode cX6_init 42 = .ok (.invokespecial 28, 3) := by decide +kernel
theorem dX6_init_45 : decode cX6_init 45 = .ok (.putfield 29, 3) := by decide +kernel
theorem dX6_init_48 : decode cX6_init 48 = .ok (.aload_n 0, 1) := by decide +kernel
theorem dX6_init_49 : decode cX6_init 49 = .ok (.new 33, 3) := by decide +kernel
theorem dX6_init_52 : decode cX6_init 52 = .ok (.dup, 1) := by decide +kernel
theorem dX6_init_53 : decode cX6_init 53 = .ok (.invokespecial 35, 3) := by decide +kernel
theorem dX6_init_56 : decode cX6_init 56 = .ok (.putfield 36, 3) := by decide +kernel
theorem dX6_init_59 : decode cX6_init 59 = .ok (.aload_n 0, 1) := by decide +kernel
theorem dX6_init_60 : decode cX6_init 60 = .ok (.new 40, 3) := by decide +kernel
theorem dX6_init_63 : decode cX6_init 63 = .ok (.dup, 1) := by decide +kernel
theorem dX6_init_64 : decode cX6_init 64 = .ok (.invokespecial 42, 3) := by decide +kernel
theorem dX6_init_67 : decode cX6_init 67 = .ok (.putfield 43, 3) := by decide +kernel
theorem dX6_init_70 : decode cX6_init 70 = .ok (.return_, 1) := by decide +kernel
set_option maxRecDepth 20000 in
theorem ggX6_put_X4_takesAt : GoodIn wsX6_put wsX4_takesAt := goodIn_r _ [10, 11, 119, 120, 121, 122] (by decide +kernel) (by decide +kernel)
set_option maxRecDepth 20000 in
theorem gX6_put_X4_takesAt : GoodIn wsX6_put (wsV RX6 51 RX4 yX4_takesAt wsX4_takesAt) := goodIn_app (goodIn_of _ (by decide +kernel)) ggX6_put_X4_takesAt
set_option maxRecDepth 20000 in
theorem ggX6_put_X6_isWord : GoodIn wsX6_put wsX6_isWord := goodIn_r _ [15] (by decide +kernel) (by decide +kernel)
set_option maxRecDepth 20000 in
theorem gX6_put_X6_isWord : GoodIn wsX6_put (va_wsS RX6 57 yX6_isWord wsX6_isWord) := goodIn_app (goodIn_of _ (by decide +kernel)) ggX6_put_X6_isWord
set_option maxRecDepth 20000 in
theorem ggX6_put_X4_isFull : GoodIn wsX6_put wsX4_isFull := goodIn_r _ [19, 11, 20, 119, 120, 121, 122] (by decide +kernel) (by decide +kernel)
set_option maxRecDepth 20000 in
theorem gX6_put_X4_isFull : GoodIn wsX6_put (wsV RX6 61 RX4 yX4_isFull wsX4_isFull) := goodIn_app (goodIn_of _ (by decide +kernel)) ggX6_put_X4_isFull
set_option maxRecDepth 20000 in
theorem ggX6_put_X3_record : GoodIn wsX6_put wsX3_record := goodIn_r _ [25, 26, 27, 28, 29, 30, 24, 31, 32, 33, 34, 35, 36, 37, 38, 39, 40, 41, 42, 43, 44, 9, 45, 20, 11, 46, 47, 48, 49, 50, 51, 52, 53, 54, 55, 56, 57, 58, 59, 60, 61, 62, 63, 64, 65, 66, 67, 68, 69, 70, 123, 124, 125, 114, 115, 116, 117, 118, 119, 120, 121, 122, 126, 127, 128] (by decide +kernel) (by decide +kernel)
set_option maxRecDepth 20000 in
theorem gX6_put_X3_record : GoodIn wsX6_put (wsV RX6 66 RX3 yX3_record wsX3_record) := goodIn_app (goodIn_of _ (by decide +kernel)) ggX6_put_X3_record
set_option maxRecDepth 20000 in
theorem ggX6_put_X5_insertWord : GoodIn wsX6_put wsX5_insertWord := goodIn_r _ [74, 38, 75, 76, 77, 9, 78, 79, 11, 80, 7, 8, 10, 81, 17, 18, 19, 20, 82, 83, 84, 85, 86, 87, 88, 89, 90, 91, 92, 93, 94, 95, 96, 97, 36, 98, 41, 39, 50, 51, 52, 53, 54, 99, 100, 101, 58, 102, 61, 103, 114, 115, 116, 117, 118, 119, 120, 121, 122, 126, 127, 128] (by decide +kernel) (by decide +kernel)
set_option maxRecDepth 20000 in
theorem gX6_put_X5_insertWord : GoodIn wsX6_put (wsV RX6 70 RX5 yX5_insertWord wsX5_insertWord) := goodIn_app (goodIn_of _ (by decide +kernel)) ggX6_put_X5_insertWord
set_option maxRecDepth 20000 in
theorem ggX6_put_X4_size : GoodIn wsX6_put wsX4_size := goodIn_r _ [107, 11, 119, 120, 121, 122] (by decide +kernel) (by decide +kernel)
set_option maxRecDepth 20000 in
theorem gX6_put_X4_size : GoodIn wsX6_put (wsV RX6 74 RX4 yX4_size wsX4_size) := goodIn_app (goodIn_of _ (by decide +kernel)) ggX6_put_X4_size
theorem dX6_put_0 : decode cX6_put 0 = .ok (.aload_n 0, 1) := by decide +kernel
theorem dX6_put_1 : decode cX6_put 1 = .ok (.getfield 10, 3) := by decide +kernel
theorem dX6_put_4 : decode cX6_put 4 = .ok (.getfield 47, 3) := by decide +kernel
theorem dX6_put_7 : decode cX6_put 7 = .ok (.iload_n 1, 1) := by decide +kernel
theorem dX6_put_8 : decode cX6_put 8 = .ok (.invokevirtual 51, 3) := by decide +kernel
theorem dX6_put_11 : decode cX6_put 11 = .ok (.ifCond .eq 10, 3) := by decide +kernel
theorem dX6_put_14 : decode cX6_put 14 = .ok (.iload_n 2, 1) := by decide +kernel
theorem dX6_put_15 : decode cX6_put 15 = .ok (.invokestatic 57, 3) := by decide +kernel
theorem dX6_put_18 : decode cX6_put 18 = .ok (.ifCond .ne 6, 3) := by decide +kernel
theorem dX6_put_21 : decode cX6_put 21 = .ok (.ldc 60, 2) := by decide +kernel
theorem dX6_put_23 : decode cX6_put 23 = .ok (.ireturn, 1) := by decide +kernel
theorem dX6_put_24 : decode cX6_put 24 = .ok (.aload_n 0, 1) := by decide +kernel
theorem dX6_put_25 : decode cX6_put 25 = .ok (.getfield 10, 3) := by decide +kernel
theorem dX6_put_28 : decode cX6_put 28 = .ok (.getfield 47, 3) := by decide +kernel
theorem dX6_put_31 : decode cX6_put 31 = .ok (.invokevirtual 61, 3) := by decide +kernel
theorem dX6_put_34 : decode cX6_put 34 = .ok (.ifCond .eq 6, 3) := by decide +kernel
theorem dX6_put_37 : decode cX6_put 37 = .ok (.ldc 65, 2) := by decide +kernel
theorem dX6_put_39 : decode cX6_put 39 = .ok (.ireturn, 1) := by decide +kernel
theorem dX6_put_40 : decode cX6_put 40 = .ok (.aload_n 0, 1) := by decide +kernel
theorem dX6_put_41 : decode cX6_put 41 = .ok (.getfield 22, 3) := by decide +kernel
theorem dX6_put_44 : decode cX6_put 44 = .ok (.aload_n 0, 1) := by decide +kernel
theorem dX6_put_45 : decode cX6_put 45 = .ok (.getfield 10, 3) := by decide +kernel
theorem dX6_put_48 : decode cX6_put 48 = .ok (.invokevirtual 66, 3) := by decide +kernel
theorem dX6_put_51 : decode cX6_put 51 = .ok (.aload_n 0, 1) := by decide +kernel
theorem dX6_put_52 : decode cX6_put 52 = .ok (.getfield 10, 3) := by decide +kernel
theorem dX6_put_55 : decode cX6_put 55 = .ok (.iload_n 1, 1) := by decide +kernel
theorem dX6_put_56 : decode cX6_put 56 = .ok (.iload_n 2, 1) := by decide +kernel
theorem dX6_put_57 : decode cX6_put 57 = .ok (.invokevirtual 70, 3) := by decide +kernel
theorem dX6_put_60 : decode cX6_put 60 = .ok (.aload_n 0, 1) := by decide +kernel
theorem dX6_put_61 : decode cX6_put 61 = .ok (.getfield 10, 3) := by decide +kernel
theorem dX6_put_64 : decode cX6_put 64 = .ok (.getfield 47, 3) := by decide +kernel
theorem dX6_put_67 : decode cX6_put 67 = .ok (.invokevirtual 74, 3) := by decide +kernel
theorem dX6_put_70 : decode cX6_put 70 = .ok (.ireturn, 1) := by decide +kernel
set_option maxRecDepth 20000 in
theorem ggX6_take_X4_holds : GoodIn wsX6_take wsX4_holds := goodIn_r _ [9, 10, 11, 106, 107, 108, 109] (by decide +kernel) (by decide +kernel)
set_option maxRecDepth 20000 in
theorem gX6_take_X4_holds : GoodIn wsX6_take (wsV RX6 78 RX4 yX4_holds wsX4_holds) := goodIn_app (goodIn_of _ (by decide +kernel)) ggX6_take_X4_holds
set_option maxRecDepth 20000 in
theorem ggX6_take_X4_at : GoodIn wsX6_take wsX4_at := goodIn_r _ [15, 10, 11, 106, 107, 108, 109] (by decide +kernel) (by decide +kernel)
set_option maxRecDepth 20000 in
theorem gX6_take_X4_at : GoodIn wsX6_take (wsV RX6 81 RX4 yX4_at wsX4_at) := goodIn_app (goodIn_of _ (by decide +kernel)) ggX6_take_X4_at
set_option maxRecDepth 20000 in
theorem ggX6_take_X3_record : GoodIn wsX6_take wsX3_record := goodIn_r _ [20, 21, 22, 23, 24, 25, 19, 26, 27, 28, 29, 30, 31, 32, 33, 34, 35, 36, 37, 38, 39, 8, 40, 11, 10, 41, 13, 14, 15, 42, 43, 44, 45, 46, 47, 48, 49, 50, 51, 52, 53, 54, 55, 56, 57, 58, 59, 60, 61, 62, 110, 111, 112, 101, 102, 103, 104, 105, 106, 107, 108, 109, 113, 114, 115] (by decide +kernel) (by decide +kernel)
set_option maxRecDepth 20000 in
theorem gX6_take_X3_record : GoodIn wsX6_take (wsV RX6 66 RX3 yX3_record wsX3_record) := goodIn_app (goodIn_of _ (by decide +kernel)) ggX6_take_X3_record
set_option maxRecDepth 20000 in
theorem ggX6_take_X5_removeWord : GoodIn wsX6_take wsX5_removeWord := goodIn_r _ [66, 33, 67, 68, 69, 8, 70, 71, 10, 72, 6, 7, 9, 11, 73, 74, 75, 76, 77, 78, 79, 80, 81, 82, 83, 84, 85, 86, 87, 88, 31, 89, 36, 34, 42, 43, 44, 45, 46, 90, 91, 92, 50, 93, 53, 94, 101, 102, 103, 104, 105, 106, 107, 108, 109, 113, 114, 115] (by decide +kernel) (by decide +kernel)
set_option maxRecDepth 20000 in
theorem gX6_take_X5_removeWord : GoodIn wsX6_take (wsV RX6 85 RX5 yX5_removeWord wsX5_removeWord) := goodIn_app (goodIn_of _ (by decide +kernel)) ggX6_take_X5_removeWord
theorem dX6_take_0 : decode cX6_take 0 = .ok (.aload_n 0, 1) := by decide +kernel
theorem dX6_take_1 : decode cX6_take 1 = .ok (.getfield 10, 3) := by decide +kernel
theorem dX6_take_4 : decode cX6_take 4 = .ok (.getfield 47, 3) := by decide +kernel
theorem dX6_take_7 : decode cX6_take 7 = .ok (.iload_n 1, 1) := by decide +kernel
theorem dX6_take_8 : decode cX6_take 8 = .ok (.invokevirtual 78, 3) := by decide +kernel
theorem dX6_take_11 : decode cX6_take 11 = .ok (.ifCond .ne 6, 3) := by decide +kernel
theorem dX6_take_14 : decode cX6_take 14 = .ok (.ldc 60, 2) := by decide +kernel
theorem dX6_take_16 : decode cX6_take 16 = .ok (.ireturn, 1) := by decide +kernel
theorem dX6_take_17 : decode cX6_take 17 = .ok (.aload_n 0, 1) := by decide +kernel
theorem dX6_take_18 : decode cX6_take 18 = .ok (.getfield 10, 3) := by decide +kernel
theorem dX6_take_21 : decode cX6_take 21 = .ok (.getfield 47, 3) := by decide +kernel
theorem dX6_take_24 : decode cX6_take 24 = .ok (.iload_n 1, 1) := by decide +kernel
theorem dX6_take_25 : decode cX6_take 25 = .ok (.invokevirtual 81, 3) := by decide +kernel
theorem dX6_take_28 : decode cX6_take 28 = .ok (.istore_n 2, 1) := by decide +kernel
theorem dX6_take_29 : decode cX6_take 29 = .ok (.aload_n 0, 1) := by decide +kernel
theorem dX6_take_30 : decode cX6_take 30 = .ok (.getfield 22, 3) := by decide +kernel
theorem dX6_take_33 : decode cX6_take 33 = .ok (.aload_n 0, 1) := by decide +kernel
theorem dX6_take_34 : decode cX6_take 34 = .ok (.getfield 10, 3) := by decide +kernel
theorem dX6_take_37 : decode cX6_take 37 = .ok (.invokevirtual 66, 3) := by decide +kernel
theorem dX6_take_40 : decode cX6_take 40 = .ok (.aload_n 0, 1) := by decide +kernel
theorem dX6_take_41 : decode cX6_take 41 = .ok (.getfield 10, 3) := by decide +kernel
theorem dX6_take_44 : decode cX6_take 44 = .ok (.iload_n 1, 1) := by decide +kernel
theorem dX6_take_45 : decode cX6_take 45 = .ok (.invokevirtual 85, 3) := by decide +kernel
theorem dX6_take_48 : decode cX6_take 48 = .ok (.iload_n 2, 1) := by decide +kernel
theorem dX6_take_49 : decode cX6_take 49 = .ok (.ireturn, 1) := by decide +kernel
set_option maxRecDepth 20000 in
theorem ggX6_change_X4_holds : GoodIn wsX6_change wsX4_holds := goodIn_r _ [9, 10, 11, 104, 105, 106, 107] (by decide +kernel) (by decide +kernel)
set_option maxRecDepth 20000 in
theorem gX6_change_X4_holds : GoodIn wsX6_change (wsV RX6 78 RX4 yX4_holds wsX4_holds) := goodIn_app (goodIn_of _ (by decide +kernel)) ggX6_change_X4_holds
set_option maxRecDepth 20000 in
theorem ggX6_change_X6_isWord : GoodIn wsX6_change wsX6_isWord := goodIn_r _ [15] (by decide +kernel) (by decide +kernel)
set_option maxRecDepth 20000 in
theorem gX6_change_X6_isWord : GoodIn wsX6_change (va_wsS RX6 57 yX6_isWord wsX6_isWord) := goodIn_app (goodIn_of _ (by decide +kernel)) ggX6_change_X6_isWord
set_option maxRecDepth 20000 in
theorem ggX6_change_X4_at : GoodIn wsX6_change wsX4_at := goodIn_r _ [19, 10, 11, 104, 105, 106, 107] (by decide +kernel) (by decide +kernel)
set_option maxRecDepth 20000 in
theorem gX6_change_X4_at : GoodIn wsX6_change (wsV RX6 81 RX4 yX4_at wsX4_at) := goodIn_app (goodIn_of _ (by decide +kernel)) ggX6_change_X4_at
set_option maxRecDepth 20000 in
theorem ggX6_change_X3_record : GoodIn wsX6_change wsX3_record := goodIn_r _ [24, 25, 26, 27, 28, 29, 23, 30, 31, 32, 33, 34, 35, 36, 37, 38, 39, 40, 41, 42, 43, 8, 44, 11, 10, 45, 17, 18, 19, 46, 47, 48, 49, 50, 51, 52, 53, 54, 55, 56, 57, 58, 59, 60, 61, 62, 63, 64, 65, 66, 108, 109, 110, 99, 100, 101, 102, 103, 104, 105, 106, 107, 111, 112, 113] (by decide +kernel) (by decide +kernel)
set_option maxRecDepth 20000 in
theorem gX6_change_X3_record : GoodIn wsX6_change (wsV RX6 66 RX3 yX3_record wsX3_record) := goodIn_app (goodIn_of _ (by decide +kernel)) ggX6_change_X3_record
set_option maxRecDepth 20000 in
theorem ggX6_change_X5_replaceWord : GoodIn wsX6_change wsX5_replaceWord := goodIn_r _ [70, 37, 71, 72, 73, 8, 74, 75, 76, 6, 7, 9, 10, 11, 77, 78, 79, 80, 81, 82, 83, 35, 84, 40, 38, 46, 47, 48, 49, 50, 85, 86, 87, 54, 88, 57, 89, 90, 91, 92, 99, 100, 101, 102, 103, 104, 105, 106, 107, 111, 112, 113] (by decide +kernel) (by decide +kernel)
set_option maxRecDepth 20000 in
theorem gX6_change_X5_replaceWord : GoodIn wsX6_change (wsV RX6 89 RX5 yX5_replaceWord wsX5_replaceWord) := goodIn_app (goodIn_of _ (by decide +kernel)) ggX6_change_X5_replaceWord
theorem dX6_change_0 : decode cX6_change 0 = .ok (.aload_n 0, 1) := by decide +kernel
theorem dX6_change_1 : decode cX6_change 1 = .ok (.getfield 10, 3) := by decide +kernel
theorem dX6_change_4 : decode cX6_change 4 = .ok (.getfield 47, 3) := by decide +kernel
theorem dX6_change_7 : decode cX6_change 7 = .ok (.iload_n 1, 1) := by decide +kernel
theorem dX6_change_8 : decode cX6_change 8 = .ok (.invokevirtual 78, 3) := by decide +kernel
theorem dX6_change_11 : decode cX6_change 11 = .ok (.ifCond .eq 10, 3) := by decide +kernel
theorem dX6_change_14 : decode cX6_change 14 = .ok (.iload_n 2, 1) := by decide +kernel
theorem dX6_change_15 : decode cX6_change 15 = .ok (.invokestatic 57, 3) := by decide +kernel
theorem dX6_change_18 : decode cX6_change 18 = .ok (.ifCond .ne 6, 3) := by decide +kernel
theorem dX6_change_21 : decode cX6_change 21 = .ok (.ldc 60, 2) := by decide +kernel
theorem dX6_change_23 : decode cX6_change 23 = .ok (.ireturn, 1) := by decide +kernel
theorem dX6_change_24 : decode cX6_change 24 = .ok (.aload_n 0, 1) := by decide +kernel
theorem dX6_change_25 : decode cX6_change 25 = .ok (.getfield 10, 3) := by decide +kernel
theorem dX6_change_28 : decode cX6_change 28 = .ok (.getfield 47, 3) := by decide +kernel
theorem dX6_change_31 : decode cX6_change 31 = .ok (.iload_n 1, 1) := by decide +kernel
theorem dX6_change_32 : decode cX6_change 32 = .ok (.invokevirtual 81, 3) := by decide +kernel
theorem dX6_change_35 : decode cX6_change 35 = .ok (.istore_n 3, 1) := by decide +kernel
theorem dX6_change_36 : decode cX6_change 36 = .ok (.aload_n 0, 1) := by decide +kernel
theorem dX6_change_37 : decode cX6_change 37 = .ok (.getfield 22, 3) := by decide +kernel
theorem dX6_change_40 : decode cX6_change 40 = .ok (.aload_n 0, 1) := by decide +kernel
theorem dX6_change_41 : decode cX6_change 41 = .ok (.getfield 10, 3) := by decide +kernel
theorem dX6_change_44 : decode cX6_change 44 = .ok (.invokevirtual 66, 3) := by decide +kernel
theorem dX6_change_47 : decode cX6_change 47 = .ok (.aload_n 0, 1) := by decide +kernel
theorem dX6_change_48 : decode cX6_change 48 = .ok (.getfield 10, 3) := by decide +kernel
theorem dX6_change_51 : decode cX6_change 51 = .ok (.iload_n 1, 1) := by decide +kernel
theorem dX6_change_52 : decode cX6_change 52 = .ok (.iload_n 2, 1) := by decide +kernel
theorem dX6_change_53 : decode cX6_change 53 = .ok (.invokevirtual 89, 3) := by decide +kernel
theorem dX6_change_56 : decode cX6_change 56 = .ok (.iload_n 3, 1) := by decide +kernel
theorem dX6_change_57 : decode cX6_change 57 = .ok (.ireturn, 1) := by decide +kernel
set_option maxRecDepth 20000 in
theorem ggX6_move_X4_canShift : GoodIn wsX6_move wsX4_canShift := goodIn_r _ [9, 10, 11, 12, 13, 8, 14, 15, 116, 117, 118, 119] (by decide +kernel) (by decide +kernel)
set_option maxRecDepth 20000 in
theorem gX6_move_X4_canShift : GoodIn wsX6_move (wsV RX6 92 RX4 yX4_canShift wsX4_canShift) := goodIn_app (goodIn_of _ (by decide +kernel)) ggX6_move_X4_canShift
set_option maxRecDepth 20000 in
theorem ggX6_move_X3_record : GoodIn wsX6_move wsX3_record := goodIn_r _ [20, 21, 22, 23, 24, 25, 19, 26, 27, 28, 29, 30, 31, 32, 33, 34, 35, 36, 37, 38, 39, 8, 40, 15, 10, 41, 42, 43, 44, 45, 46, 47, 48, 49, 50, 51, 52, 53, 54, 55, 56, 57, 58, 59, 60, 61, 62, 63, 64, 65, 120, 121, 122, 111, 112, 113, 114, 115, 116, 117, 118, 119, 123, 124, 125] (by decide +kernel) (by decide +kernel)
set_option maxRecDepth 20000 in
theorem gX6_move_X3_record : GoodIn wsX6_move (wsV RX6 66 RX3 yX3_record wsX3_record) := goodIn_app (goodIn_of _ (by decide +kernel)) ggX6_move_X3_record
set_option maxRecDepth 20000 in
theorem ggX6_move_X5_shiftWords : GoodIn wsX6_move wsX5_shiftWords := goodIn_r _ [69, 33, 70, 71, 72, 8, 73, 74, 10, 75, 6, 7, 9, 11, 12, 13, 14, 15, 76, 77, 78, 79, 80, 81, 82, 83, 84, 85, 86, 87, 88, 89, 90, 91, 92, 93, 94, 31, 95, 36, 34, 45, 46, 47, 48, 49, 96, 97, 98, 53, 99, 56, 100, 111, 112, 113, 114, 115, 116, 117, 118, 119, 123, 124, 125] (by decide +kernel) (by decide +kernel)
set_option maxRecDepth 20000 in
theorem gX6_move_X5_shiftWords : GoodIn wsX6_move (wsV RX6 96 RX5 yX5_shiftWords wsX5_shiftWords) := goodIn_app (goodIn_of _ (by decide +kernel)) ggX6_move_X5_shiftWords
set_option maxRecDepth 20000 in
theorem ggX6_move_X4_wordsElsewhere : GoodIn wsX6_move wsX4_wordsElsewhere := goodIn_r _ [104, 10, 84, 85, 86, 8, 87, 74, 116, 117, 118, 119] (by decide +kernel) (by decide +kernel)
set_option maxRecDepth 20000 in
theorem gX6_move_X4_wordsElsewhere : GoodIn wsX6_move (wsV RX6 100 RX4 yX4_wordsElsewhere wsX4_wordsElsewhere) := goodIn_app (goodIn_of _ (by decide +kernel)) ggX6_move_X4_wordsElsewhere
theorem dX6_move_0 : decode cX6_move 0 = .ok (.aload_n 0, 1) := by decide +kernel
theorem dX6_move_1 : decode cX6_move 1 = .ok (.getfield 10, 3) := by decide +kernel
theorem dX6_move_4 : decode cX6_move 4 = .ok (.getfield 47, 3) := by decide +kernel
theorem dX6_move_7 : decode cX6_move 7 = .ok (.iload_n 1, 1) := by decide +kernel
theorem dX6_move_8 : decode cX6_move 8 = .ok (.iload_n 2, 1) := by decide +kernel
theorem dX6_move_9 : decode cX6_move 9 = .ok (.iload_n 3, 1) := by decide +kernel
theorem dX6_move_10 : decode cX6_move 10 = .ok (.invokevirtual 92, 3) := by decide +kernel
theorem dX6_move_13 : decode cX6_move 13 = .ok (.ifCond .ne 6, 3) := by decide +kernel
theorem dX6_move_16 : decode cX6_move 16 = .ok (.ldc 60, 2) := by decide +kernel
theorem dX6_move_18 : decode cX6_move 18 = .ok (.ireturn, 1) := by decide +kernel
theorem dX6_move_19 : decode cX6_move 19 = .ok (.aload_n 0, 1) := by decide +kernel
theorem dX6_move_20 : decode cX6_move 20 = .ok (.getfield 22, 3) := by decide +kernel
theorem dX6_move_23 : decode cX6_move 23 = .ok (.aload_n 0, 1) := by decide +kernel
theorem dX6_move_24 : decode cX6_move 24 = .ok (.getfield 10, 3) := by decide +kernel
theorem dX6_move_27 : decode cX6_move 27 = .ok (.invokevirtual 66, 3) := by decide +kernel
theorem dX6_move_30 : decode cX6_move 30 = .ok (.aload_n 0, 1) := by decide +kernel
theorem dX6_move_31 : decode cX6_move 31 = .ok (.getfield 10, 3) := by decide +kernel
theorem dX6_move_34 : decode cX6_move 34 = .ok (.iload_n 1, 1) := by decide +kernel
theorem dX6_move_35 : decode cX6_move 35 = .ok (.iload_n 2, 1) := by decide +kernel
theorem dX6_move_36 : decode cX6_move 36 = .ok (.iload_n 3, 1) := by decide +kernel
theorem dX6_move_37 : decode cX6_move 37 = .ok (.invokevirtual 96, 3) := by decide +kernel
theorem dX6_move_40 : decode cX6_move 40 = .ok (.aload_n 0, 1) := by decide +kernel
theorem dX6_move_41 : decode cX6_move 41 = .ok (.getfield 10, 3) := by decide +kernel
theorem dX6_move_44 : decode cX6_move 44 = .ok (.getfield 47, 3) := by decide +kernel
theorem dX6_move_47 : decode cX6_move 47 = .ok (.invokevirtual 100, 3) := by decide +kernel
theorem dX6_move_50 : decode cX6_move 50 = .ok (.ireturn, 1) := by decide +kernel
set_option maxRecDepth 20000 in
theorem ggX6_anchor_X4_holds : GoodIn wsX6_anchor wsX4_holds := goodIn_r _ [10, 11, 12, 95, 96, 97, 98] (by decide +kernel) (by decide +kernel)
set_option maxRecDepth 20000 in
theorem gX6_anchor_X4_holds : GoodIn wsX6_anchor (wsV RX6 78 RX4 yX4_holds wsX4_holds) := goodIn_app (goodIn_of _ (by decide +kernel)) ggX6_anchor_X4_holds
set_option maxRecDepth 20000 in
theorem ggX6_anchor_X5_anchorCount : GoodIn wsX6_anchor wsX5_anchorCount := goodIn_r _ [17, 18, 90, 91, 92, 93, 94] (by decide +kernel) (by decide +kernel)
set_option maxRecDepth 20000 in
theorem gX6_anchor_X5_anchorCount : GoodIn wsX6_anchor (wsV RX6 103 RX5 yX5_anchorCount wsX5_anchorCount) := goodIn_app (goodIn_of _ (by decide +kernel)) ggX6_anchor_X5_anchorCount
set_option maxRecDepth 20000 in
theorem ggX6_anchor_X3_record : GoodIn wsX6_anchor wsX3_record := goodIn_r _ [23, 24, 25, 26, 27, 28, 22, 29, 30, 31, 32, 33, 16, 34, 35, 18, 36, 37, 38, 39, 40, 9, 41, 12, 11, 42, 43, 44, 45, 46, 47, 48, 49, 50, 51, 52, 53, 54, 55, 56, 57, 58, 59, 60, 61, 62, 63, 64, 65, 66, 99, 100, 101, 90, 91, 92, 93, 94, 95, 96, 97, 98, 102, 103, 104] (by decide +kernel) (by decide +kernel)
set_option maxRecDepth 20000 in
theorem gX6_anchor_X3_record : GoodIn wsX6_anchor (wsV RX6 66 RX3 yX3_record wsX3_record) := goodIn_app (goodIn_of _ (by decide +kernel)) ggX6_anchor_X3_record
set_option maxRecDepth 20000 in
theorem ggX6_anchor_X5_addAnchor : GoodIn wsX6_anchor wsX5_addAnchor := goodIn_r _ [70, 18, 50, 35, 46, 47, 48, 16, 49, 71, 72, 73, 54, 74, 75, 76, 77, 78, 56, 79, 80, 81, 82, 58, 57, 83, 43, 44, 9, 45, 11, 12, 90, 91, 92, 93, 94, 102, 103, 104, 95, 96, 97, 98] (by decide +kernel) (by decide +kernel)
set_option maxRecDepth 20000 in
theorem gX6_anchor_X5_addAnchor : GoodIn wsX6_anchor (wsV RX6 106 RX5 yX5_addAnchor wsX5_addAnchor) := goodIn_app (goodIn_of _ (by decide +kernel)) ggX6_anchor_X5_addAnchor
theorem dX6_anchor_0 : decode cX6_anchor 0 = .ok (.aload_n 0, 1) := by decide +kernel
theorem dX6_anchor_1 : decode cX6_anchor 1 = .ok (.getfield 10, 3) := by decide +kernel
theorem dX6_anchor_4 : decode cX6_anchor 4 = .ok (.getfield 47, 3) := by decide +kernel
theorem dX6_anchor_7 : decode cX6_anchor 7 = .ok (.iload_n 1, 1) := by decide +kernel
theorem dX6_anchor_8 : decode cX6_anchor 8 = .ok (.invokevirtual 78, 3) := by decide +kernel
theorem dX6_anchor_11 : decode cX6_anchor 11 = .ok (.ifCond .ne 6, 3) := by decide +kernel
theorem dX6_anchor_14 : decode cX6_anchor 14 = .ok (.ldc 60, 2) := by decide +kernel
theorem dX6_anchor_16 : decode cX6_anchor 16 = .ok (.ireturn, 1) := by decide +kernel
theorem dX6_anchor_17 : decode cX6_anchor 17 = .ok (.aload_n 0, 1) := by decide +kernel
theorem dX6_anchor_18 : decode cX6_anchor 18 = .ok (.getfield 10, 3) := by decide +kernel
theorem dX6_anchor_21 : decode cX6_anchor 21 = .ok (.invokevirtual 103, 3) := by decide +kernel
theorem dX6_anchor_24 : decode cX6_anchor 24 = .ok (.bipush 6, 2) := by decide +kernel
theorem dX6_anchor_26 : decode cX6_anchor 26 = .ok (.if_icmp .lt 6, 3) := by decide +kernel
theorem dX6_anchor_29 : decode cX6_anchor 29 = .ok (.ldc 65, 2) := by decide +kernel
theorem dX6_anchor_31 : decode cX6_anchor 31 = .ok (.ireturn, 1) := by decide +kernel
theorem dX6_anchor_32 : decode cX6_anchor 32 = .ok (.aload_n 0, 1) := by decide +kernel
theorem dX6_anchor_33 : decode cX6_anchor 33 = .ok (.getfield 22, 3) := by decide +kernel
theorem dX6_anchor_36 : decode cX6_anchor 36 = .ok (.aload_n 0, 1) := by decide +kernel
theorem dX6_anchor_37 : decode cX6_anchor 37 = .ok (.getfield 10, 3) := by decide +kernel
theorem dX6_anchor_40 : decode cX6_anchor 40 = .ok (.invokevirtual 66, 3) := by decide +kernel
theorem dX6_anchor_43 : decode cX6_anchor 43 = .ok (.aload_n 0, 1) := by decide +kernel
theorem dX6_anchor_44 : decode cX6_anchor 44 = .ok (.getfield 10, 3) := by decide +kernel
theorem dX6_anchor_47 : decode cX6_anchor 47 = .ok (.iload_n 1, 1) := by decide +kernel
theorem dX6_anchor_48 : decode cX6_anchor 48 = .ok (.invokevirtual 106, 3) := by decide +kernel
theorem dX6_anchor_51 : decode cX6_anchor 51 = .ok (.aload_n 0, 1) := by decide +kernel
theorem dX6_anchor_52 : decode cX6_anchor 52 = .ok (.getfield 10, 3) := by decide +kernel
theorem dX6_anchor_55 : decode cX6_anchor 55 = .ok (.invokevirtual 103, 3) := by decide +kernel
theorem dX6_anchor_58 : decode cX6_anchor 58 = .ok (.iconst 1, 1) := by decide +kernel
theorem dX6_anchor_59 : decode cX6_anchor 59 = .ok (.isub, 1) := by decide +kernel
theorem dX6_anchor_60 : decode cX6_anchor 60 = .ok (.ireturn, 1) := by decide +kernel
set_option maxRecDepth 20000 in
theorem ggX6_findAll_X3_record : GoodIn wsX6_findAll wsX3_record := goodIn_r _ [7, 8, 9, 10, 11, 12, 6, 13, 14, 15, 16, 17, 18, 19, 20, 21, 22, 23, 24, 25, 26, 27, 28, 29, 30, 31, 32, 33, 34, 35, 36, 37, 38, 39, 40, 41, 42, 43, 44, 45, 46, 47, 48, 49, 50, 51, 52, 53, 54, 55, 106, 107, 108, 109, 110, 111, 112, 113, 114, 115, 116, 117, 118, 119, 120] (by decide +kernel) (by decide +kernel)
set_option maxRecDepth 20000 in
theorem gX6_findAll_X3_record : GoodIn wsX6_findAll (wsV RX6 66 RX3 yX3_record wsX3_record) := goodIn_app (goodIn_of _ (by decide +kernel)) ggX6_findAll_X3_record
set_option maxRecDepth 20000 in
theorem ggX6_findAll_X5_anchorCount : GoodIn wsX6_findAll wsX5_anchorCount := goodIn_r _ [59, 21, 109, 110, 111, 112, 113] (by decide +kernel) (by decide +kernel)
set_option maxRecDepth 20000 in
theorem gX6_findAll_X5_anchorCount : GoodIn wsX6_findAll (wsV RX6 103 RX5 yX5_anchorCount wsX5_anchorCount) := goodIn_app (goodIn_of _ (by decide +kernel)) ggX6_findAll_X5_anchorCount
set_option maxRecDepth 20000 in
theorem ggX6_findAll_X5_anchorNumbered : GoodIn wsX6_findAll wsX5_anchorNumbered := goodIn_r _ [38, 21, 39, 109, 110, 111, 112, 113] (by decide +kernel) (by decide +kernel)
set_option maxRecDepth 20000 in
theorem gX6_findAll_X5_anchorNumbered : GoodIn wsX6_findAll (wsV RX6 109 RX5 yX5_anchorNumbered wsX5_anchorNumbered) := goodIn_app (goodIn_of _ (by decide +kernel)) ggX6_findAll_X5_anchorNumbered
set_option maxRecDepth 20000 in
theorem ggX6_findAll_X5_shiftOf : GoodIn wsX6_findAll wsX5_shiftOf := goodIn_r _ [64, 65, 66, 67, 18, 68, 69, 70, 71, 72, 20, 73, 74, 75, 76, 77, 78, 79, 27, 80, 30, 81, 82, 83, 84, 85, 49, 50, 43, 51, 47, 86, 32, 33, 34, 29, 52, 53, 54, 55, 22, 87, 88, 89, 90, 45, 91, 92, 93, 94, 109, 110, 111, 112, 113, 114, 115, 116, 117, 118, 119, 120] (by decide +kernel) (by decide +kernel)
set_option maxRecDepth 20000 in
theorem gX6_findAll_X5_shiftOf : GoodIn wsX6_findAll (wsV RX6 131 RX5 yX5_shiftOf wsX5_shiftOf) := goodIn_app (goodIn_of _ (by decide +kernel)) ggX6_findAll_X5_shiftOf
set_option maxRecDepth 20000 in
theorem ggX6_findAll_X0_place : GoodIn wsX6_findAll wsX0_place := goodIn_r _ [90, 45, 118, 119, 120] (by decide +kernel) (by decide +kernel)
set_option maxRecDepth 20000 in
theorem gX6_findAll_X0_place : GoodIn wsX6_findAll (wsV RX6 128 RX0 yX0_place wsX0_place) := goodIn_app (goodIn_of _ (by decide +kernel)) ggX6_findAll_X0_place
set_option maxRecDepth 20000 in
theorem ggX6_findAll_X0_goTo : GoodIn wsX6_findAll wsX0_goTo := goodIn_r _ [99, 45, 118, 119, 120] (by decide +kernel) (by decide +kernel)
set_option maxRecDepth 20000 in
theorem gX6_findAll_X0_goTo : GoodIn wsX6_findAll (wsV RX6 125 RX0 yX0_goTo wsX0_goTo) := goodIn_app (goodIn_of _ (by decide +kernel)) ggX6_findAll_X0_goTo
theorem dX6_findAll_0 : decode cX6_findAll 0 = .ok (.aload_n 0, 1) := by decide +kernel
theorem dX6_findAll_1 : decode cX6_findAll 1 = .ok (.getfield 22, 3) := by decide +kernel
theorem dX6_findAll_4 : decode cX6_findAll 4 = .ok (.aload_n 0, 1) := by decide +kernel
theorem dX6_findAll_5 : decode cX6_findAll 5 = .ok (.getfield 10, 3) := by decide +kernel
theorem dX6_findAll_8 : decode cX6_findAll 8 = .ok (.invokevirtual 66, 3) := by decide +kernel
theorem dX6_findAll_11 : decode cX6_findAll 11 = .ok (.iconst 0, 1) := by decide +kernel
theorem dX6_findAll_12 : decode cX6_findAll 12 = .ok (.istore_n 1, 1) := by decide +kernel
theorem dX6_findAll_13 : decode cX6_findAll 13 = .ok (.iconst 0, 1) := by decide +kernel
theorem dX6_findAll_14 : decode cX6_findAll 14 = .ok (.istore_n 2, 1) := by decide +kernel
theorem dX6_findAll_15 : decode cX6_findAll 15 = .ok (.iload_n 2, 1) := by decide +kernel
theorem dX6_findAll_16 : decode cX6_findAll 16 = .ok (.aload_n 0, 1) := by decide +kernel
theorem dX6_findAll_17 : decode cX6_findAll 17 = .ok (.getfield 10, 3) := by decide +kernel
theorem dX6_findAll_20 : decode cX6_findAll 20 = .ok (.invokevirtual 103, 3) := by decide +kernel
theorem dX6_findAll_23 : decode cX6_findAll 23 = .ok (.if_icmp .ge 51, 3) := by decide +kernel
theorem dX6_findAll_26 : decode cX6_findAll 26 = .ok (.aload_n 0, 1) := by decide +kernel
theorem dX6_findAll_27 : decode cX6_findAll 27 = .ok (.getfield 10, 3) := by decide +kernel
theorem dX6_findAll_30 : decode cX6_findAll 30 = .ok (.iload_n 2, 1) := by decide +kernel
theorem dX6_findAll_31 : decode cX6_findAll 31 = .ok (.invokevirtual 109, 3) := by decide +kernel
theorem dX6_findAll_34 : decode cX6_findAll 34 = .ok (.astore_n 3, 1) := by decide +kernel
theorem dX6_findAll_35 : decode cX6_findAll 35 = .ok (.aload_n 0, 1) := by decide +kernel
theorem dX6_findAll_36 : decode cX6_findAll 36 = .ok (.getfield 10, 3) := by decide +kernel
theorem dX6_findAll_39 : decode cX6_findAll 39 = .ok (.aload_n 3, 1) := by decide +kernel
theorem dX6_findAll_40 : decode cX6_findAll 40 = .ok (.invokevirtual 131, 3) := by decide +kernel
theorem dX6_findAll_43 : decode cX6_findAll 43 = .ok (.istore 4, 2) := by decide +kernel
theorem dX6_findAll_45 : decode cX6_findAll 45 = .ok (.aload_n 3, 1) := by decide +kernel
theorem dX6_findAll_46 : decode cX6_findAll 46 = .ok (.ifnull 22, 3) := by decide +kernel
theorem dX6_findAll_49 : decode cX6_findAll 49 = .ok (.iload 4, 2) := by decide +kernel
theorem dX6_findAll_51 : decode cX6_findAll 51 = .ok (.ifCond .eq 17, 3) := by decide +kernel
theorem dX6_findAll_54 : decode cX6_findAll 54 = .ok (.aload_n 3, 1) := by decide +kernel
theorem dX6_findAll_55 : decode cX6_findAll 55 = .ok (.aload_n 3, 1) := by decide +kernel
theorem dX6_findAll_56 : decode cX6_findAll 56 = .ok (.invokevirtual 128, 3) := by decide +kernel
theorem dX6_findAll_59 : decode cX6_findAll 59 = .ok (.iload 4, 2) := by decide +kernel
theorem dX6_findAll_61 : decode cX6_findAll 61 = .ok (.iadd, 1) := by decide +kernel
theorem dX6_findAll_62 : decode cX6_findAll 62 = .ok (.invokevirtual 125, 3) := by decide +kernel
theorem dX6_findAll_65 : decode cX6_findAll 65 = .ok (.iinc 1 1, 3) := by decide +kernel
theorem dX6_findAll_68 : decode cX6_findAll 68 = .ok (.iinc 2 1, 3) := by decide +kernel
theorem dX6_findAll_71 : decode cX6_findAll 71 = .ok (.goto (-56), 3) := by decide +kernel
theorem dX6_findAll_74 : decode cX6_findAll 74 = .ok (.iload_n 1, 1) := by decide +kernel
theorem dX6_findAll_75 : decode cX6_findAll 75 = .ok (.ireturn, 1) := by decide +kernel
set_option maxRecDepth 20000 in
theorem ggX6_remember_X5_anchorNumbered : GoodIn wsX6_remember wsX5_anchorNumbered := goodIn_r _ [10, 11, 12, 79, 80, 81, 82, 83] (by decide +kernel) (by decide +kernel)
set_option maxRecDepth 20000 in
theorem gX6_remember_X5_anchorNumbered : GoodIn wsX6_remember (wsV RX6 109 RX5 yX5_anchorNumbered wsX5_anchorNumbered) := goodIn_app (goodIn_of _ (by decide +kernel)) ggX6_remember_X5_anchorNumbered
set_option maxRecDepth 20000 in
theorem ggX6_remember_X0_place : GoodIn wsX6_remember wsX0_place := goodIn_r _ [17, 18, 84, 85, 86] (by decide +kernel) (by decide +kernel)
set_option maxRecDepth 20000 in
theorem gX6_remember_X0_place : GoodIn wsX6_remember (wsV RX6 128 RX0 yX0_place wsX0_place) := goodIn_app (goodIn_of _ (by decide +kernel)) ggX6_remember_X0_place
set_option maxRecDepth 20000 in
theorem ggX6_remember_X4_holds : GoodIn wsX6_remember wsX4_holds := goodIn_r _ [23, 24, 25, 87, 88, 89, 90] (by decide +kernel) (by decide +kernel)
set_option maxRecDepth 20000 in
theorem gX6_remember_X4_holds : GoodIn wsX6_remember (wsV RX6 78 RX4 yX4_holds wsX4_holds) := goodIn_app (goodIn_of _ (by decide +kernel)) ggX6_remember_X4_holds
set_option maxRecDepth 20000 in
theorem ggX6_remember_X3_record : GoodIn wsX6_remember wsX3_record := goodIn_r _ [30, 31, 32, 33, 34, 35, 29, 36, 37, 38, 39, 40, 9, 41, 42, 11, 43, 44, 45, 46, 47, 22, 48, 25, 24, 49, 50, 51, 52, 53, 7, 8, 10, 12, 54, 55, 56, 16, 57, 18, 58, 59, 60, 61, 62, 63, 64, 65, 66, 67, 91, 92, 93, 79, 80, 81, 82, 83, 87, 88, 89, 90, 84, 85, 86] (by decide +kernel) (by decide +kernel)
set_option maxRecDepth 20000 in
theorem gX6_remember_X3_record : GoodIn wsX6_remember (wsV RX6 66 RX3 yX3_record wsX3_record) := goodIn_app (goodIn_of _ (by decide +kernel)) ggX6_remember_X3_record
set_option maxRecDepth 20000 in
theorem ggX6_remember_X0_look : GoodIn wsX6_remember wsX0_look := goodIn_r _ [71, 59, 18, 58, 72, 50, 51, 22, 52, 24, 25, 84, 85, 86, 87, 88, 89, 90] (by decide +kernel) (by decide +kernel)
set_option maxRecDepth 20000 in
theorem gX6_remember_X0_look : GoodIn wsX6_remember (wsV RX6 134 RX0 yX0_look wsX0_look) := goodIn_app (goodIn_of _ (by decide +kernel)) ggX6_remember_X0_look
theorem dX6_remember_0 : decode cX6_remember 0 = .ok (.aload_n 0, 1) := by decide +kernel
theorem dX6_remember_1 : decode cX6_remember 1 = .ok (.getfield 10, 3) := by decide +kernel
theorem dX6_remember_4 : decode cX6_remember 4 = .ok (.iload_n 1, 1) := by decide +kernel
theorem dX6_remember_5 : decode cX6_remember 5 = .ok (.invokevirtual 109, 3) := by decide +kernel
theorem dX6_remember_8 : decode cX6_remember 8 = .ok (.astore_n 2, 1) := by decide +kernel
theorem dX6_remember_9 : decode cX6_remember 9 = .ok (.aload_n 2, 1) := by decide +kernel
theorem dX6_remember_10 : decode cX6_remember 10 = .ok (.ifnonnull 6, 3) := by decide +kernel
theorem dX6_remember_13 : decode cX6_remember 13 = .ok (.ldc 60, 2) := by decide +kernel
theorem dX6_remember_15 : decode cX6_remember 15 = .ok (.ireturn, 1) := by decide +kernel
theorem dX6_remember_16 : decode cX6_remember 16 = .ok (.aload_n 0, 1) := by decide +kernel
theorem dX6_remember_17 : decode cX6_remember 17 = .ok (.getfield 10, 3) := by decide +kernel
theorem dX6_remember_20 : decode cX6_remember 20 = .ok (.getfield 47, 3) := by decide +kernel
theorem dX6_remember_23 : decode cX6_remember 23 = .ok (.aload_n 2, 1) := by decide +kernel
theorem dX6_remember_24 : decode cX6_remember 24 = .ok (.invokevirtual 128, 3) := by decide +kernel
theorem dX6_remember_27 : decode cX6_remember 27 = .ok (.invokevirtual 78, 3) := by decide +kernel
theorem dX6_remember_30 : decode cX6_remember 30 = .ok (.ifCond .ne 6, 3) := by decide +kernel
theorem dX6_remember_33 : decode cX6_remember 33 = .ok (.ldc 124, 2) := by decide +kernel
theorem dX6_remember_35 : decode cX6_remember 35 = .ok (.ireturn, 1) := by decide +kernel
theorem dX6_remember_36 : decode cX6_remember 36 = .ok (.aload_n 0, 1) := by decide +kernel
theorem dX6_remember_37 : decode cX6_remember 37 = .ok (.getfield 22, 3) := by decide +kernel
theorem dX6_remember_40 : decode cX6_remember 40 = .ok (.aload_n 0, 1) := by decide +kernel
theorem dX6_remember_41 : decode cX6_remember 41 = .ok (.getfield 10, 3) := by decide +kernel
theorem dX6_remember_44 : decode cX6_remember 44 = .ok (.invokevirtual 66, 3) := by decide +kernel
theorem dX6_remember_47 : decode cX6_remember 47 = .ok (.aload_n 2, 1) := by decide +kernel
theorem dX6_remember_48 : decode cX6_remember 48 = .ok (.aload_n 0, 1) := by decide +kernel
theorem dX6_remember_49 : decode cX6_remember 49 = .ok (.getfield 10, 3) := by decide +kernel
theorem dX6_remember_52 : decode cX6_remember 52 = .ok (.getfield 47, 3) := by decide +kernel
theorem dX6_remember_55 : decode cX6_remember 55 = .ok (.invokevirtual 134, 3) := by decide +kernel
theorem dX6_remember_58 : decode cX6_remember 58 = .ok (.ireturn, 1) := by decide +kernel
set_option maxRecDepth 20000 in
theorem ggX6_wordAt_X4_at : GoodIn wsX6_wordAt wsX4_at := goodIn_r _ [8, 9, 10, 27, 28, 29, 30] (by decide +kernel) (by decide +kernel)
set_option maxRecDepth 20000 in
theorem gX6_wordAt_X4_at : GoodIn wsX6_wordAt (wsV RX6 81 RX4 yX4_at wsX4_at) := goodIn_app (goodIn_of _ (by decide +kernel)) ggX6_wordAt_X4_at
set_option maxRecDepth 20000 in
theorem ggX6_wordAt_X6_orNotFound : GoodIn wsX6_wordAt wsX6_orNotFound := goodIn_r _ [14, 15] (by decide +kernel) (by decide +kernel)
set_option maxRecDepth 20000 in
theorem gX6_wordAt_X6_orNotFound : GoodIn wsX6_wordAt (va_wsS RX6 148 yX6_orNotFound wsX6_orNotFound) := goodIn_app (goodIn_of _ (by decide +kernel)) ggX6_wordAt_X6_orNotFound
theorem dX6_wordAt_0 : decode cX6_wordAt 0 = .ok (.iload_n 1, 1) := by decide +kernel
theorem dX6_wordAt_1 : decode cX6_wordAt 1 = .ok (.ifCond .ge 6, 3) := by decide +kernel
theorem dX6_wordAt_4 : decode cX6_wordAt 4 = .ok (.ldc 60, 2) := by decide +kernel
theorem dX6_wordAt_6 : decode cX6_wordAt 6 = .ok (.ireturn, 1) := by decide +kernel
theorem dX6_wordAt_7 : decode cX6_wordAt 7 = .ok (.aload_n 0, 1) := by decide +kernel
theorem dX6_wordAt_8 : decode cX6_wordAt 8 = .ok (.getfield 10, 3) := by decide +kernel
theorem dX6_wordAt_11 : decode cX6_wordAt 11 = .ok (.getfield 47, 3) := by decide +kernel
theorem dX6_wordAt_14 : decode cX6_wordAt 14 = .ok (.iload_n 1, 1) := by decide +kernel
theorem dX6_wordAt_15 : decode cX6_wordAt 15 = .ok (.invokevirtual 81, 3) := by decide +kernel
theorem dX6_wordAt_18 : decode cX6_wordAt 18 = .ok (.invokestatic 148, 3) := by decide +kernel
theorem dX6_wordAt_21 : decode cX6_wordAt 21 = .ok (.ireturn, 1) := by decide +kernel
set_option maxRecDepth 20000 in
theorem ggX6_anchorOf_X5_anchorNumbered : GoodIn wsX6_anchorOf wsX5_anchorNumbered := goodIn_r _ [7, 8, 9, 96, 97, 98, 99, 100] (by decide +kernel) (by decide +kernel)
set_option maxRecDepth 20000 in
theorem gX6_anchorOf_X5_anchorNumbered : GoodIn wsX6_anchorOf (wsV RX6 109 RX5 yX5_anchorNumbered wsX5_anchorNumbered) := goodIn_app (goodIn_of _ (by decide +kernel)) ggX6_anchorOf_X5_anchorNumbered
set_option maxRecDepth 20000 in
theorem ggX6_anchorOf_X0_place : GoodIn wsX6_anchorOf wsX0_place := goodIn_r _ [14, 15, 101, 102, 103] (by decide +kernel) (by decide +kernel)
set_option maxRecDepth 20000 in
theorem gX6_anchorOf_X0_place : GoodIn wsX6_anchorOf (wsV RX6 128 RX0 yX0_place wsX0_place) := goodIn_app (goodIn_of _ (by decide +kernel)) ggX6_anchorOf_X0_place
set_option maxRecDepth 20000 in
theorem ggX6_anchorOf_X0_truePlace : GoodIn wsX6_anchorOf wsX0_truePlace := goodIn_r _ [19, 20, 101, 102, 103] (by decide +kernel) (by decide +kernel)
set_option maxRecDepth 20000 in
theorem gX6_anchorOf_X0_truePlace : GoodIn wsX6_anchorOf (wsV RX6 151 RX0 yX0_truePlace wsX0_truePlace) := goodIn_app (goodIn_of _ (by decide +kernel)) ggX6_anchorOf_X0_truePlace
set_option maxRecDepth 20000 in
theorem ggX6_anchorOf_X6_orNotFound : GoodIn wsX6_anchorOf wsX6_orNotFound := goodIn_r _ [24, 25] (by decide +kernel) (by decide +kernel)
set_option maxRecDepth 20000 in
theorem gX6_anchorOf_X6_orNotFound : GoodIn wsX6_anchorOf (va_wsS RX6 148 yX6_orNotFound wsX6_orNotFound) := goodIn_app (goodIn_of _ (by decide +kernel)) ggX6_anchorOf_X6_orNotFound
set_option maxRecDepth 20000 in
theorem ggX6_anchorOf_X5_standingOf : GoodIn wsX6_anchorOf wsX5_standingOf := goodIn_r _ [29, 30, 31, 32, 6, 33, 34, 35, 36, 37, 38, 39, 40, 41, 42, 43, 44, 45, 46, 47, 48, 49, 50, 51, 13, 52, 53, 54, 55, 56, 57, 58, 59, 60, 61, 62, 63, 64, 11, 12, 14, 15, 65, 66, 67, 68, 96, 97, 98, 99, 100, 104, 105, 106, 107, 101, 102, 103] (by decide +kernel) (by decide +kernel)
set_option maxRecDepth 20000 in
theorem gX6_anchorOf_X5_standingOf : GoodIn wsX6_anchorOf (wsV RX6 154 RX5 yX5_standingOf wsX5_standingOf) := goodIn_app (goodIn_of _ (by decide +kernel)) ggX6_anchorOf_X5_standingOf
set_option maxRecDepth 20000 in
theorem ggX6_anchorOf_X5_bestPlace : GoodIn wsX6_anchorOf wsX5_bestPlace := goodIn_r _ [72, 30, 31, 32, 6, 33, 34, 35, 36, 37, 38, 39, 40, 41, 42, 43, 44, 45, 46, 47, 48, 49, 50, 51, 13, 52, 53, 54, 55, 56, 57, 58, 59, 60, 61, 62, 63, 64, 11, 12, 14, 15, 96, 97, 98, 99, 100, 104, 105, 106, 107, 101, 102, 103] (by decide +kernel) (by decide +kernel)
set_option maxRecDepth 20000 in
theorem gX6_anchorOf_X5_bestPlace : GoodIn wsX6_anchorOf (wsV RX6 116 RX5 yX5_bestPlace wsX5_bestPlace) := goodIn_app (goodIn_of _ (by decide +kernel)) ggX6_anchorOf_X5_bestPlace
set_option maxRecDepth 20000 in
theorem ggX6_anchorOf_X6_scoreOrNotFound : GoodIn wsX6_anchorOf wsX6_scoreOrNotFound := goodIn_r _ [76, 25, 1, 77, 46, 47, 6, 48, 34, 35, 36, 37, 38, 49, 50, 51, 13, 52, 53, 54, 55, 56, 42, 57, 44, 58, 59, 60, 61, 62, 63, 90, 91, 92, 93, 94, 95, 96, 97, 98, 99, 100, 101, 102, 103, 104, 105, 106, 107] (by decide +kernel) (by decide +kernel)
set_option maxRecDepth 20000 in
theorem gX6_anchorOf_X6_scoreOrNotFound : GoodIn wsX6_anchorOf (wsV RX6 157 RX6 yX6_scoreOrNotFound wsX6_scoreOrNotFound) := goodIn_app (goodIn_of _ (by decide +kernel)) ggX6_anchorOf_X6_scoreOrNotFound
set_option maxRecDepth 20000 in
theorem ggX6_anchorOf_X5_nextBestPlace : GoodIn wsX6_anchorOf wsX5_nextBestPlace := goodIn_r _ [81, 82, 70, 71, 6, 72, 30, 31, 32, 33, 34, 35, 36, 37, 38, 39, 40, 41, 42, 43, 44, 45, 46, 47, 48, 49, 50, 51, 13, 52, 53, 54, 55, 56, 57, 58, 59, 60, 61, 62, 63, 64, 11, 12, 14, 15, 96, 97, 98, 99, 100, 104, 105, 106, 107, 101, 102, 103] (by decide +kernel) (by decide +kernel)
set_option maxRecDepth 20000 in
theorem gX6_anchorOf_X5_nextBestPlace : GoodIn wsX6_anchorOf (wsV RX6 161 RX5 yX5_nextBestPlace wsX5_nextBestPlace) := goodIn_app (goodIn_of _ (by decide +kernel)) ggX6_anchorOf_X5_nextBestPlace
set_option maxRecDepth 20000 in
theorem ggX6_anchorOf_X5_isOfKind : GoodIn wsX6_anchorOf wsX5_isOfKind := goodIn_r _ [86, 82, 70, 71, 6, 72, 30, 31, 32, 33, 34, 35, 36, 37, 38, 39, 40, 41, 42, 43, 44, 45, 46, 47, 48, 49, 50, 51, 13, 52, 53, 54, 55, 56, 57, 58, 59, 60, 61, 62, 63, 64, 11, 12, 14, 15, 65, 66, 67, 68, 87, 17, 18, 19, 20, 88, 27, 28, 29, 96, 97, 98, 99, 100, 104, 105, 106, 107, 101, 102, 103] (by decide +kernel) (by decide +kernel)
set_option maxRecDepth 20000 in
theorem gX6_anchorOf_X5_isOfKind : GoodIn wsX6_anchorOf (wsV RX6 164 RX5 yX5_isOfKind wsX5_isOfKind) := goodIn_app (goodIn_of _ (by decide +kernel)) ggX6_anchorOf_X5_isOfKind
set_option maxRecDepth 20000 in
theorem ggX6_anchorOf_X0_thing : GoodIn wsX6_anchorOf wsX0_thing := goodIn_r _ [52, 53, 101, 102, 103] (by decide +kernel) (by decide +kernel)
set_option maxRecDepth 20000 in
theorem gX6_anchorOf_X0_thing : GoodIn wsX6_anchorOf (wsV RX6 167 RX0 yX0_thing wsX0_thing) := goodIn_app (goodIn_of _ (by decide +kernel)) ggX6_anchorOf_X0_thing
theorem dX6_anchorOf_0 : decode cX6_anchorOf 0 = .ok (.aload_n 0, 1) := by decide +kernel
theorem dX6_anchorOf_1 : decode cX6_anchorOf 1 = .ok (.getfield 10, 3) := by decide +kernel
theorem dX6_anchorOf_4 : decode cX6_anchorOf 4 = .ok (.iload_n 1, 1) := by decide +kernel
theorem dX6_anchorOf_5 : decode cX6_anchorOf 5 = .ok (.invokevirtual 109, 3) := by decide +kernel
theorem dX6_anchorOf_8 : decode cX6_anchorOf 8 = .ok (.astore_n 3, 1) := by decide +kernel
theorem dX6_anchorOf_9 : decode cX6_anchorOf 9 = .ok (.aload_n 3, 1) := by decide +kernel
theorem dX6_anchorOf_10 : decode cX6_anchorOf 10 = .ok (.ifnull 13, 3) := by decide +kernel
theorem dX6_anchorOf_13 : decode cX6_anchorOf 13 = .ok (.iload_n 2, 1) := by decide +kernel
theorem dX6_anchorOf_14 : decode cX6_anchorOf 14 = .ok (.ifCond .lt 9, 3) := by decide +kernel
theorem dX6_anchorOf_17 : decode cX6_anchorOf 17 = .ok (.iload_n 2, 1) := by decide +kernel
theorem dX6_anchorOf_18 : decode cX6_anchorOf 18 = .ok (.bipush 12, 2) := by decide +kernel
theorem dX6_anchorOf_20 : decode cX6_anchorOf 20 = .ok (.if_icmp .le 6, 3) := by decide +kernel
theorem dX6_anchorOf_23 : decode cX6_anchorOf 23 = .ok (.ldc 60, 2) := by decide +kernel
theorem dX6_anchorOf_25 : decode cX6_anchorOf 25 = .ok (.ireturn, 1) := by decide +kernel
theorem dX6_anchorOf_26 : decode cX6_anchorOf 26 = .ok (.iload_n 2, 1) := by decide +kernel
theorem dX6_anchorOf_27 : decode cX6_anchorOf 27 = .ok (.tableswitch 157 0 12 #[65, 70, 157, 157, 157, 157, 157, 78, 87, 99, 113, 125, 139], 65) := by decide +kernel
theorem dX6_anchorOf_92 : decode cX6_anchorOf 92 = .ok (.aload_n 3, 1) := by decide +kernel
theorem dX6_anchorOf_93 : decode cX6_anchorOf 93 = .ok (.invokevirtual 128, 3) := by decide +kernel
theorem dX6_anchorOf_96 : decode cX6_anchorOf 96 = .ok (.ireturn, 1) := by decide +kernel
theorem dX6_anchorOf_97 : decode cX6_anchorOf 97 = .ok (.aload_n 3, 1) := by decide +kernel
theorem dX6_anchorOf_98 : decode cX6_anchorOf 98 = .ok (.invokevirtual 151, 3) := by decide +kernel
theorem dX6_anchorOf_101 : decode cX6_anchorOf 101 = .ok (.invokestatic 148, 3) := by decide +kernel
theorem dX6_anchorOf_104 : decode cX6_anchorOf 104 = .ok (.ireturn, 1) := by decide +kernel
theorem dX6_anchorOf_105 : decode cX6_anchorOf 105 = .ok (.aload_n 0, 1) := by decide +kernel
theorem dX6_anchorOf_106 : decode cX6_anchorOf 106 = .ok (.getfield 10, 3) := by decide +kernel
theorem dX6_anchorOf_109 : decode cX6_anchorOf 109 = .ok (.aload_n 3, 1) := by decide +kernel
theorem dX6_anchorOf_110 : decode cX6_anchorOf 110 = .ok (.invokevirtual 154, 3) := by decide +kernel
theorem dX6_anchorOf_113 : decode cX6_anchorOf 113 = .ok (.ireturn, 1) := by decide +kernel
theorem dX6_anchorOf_114 : decode cX6_anchorOf 114 = .ok (.aload_n 0, 1) := by decide +kernel
theorem dX6_anchorOf_115 : decode cX6_anchorOf 115 = .ok (.getfield 10, 3) := by decide +kernel
theorem dX6_anchorOf_118 : decode cX6_anchorOf 118 = .ok (.aload_n 3, 1) := by decide +kernel
theorem dX6_anchorOf_119 : decode cX6_anchorOf 119 = .ok (.invokevirtual 116, 3) := by decide +kernel
theorem dX6_anchorOf_122 : decode cX6_anchorOf 122 = .ok (.invokestatic 148, 3) := by decide +kernel
theorem dX6_anchorOf_125 : decode cX6_anchorOf 125 = .ok (.ireturn, 1) := by decide +kernel
theorem dX6_anchorOf_126 : decode cX6_anchorOf 126 = .ok (.aload_n 0, 1) := by decide +kernel
theorem dX6_anchorOf_127 : decode cX6_anchorOf 127 = .ok (.aload_n 3, 1) := by decide +kernel
theorem dX6_anchorOf_128 : decode cX6_anchorOf 128 = .ok (.aload_n 0, 1) := by decide +kernel
theorem dX6_anchorOf_129 : decode cX6_anchorOf 129 = .ok (.getfield 10, 3) := by decide +kernel
theorem dX6_anchorOf_132 : decode cX6_anchorOf 132 = .ok (.aload_n 3, 1) := by decide +kernel
theorem dX6_anchorOf_133 : decode cX6_anchorOf 133 = .ok (.invokevirtual 116, 3) := by decide +kernel
theorem dX6_anchorOf_136 : decode cX6_anchorOf 136 = .ok (.invokevirtual 157, 3) := by decide +kernel
theorem dX6_anchorOf_139 : decode cX6_anchorOf 139 = .ok (.ireturn, 1) := by decide +kernel
theorem dX6_anchorOf_140 : decode cX6_anchorOf 140 = .ok (.aload_n 0, 1) := by decide +kernel
theorem dX6_anchorOf_141 : decode cX6_anchorOf 141 = .ok (.getfield 10, 3) := by decide +kernel
theorem dX6_anchorOf_144 : decode cX6_anchorOf 144 = .ok (.aload_n 3, 1) := by decide +kernel
theorem dX6_anchorOf_145 : decode cX6_anchorOf 145 = .ok (.invokevirtual 161, 3) := by decide +kernel
theorem dX6_anchorOf_148 : decode cX6_anchorOf 148 = .ok (.invokestatic 148, 3) := by decide +kernel
theorem dX6_anchorOf_151 : decode cX6_anchorOf 151 = .ok (.ireturn, 1) := by decide +kernel
theorem dX6_anchorOf_152 : decode cX6_anchorOf 152 = .ok (.aload_n 0, 1) := by decide +kernel
theorem dX6_anchorOf_153 : decode cX6_anchorOf 153 = .ok (.aload_n 3, 1) := by decide +kernel
theorem dX6_anchorOf_154 : decode cX6_anchorOf 154 = .ok (.aload_n 0, 1) := by decide +kernel
theorem dX6_anchorOf_155 : decode cX6_anchorOf 155 = .ok (.getfield 10, 3) := by decide +kernel
theorem dX6_anchorOf_158 : decode cX6_anchorOf 158 = .ok (.aload_n 3, 1) := by decide +kernel
theorem dX6_anchorOf_159 : decode cX6_anchorOf 159 = .ok (.invokevirtual 161, 3) := by decide +kernel
theorem dX6_anchorOf_162 : decode cX6_anchorOf 162 = .ok (.invokevirtual 157, 3) := by decide +kernel
theorem dX6_anchorOf_165 : decode cX6_anchorOf 165 = .ok (.ireturn, 1) := by decide +kernel
theorem dX6_anchorOf_166 : decode cX6_anchorOf 166 = .ok (.aload_n 0, 1) := by decide +kernel
theorem dX6_anchorOf_167 : decode cX6_anchorOf 167 = .ok (.getfield 10, 3) := by decide +kernel
theorem dX6_anchorOf_170 : decode cX6_anchorOf 170 = .ok (.aload_n 3, 1) := by decide +kernel
theorem dX6_anchorOf_171 : decode cX6_anchorOf 171 = .ok (.iconst 3, 1) := by decide +kernel
theorem dX6_anchorOf_172 : decode cX6_anchorOf 172 = .ok (.invokevirtual 164, 3) := by decide +kernel
theorem dX6_anchorOf_175 : decode cX6_anchorOf 175 = .ok (.ifCond .eq 7, 3) := by decide +kernel
theorem dX6_anchorOf_178 : decode cX6_anchorOf 178 = .ok (.iconst 1, 1) := by decide +kernel
theorem dX6_anchorOf_179 : decode cX6_anchorOf 179 = .ok (.goto 4, 3) := by decide +kernel
theorem dX6_anchorOf_182 : decode cX6_anchorOf 182 = .ok (.iconst 0, 1) := by decide +kernel
theorem dX6_anchorOf_183 : decode cX6_anchorOf 183 = .ok (.ireturn, 1) := by decide +kernel
theorem dX6_anchorOf_184 : decode cX6_anchorOf 184 = .ok (.aload_n 3, 1) := by decide +kernel
theorem dX6_anchorOf_185 : decode cX6_anchorOf 185 = .ok (.iload_n 2, 1) := by decide +kernel
theorem dX6_anchorOf_186 : decode cX6_anchorOf 186 = .ok (.iconst 2, 1) := by decide +kernel
theorem dX6_anchorOf_187 : decode cX6_anchorOf 187 = .ok (.isub, 1) := by decide +kernel
theorem dX6_anchorOf_188 : decode cX6_anchorOf 188 = .ok (.invokevirtual 167, 3) := by decide +kernel
theorem dX6_anchorOf_191 : decode cX6_anchorOf 191 = .ok (.invokestatic 148, 3) := by decide +kernel
theorem dX6_anchorOf_194 : decode cX6_anchorOf 194 = .ok (.ireturn, 1) := by decide +kernel
set_option maxRecDepth 20000 in
theorem ggX6_score_X5_anchorNumbered : GoodIn wsX6_score wsX5_anchorNumbered := goodIn_r _ [8, 9, 10, 48, 49, 50, 51, 52] (by decide +kernel) (by decide +kernel)
set_option maxRecDepth 20000 in
theorem gX6_score_X5_anchorNumbered : GoodIn wsX6_score (wsV RX6 109 RX5 yX5_anchorNumbered wsX5_anchorNumbered) := goodIn_app (goodIn_of _ (by decide +kernel)) ggX6_score_X5_anchorNumbered
set_option maxRecDepth 20000 in
theorem ggX6_score_X4_holds : GoodIn wsX6_score wsX4_holds := goodIn_r _ [15, 16, 17, 53, 54, 55, 56] (by decide +kernel) (by decide +kernel)
set_option maxRecDepth 20000 in
theorem gX6_score_X4_holds : GoodIn wsX6_score (wsV RX6 78 RX4 yX4_holds wsX4_holds) := goodIn_app (goodIn_of _ (by decide +kernel)) ggX6_score_X4_holds
set_option maxRecDepth 20000 in
theorem ggX6_score_X5_scoreOf : GoodIn wsX6_score wsX5_scoreOf := goodIn_r _ [21, 22, 23, 24, 25, 26, 27, 28, 29, 30, 31, 32, 33, 34, 35, 14, 36, 16, 17, 37, 38, 39, 7, 40, 41, 48, 49, 50, 51, 52, 57, 58, 59, 53, 54, 55, 56] (by decide +kernel) (by decide +kernel)
set_option maxRecDepth 20000 in
theorem gX6_score_X5_scoreOf : GoodIn wsX6_score (wsV RX6 170 RX5 yX5_scoreOf wsX5_scoreOf) := goodIn_app (goodIn_of _ (by decide +kernel)) ggX6_score_X5_scoreOf
theorem dX6_score_0 : decode cX6_score 0 = .ok (.aload_n 0, 1) := by decide +kernel
theorem dX6_score_1 : decode cX6_score 1 = .ok (.getfield 10, 3) := by decide +kernel
theorem dX6_score_4 : decode cX6_score 4 = .ok (.iload_n 1, 1) := by decide +kernel
theorem dX6_score_5 : decode cX6_score 5 = .ok (.invokevirtual 109, 3) := by decide +kernel
theorem dX6_score_8 : decode cX6_score 8 = .ok (.astore_n 3, 1) := by decide +kernel
theorem dX6_score_9 : decode cX6_score 9 = .ok (.aload_n 3, 1) := by decide +kernel
theorem dX6_score_10 : decode cX6_score 10 = .ok (.ifnull 17, 3) := by decide +kernel
theorem dX6_score_13 : decode cX6_score 13 = .ok (.aload_n 0, 1) := by decide +kernel
theorem dX6_score_14 : decode cX6_score 14 = .ok (.getfield 10, 3) := by decide +kernel
theorem dX6_score_17 : decode cX6_score 17 = .ok (.getfield 47, 3) := by decide +kernel
theorem dX6_score_20 : decode cX6_score 20 = .ok (.iload_n 2, 1) := by decide +kernel
theorem dX6_score_21 : decode cX6_score 21 = .ok (.invokevirtual 78, 3) := by decide +kernel
theorem dX6_score_24 : decode cX6_score 24 = .ok (.ifCond .ne 6, 3) := by decide +kernel
theorem dX6_score_27 : decode cX6_score 27 = .ok (.ldc 60, 2) := by decide +kernel
theorem dX6_score_29 : decode cX6_score 29 = .ok (.ireturn, 1) := by decide +kernel
theorem dX6_score_30 : decode cX6_score 30 = .ok (.aload_n 0, 1) := by decide +kernel
theorem dX6_score_31 : decode cX6_score 31 = .ok (.getfield 10, 3) := by decide +kernel
theorem dX6_score_34 : decode cX6_score 34 = .ok (.aload_n 3, 1) := by decide +kernel
theorem dX6_score_35 : decode cX6_score 35 = .ok (.iload_n 2, 1) := by decide +kernel
theorem dX6_score_36 : decode cX6_score 36 = .ok (.invokevirtual 170, 3) := by decide +kernel
theorem dX6_score_39 : decode cX6_score 39 = .ok (.ireturn, 1) := by decide +kernel
set_option maxRecDepth 20000 in
theorem ggX6_anchors_X5_anchorsOfKind : GoodIn wsX6_anchors wsX5_anchorsOfKind := goodIn_r _ [7, 8, 9, 10, 11, 6, 12, 13, 14, 15, 16, 17, 18, 19, 20, 21, 22, 23, 24, 25, 26, 27, 28, 29, 30, 31, 32, 33, 34, 35, 36, 37, 38, 39, 40, 41, 42, 43, 44, 45, 46, 47, 48, 49, 50, 51, 52, 53, 54, 55, 56, 57, 58, 59, 60, 61, 62, 63, 64, 65, 66, 67, 68, 69, 70, 71, 72, 73, 74, 81, 82, 83, 84, 85, 86, 87, 88, 89, 90, 91, 92] (by decide +kernel) (by decide +kernel)
set_option maxRecDepth 20000 in
theorem gX6_anchors_X5_anchorsOfKind : GoodIn wsX6_anchors (wsV RX6 173 RX5 yX5_anchorsOfKind wsX5_anchorsOfKind) := goodIn_app (goodIn_of _ (by decide +kernel)) ggX6_anchors_X5_anchorsOfKind
theorem dX6_anchors_0 : decode cX6_anchors 0 = .ok (.iload_n 1, 1) := by decide +kernel
theorem dX6_anchors_1 : decode cX6_anchors 1 = .ok (.ifCond .lt 8, 3) := by decide +kernel
theorem dX6_anchors_4 : decode cX6_anchors 4 = .ok (.iload_n 1, 1) := by decide +kernel
theorem dX6_anchors_5 : decode cX6_anchors 5 = .ok (.iconst 5, 1) := by decide +kernel
theorem dX6_anchors_6 : decode cX6_anchors 6 = .ok (.if_icmp .le 6, 3) := by decide +kernel
theorem dX6_anchors_9 : decode cX6_anchors 9 = .ok (.ldc 60, 2) := by decide +kernel
theorem dX6_anchors_11 : decode cX6_anchors 11 = .ok (.ireturn, 1) := by decide +kernel
theorem dX6_anchors_12 : decode cX6_anchors 12 = .ok (.aload_n 0, 1) := by decide +kernel
theorem dX6_anchors_13 : decode cX6_anchors 13 = .ok (.getfield 10, 3) := by decide +kernel
theorem dX6_anchors_16 : decode cX6_anchors 16 = .ok (.iload_n 1, 1) := by decide +kernel
theorem dX6_anchors_17 : decode cX6_anchors 17 = .ok (.invokevirtual 173, 3) := by decide +kernel
theorem dX6_anchors_20 : decode cX6_anchors 20 = .ok (.ireturn, 1) := by decide +kernel
set_option maxRecDepth 20000 in
theorem ggX6_blockOf_X1_gather : GoodIn wsX6_blockOf wsX1_gather := goodIn_r _ [9, 10, 11, 12, 13, 14, 15, 16, 17, 18, 19, 20, 21, 22, 23, 24, 25, 26, 27, 28, 29, 30, 31, 32, 33, 34, 35, 36, 37, 38, 39, 40, 41, 42, 43, 44, 45, 46, 47, 48, 49, 50, 51, 52, 53, 54, 55, 56, 57, 58, 59, 60, 61, 62, 63, 64, 65, 66, 67, 68, 69, 70, 71, 72, 73, 74, 75, 76, 8, 77, 78, 79, 80, 81, 82, 83, 115, 116, 117, 118, 119, 120, 121, 122, 123, 124, 125, 126, 127, 128, 129] (by decide +kernel) (by decide +kernel)
set_option maxRecDepth 20000 in
theorem gX6_blockOf_X1_gather : GoodIn wsX6_blockOf (wsV RX6 176 RX1 yX1_gather wsX1_gather) := goodIn_app (goodIn_of _ (by decide +kernel)) ggX6_blockOf_X1_gather
set_option maxRecDepth 20000 in
theorem ggX6_blockOf_X1_inOrder : GoodIn wsX6_blockOf wsX1_inOrder := goodIn_r _ [87, 10, 88, 89, 90, 8, 91, 92, 93, 94, 95, 96, 97, 98, 99, 79, 100, 101, 102, 103, 104, 105, 106, 80, 81, 82, 83, 78, 115, 116, 117] (by decide +kernel) (by decide +kernel)
set_option maxRecDepth 20000 in
theorem gX6_blockOf_X1_inOrder : GoodIn wsX6_blockOf (wsV RX6 179 RX1 yX1_inOrder wsX1_inOrder) := goodIn_app (goodIn_of _ (by decide +kernel)) ggX6_blockOf_X1_inOrder
set_option maxRecDepth 20000 in
theorem ggX6_blockOf_X1_membersOf : GoodIn wsX6_blockOf wsX1_membersOf := goodIn_r _ [99, 10, 79, 115, 116, 117] (by decide +kernel) (by decide +kernel)
set_option maxRecDepth 20000 in
theorem gX6_blockOf_X1_membersOf : GoodIn wsX6_blockOf (wsV RX6 183 RX1 yX1_membersOf wsX1_membersOf) := goodIn_app (goodIn_of _ (by decide +kernel)) ggX6_blockOf_X1_membersOf
set_option maxRecDepth 20000 in
theorem ggX6_blockOf_X1_shiftOf : GoodIn wsX6_blockOf wsX1_shiftOf := goodIn_r _ [83, 10, 78, 115, 116, 117] (by decide +kernel) (by decide +kernel)
set_option maxRecDepth 20000 in
theorem gX6_blockOf_X1_shiftOf : GoodIn wsX6_blockOf (wsV RX6 186 RX1 yX1_shiftOf wsX1_shiftOf) := goodIn_app (goodIn_of _ (by decide +kernel)) ggX6_blockOf_X1_shiftOf
theorem dX6_blockOf_0 : decode cX6_blockOf 0 = .ok (.iload_n 1, 1) := by decide +kernel
theorem dX6_blockOf_1 : decode cX6_blockOf 1 = .ok (.ifCond .lt 12, 3) := by decide +kernel
theorem dX6_blockOf_4 : decode cX6_blockOf 4 = .ok (.iload_n 2, 1) := by decide +kernel
theorem dX6_blockOf_5 : decode cX6_blockOf 5 = .ok (.ifCond .lt 8, 3) := by decide +kernel
theorem dX6_blockOf_8 : decode cX6_blockOf 8 = .ok (.iload_n 2, 1) := by decide +kernel
theorem dX6_blockOf_9 : decode cX6_blockOf 9 = .ok (.iconst 1, 1) := by decide +kernel
theorem dX6_blockOf_10 : decode cX6_blockOf 10 = .ok (.if_icmp .le 6, 3) := by decide +kernel
theorem dX6_blockOf_13 : decode cX6_blockOf 13 = .ok (.ldc 60, 2) := by decide +kernel
theorem dX6_blockOf_15 : decode cX6_blockOf 15 = .ok (.ireturn, 1) := by decide +kernel
theorem dX6_blockOf_16 : decode cX6_blockOf 16 = .ok (.aload_n 0, 1) := by decide +kernel
theorem dX6_blockOf_17 : decode cX6_blockOf 17 = .ok (.getfield 36, 3) := by decide +kernel
theorem dX6_blockOf_20 : decode cX6_blockOf 20 = .ok (.aload_n 0, 1) := by decide +kernel
theorem dX6_blockOf_21 : decode cX6_blockOf 21 = .ok (.getfield 10, 3) := by decide +kernel
theorem dX6_blockOf_24 : decode cX6_blockOf 24 = .ok (.invokevirtual 176, 3) := by decide +kernel
theorem dX6_blockOf_27 : decode cX6_blockOf 27 = .ok (.aload_n 0, 1) := by decide +kernel
theorem dX6_blockOf_28 : decode cX6_blockOf 28 = .ok (.getfield 36, 3) := by decide +kernel
theorem dX6_blockOf_31 : decode cX6_blockOf 31 = .ok (.iload_n 1, 1) := by decide +kernel
theorem dX6_blockOf_32 : decode cX6_blockOf 32 = .ok (.invokevirtual 179, 3) := by decide +kernel
theorem dX6_blockOf_35 : decode cX6_blockOf 35 = .ok (.istore_n 3, 1) := by decide +kernel
theorem dX6_blockOf_36 : decode cX6_blockOf 36 = .ok (.iload_n 3, 1) := by decide +kernel
theorem dX6_blockOf_37 : decode cX6_blockOf 37 = .ok (.iconst (-1), 1) := by decide +kernel
theorem dX6_blockOf_38 : decode cX6_blockOf 38 = .ok (.if_icmp .ne 6, 3) := by decide +kernel
theorem dX6_blockOf_41 : decode cX6_blockOf 41 = .ok (.ldc 182, 2) := by decide +kernel
theorem dX6_blockOf_43 : decode cX6_blockOf 43 = .ok (.ireturn, 1) := by decide +kernel
theorem dX6_blockOf_44 : decode cX6_blockOf 44 = .ok (.iload_n 2, 1) := by decide +kernel
theorem dX6_blockOf_45 : decode cX6_blockOf 45 = .ok (.ifCond .ne 14, 3) := by decide +kernel
theorem dX6_blockOf_48 : decode cX6_blockOf 48 = .ok (.aload_n 0, 1) := by decide +kernel
theorem dX6_blockOf_49 : decode cX6_blockOf 49 = .ok (.getfield 36, 3) := by decide +kernel
theorem dX6_blockOf_52 : decode cX6_blockOf 52 = .ok (.iload_n 3, 1) := by decide +kernel
theorem dX6_blockOf_53 : decode cX6_blockOf 53 = .ok (.invokevirtual 183, 3) := by decide +kernel
theorem dX6_blockOf_56 : decode cX6_blockOf 56 = .ok (.goto 14, 3) := by decide +kernel
theorem dX6_blockOf_59 : decode cX6_blockOf 59 = .ok (.aload_n 0, 1) := by decide +kernel
theorem dX6_blockOf_60 : decode cX6_blockOf 60 = .ok (.getfield 36, 3) := by decide +kernel
theorem dX6_blockOf_63 : decode cX6_blockOf 63 = .ok (.iload_n 3, 1) := by decide +kernel
theorem dX6_blockOf_64 : decode cX6_blockOf 64 = .ok (.invokevirtual 186, 3) := by decide +kernel
theorem dX6_blockOf_67 : decode cX6_blockOf 67 = .ok (.bipush 100, 2) := by decide +kernel
theorem dX6_blockOf_69 : decode cX6_blockOf 69 = .ok (.iadd, 1) := by decide +kernel
theorem dX6_blockOf_70 : decode cX6_blockOf 70 = .ok (.ireturn, 1) := by decide +kernel
set_option maxRecDepth 20000 in
theorem ggX6_count_X4_size : GoodIn wsX6_count wsX4_size := goodIn_r _ [10, 11, 64, 65, 66, 67] (by decide +kernel) (by decide +kernel)
set_option maxRecDepth 20000 in
theorem gX6_count_X4_size : GoodIn wsX6_count (wsV RX6 74 RX4 yX4_size wsX4_size) := goodIn_app (goodIn_of _ (by decide +kernel)) ggX6_count_X4_size
set_option maxRecDepth 20000 in
theorem ggX6_count_X5_anchorCount : GoodIn wsX6_count wsX5_anchorCount := goodIn_r _ [16, 17, 59, 60, 61, 62, 63] (by decide +kernel) (by decide +kernel)
set_option maxRecDepth 20000 in
theorem gX6_count_X5_anchorCount : GoodIn wsX6_count (wsV RX6 103 RX5 yX5_anchorCount wsX5_anchorCount) := goodIn_app (goodIn_of _ (by decide +kernel)) ggX6_count_X5_anchorCount
set_option maxRecDepth 20000 in
theorem ggX6_count_X4_unlikeWords : GoodIn wsX6_count wsX4_unlikeWords := goodIn_r _ [21, 11, 22, 23, 24, 9, 25, 26, 27, 28, 29, 30, 64, 65, 66, 67] (by decide +kernel) (by decide +kernel)
set_option maxRecDepth 20000 in
theorem gX6_count_X4_unlikeWords : GoodIn wsX6_count (wsV RX6 199 RX4 yX4_unlikeWords wsX4_unlikeWords) := goodIn_app (goodIn_of _ (by decide +kernel)) ggX6_count_X4_unlikeWords
set_option maxRecDepth 20000 in
theorem ggX6_count_X5_edits : GoodIn wsX6_count wsX5_edits := goodIn_r _ [34, 35, 59, 60, 61, 62, 63] (by decide +kernel) (by decide +kernel)
set_option maxRecDepth 20000 in
theorem gX6_count_X5_edits : GoodIn wsX6_count (wsV RX6 202 RX5 yX5_edits wsX5_edits) := goodIn_app (goodIn_of _ (by decide +kernel)) ggX6_count_X5_edits
set_option maxRecDepth 20000 in
theorem ggX6_count_X3_size : GoodIn wsX6_count wsX3_size := goodIn_r _ [40, 41, 68, 69, 70] (by decide +kernel) (by decide +kernel)
set_option maxRecDepth 20000 in
theorem gX6_count_X3_size : GoodIn wsX6_count (wsV RX6 205 RX3 yX3_size wsX3_size) := goodIn_app (goodIn_of _ (by decide +kernel)) ggX6_count_X3_size
set_option maxRecDepth 20000 in
theorem ggX6_count_X2_length : GoodIn wsX6_count wsX2_length := goodIn_r _ [46, 47, 71, 72, 73, 74, 75, 76] (by decide +kernel) (by decide +kernel)
set_option maxRecDepth 20000 in
theorem gX6_count_X2_length : GoodIn wsX6_count (wsV RX6 206 RX2 yX2_length wsX2_length) := goodIn_app (goodIn_of _ (by decide +kernel)) ggX6_count_X2_length
set_option maxRecDepth 20000 in
theorem ggX6_count_X5_setting : GoodIn wsX6_count wsX5_setting := goodIn_r _ [51, 52, 59, 60, 61, 62, 63] (by decide +kernel) (by decide +kernel)
set_option maxRecDepth 20000 in
theorem gX6_count_X5_setting : GoodIn wsX6_count (wsV RX6 142 RX5 yX5_setting wsX5_setting) := goodIn_app (goodIn_of _ (by decide +kernel)) ggX6_count_X5_setting
theorem dX6_count_0 : decode cX6_count 0 = .ok (.iload_n 1, 1) := by decide +kernel
theorem dX6_count_1 : decode cX6_count 1 = .ok (.tableswitch 181 0 24 #[115, 126, 134, 145, 153, 161, 181, 181, 181, 181, 181, 181, 181, 181, 181, 181, 181, 181, 181, 181, 169, 169, 169, 169, 169], 115) := by decide +kernel
theorem dX6_count_116 : decode cX6_count 116 = .ok (.aload_n 0, 1) := by decide +kernel
theorem dX6_count_117 : decode cX6_count 117 = .ok (.getfield 10, 3) := by decide +kernel
theorem dX6_count_120 : decode cX6_count 120 = .ok (.getfield 47, 3) := by decide +kernel
theorem dX6_count_123 : decode cX6_count 123 = .ok (.invokevirtual 74, 3) := by decide +kernel
theorem dX6_count_126 : decode cX6_count 126 = .ok (.ireturn, 1) := by decide +kernel
theorem dX6_count_127 : decode cX6_count 127 = .ok (.aload_n 0, 1) := by decide +kernel
theorem dX6_count_128 : decode cX6_count 128 = .ok (.getfield 10, 3) := by decide +kernel
theorem dX6_count_131 : decode cX6_count 131 = .ok (.invokevirtual 103, 3) := by decide +kernel
theorem dX6_count_134 : decode cX6_count 134 = .ok (.ireturn, 1) := by decide +kernel
theorem dX6_count_135 : decode cX6_count 135 = .ok (.aload_n 0, 1) := by decide +kernel
theorem dX6_count_136 : decode cX6_count 136 = .ok (.getfield 10, 3) := by decide +kernel
theorem dX6_count_139 : decode cX6_count 139 = .ok (.getfield 47, 3) := by decide +kernel
theorem dX6_count_142 : decode cX6_count 142 = .ok (.invokevirtual 199, 3) := by decide +kernel
theorem dX6_count_145 : decode cX6_count 145 = .ok (.ireturn, 1) := by decide +kernel
theorem dX6_count_146 : decode cX6_count 146 = .ok (.aload_n 0, 1) := by decide +kernel
theorem dX6_count_147 : decode cX6_count 147 = .ok (.getfield 10, 3) := by decide +kernel
theorem dX6_count_150 : decode cX6_count 150 = .ok (.invokevirtual 202, 3) := by decide +kernel
theorem dX6_count_153 : decode cX6_count 153 = .ok (.ireturn, 1) := by decide +kernel
theorem dX6_count_154 : decode cX6_count 154 = .ok (.aload_n 0, 1) := by decide +kernel
theorem dX6_count_155 : decode cX6_count 155 = .ok (.getfield 22, 3) := by decide +kernel
theorem dX6_count_158 : decode cX6_count 158 = .ok (.invokevirtual 205, 3) := by decide +kernel
theorem dX6_count_161 : decode cX6_count 161 = .ok (.ireturn, 1) := by decide +kernel
theorem dX6_count_162 : decode cX6_count 162 = .ok (.aload_n 0, 1) := by decide +kernel
theorem dX6_count_163 : decode cX6_count 163 = .ok (.getfield 29, 3) := by decide +kernel
theorem dX6_count_166 : decode cX6_count 166 = .ok (.invokevirtual 206, 3) := by decide +kernel
theorem dX6_count_169 : decode cX6_count 169 = .ok (.ireturn, 1) := by decide +kernel
theorem dX6_count_170 : decode cX6_count 170 = .ok (.aload_n 0, 1) := by decide +kernel
theorem dX6_count_171 : decode cX6_count 171 = .ok (.getfield 10, 3) := by decide +kernel
theorem dX6_count_174 : decode cX6_count 174 = .ok (.iload_n 1, 1) := by decide +kernel
theorem dX6_count_175 : decode cX6_count 175 = .ok (.bipush 20, 2) := by decide +kernel
theorem dX6_count_177 : decode cX6_count 177 = .ok (.isub, 1) := by decide +kernel
theorem dX6_count_178 : decode cX6_count 178 = .ok (.invokevirtual 142, 3) := by decide +kernel
theorem dX6_count_181 : decode cX6_count 181 = .ok (.ireturn, 1) := by decide +kernel
theorem dX6_count_182 : decode cX6_count 182 = .ok (.ldc 60, 2) := by decide +kernel
theorem dX6_count_184 : decode cX6_count 184 = .ok (.ireturn, 1) := by decide +kernel
set_option maxRecDepth 20000 in
theorem ggX6_undo_X3_latest : GoodIn wsX6_undo wsX3_latest := goodIn_r _ [8, 9, 10, 11, 12, 7, 13, 14, 15, 71, 72, 73] (by decide +kernel) (by decide +kernel)
set_option maxRecDepth 20000 in
theorem gX6_undo_X3_latest : GoodIn wsX6_undo (wsV RX6 209 RX3 yX3_latest wsX3_latest) := goodIn_app (goodIn_of _ (by decide +kernel)) ggX6_undo_X3_latest
set_option maxRecDepth 20000 in
theorem ggX6_undo_X5_copyFrom : GoodIn wsX6_undo wsX5_copyFrom := goodIn_r _ [20, 21, 22, 23, 24, 25, 26, 27, 28, 29, 30, 31, 32, 33, 34, 35, 36, 37, 38, 19, 39, 40, 41, 42, 43, 44, 45, 46, 47, 48, 49, 50, 51, 52, 53, 54, 55, 56, 74, 75, 76, 77, 78, 79, 80, 81, 82, 83, 84, 85] (by decide +kernel) (by decide +kernel)
set_option maxRecDepth 20000 in
theorem gX6_undo_X5_copyFrom : GoodIn wsX6_undo (wsV RX6 213 RX5 yX5_copyFrom wsX5_copyFrom) := goodIn_app (goodIn_of _ (by decide +kernel)) ggX6_undo_X5_copyFrom
set_option maxRecDepth 20000 in
theorem ggX6_undo_X3_forgetLatest : GoodIn wsX6_undo wsX3_forgetLatest := goodIn_r _ [60, 9, 71, 72, 73] (by decide +kernel) (by decide +kernel)
set_option maxRecDepth 20000 in
theorem gX6_undo_X3_forgetLatest : GoodIn wsX6_undo (wsV RX6 216 RX3 yX3_forgetLatest wsX3_forgetLatest) := goodIn_app (goodIn_of _ (by decide +kernel)) ggX6_undo_X3_forgetLatest
set_option maxRecDepth 20000 in
theorem ggX6_undo_X3_size : GoodIn wsX6_undo wsX3_size := goodIn_r _ [64, 9, 71, 72, 73] (by decide +kernel) (by decide +kernel)
set_option maxRecDepth 20000 in
theorem gX6_undo_X3_size : GoodIn wsX6_undo (wsV RX6 205 RX3 yX3_size wsX3_size) := goodIn_app (goodIn_of _ (by decide +kernel)) ggX6_undo_X3_size
theorem dX6_undo_0 : decode cX6_undo 0 = .ok (.aload_n 0, 1) := by decide +kernel
theorem dX6_undo_1 : decode cX6_undo 1 = .ok (.getfield 22, 3) := by decide +kernel
theorem dX6_undo_4 : decode cX6_undo 4 = .ok (.invokevirtual 209, 3) := by decide +kernel
theorem dX6_undo_7 : decode cX6_undo 7 = .ok (.astore_n 1, 1) := by decide +kernel
theorem dX6_undo_8 : decode cX6_undo 8 = .ok (.aload_n 1, 1) := by decide +kernel
theorem dX6_undo_9 : decode cX6_undo 9 = .ok (.ifnonnull 6, 3) := by decide +kernel
theorem dX6_undo_12 : decode cX6_undo 12 = .ok (.ldc 124, 2) := by decide +kernel
theorem dX6_undo_14 : decode cX6_undo 14 = .ok (.ireturn, 1) := by decide +kernel
theorem dX6_undo_15 : decode cX6_undo 15 = .ok (.aload_n 0, 1) := by decide +kernel
theorem dX6_undo_16 : decode cX6_undo 16 = .ok (.getfield 10, 3) := by decide +kernel
theorem dX6_undo_19 : decode cX6_undo 19 = .ok (.aload_n 1, 1) := by decide +kernel
theorem dX6_undo_20 : decode cX6_undo 20 = .ok (.invokevirtual 213, 3) := by decide +kernel
theorem dX6_undo_23 : decode cX6_undo 23 = .ok (.aload_n 0, 1) := by decide +kernel
theorem dX6_undo_24 : decode cX6_undo 24 = .ok (.getfield 22, 3) := by decide +kernel
theorem dX6_undo_27 : decode cX6_undo 27 = .ok (.invokevirtual 216, 3) := by decide +kernel
theorem dX6_undo_30 : decode cX6_undo 30 = .ok (.aload_n 0, 1) := by decide +kernel
theorem dX6_undo_31 : decode cX6_undo 31 = .ok (.getfield 22, 3) := by decide +kernel
theorem dX6_undo_34 : decode cX6_undo 34 = .ok (.invokevirtual 205, 3) := by decide +kernel
theorem dX6_undo_37 : decode cX6_undo 37 = .ok (.ireturn, 1) := by decide +kernel
theorem dX6_isWord_0 : decode cX6_isWord 0 = .ok (.iload_n 0, 1) := by decide +kernel
theorem dX6_isWord_1 : decode cX6_isWord 1 = .ok (.ifCond .lt 13, 3) := by decide +kernel
theorem dX6_isWord_4 : decode cX6_isWord 4 = .ok (.iload_n 0, 1) := by decide +kernel
theorem dX6_isWord_5 : decode cX6_isWord 5 = .ok (.bipush 99, 2) := by decide +kernel
theorem dX6_isWord_7 : decode cX6_isWord 7 = .ok (.if_icmp .gt 7, 3) := by decide +kernel
theorem dX6_isWord_10 : decode cX6_isWord 10 = .ok (.iconst 1, 1) := by decide +kernel
theorem dX6_isWord_11 : decode cX6_isWord 11 = .ok (.goto 4, 3) := by decide +kernel
theorem dX6_isWord_14 : decode cX6_isWord 14 = .ok (.iconst 0, 1) := by decide +kernel
theorem dX6_isWord_15 : decode cX6_isWord 15 = .ok (.ireturn, 1) := by decide +kernel
theorem dX6_orNotFound_0 : decode cX6_orNotFound 0 = .ok (.iload_n 0, 1) := by decide +kernel
theorem dX6_orNotFound_1 : decode cX6_orNotFound 1 = .ok (.iconst (-1), 1) := by decide +kernel
theorem dX6_orNotFound_2 : decode cX6_orNotFound 2 = .ok (.if_icmp .ne 8, 3) := by decide +kernel
theorem dX6_orNotFound_5 : decode cX6_orNotFound 5 = .ok (.ldc 182, 2) := by decide +kernel
theorem dX6_orNotFound_7 : decode cX6_orNotFound 7 = .ok (.goto 4, 3) := by decide +kernel
theorem dX6_orNotFound_10 : decode cX6_orNotFound 10 = .ok (.iload_n 0, 1) := by decide +kernel
theorem dX6_orNotFound_11 : decode cX6_orNotFound 11 = .ok (.ireturn, 1) := by decide +kernel
set_option maxRecDepth 20000 in
theorem ggX6_scoreOrNotFound_X5_scoreOf : GoodIn wsX6_scoreOrNotFound wsX5_scoreOf := goodIn_r _ [7, 8, 9, 10, 11, 12, 13, 14, 15, 16, 17, 18, 19, 20, 21, 22, 23, 24, 25, 26, 27, 28, 6, 29, 30, 37, 38, 39, 40, 41, 42, 43, 44, 45, 46, 47, 48] (by decide +kernel) (by decide +kernel)
set_option maxRecDepth 20000 in
theorem gX6_scoreOrNotFound_X5_scoreOf : GoodIn wsX6_scoreOrNotFound (wsV RX6 170 RX5 yX5_scoreOf wsX5_scoreOf) := goodIn_app (goodIn_of _ (by decide +kernel)) ggX6_scoreOrNotFound_X5_scoreOf
theorem dX6_scoreOrNotFound_0 : decode cX6_scoreOrNotFound 0 = .ok (.iload_n 2, 1) := by decide +kernel
theorem dX6_scoreOrNotFound_1 : decode cX6_scoreOrNotFound 1 = .ok (.iconst (-1), 1) := by decide +kernel
theorem dX6_scoreOrNotFound_2 : decode cX6_scoreOrNotFound 2 = .ok (.if_icmp .ne 8, 3) := by decide +kernel
theorem dX6_scoreOrNotFound_5 : decode cX6_scoreOrNotFound 5 = .ok (.ldc 182, 2) := by decide +kernel
theorem dX6_scoreOrNotFound_7 : decode cX6_scoreOrNotFound 7 = .ok (.goto 12, 3) := by decide +kernel
theorem dX6_scoreOrNotFound_10 : decode cX6_scoreOrNotFound 10 = .ok (.aload_n 0, 1) := by decide +kernel
theorem dX6_scoreOrNotFound_11 : decode cX6_scoreOrNotFound 11 = .ok (.getfield 10, 3) := by decide +kernel
theorem dX6_scoreOrNotFound_14 : decode cX6_scoreOrNotFound 14 = .ok (.aload_n 1, 1) := by decide +kernel
theorem dX6_scoreOrNotFound_15 : decode cX6_scoreOrNotFound 15 = .ok (.iload_n 2, 1) := by decide +kernel
theorem dX6_scoreOrNotFound_16 : decode cX6_scoreOrNotFound 16 = .ok (.invokevirtual 170, 3) := by decide +kernel
theorem dX6_scoreOrNotFound_19 : decode cX6_scoreOrNotFound 19 = .ok (.ireturn, 1) := by decide +kernel
theorem dJ6_bitCount_0f7a4_0 : decode cJ6_bitCount_0f7a4 0 = .ok (.iload_n 0, 1) := by decide +kernel
theorem dJ6_bitCount_0f7a4_1 : decode cJ6_bitCount_0f7a4 1 = .ok (.iload_n 0, 1) := by decide +kernel
theorem dJ6_bitCount_0f7a4_2 : decode cJ6_bitCount_0f7a4 2 = .ok (.iconst 1, 1) := by decide +kernel
theorem dJ6_bitCount_0f7a4_3 : decode cJ6_bitCount_0f7a4 3 = .ok (.iushr, 1) := by decide +kernel
theorem dJ6_bitCount_0f7a4_4 : decode cJ6_bitCount_0f7a4 4 = .ok (.ldc_w 265, 3) := by decide +kernel
theorem dJ6_bitCount_0f7a4_7 : decode cJ6_bitCount_0f7a4 7 = .ok (.iand, 1) := by decide +kernel
theorem dJ6_bitCount_0f7a4_8 : decode cJ6_bitCount_0f7a4 8 = .ok (.isub, 1) := by decide +kernel
theorem dJ6_bitCount_0f7a4_9 : decode cJ6_bitCount_0f7a4 9 = .ok (.istore_n 0, 1) := by decide +kernel
theorem dJ6_bitCount_0f7a4_10 : decode cJ6_bitCount_0f7a4 10 = .ok (.iload_n 0, 1) := by decide +kernel
theorem dJ6_bitCount_0f7a4_11 : decode cJ6_bitCount_0f7a4 11 = .ok (.ldc_w 266, 3) := by decide +kernel
theorem dJ6_bitCount_0f7a4_14 : decode cJ6_bitCount_0f7a4 14 = .ok (.iand, 1) := by decide +kernel
theorem dJ6_bitCount_0f7a4_15 : decode cJ6_bitCount_0f7a4 15 = .ok (.iload_n 0, 1) := by decide +kernel
theorem dJ6_bitCount_0f7a4_16 : decode cJ6_bitCount_0f7a4 16 = .ok (.iconst 2, 1) := by decide +kernel
theorem dJ6_bitCount_0f7a4_17 : decode cJ6_bitCount_0f7a4 17 = .ok (.iushr, 1) := by decide +kernel
theorem dJ6_bitCount_0f7a4_18 : decode cJ6_bitCount_0f7a4 18 = .ok (.ldc_w 266, 3) := by decide +kernel
theorem dJ6_bitCount_0f7a4_21 : decode cJ6_bitCount_0f7a4 21 = .ok (.iand, 1) := by decide +kernel
theorem dJ6_bitCount_0f7a4_22 : decode cJ6_bitCount_0f7a4 22 = .ok (.iadd, 1) := by decide +kernel
theorem dJ6_bitCount_0f7a4_23 : decode cJ6_bitCount_0f7a4 23 = .ok (.istore_n 0, 1) := by decide +kernel
theorem dJ6_bitCount_0f7a4_24 : decode cJ6_bitCount_0f7a4 24 = .ok (.iload_n 0, 1) := by decide +kernel
theorem dJ6_bitCount_0f7a4_25 : decode cJ6_bitCount_0f7a4 25 = .ok (.iload_n 0, 1) := by decide +kernel
theorem dJ6_bitCount_0f7a4_26 : decode cJ6_bitCount_0f7a4 26 = .ok (.iconst 4, 1) := by decide +kernel
theorem dJ6_bitCount_0f7a4_27 : decode cJ6_bitCount_0f7a4 27 = .ok (.iushr, 1) := by decide +kernel
theorem dJ6_bitCount_0f7a4_28 : decode cJ6_bitCount_0f7a4 28 = .ok (.iadd, 1) := by decide +kernel
theorem dJ6_bitCount_0f7a4_29 : decode cJ6_bitCount_0f7a4 29 = .ok (.ldc_w 267, 3) := by decide +kernel
theorem dJ6_bitCount_0f7a4_32 : decode cJ6_bitCount_0f7a4 32 = .ok (.iand, 1) := by decide +kernel
theorem dJ6_bitCount_0f7a4_33 : decode cJ6_bitCount_0f7a4 33 = .ok (.istore_n 0, 1) := by decide +kernel
theorem dJ6_bitCount_0f7a4_34 : decode cJ6_bitCount_0f7a4 34 = .ok (.iload_n 0, 1) := by decide +kernel
theorem dJ6_bitCount_0f7a4_35 : decode cJ6_bitCount_0f7a4 35 = .ok (.iload_n 0, 1) := by decide +kernel
theorem dJ6_bitCount_0f7a4_36 : decode cJ6_bitCount_0f7a4 36 = .ok (.bipush 8, 2) := by decide +kernel
theorem dJ6_bitCount_0f7a4_38 : decode cJ6_bitCount_0f7a4 38 = .ok (.iushr, 1) := by decide +kernel
theorem dJ6_bitCount_0f7a4_39 : decode cJ6_bitCount_0f7a4 39 = .ok (.iadd, 1) := by decide +kernel
theorem dJ6_bitCount_0f7a4_40 : decode cJ6_bitCount_0f7a4 40 = .ok (.istore_n 0, 1) := by decide +kernel
theorem dJ6_bitCount_0f7a4_41 : decode cJ6_bitCount_0f7a4 41 = .ok (.iload_n 0, 1) := by decide +kernel
theorem dJ6_bitCount_0f7a4_42 : decode cJ6_bitCount_0f7a4 42 = .ok (.iload_n 0, 1) := by decide +kernel
theorem dJ6_bitCount_0f7a4_43 : decode cJ6_bitCount_0f7a4 43 = .ok (.bipush 16, 2) := by decide +kernel
theorem dJ6_bitCount_0f7a4_45 : decode cJ6_bitCount_0f7a4 45 = .ok (.iushr, 1) := by decide +kernel
theorem dJ6_bitCount_0f7a4_46 : decode cJ6_bitCount_0f7a4 46 = .ok (.iadd, 1) := by decide +kernel
theorem dJ6_bitCount_0f7a4_47 : decode cJ6_bitCount_0f7a4 47 = .ok (.istore_n 0, 1) := by decide +kernel
theorem dJ6_bitCount_0f7a4_48 : decode cJ6_bitCount_0f7a4 48 = .ok (.iload_n 0, 1) := by decide +kernel
theorem dJ6_bitCount_0f7a4_49 : decode cJ6_bitCount_0f7a4 49 = .ok (.bipush 63, 2) := by decide +kernel
theorem dJ6_bitCount_0f7a4_51 : decode cJ6_bitCount_0f7a4 51 = .ok (.iand, 1) := by decide +kernel
theorem dJ6_bitCount_0f7a4_52 : decode cJ6_bitCount_0f7a4 52 = .ok (.ireturn, 1) := by decide +kernel
theorem dJ9_abs_0f7a4_0 : decode cJ9_abs_0f7a4 0 = .ok (.iload_n 0, 1) := by decide +kernel
theorem dJ9_abs_0f7a4_1 : decode cJ9_abs_0f7a4 1 = .ok (.ifCond .ge 8, 3) := by decide +kernel
theorem dJ9_abs_0f7a4_4 : decode cJ9_abs_0f7a4 4 = .ok (.iload_n 0, 1) := by decide +kernel
theorem dJ9_abs_0f7a4_5 : decode cJ9_abs_0f7a4 5 = .ok (.ineg, 1) := by decide +kernel
theorem dJ9_abs_0f7a4_6 : decode cJ9_abs_0f7a4 6 = .ok (.goto 4, 3) := by decide +kernel
theorem dJ9_abs_0f7a4_9 : decode cJ9_abs_0f7a4 9 = .ok (.iload_n 0, 1) := by decide +kernel
theorem dJ9_abs_0f7a4_10 : decode cJ9_abs_0f7a4 10 = .ok (.ireturn, 1) := by decide +kernel
