set_option maxRecDepth 20000 in
theorem ggX6_init_X5_init : GoodIn wsX6_init wsX5_init := goodIn_r _ [27, 28, 2, 3, 29, 30, 31, 32, 33, 34, 35, 36, 22, 23, 37, 38, 39, 40, 41, 42, 43, 44, 45, 46, 91, 92, 93, 94, 65, 66, 67, 68, 69, 88, 89, 90] (by decide +kernel) (by decide +kernel)
set_option maxRecDepth 20000 in
theorem gX6_init_X5_init : GoodIn wsX6_init (wsX5_init) := ggX6_init_X5_init
set_option maxRecDepth 20000 in
theorem ggX6_init_X3_init : GoodIn wsX6_init wsX3_init := goodIn_r _ [49, 50, 2, 3, 51, 52, 5, 6, 53, 26, 27, 28, 29, 30, 31, 32, 33, 34, 35, 36, 22, 23, 37, 38, 39, 40, 41, 42, 43, 44, 45, 46, 76, 77, 78, 65, 66, 67, 68, 69, 91, 92, 93, 94, 88, 89, 90] (by decide +kernel) (by decide +kernel)
set_option maxRecDepth 20000 in
theorem gX6_init_X3_init : GoodIn wsX6_init (wsX3_init) := ggX6_init_X3_init
set_option maxRecDepth 20000 in
theorem ggX6_init_X2_init : GoodIn wsX6_init wsX2_init := goodIn_r _ [55, 56, 2, 3, 57, 58, 35, 59, 79, 80, 81, 82, 83, 84] (by decide +kernel) (by decide +kernel)
set_option maxRecDepth 20000 in
theorem gX6_init_X2_init_n28 : GoodIn wsX6_init (wsX2_init) := ggX6_init_X2_init
set_option maxRecDepth 20000 in
theorem ggX6_init_X1_init : GoodIn wsX6_init wsX1_init := goodIn_r _ [61, 62, 2, 3, 35, 63, 64, 85, 86, 87] (by decide +kernel) (by decide +kernel)
set_option maxRecDepth 20000 in
theorem gX6_init_X1_init_n35 : GoodIn wsX6_init (wsX1_init) := ggX6_init_X1_init
set_option maxRecDepth 20000 in
theorem ggX6_init_X0_init : GoodIn wsX6_init wsX0_init := goodIn_r _ [44, 45, 2, 3, 35, 46, 88, 89, 90] (by decide +kernel) (by decide +kernel)
set_option maxRecDepth 20000 in
theorem gX6_init_X0_init_n42 : GoodIn wsX6_init (wsX0_init) := ggX6_init_X0_init
theorem dX6_init_0 : decode cX6_init 0 = .ok (.aload_n 0, 1) := by decide +kernel
theorem dX6_init_1 : decode cX6_init 1 = .ok (.invokespecial 1, 3) := by decide +kernel
theorem dX6_init_4 : decode cX6_init 4 = .ok (.aload_n 0, 1) := by decide +kernel
theorem dX6_init_5 : decode cX6_init 5 = .ok (.new 7, 3) := by decide +kernel
theorem dX6_init_8 : decode cX6_init 8 = .ok (.dup, 1) := by decide +kernel
theorem dX6_init_9 : decode cX6_init 9 = .ok (.invokespecial 9, 3) := by decide +kernel
theorem dX6_init_12 : decode cX6_init 12 = .ok (.putfield 10, 3) := by decide +kernel
theorem dX6_init_15 : decode cX6_init 15 = .ok (.aload_n 0, 1) := by decide +kernel
theorem dX6_init_16 : decode cX6_init 16 = .ok (.new 7, 3) := by decide +kernel
theorem dX6_init_19 : decode cX6_init 19 = .ok (.dup, 1) := by decide +kernel
theorem dX6_init_20 : decode cX6_init 20 = .ok (.invokespecial 9, 3) := by decide +kernel
theorem dX6_init_23 : decode cX6_init 23 = .ok (.putfield 16, 3) := by decide +kernel
theorem dX6_init_26 : decode cX6_init 26 = .ok (.aload_n 0, 1) := by decide +kernel
theorem dX6_init_27 : decode cX6_init 27 = .ok (.new 19, 3) := by decide +kernel
theorem dX6_init_30 : decode cX6_init 30 = .ok (.dup, 1) := by decide +kernel
theorem dX6_init_31 : decode cX6_init 31 = .ok (.invokespecial 21, 3) := by decide +kernel
theorem dX6_init_34 : decode cX6_init 34 = .ok (.putfield 22, 3) := by decide +kernel
theorem dX6_init_37 : decode cX6_init 37 = .ok (.aload_n 0, 1) := by decide +kernel
theorem dX6_init_38 : decode cX6_init 38 = .ok (.new 26, 3) := by decide +kernel
theorem dX6_init_41 : decode cX6_init 41 = .ok (.dup, 1) := by decide +kernel
theorem dX6_init_42 : decode cX6_init 42 = .ok (.invokespecial 28, 3) := by decide +kernel
theorem dX6_init_45 : decode cX6_init 45 = .ok (.putfield 29, 3) := by decide +kernel
theorem dX6_init_48 : decode cX6_init 48 = .ok (.aload_n 0, 1) := by decide +kernel
theorem dX6_init_49 : decode cX6_init 49 = .ok (.new 33, 3) := by decide +kernel
theorem dX6_init_52 : decode cX6_init 52 = .ok (.dup, 1) := by decide +kernel
theorem dX6_init_53 : decode cX6_init 53 = .ok (.invokespecial 35, 3) := by decide +kernel
theorem dX6_init_56 : decode cX6_init 56 = .ok (.putfield 36, 3) := by decide +kernel
theorem dX6_init_59 : decode cX6_init 59 = .ok (.aload_n 0, 1) := by decide +kernel
theorem dX6_init_60 : decode cX6_init 60 = .ok (.new 40, 3) := by decide +kernel
theorem dX6_init_63 : decode cX6_init 63 = .ok (.dup, 1) := by decide +kernel
theorem dX6_init_64 : decode cX6_init 64 = .ok (.invokespecial 42, 3) := by decide +kernel
theorem dX6_init_67 : decode cX6_init 67 = .ok (.putfield 43, 3) := by decide +kernel
theorem dX6_init_70 : decode cX6_init 70 = .ok (.return_, 1) := by decide +kernel
set_option maxRecDepth 20000 in
theorem ggX6_put_X4_takesAt : GoodIn wsX6_put wsX4_takesAt := goodIn_r _ [10, 11, 119, 120, 121, 122] (by decide +kernel) (by decide +kernel)
set_option maxRecDepth 20000 in
theorem gX6_put_X4_takesAt : GoodIn wsX6_put (wsV RX6 51 RX4 yX4_takesAt wsX4_takesAt) := goodIn_app (goodIn_of _ (by decide +kernel)) ggX6_put_X4_takesAt
set_option maxRecDepth 20000 in
theorem ggX6_put_X6_isWord : GoodIn wsX6_put wsX6_isWord := goodIn_r _ [15] (by decide +kernel) (by decide +kernel)
set_option maxRecDepth 20000 in
theorem gX6_put_X6_isWord : GoodIn wsX6_put (va_wsS RX6 57 yX6_isWord wsX6_isWord) := goodIn_app (goodIn_of _ (by decide +kernel)) ggX6_put_X6_isWord
set_option maxRecDepth 20000 in
theorem ggX6_put_X4_isFull : GoodIn wsX6_put wsX4_isFull := goodIn_r _ [19, 11, 20, 119, 120, 121, 122] (by decide +kernel) (by decide +kernel)
set_option maxRecDepth 20000 in
theorem gX6_put_X4_isFull : GoodIn wsX6_put (wsV RX6 61 RX4 yX4_isFull wsX4_isFull) := goodIn_app (goodIn_of _ (by decide +kernel)) ggX6_put_X4_isFull
set_option maxRecDepth 20000 in
theorem ggX6_put_X3_record : GoodIn wsX6_put wsX3_record := goodIn_r _ [25, 26, 27, 28, 29, 30, 24, 31, 32, 33, 34, 35, 36, 37, 38, 39, 40, 41, 42, 43, 44, 9, 45, 20, 11, 46, 47, 48, 49, 50, 51, 52, 53, 54, 55, 56, 57, 58, 59, 60, 61, 62, 63, 64, 65, 66, 67, 68, 69, 70, 123, 124, 125, 114, 115, 116, 117, 118, 119, 120, 121, 122, 126, 127, 128] (by decide +kernel) (by decide +kernel)
set_option maxRecDepth 20000 in
theorem gX6_put_X3_record : GoodIn wsX6_put (wsV RX6 66 RX3 yX3_record wsX3_record) := goodIn_app (goodIn_of _ (by decide +kernel)) ggX6_put_X3_record
set_option maxRecDepth 20000 in
theorem ggX6_put_X5_insertWord : GoodIn wsX6_put wsX5_insertWord := goodIn_r _ [74, 38, 75, 76, 77, 9, 78, 79, 11, 80, 7, 8, 10, 81, 17, 18, 19, 20, 82, 83, 84, 85, 86, 87, 88, 89, 90, 91, 92, 93, 94, 95, 96, 97, 36, 98, 41, 39, 50, 51, 52, 53, 54, 99, 100, 101, 58, 102, 61, 103, 114, 115, 116, 117, 118, 119, 120, 121, 122, 126, 127, 128] (by decide +kernel) (by decide +kernel)
set_option maxRecDepth 20000 in
theorem gX6_put_X5_insertWord : GoodIn wsX6_put (wsV RX6 70 RX5 yX5_insertWord wsX5_insertWord) := goodIn_app (goodIn_of _ (by decide +kernel)) ggX6_put_X5_insertWord
set_option maxRecDepth 20000 in
theorem ggX6_put_X4_size : GoodIn wsX6_put wsX4_size := goodIn_r _ [107, 11, 119, 120, 121, 122] (by decide +kernel) (by decide +kernel)
set_option maxRecDepth 20000 in
theorem gX6_put_X4_size : GoodIn wsX6_put (wsV RX6 74 RX4 yX4_size wsX4_size) := goodIn_app (goodIn_of _ (by decide +kernel)) ggX6_put_X4_size
theorem dX6_put_0 : decode cX6_put 0 = .ok (.aload_n 0, 1) := by decide +kernel
theorem dX6_put_1 : decode cX6_put 1 = .ok (.getfield 10, 3) := by decide +kernel
theorem dX6_put_4 : decode cX6_put 4 = .ok (.getfield 47, 3) := by decide +kernel
theorem dX6_put_7 : decode cX6_put 7 = .ok (.iload_n 1, 1) := by decide +kernel
theorem dX6_put_8 : decode cX6_put 8 = .ok (.invokevirtual 51, 3) := by decide +kernel
theorem dX6_put_11 : decode cX6_put 11 = .ok (.ifCond .eq 10, 3) := by decide +kernel
theorem dX6_put_14 : decode cX6_put 14 = .ok (.iload_n 2, 1) := by decide +kernel
theorem dX6_put_15 : decode cX6_put 15 = .ok (.invokestatic 57, 3) := by decide +kernel
theorem dX6_put_18 : decode cX6_put 18 = .ok (.ifCond .ne 6, 3) := by decide +kernel
theorem dX6_put_21 : decode cX6_put 21 = .ok (.ldc 60, 2) := by decide +kernel
theorem dX6_put_23 : decode cX6_put 23 = .ok (.ireturn, 1) := by decide +kernel
theorem dX6_put_24 : decode cX6_put 24 = .ok (.aload_n 0, 1) := by decide +kernel
theorem dX6_put_25 : decode cX6_put 25 = .ok (.getfield 10, 3) := by decide +kernel
theorem dX6_put_28 : decode cX6_put 28 = .ok (.getfield 47, 3) := by decide +kernel
theorem dX6_put_31 : decode cX6_put 31 = .ok (.invokevirtual 61, 3) := by decide +kernel
theorem dX6_put_34 : decode cX6_put 34 = .ok (.ifCond .eq 6, 3) := by decide +kernel
theorem dX6_put_37 : decode cX6_put 37 = .ok (.ldc 65, 2) := by decide +kernel
theorem dX6_put_39 : decode cX6_put 39 = .ok (.ireturn, 1) := by decide +kernel
theorem dX6_put_40 : decode cX6_put 40 = .ok (.aload_n 0, 1) := by decide +kernel
theorem dX6_put_41 : decode cX6_put 41 = .ok (.getfield 22, 3) := by decide +kernel
theorem dX6_put_44 : decode cX6_put 44 = .ok (.aload_n 0, 1) := by decide +kernel
theorem dX6_put_45 : decode cX6_put 45 = .ok (.getfield 10, 3) := by decide +kernel
theorem dX6_put_48 : decode cX6_put 48 = .ok (.invokevirtual 66, 3) := by decide +kernel
theorem dX6_put_51 : decode cX6_put 51 = .ok (.aload_n 0, 1) := by decide +kernel
theorem dX6_put_52 : decode cX6_put 52 = .ok (.getfield 10, 3) := by decide +kernel
theorem dX6_put_55 : decode cX6_put 55 = .ok (.iload_n 1, 1) := by decide +kernel
theorem dX6_put_56 : decode cX6_put 56 = .ok (.iload_n 2, 1) := by decide +kernel
theorem dX6_put_57 : decode cX6_put 57 = .ok (.invokevirtual 70, 3) := by decide +kernel
theorem dX6_put_60 : decode cX6_put 60 = .ok (.aload_n 0, 1) := by decide +kernel
theorem dX6_put_61 : decode cX6_put 61 = .ok (.getfield 10, 3) := by decide +kernel
theorem dX6_put_64 : decode cX6_put 64 = .ok (.getfield 47, 3) := by decide +kernel
theorem dX6_put_67 : decode cX6_put 67 = .ok (.invokevirtual 74, 3) := by decide +kernel
theorem dX6_put_70 : decode cX6_put 70 = .ok (.ireturn, 1) := by decide +kernel
set_option maxRecDepth 20000 in
theorem ggX6_take_X4_holds : GoodIn wsX6_take wsX4_holds := goodIn_r _ [9, 10, 11, 106, 107, 108, 109] (by decide +kernel) (by decide +kernel)
set_option maxRecDepth 20000 in
theorem gX6_take_X4_holds : GoodIn wsX6_take (wsV RX6 78 RX4 yX4_holds wsX4_holds) := goodIn_app (goodIn_of _ (by decide +kernel)) ggX6_take_X4_holds
set_option maxRecDepth 20000 in
theorem ggX6_take_X4_at : GoodIn wsX6_take wsX4_at := goodIn_r _ [15, 10, 11, 106, 107, 108, 109] (by decide +kernel) (by decide +kernel)
set_option maxRecDepth 20000 in
theorem gX6_take_X4_at : GoodIn wsX6_take (wsV RX6 81 RX4 yX4_at wsX4_at) := goodIn_app (goodIn_of _ (by decide +kernel)) ggX6_take_X4_at
set_option maxRecDepth 20000 in
theorem ggX6_take_X3_record : GoodIn wsX6_take wsX3_record := goodIn_r _ [20, 21, 22, 23, 24, 25, 19, 26, 27, 28, 29, 30, 31, 32, 33, 34, 35, 36, 37, 38, 39, 8, 40, 11, 10, 41, 13, 14, 15, 42, 43, 44, 45, 46, 47, 48, 49, 50, 51, 52, 53, 54, 55, 56, 57, 58, 59, 60, 61, 62, 110, 111, 112, 101, 102, 103, 104, 105, 106, 107, 108, 109, 113, 114, 115] (by decide +kernel) (by decide +kernel)
set_option maxRecDepth 20000 in
theorem gX6_take_X3_record : GoodIn wsX6_take (wsV RX6 66 RX3 yX3_record wsX3_record) := goodIn_app (goodIn_of _ (by decide +kernel)) ggX6_take_X3_record
set_option maxRecDepth 20000 in
theorem ggX6_take_X5_removeWord : GoodIn wsX6_take wsX5_removeWord := goodIn_r _ [66, 33, 67, 68, 69, 8, 70, 71, 10, 72, 6, 7, 9, 11, 73, 74, 75, 76, 77, 78, 79, 80, 81, 82, 83, 84, 85, 86, 87, 88, 31, 89, 36, 34, 42, 43, 44, 45, 46, 90, 91, 92, 50, 93, 53, 94, 101, 102, 103, 104, 105, 106, 107, 108, 109, 113, 114, 115] (by decide +kernel) (by decide +kernel)
set_option maxRecDepth 20000 in
theorem gX6_take_X5_removeWord : GoodIn wsX6_take (wsV RX6 85 RX5 yX5_removeWord wsX5_removeWord) := goodIn_app (goodIn_of _ (by decide +kernel)) ggX6_take_X5_removeWord
theorem dX6_take_0 : decode cX6_take 0 = .ok (.aload_n 0, 1) := by decide +kernel
theorem dX6_take_1 : decode cX6_take 1 = .ok (.getfield 10, 3) := by decide +kernel
theorem dX6_take_4 : decode cX6_take 4 = .ok (.getfield 47, 3) := by decide +kernel
theorem dX6_take_7 : decode cX6_take 7 = .ok (.iload_n 1, 1) := by decide +kernel
theorem dX6_take_8 : decode cX6_take 8 = .ok (.invokevirtual 78, 3) := by decide +kernel
theorem dX6_take_11 : decode cX6_take 11 = .ok (.ifCond .ne 6, 3) := by decide +kernel
theorem dX6_take_14 : decode cX6_take 14 = .ok (.ldc 60, 2) := by decide +kernel
theorem dX6_take_16 : decode cX6_take 16 = .ok (.ireturn, 1) := by decide +kernel
theorem dX6_take_17 : decode cX6_take 17 = .ok (.aload_n 0, 1) := by decide +kernel
theorem dX6_take_18 : decode cX6_take 18 = .ok (.getfield 10, 3) := by decide +kernel
theorem dX6_take_21 : decode cX6_take 21 = .ok (.getfield 47, 3) := by decide +kernel
theorem dX6_take_24 : decode cX6_take 24 = .ok (.iload_n 1, 1) := by decide +kernel
theorem dX6_take_25 : decode cX6_take 25 = .ok (.invokevirtual 81, 3) := by decide +kernel
theorem dX6_take_28 : decode cX6_take 28 = .ok (.istore_n 2, 1) := by decide +kernel
theorem dX6_take_29 : decode cX6_take 29 = .ok (.aload_n 0, 1) := by decide +kernel
theorem dX6_take_30 : decode cX6_take 30 = .ok (.getfield 22, 3) := by decide +kernel
theorem dX6_take_33 : decode cX6_take 33 = .ok (.aload_n 0, 1) := by decide +kernel
theorem dX6_take_34 : decode cX6_take 34 = .ok (.getfield 10, 3) := by decide +kernel
theorem dX6_take_37 : decode cX6_take 37 = .ok (.invokevirtual 66, 3) := by decide +kernel
theorem dX6_take_40 : decode cX6_take 40 = .ok (.aload_n 0, 1) := by decide +kernel
theorem dX6_take_41 : decode cX6_take 41 = .ok (.getfield 10, 3) := by decide +kernel
theorem dX6_take_44 : decode cX6_take 44 = .ok (.iload_n 1, 1) := by decide +kernel
theorem dX6_take_45 : decode cX6_take 45 = .ok (.invokevirtual 85, 3) := by decide +kernel
theorem dX6_take_48 : decode cX6_take 48 = .ok (.iload_n 2, 1) := by decide +kernel
theorem dX6_take_49 : decode cX6_take 49 = .ok (.ireturn, 1) := by decide +kernel
set_option maxRecDepth 20000 in
theorem ggX6_change_X4_holds : GoodIn wsX6_change wsX4_holds := goodIn_r _ [9, 10, 11, 104, 105, 106, 107] (by decide +kernel) (by decide +kernel)
set_option maxRecDepth 20000 in
theorem gX6_change_X4_holds : GoodIn wsX6_change (wsV RX6 78 RX4 yX4_holds wsX4_holds) := goodIn_app (goodIn_of _ (by decide +kernel)) ggX6_change_X4_holds
set_option maxRecDepth 20000 in
theorem ggX6_change_X6_isWord : GoodIn wsX6_change wsX6_isWord := goodIn_r _ [15] (by decide +kernel) (by decide +kernel)
set_option maxRecDepth 20000 in
theorem gX6_change_X6_isWord : GoodIn wsX6_change (va_wsS RX6 57 yX6_isWord wsX6_isWord) := goodIn_app (goodIn_of _ (by decide +kernel)) ggX6_change_X6_isWord
set_option maxRecDepth 20000 in
theorem ggX6_change_X4_at : GoodIn wsX6_change wsX4_at := goodIn_r _ [19, 10, 11, 104, 105, 106, 107] (by decide +kernel) (by decide +kernel)
set_option maxRecDepth 20000 in
theorem gX6_change_X4_at : GoodIn wsX6_change (wsV RX6 81 RX4 yX4_at wsX4_at) := goodIn_app (goodIn_of _ (by decide +kernel)) ggX6_change_X4_at
set_option maxRecDepth 20000 in
theorem ggX6_change_X3_record : GoodIn wsX6_change wsX3_record := goodIn_r _ [24, 25, 26, 27, 28, 29, 23, 30, 31, 32, 33, 34, 35, 36, 37, 38, 39, 40, 41, 42, 43, 8, 44, 11, 10, 45, 17, 18, 19, 46, 47, 48, 49, 50, 51, 52, 53, 54, 55, 56, 57, 58, 59, 60, 61, 62, 63, 64, 65, 66, 108, 109, 110, 99, 100, 101, 102, 103, 104, 105, 106, 107, 111, 112, 113] (by decide +kernel) (by decide +kernel)
set_option maxRecDepth 20000 in
theorem gX6_change_X3_record : GoodIn wsX6_change (wsV RX6 66 RX3 yX3_record wsX3_record) := goodIn_app (goodIn_of _ (by decide +kernel)) ggX6_change_X3_record
set_option maxRecDepth 20000 in
theorem ggX6_change_X5_replaceWord : GoodIn wsX6_change wsX5_replaceWord := goodIn_r _ [70, 37, 71, 72, 73, 8, 74, 75, 76, 6, 7, 9, 10, 11, 77, 78, 79, 80, 81, 82, 83, 35, 84, 40, 38, 46, 47, 48, 49, 50, 85, 86, 87, 54, 88, 57, 89, 90, 91, 92, 99, 100, 101, 102, 103, 104, 105, 106, 107, 111, 112, 113] (by decide +kernel) (by decide +kernel)
set_option maxRecDepth 20000 in
theorem gX6_change_X5_replaceWord : GoodIn wsX6_change (wsV RX6 89 RX5 yX5_replaceWord wsX5_replaceWord) := goodIn_app (goodIn_of _ (by decide +kernel)) ggX6_change_X5_replaceWord
theorem dX6_change_0 : decode cX6_change 0 = .ok (.aload_n 0, 1) := by decide +kernel
theorem dX6_change_1 : decode cX6_change 1 = .ok (.getfield 10, 3) := by decide +kernel
theorem dX6_change_4 : decode cX6_change 4 = .ok (.getfield 47, 3) := by decide +kernel
theorem dX6_change_7 : decode cX6_change 7 = .ok (.iload_n 1, 1) := by decide +kernel
theorem dX6_change_8 : decode cX6_change 8 = .ok (.invokevirtual 78, 3) := by decide +kernel
theorem dX6_change_11 : decode cX6_change 11 = .ok (.ifCond .eq 10, 3) := by decide +kernel
theorem dX6_change_14 : decode cX6_change 14 = .ok (.iload_n 2, 1) := by decide +kernel
theorem dX6_change_15 : decode cX6_change 15 = .ok (.invokestatic 57, 3) := by decide +kernel
theorem dX6_change_18 : decode cX6_change 18 = .ok (.ifCond .ne 6, 3) := by decide +kernel
theorem dX6_change_21 : decode cX6_change 21 = .ok (.ldc 60, 2) := by decide +kernel
theorem dX6_change_23 : decode cX6_change 23 = .ok (.ireturn, 1) := by decide +kernel
theorem dX6_change_24 : decode cX6_change 24 = .ok (.aload_n 0, 1) := by decide +kernel
theorem dX6_change_25 : decode cX6_change 25 = .ok (.getfield 10, 3) := by decide +kernel
theorem dX6_change_28 : decode cX6_change 28 = .ok (.getfield 47, 3) := by decide +kernel
theorem dX6_change_31 : decode cX6_change 31 = .ok (.iload_n 1, 1) := by decide +kernel
theorem dX6_change_32 : decode cX6_change 32 = .ok (.invokevirtual 81, 3) := by decide +kernel
theorem dX6_change_35 : decode cX6_change 35 = .ok (.istore_n 3, 1) := by decide +kernel
theorem dX6_change_36 : decode cX6_change 36 = .ok (.aload_n 0, 1) := by decide +kernel
theorem dX6_change_37 : decode cX6_change 37 = .ok (.getfield 22, 3) := by decide +kernel
theorem dX6_change_40 : decode cX6_change 40 = .ok (.aload_n 0, 1) := by decide +kernel
theorem dX6_change_41 : decode cX6_change 41 = .ok (.getfield 10, 3) := by decide +kernel
theorem dX6_change_44 : decode cX6_change 44 = .ok (.invokevirtual 66, 3) := by decide +kernel
theorem dX6_change_47 : decode cX6_change 47 = .ok (.aload_n 0, 1) := by decide +kernel
theorem dX6_change_48 : decode cX6_change 48 = .ok (.getfield 10, 3) := by decide +kernel
theorem dX6_change_51 : decode cX6_change 51 = .ok (.iload_n 1, 1) := by decide +kernel
theorem dX6_change_52 : decode cX6_change 52 = .ok (.iload_n 2, 1) := by decide +kernel
theorem dX6_change_53 : decode cX6_change 53 = .ok (.invokevirtual 89, 3) := by decide +kernel
theorem dX6_change_56 : decode cX6_change 56 = .ok (.iload_n 3, 1) := by decide +kernel
theorem dX6_change_57 : decode cX6_change 57 = .ok (.ireturn, 1) := by decide +kernel
set_option maxRecDepth 20000 in
theorem ggX6_move_X4_canShift : GoodIn wsX6_move wsX4_canShift := goodIn_r _ [9, 10, 11, 12, 13, 8, 14, 15, 116, 117, 118, 119] (by decide +kernel) (by decide +kernel)
set_option maxRecDepth 20000 in
theorem gX6_move_X4_canShift : GoodIn wsX6_move (wsV RX6 92 RX4 yX4_canShift wsX4_canShift) := goodIn_app (goodIn_of _ (by decide +kernel)) ggX6_move_X4_canShift
set_option maxRecDepth 20000 in
theorem ggX6_move_X3_record : GoodIn wsX6_move wsX3_record := goodIn_r _ [20, 21, 22, 23, 24, 25, 19, 26, 27, 28, 29, 30, 31, 32, 33, 34, 35, 36, 37, 38, 39, 8, 40, 15, 10, 41, 42, 43, 44, 45, 46, 47, 48, 49, 50, 51, 52, 53, 54, 55, 56, 57, 58, 59, 60, 61, 62, 63, 64, 65, 120, 121, 122, 111, 112, 113, 114, 115, 116, 117, 118, 119, 123, 124, 125] (by decide +kernel) (by decide +kernel)
set_option maxRecDepth 20000 in
theorem gX6_move_X3_record : GoodIn wsX6_move (wsV RX6 66 RX3 yX3_record wsX3_record) := goodIn_app (goodIn_of _ (by decide +kernel)) ggX6_move_X3_record
set_option maxRecDepth 20000 in
theorem ggX6_move_X5_shiftWords : GoodIn wsX6_move wsX5_shiftWords := goodIn_r _ [69, 33, 70, 71, 72, 8, 73, 74, 10, 75, 6, 7, 9, 11, 12, 13, 14, 15, 76, 77, 78, 79, 80, 81, 82, 83, 84, 85, 86, 87, 88, 89, 90, 91, 92, 93, 94, 31, 95, 36, 34, 45, 46, 47, 48, 49, 96, 97, 98, 53, 99, 56, 100, 111, 112, 113, 114, 115, 116, 117, 118, 119, 123, 124, 125] (by decide +kernel) (by decide +kernel)
set_option maxRecDepth 20000 in
theorem gX6_move_X5_shiftWords : GoodIn wsX6_move (wsV RX6 96 RX5 yX5_shiftWords wsX5_shiftWords) := goodIn_app (goodIn_of _ (by decide +kernel)) ggX6_move_X5_shiftWords
set_option maxRecDepth 20000 in
theorem ggX6_move_X4_wordsElsewhere : GoodIn wsX6_move wsX4_wordsElsewhere := goodIn_r _ [104, 10, 84, 85, 86, 8, 87, 74, 116, 117, 118, 119] (by decide +kernel) (by decide +kernel)
set_option maxRecDepth 20000 in
theorem gX6_move_X4_wordsElsewhere : GoodIn wsX6_move (wsV RX6 100 RX4 yX4_wordsElsewhere wsX4_wordsElsewhere) := goodIn_app (goodIn_of _ (by decide +kernel)) ggX6_move_X4_wordsElsewhere
theorem dX6_move_0 : decode cX6_move 0 = .ok (.aload_n 0, 1) := by decide +kernel
theorem dX6_move_1 : decode cX6_move 1 = .ok (.getfield 10, 3) := by decide +kernel
theorem dX6_move_4 : decode cX6_move 4 = .ok (.getfield 47, 3) := by decide +kernel
theorem dX6_move_7 : decode cX6_move 7 = .ok (.iload_n 1, 1) := by decide +kernel
theorem dX6_move_8 : decode cX6_move 8 = .ok (.iload_n 2, 1) := by decide +kernel
theorem dX6_move_9 : decode cX6_move 9 = .ok (.iload_n 3, 1) := by decide +kernel
theorem dX6_move_10 : decode cX6_move 10 = .ok (.invokevirtual 92, 3) := by decide +kernel
theorem dX6_move_13 : decode cX6_move 13 = .ok (.ifCond .ne 6, 3) := by decide +kernel
theorem dX6_move_16 : decode cX6_move 16 = .ok (.ldc 60, 2) := by decide +kernel
theorem dX6_move_18 : decode cX6_move 18 = .ok (.ireturn, 1) := by decide +kernel
theorem dX6_move_19 : decode cX6_move 19 = .ok (.aload_n 0, 1) := by decide +kernel
theorem dX6_move_20 : decode cX6_move 20 = .ok (.getfield 22, 3) := by decide +kernel
theorem dX6_move_23 : decode cX6_move 23 = .ok (.aload_n 0, 1) := by decide +kernel
theorem dX6_move_24 : decode cX6_move 24 = .ok (.getfield 10, 3) := by decide +kernel
theorem dX6_move_27 : decode cX6_move 27 = .ok (.invokevirtual 66, 3) := by decide +kernel
theorem dX6_move_30 : decode cX6_move 30 = .ok (.aload_n 0, 1) := by decide +kernel
theorem dX6_move_31 : decode cX6_move 31 = .ok (.getfield 10, 3) := by decide +kernel
theorem dX6_move_34 : decode cX6_move 34 = .ok (.iload_n 1, 1) := by decide +kernel
theorem dX6_move_35 : decode cX6_move 35 = .ok (.iload_n 2, 1) := by decide +kernel
theorem dX6_move_36 : decode cX6_move 36 = .ok (.iload_n 3, 1) := by decide +kernel
theorem dX6_move_37 : decode cX6_move 37 = .ok (.invokevirtual 96, 3) := by decide +kernel
theorem dX6_move_40 : decode cX6_move 40 = .ok (.aload_n 0, 1) := by decide +kernel
theorem dX6_move_41 : decode cX6_move 41 = .ok (.getfield 10, 3) := by decide +kernel
theorem dX6_move_44 : decode cX6_move 44 = .ok (.getfield 47, 3) := by decide +kernel
theorem dX6_move_47 : decode cX6_move 47 = .ok (.invokevirtual 100, 3) := by decide +kernel
theorem dX6_move_50 : decode cX6_move 50 = .ok (.ireturn, 1) := by decide +kernel
set_option maxRecDepth 20000 in
theorem ggX6_anchor_X4_holds : GoodIn wsX6_anchor wsX4_holds := goodIn_r _ [10, 11, 12, 95, 96, 97, 98] (by decide +kernel) (by decide +kernel)
set_option maxRecDepth 20000 in
theorem gX6_anchor_X4_holds : GoodIn wsX6_anchor (wsV RX6 78 RX4 yX4_holds wsX4_holds) := goodIn_app (goodIn_of _ (by decide +kernel)) ggX6_anchor_X4_holds
set_option maxRecDepth 20000 in
theorem ggX6_anchor_X5_anchorCount : GoodIn wsX6_anchor wsX5_anchorCount := goodIn_r _ [17, 18, 90, 91, 92, 93, 94] (by decide +kernel) (by decide +kernel)
set_option maxRecDepth 20000 in
theorem gX6_anchor_X5_anchorCount : GoodIn wsX6_anchor (wsV RX6 103 RX5 yX5_anchorCount wsX5_anchorCount) := goodIn_app (goodIn_of _ (by decide +kernel)) ggX6_anchor_X5_anchorCount
set_option maxRecDepth 20000 in
theorem ggX6_anchor_X3_record : GoodIn wsX6_anchor wsX3_record := goodIn_r _ [23, 24, 25, 26, 27, 28, 22, 29, 30, 31, 32, 33, 16, 34, 35, 18, 36, 37, 38, 39, 40, 9, 41, 12, 11, 42, 43, 44, 45, 46, 47, 48, 49, 50, 51, 52, 53, 54, 55, 56, 57, 58, 59, 60, 61, 62, 63, 64, 65, 66, 99, 100, 101, 90, 91, 92, 93, 94, 95, 96, 97, 98, 102, 103, 104] (by decide +kernel) (by decide +kernel)
set_option maxRecDepth 20000 in
theorem gX6_anchor_X3_record : GoodIn wsX6_anchor (wsV RX6 66 RX3 yX3_record wsX3_record) := goodIn_app (goodIn_of _ (by decide +kernel)) ggX6_anchor_X3_record
set_option maxRecDepth 20000 in
theorem ggX6_anchor_X5_addAnchor : GoodIn wsX6_anchor wsX5_addAnchor := goodIn_r _ [70, 18, 50, 35, 46, 47, 48, 16, 49, 71, 72, 73, 54, 74, 75, 76, 77, 78, 56, 79, 80, 81, 82, 58, 57, 83, 43, 44, 9, 45, 11, 12, 90, 91, 92, 93, 94, 102, 103, 104, 95, 96, 97, 98] (by decide +kernel) (by decide +kernel)
set_option maxRecDepth 20000 in
theorem gX6_anchor_X5_addAnchor : GoodIn wsX6_anchor (wsV RX6 106 RX5 yX5_addAnchor wsX5_addAnchor) := goodIn_app (goodIn_of _ (by decide +kernel)) ggX6_anchor_X5_addAnchor
theorem dX6_anchor_0 : decode cX6_anchor 0 = .ok (.aload_n 0, 1) := by decide +kernel
theorem dX6_anchor_1 : decode cX6_anchor 1 = .ok (.getfield 10, 3) := by decide +kernel
theorem dX6_anchor_4 : decode cX6_anchor 4 = .ok (.getfield 47, 3) := by decide +kernel
theorem dX6_anchor_7 : decode cX6_anchor 7 = .ok (.iload_n 1, 1) := by decide +kernel
theorem dX6_anchor_8 : decode cX6_anchor 8 = .ok (.invokevirtual 78, 3) := by decide +kernel
theorem dX6_anchor_11 : decode cX6_anchor 11 = .ok (.ifCond .ne 6, 3) := by decide +kernel
theorem dX6_anchor_14 : decode cX6_anchor 14 = .ok (.ldc 60, 2) := by decide +kernel
theorem dX6_anchor_16 : decode cX6_anchor 16 = .ok (.ireturn, 1) := by decide +kernel
theorem dX6_anchor_17 : decode cX6_anchor 17 = .ok (.aload_n 0, 1) := by decide +kernel
theorem dX6_anchor_18 : decode cX6_anchor 18 = .ok (.getfield 10, 3) := by decide +kernel
theorem dX6_anchor_21 : decode cX6_anchor 21 = .ok (.invokevirtual 103, 3) := by decide +kernel
theorem dX6_anchor_24 : decode cX6_anchor 24 = .ok (.bipush 6, 2) := by decide +kernel
theorem dX6_anchor_26 : decode cX6_anchor 26 = .ok (.if_icmp .lt 6, 3) := by decide +kernel
theorem dX6_anchor_29 : decode cX6_anchor 29 = .ok (.ldc 65, 2) := by decide +kernel
theorem dX6_anchor_31 : decode cX6_anchor 31 = .ok (.ireturn, 1) := by decide +kernel
theorem dX6_anchor_32 : decode cX6_anchor 32 = .ok (.aload_n 0, 1) := by decide +kernel
theorem dX6_anchor_33 : decode cX6_anchor 33 = .ok (.getfield 22, 3) := by decide +kernel
theorem dX6_anchor_36 : decode cX6_anchor 36 = .ok (.aload_n 0, 1) := by decide +kernel
theorem dX6_anchor_37 : decode cX6_anchor 37 = .ok (.getfield 10, 3) := by decide +kernel
theorem dX6_anchor_40 : decode cX6_anchor 40 = .ok (.invokevirtual 66, 3) := by decide +kernel
theorem dX6_anchor_43 : decode cX6_anchor 43 = .ok (.aload_n 0, 1) := by decide +kernel
theorem dX6_anchor_44 : decode cX6_anchor 44 = .ok (.getfield 10, 3) := by decide +kernel
theorem dX6_anchor_47 : decode cX6_anchor 47 = .ok (.iload_n 1, 1) := by decide +kernel
theorem dX6_anchor_48 : decode cX6_anchor 48 = .ok (.invokevirtual 106, 3) := by decide +kernel
theorem dX6_anchor_51 : decode cX6_anchor 51 = .ok (.aload_n 0, 1) := by decide +kernel
theorem dX6_anchor_52 : decode cX6_anchor 52 = .ok (.getfield 10, 3) := by decide +kernel
theorem dX6_anchor_55 : decode cX6_anchor 55 = .ok (.invokevirtual 103, 3) := by decide +kernel
theorem dX6_anchor_58 : decode cX6_anchor 58 = .ok (.iconst 1, 1) := by decide +kernel
theorem dX6_anchor_59 : decode cX6_anchor 59 = .ok (.isub, 1) := by decide +kernel
theorem dX6_anchor_60 : decode cX6_anchor 60 = .ok (.ireturn, 1) := by decide +kernel
set_option maxRecDepth 20000 in
theorem ggX6_drop_X5_anchorNumbered : GoodIn wsX6_drop wsX5_anchorNumbered := goodIn_r _ [8, 9, 10, 72, 73, 74, 75, 76] (by decide +kernel) (by decide +kernel)
set_option maxRecDepth 20000 in
theorem gX6_drop_X5_anchorNumbered : GoodIn wsX6_drop (wsV RX6 109 RX5 yX5_anchorNumbered wsX5_anchorNumbered) := goodIn_app (goodIn_of _ (by decide +kernel)) ggX6_drop_X5_anchorNumbered
set_option maxRecDepth 20000 in
theorem ggX6_drop_X3_record : GoodIn wsX6_drop wsX3_record := goodIn_r _ [15, 16, 17, 18, 19, 20, 14, 21, 22, 23, 24, 25, 7, 26, 27, 9, 28, 29, 30, 31, 32, 33, 34, 35, 36, 37, 38, 39, 40, 41, 5, 6, 8, 10, 42, 43, 44, 45, 46, 47, 48, 49, 50, 51, 52, 53, 54, 55, 56, 57, 77, 78, 79, 72, 73, 74, 75, 76, 80, 81, 82, 83, 84, 85, 86] (by decide +kernel) (by decide +kernel)
set_option maxRecDepth 20000 in
theorem gX6_drop_X3_record : GoodIn wsX6_drop (wsV RX6 66 RX3 yX3_record wsX3_record) := goodIn_app (goodIn_of _ (by decide +kernel)) ggX6_drop_X3_record
set_option maxRecDepth 20000 in
theorem ggX6_drop_X5_removeAnchor : GoodIn wsX6_drop wsX5_removeAnchor := goodIn_r _ [61, 9, 41, 5, 6, 7, 8, 10, 42, 43, 44, 45, 46, 47, 48, 49, 50, 51, 52, 53, 72, 73, 74, 75, 76, 84, 85, 86] (by decide +kernel) (by decide +kernel)
set_option maxRecDepth 20000 in
theorem gX6_drop_X5_removeAnchor : GoodIn wsX6_drop (wsV RX6 113 RX5 yX5_removeAnchor wsX5_removeAnchor) := goodIn_app (goodIn_of _ (by decide +kernel)) ggX6_drop_X5_removeAnchor
set_option maxRecDepth 20000 in
theorem ggX6_drop_X5_anchorCount : GoodIn wsX6_drop wsX5_anchorCount := goodIn_r _ [65, 9, 72, 73, 74, 75, 76] (by decide +kernel) (by decide +kernel)
set_option maxRecDepth 20000 in
theorem gX6_drop_X5_anchorCount : GoodIn wsX6_drop (wsV RX6 103 RX5 yX5_anchorCount wsX5_anchorCount) := goodIn_app (goodIn_of _ (by decide +kernel)) ggX6_drop_X5_anchorCount
theorem dX6_drop_0 : decode cX6_drop 0 = .ok (.aload_n 0, 1) := by decide +kernel
theorem dX6_drop_1 : decode cX6_drop 1 = .ok (.getfield 10, 3) := by decide +kernel
theorem dX6_drop_4 : decode cX6_drop 4 = .ok (.iload_n 1, 1) := by decide +kernel
theorem dX6_drop_5 : decode cX6_drop 5 = .ok (.invokevirtual 109, 3) := by decide +kernel
theorem dX6_drop_8 : decode cX6_drop 8 = .ok (.ifnonnull 6, 3) := by decide +kernel
theorem dX6_drop_11 : decode cX6_drop 11 = .ok (.ldc 60, 2) := by decide +kernel
theorem dX6_drop_13 : decode cX6_drop 13 = .ok (.ireturn, 1) := by decide +kernel
theorem dX6_drop_14 : decode cX6_drop 14 = .ok (.aload_n 0, 1) := by decide +kernel
theorem dX6_drop_15 : decode cX6_drop 15 = .ok (.getfield 22, 3) := by decide +kernel
theorem dX6_drop_18 : decode cX6_drop 18 = .ok (.aload_n 0, 1) := by decide +kernel
theorem dX6_drop_19 : decode cX6_drop 19 = .ok (.getfield 10, 3) := by decide +kernel
theorem dX6_drop_22 : decode cX6_drop 22 = .ok (.invokevirtual 66, 3) := by decide +kernel
theorem dX6_drop_25 : decode cX6_drop 25 = .ok (.aload_n 0, 1) := by decide +kernel
theorem dX6_drop_26 : decode cX6_drop 26 = .ok (.getfield 10, 3) := by decide +kernel
theorem dX6_drop_29 : decode cX6_drop 29 = .ok (.iload_n 1, 1) := by decide +kernel
theorem dX6_drop_30 : decode cX6_drop 30 = .ok (.invokevirtual 113, 3) := by decide +kernel
theorem dX6_drop_33 : decode cX6_drop 33 = .ok (.aload_n 0, 1) := by decide +kernel
theorem dX6_drop_34 : decode cX6_drop 34 = .ok (.getfield 10, 3) := by decide +kernel
theorem dX6_drop_37 : decode cX6_drop 37 = .ok (.invokevirtual 103, 3) := by decide +kernel
theorem dX6_drop_40 : decode cX6_drop 40 = .ok (.ireturn, 1) := by decide +kernel
set_option maxRecDepth 20000 in
theorem ggX6_find_X5_anchorNumbered : GoodIn wsX6_find wsX5_anchorNumbered := goodIn_r _ [9, 10, 11, 100, 101, 102, 103, 104] (by decide +kernel) (by decide +kernel)
set_option maxRecDepth 20000 in
theorem gX6_find_X5_anchorNumbered : GoodIn wsX6_find (wsV RX6 109 RX5 yX5_anchorNumbered wsX5_anchorNumbered) := goodIn_app (goodIn_of _ (by decide +kernel)) ggX6_find_X5_anchorNumbered
set_option maxRecDepth 20000 in
theorem ggX6_find_X5_bestPlace : GoodIn wsX6_find wsX5_bestPlace := goodIn_r _ [15, 16, 17, 18, 8, 19, 20, 21, 22, 23, 24, 25, 26, 27, 28, 29, 30, 31, 32, 33, 34, 35, 36, 37, 38, 39, 40, 41, 42, 43, 44, 45, 46, 47, 48, 49, 50, 51, 52, 53, 54, 55, 100, 101, 102, 103, 104, 105, 106, 107, 108, 109, 110, 111] (by decide +kernel) (by decide +kernel)
set_option maxRecDepth 20000 in
theorem gX6_find_X5_bestPlace : GoodIn wsX6_find (wsV RX6 116 RX5 yX5_bestPlace wsX5_bestPlace) := goodIn_app (goodIn_of _ (by decide +kernel)) ggX6_find_X5_bestPlace
set_option maxRecDepth 20000 in
theorem ggX6_find_X5_isLost : GoodIn wsX6_find wsX5_isLost := goodIn_r _ [59, 31, 32, 33, 8, 34, 20, 21, 22, 23, 24, 35, 36, 37, 38, 39, 40, 41, 42, 43, 28, 44, 30, 45, 46, 47, 48, 49, 50, 100, 101, 102, 103, 104, 109, 110, 111, 105, 106, 107, 108] (by decide +kernel) (by decide +kernel)
set_option maxRecDepth 20000 in
theorem gX6_find_X5_isLost : GoodIn wsX6_find (wsV RX6 120 RX5 yX5_isLost wsX5_isLost) := goodIn_app (goodIn_of _ (by decide +kernel)) ggX6_find_X5_isLost
set_option maxRecDepth 20000 in
theorem ggX6_find_X3_record : GoodIn wsX6_find wsX3_record := goodIn_r _ [64, 65, 66, 67, 68, 69, 63, 70, 71, 72, 73, 74, 8, 75, 20, 10, 50, 76, 77, 78, 79, 28, 80, 45, 30, 81, 42, 43, 44, 82, 6, 7, 9, 11, 83, 84, 85, 38, 86, 55, 87, 40, 88, 36, 37, 39, 46, 47, 48, 49, 112, 113, 114, 100, 101, 102, 103, 104, 105, 106, 107, 108, 109, 110, 111] (by decide +kernel) (by decide +kernel)
set_option maxRecDepth 20000 in
theorem gX6_find_X3_record : GoodIn wsX6_find (wsV RX6 66 RX3 yX3_record wsX3_record) := goodIn_app (goodIn_of _ (by decide +kernel)) ggX6_find_X3_record
set_option maxRecDepth 20000 in
theorem ggX6_find_X0_goTo : GoodIn wsX6_find wsX0_goTo := goodIn_r _ [92, 55, 109, 110, 111] (by decide +kernel) (by decide +kernel)
set_option maxRecDepth 20000 in
theorem gX6_find_X0_goTo : GoodIn wsX6_find (wsV RX6 125 RX0 yX0_goTo wsX0_goTo) := goodIn_app (goodIn_of _ (by decide +kernel)) ggX6_find_X0_goTo
set_option maxRecDepth 20000 in
theorem ggX6_find_X0_place : GoodIn wsX6_find wsX0_place := goodIn_r _ [54, 55, 109, 110, 111] (by decide +kernel) (by decide +kernel)
set_option maxRecDepth 20000 in
theorem gX6_find_X0_place : GoodIn wsX6_find (wsV RX6 128 RX0 yX0_place wsX0_place) := goodIn_app (goodIn_of _ (by decide +kernel)) ggX6_find_X0_place
theorem dX6_find_0 : decode cX6_find 0 = .ok (.aload_n 0, 1) := by decide +kernel
theorem dX6_find_1 : decode cX6_find 1 = .ok (.getfield 10, 3) := by decide +kernel
theorem dX6_find_4 : decode cX6_find 4 = .ok (.iload_n 1, 1) := by decide +kernel
theorem dX6_find_5 : decode cX6_find 5 = .ok (.invokevirtual 109, 3) := by decide +kernel
theorem dX6_find_8 : decode cX6_find 8 = .ok (.astore_n 2, 1) := by decide +kernel
theorem dX6_find_9 : decode cX6_find 9 = .ok (.aload_n 2, 1) := by decide +kernel
theorem dX6_find_10 : decode cX6_find 10 = .ok (.ifnonnull 6, 3) := by decide +kernel
theorem dX6_find_13 : decode cX6_find 13 = .ok (.ldc 60, 2) := by decide +kernel
theorem dX6_find_15 : decode cX6_find 15 = .ok (.ireturn, 1) := by decide +kernel
theorem dX6_find_16 : decode cX6_find 16 = .ok (.aload_n 0, 1) := by decide +kernel
theorem dX6_find_17 : decode cX6_find 17 = .ok (.getfield 10, 3) := by decide +kernel
theorem dX6_find_20 : decode cX6_find 20 = .ok (.aload_n 2, 1) := by decide +kernel
theorem dX6_find_21 : decode cX6_find 21 = .ok (.invokevirtual 116, 3) := by decide +kernel
theorem dX6_find_24 : decode cX6_find 24 = .ok (.istore_n 3, 1) := by decide +kernel
theorem dX6_find_25 : decode cX6_find 25 = .ok (.aload_n 0, 1) := by decide +kernel
theorem dX6_find_26 : decode cX6_find 26 = .ok (.getfield 10, 3) := by decide +kernel
theorem dX6_find_29 : decode cX6_find 29 = .ok (.aload_n 2, 1) := by decide +kernel
theorem dX6_find_30 : decode cX6_find 30 = .ok (.iload_n 3, 1) := by decide +kernel
theorem dX6_find_31 : decode cX6_find 31 = .ok (.invokevirtual 120, 3) := by decide +kernel
theorem dX6_find_34 : decode cX6_find 34 = .ok (.ifCond .eq 6, 3) := by decide +kernel
theorem dX6_find_37 : decode cX6_find 37 = .ok (.ldc 124, 2) := by decide +kernel
theorem dX6_find_39 : decode cX6_find 39 = .ok (.ireturn, 1) := by decide +kernel
theorem dX6_find_40 : decode cX6_find 40 = .ok (.aload_n 0, 1) := by decide +kernel
theorem dX6_find_41 : decode cX6_find 41 = .ok (.getfield 22, 3) := by decide +kernel
theorem dX6_find_44 : decode cX6_find 44 = .ok (.aload_n 0, 1) := by decide +kernel
theorem dX6_find_45 : decode cX6_find 45 = .ok (.getfield 10, 3) := by decide +kernel
theorem dX6_find_48 : decode cX6_find 48 = .ok (.invokevirtual 66, 3) := by decide +kernel
theorem dX6_find_51 : decode cX6_find 51 = .ok (.aload_n 2, 1) := by decide +kernel
theorem dX6_find_52 : decode cX6_find 52 = .ok (.iload_n 3, 1) := by decide +kernel
theorem dX6_find_53 : decode cX6_find 53 = .ok (.invokevirtual 125, 3) := by decide +kernel
theorem dX6_find_56 : decode cX6_find 56 = .ok (.aload_n 2, 1) := by decide +kernel
theorem dX6_find_57 : decode cX6_find 57 = .ok (.invokevirtual 128, 3) := by decide +kernel
theorem dX6_find_60 : decode cX6_find 60 = .ok (.ireturn, 1) := by decide +kernel
set_option maxRecDepth 20000 in
theorem ggX6_findAll_X3_record : GoodIn wsX6_findAll wsX3_record := goodIn_r _ [7, 8, 9, 10, 11, 12, 6, 13, 14, 15, 16, 17, 18, 19, 20, 21, 22, 23, 24, 25, 26, 27, 28, 29, 30, 31, 32, 33, 34, 35, 36, 37, 38, 39, 40, 41, 42, 43, 44, 45, 46, 47, 48, 49, 50, 51, 52, 53, 54, 55, 106, 107, 108, 109, 110, 111, 112, 113, 114, 115, 116, 117, 118, 119, 120] (by decide +kernel) (by decide +kernel)
set_option maxRecDepth 20000 in
theorem gX6_findAll_X3_record : GoodIn wsX6_findAll (wsV RX6 66 RX3 yX3_record wsX3_record) := goodIn_app (goodIn_of _ (by decide +kernel)) ggX6_findAll_X3_record
set_option maxRecDepth 20000 in
theorem ggX6_findAll_X5_anchorCount : GoodIn wsX6_findAll wsX5_anchorCount := goodIn_r _ [59, 21, 109, 110, 111, 112, 113] (by decide +kernel) (by decide +kernel)
set_option maxRecDepth 20000 in
theorem gX6_findAll_X5_anchorCount : GoodIn wsX6_findAll (wsV RX6 103 RX5 yX5_anchorCount wsX5_anchorCount) := goodIn_app (goodIn_of _ (by decide +kernel)) ggX6_findAll_X5_anchorCount
set_option maxRecDepth 20000 in
theorem ggX6_findAll_X5_anchorNumbered : GoodIn wsX6_findAll wsX5_anchorNumbered := goodIn_r _ [38, 21, 39, 109, 110, 111, 112, 113] (by decide +kernel) (by decide +kernel)
set_option maxRecDepth 20000 in
theorem gX6_findAll_X5_anchorNumbered : GoodIn wsX6_findAll (wsV RX6 109 RX5 yX5_anchorNumbered wsX5_anchorNumbered) := goodIn_app (goodIn_of _ (by decide +kernel)) ggX6_findAll_X5_anchorNumbered
set_option maxRecDepth 20000 in
theorem ggX6_findAll_X5_shiftOf : GoodIn wsX6_findAll wsX5_shiftOf := goodIn_r _ [64, 65, 66, 67, 18, 68, 69, 70, 71, 72, 20, 73, 74, 75, 76, 77, 78, 79, 27, 80, 30, 81, 82, 83, 84, 85, 49, 50, 43, 51, 47, 86, 32, 33, 34, 29, 52, 53, 54, 55, 22, 87, 88, 89, 90, 45, 91, 92, 93, 94, 109, 110, 111, 112, 113, 114, 115, 116, 117, 118, 119, 120] (by decide +kernel) (by decide +kernel)
set_option maxRecDepth 20000 in
theorem gX6_findAll_X5_shiftOf : GoodIn wsX6_findAll (wsV RX6 131 RX5 yX5_shiftOf wsX5_shiftOf) := goodIn_app (goodIn_of _ (by decide +kernel)) ggX6_findAll_X5_shiftOf
set_option maxRecDepth 20000 in
theorem ggX6_findAll_X0_place : GoodIn wsX6_findAll wsX0_place := goodIn_r _ [90, 45, 118, 119, 120] (by decide +kernel) (by decide +kernel)
set_option maxRecDepth 20000 in
theorem gX6_findAll_X0_place : GoodIn wsX6_findAll (wsV RX6 128 RX0 yX0_place wsX0_place) := goodIn_app (goodIn_of _ (by decide +kernel)) ggX6_findAll_X0_place
set_option maxRecDepth 20000 in
theorem ggX6_findAll_X0_goTo : GoodIn wsX6_findAll wsX0_goTo := goodIn_r _ [99, 45, 118, 119, 120] (by decide +kernel) (by decide +kernel)
set_option maxRecDepth 20000 in
theorem gX6_findAll_X0_goTo : GoodIn wsX6_findAll (wsV RX6 125 RX0 yX0_goTo wsX0_goTo) := goodIn_app (goodIn_of _ (by decide +kernel)) ggX6_findAll_X0_goTo
theorem dX6_findAll_0 : decode cX6_findAll 0 = .ok (.aload_n 0, 1) := by decide +kernel
theorem dX6_findAll_1 : decode cX6_findAll 1 = .ok (.getfield 22, 3) := by decide +kernel
theorem dX6_findAll_4 : decode cX6_findAll 4 = .ok (.aload_n 0, 1) := by decide +kernel
theorem dX6_findAll_5 : decode cX6_findAll 5 = .ok (.getfield 10, 3) := by decide +kernel
theorem dX6_findAll_8 : decode cX6_findAll 8 = .ok (.invokevirtual 66, 3) := by decide +kernel
theorem dX6_findAll_11 : decode cX6_findAll 11 = .ok (.iconst 0, 1) := by decide +kernel
theorem dX6_findAll_12 : decode cX6_findAll 12 = .ok (.istore_n 1, 1) := by decide +kernel
theorem dX6_findAll_13 : decode cX6_findAll 13 = .ok (.iconst 0, 1) := by decide +kernel
theorem dX6_findAll_14 : decode cX6_findAll 14 = .ok (.istore_n 2, 1) := by decide +kernel
theorem dX6_findAll_15 : decode cX6_findAll 15 = .ok (.iload_n 2, 1) := by decide +kernel
theorem dX6_findAll_16 : decode cX6_findAll 16 = .ok (.aload_n 0, 1) := by decide +kernel
theorem dX6_findAll_17 : decode cX6_findAll 17 = .ok (.getfield 10, 3) := by decide +kernel
theorem dX6_findAll_20 : decode cX6_findAll 20 = .ok (.invokevirtual 103, 3) := by decide +kernel
theorem dX6_findAll_23 : decode cX6_findAll 23 = .ok (.if_icmp .ge 51, 3) := by decide +kernel
theorem dX6_findAll_26 : decode cX6_findAll 26 = .ok (.aload_n 0, 1) := by decide +kernel
theorem dX6_findAll_27 : decode cX6_findAll 27 = .ok (.getfield 10, 3) := by decide +kernel
theorem dX6_findAll_30 : decode cX6_findAll 30 = .ok (.iload_n 2, 1) := by decide +kernel
theorem dX6_findAll_31 : decode cX6_findAll 31 = .ok (.invokevirtual 109, 3) := by decide +kernel
theorem dX6_findAll_34 : decode cX6_findAll 34 = .ok (.astore_n 3, 1) := by decide +kernel
theorem dX6_findAll_35 : decode cX6_findAll 35 = .ok (.aload_n 0, 1) := by decide +kernel
theorem dX6_findAll_36 : decode cX6_findAll 36 = .ok (.getfield 10, 3) := by decide +kernel
theorem dX6_findAll_39 : decode cX6_findAll 39 = .ok (.aload_n 3, 1) := by decide +kernel
theorem dX6_findAll_40 : decode cX6_findAll 40 = .ok (.invokevirtual 131, 3) := by decide +kernel
theorem dX6_findAll_43 : decode cX6_findAll 43 = .ok (.istore 4, 2) := by decide +kernel
theorem dX6_findAll_45 : decode cX6_findAll 45 = .ok (.aload_n 3, 1) := by decide +kernel
theorem dX6_findAll_46 : decode cX6_findAll 46 = .ok (.ifnull 22, 3) := by decide +kernel
theorem dX6_findAll_49 : decode cX6_findAll 49 = .ok (.iload 4, 2) := by decide +kernel
theorem dX6_findAll_51 : decode cX6_findAll 51 = .ok (.ifCond .eq 17, 3) := by decide +kernel
theorem dX6_findAll_54 : decode cX6_findAll 54 = .ok (.aload_n 3, 1) := by decide +kernel
theorem dX6_findAll_55 : decode cX6_findAll 55 = .ok (.aload_n 3, 1) := by decide +kernel
theorem dX6_findAll_56 : decode cX6_findAll 56 = .ok (.invokevirtual 128, 3) := by decide +kernel
theorem dX6_findAll_59 : decode cX6_findAll 59 = .ok (.iload 4, 2) := by decide +kernel
theorem dX6_findAll_61 : decode cX6_findAll 61 = .ok (.iadd, 1) := by decide +kernel
theorem dX6_findAll_62 : decode cX6_findAll 62 = .ok (.invokevirtual 125, 3) := by decide +kernel
theorem dX6_findAll_65 : decode cX6_findAll 65 = .ok (.iinc 1 1, 3) := by decide +kernel
theorem dX6_findAll_68 : decode cX6_findAll 68 = .ok (.iinc 2 1, 3) := by decide +kernel
theorem dX6_findAll_71 : decode cX6_findAll 71 = .ok (.goto (-56), 3) := by decide +kernel
theorem dX6_findAll_74 : decode cX6_findAll 74 = .ok (.iload_n 1, 1) := by decide +kernel
theorem dX6_findAll_75 : decode cX6_findAll 75 = .ok (.ireturn, 1) := by decide +kernel
set_option maxRecDepth 20000 in
theorem ggX6_remember_X5_anchorNumbered : GoodIn wsX6_remember wsX5_anchorNumbered := goodIn_r _ [10, 11, 12, 79, 80, 81, 82, 83] (by decide +kernel) (by decide +kernel)
set_option maxRecDepth 20000 in
theorem gX6_remember_X5_anchorNumbered : GoodIn wsX6_remember (wsV RX6 109 RX5 yX5_anchorNumbered wsX5_anchorNumbered) := goodIn_app (goodIn_of _ (by decide +kernel)) ggX6_remember_X5_anchorNumbered
set_option maxRecDepth 20000 in
theorem ggX6_remember_X0_place : GoodIn wsX6_remember wsX0_place := goodIn_r _ [17, 18, 84, 85, 86] (by decide +kernel) (by decide +kernel)
set_option maxRecDepth 20000 in
theorem gX6_remember_X0_place : GoodIn wsX6_remember (wsV RX6 128 RX0 yX0_place wsX0_place) := goodIn_app (goodIn_of _ (by decide +kernel)) ggX6_remember_X0_place
set_option maxRecDepth 20000 in
theorem ggX6_remember_X4_holds : GoodIn wsX6_remember wsX4_holds := goodIn_r _ [23, 24, 25, 87, 88, 89, 90] (by decide +kernel) (by decide +kernel)
set_option maxRecDepth 20000 in
theorem gX6_remember_X4_holds : GoodIn wsX6_remember (wsV RX6 78 RX4 yX4_holds wsX4_holds) := goodIn_app (goodIn_of _ (by decide +kernel)) ggX6_remember_X4_holds
set_option maxRecDepth 20000 in
theorem ggX6_remember_X3_record : GoodIn wsX6_remember wsX3_record := goodIn_r _ [30, 31, 32, 33, 34, 35, 29, 36, 37, 38, 39, 40, 9, 41, 42, 11, 43, 44, 45, 46, 47, 22, 48, 25, 24, 49, 50, 51, 52, 53, 7, 8, 10, 12, 54, 55, 56, 16, 57, 18, 58, 59, 60, 61, 62, 63, 64, 65, 66, 67, 91, 92, 93, 79, 80, 81, 82, 83, 87, 88, 89, 90, 84, 85, 86] (by decide +kernel) (by decide +kernel)
set_option maxRecDepth 20000 in
theorem gX6_remember_X3_record : GoodIn wsX6_remember (wsV RX6 66 RX3 yX3_record wsX3_record) := goodIn_app (goodIn_of _ (by decide +kernel)) ggX6_remember_X3_record
set_option maxRecDepth 20000 in
theorem ggX6_remember_X0_look : GoodIn wsX6_remember wsX0_look := goodIn_r _ [71, 59, 18, 58, 72, 50, 51, 22, 52, 24, 25, 84, 85, 86, 87, 88, 89, 90] (by decide +kernel) (by decide +kernel)
set_option maxRecDepth 20000 in
theorem gX6_remember_X0_look : GoodIn wsX6_remember (wsV RX6 134 RX0 yX0_look wsX0_look) := goodIn_app (goodIn_of _ (by decide +kernel)) ggX6_remember_X0_look
theorem dX6_remember_0 : decode cX6_remember 0 = .ok (.aload_n 0, 1) := by decide +kernel
theorem dX6_remember_1 : decode cX6_remember 1 = .ok (.getfield 10, 3) := by decide +kernel
theorem dX6_remember_4 : decode cX6_remember 4 = .ok (.iload_n 1, 1) := by decide +kernel
theorem dX6_remember_5 : decode cX6_remember 5 = .ok (.invokevirtual 109, 3) := by decide +kernel
theorem dX6_remember_8 : decode cX6_remember 8 = .ok (.astore_n 2, 1) := by decide +kernel
theorem dX6_remember_9 : decode cX6_remember 9 = .ok (.aload_n 2, 1) := by decide +kernel
theorem dX6_remember_10 : decode cX6_remember 10 = .ok (.ifnonnull 6, 3) := by decide +kernel
theorem dX6_remember_13 : decode cX6_remember 13 = .ok (.ldc 60, 2) := by decide +kernel
theorem dX6_remember_15 : decode cX6_remember 15 = .ok (.ireturn, 1) := by decide +kernel
theorem dX6_remember_16 : decode cX6_remember 16 = .ok (.aload_n 0, 1) := by decide +kernel
theorem dX6_remember_17 : decode cX6_remember 17 = .ok (.getfield 10, 3) := by decide +kernel
theorem dX6_remember_20 : decode cX6_remember 20 = .ok (.getfield 47, 3) := by decide +kernel
theorem dX6_remember_23 : decode cX6_remember 23 = .ok (.aload_n 2, 1) := by decide +kernel
theorem dX6_remember_24 : decode cX6_remember 24 = .ok (.invokevirtual 128, 3) := by decide +kernel
theorem dX6_remember_27 : decode cX6_remember 27 = .ok (.invokevirtual 78, 3) := by decide +kernel
theorem dX6_remember_30 : decode cX6_remember 30 = .ok (.ifCond .ne 6, 3) := by decide +kernel
theorem dX6_remember_33 : decode cX6_remember 33 = .ok (.ldc 124, 2) := by decide +kernel
theorem dX6_remember_35 : decode cX6_remember 35 = .ok (.ireturn, 1) := by decide +kernel
theorem dX6_remember_36 : decode cX6_remember 36 = .ok (.aload_n 0, 1) := by decide +kernel
theorem dX6_remember_37 : decode cX6_remember 37 = .ok (.getfield 22, 3) := by decide +kernel
theorem dX6_remember_40 : decode cX6_remember 40 = .ok (.aload_n 0, 1) := by decide +kernel
theorem dX6_remember_41 : decode cX6_remember 41 = .ok (.getfield 10, 3) := by decide +kernel
theorem dX6_remember_44 : decode cX6_remember 44 = .ok (.invokevirtual 66, 3) := by decide +kernel
theorem dX6_remember_47 : decode cX6_remember 47 = .ok (.aload_n 2, 1) := by decide +kernel
theorem dX6_remember_48 : decode cX6_remember 48 = .ok (.aload_n 0, 1) := by decide +kernel
theorem dX6_remember_49 : decode cX6_remember 49 = .ok (.getfield 10, 3) := by decide +kernel
theorem dX6_remember_52 : decode cX6_remember 52 = .ok (.getfield 47, 3) := by decide +kernel
theorem dX6_remember_55 : decode cX6_remember 55 = .ok (.invokevirtual 134, 3) := by decide +kernel
theorem dX6_remember_58 : decode cX6_remember 58 = .ok (.ireturn, 1) := by decide +kernel
set_option maxRecDepth 20000 in
theorem ggX6_set_X5_setting : GoodIn wsX6_set wsX5_setting := goodIn_r _ [9, 10, 69, 70, 71, 72, 73] (by decide +kernel) (by decide +kernel)
set_option maxRecDepth 20000 in
theorem gX6_set_X5_setting : GoodIn wsX6_set (wsV RX6 142 RX5 yX5_setting wsX5_setting) := goodIn_app (goodIn_of _ (by decide +kernel)) ggX6_set_X5_setting
set_option maxRecDepth 20000 in
theorem ggX6_set_X3_record : GoodIn wsX6_set wsX3_record := goodIn_r _ [15, 16, 17, 18, 19, 20, 14, 21, 22, 23, 24, 25, 8, 26, 27, 28, 10, 29, 30, 31, 32, 33, 34, 35, 36, 37, 38, 39, 40, 41, 42, 43, 44, 45, 46, 47, 48, 49, 50, 51, 52, 53, 54, 55, 56, 57, 58, 6, 7, 9, 74, 75, 76, 69, 70, 71, 72, 73, 77, 78, 79, 80, 81, 82, 83] (by decide +kernel) (by decide +kernel)
set_option maxRecDepth 20000 in
theorem gX6_set_X3_record : GoodIn wsX6_set (wsV RX6 66 RX3 yX3_record wsX3_record) := goodIn_app (goodIn_of _ (by decide +kernel)) ggX6_set_X3_record
set_option maxRecDepth 20000 in
theorem ggX6_set_X5_changeSetting : GoodIn wsX6_set wsX5_changeSetting := goodIn_r _ [62, 10, 69, 70, 71, 72, 73] (by decide +kernel) (by decide +kernel)
set_option maxRecDepth 20000 in
theorem gX6_set_X5_changeSetting : GoodIn wsX6_set (wsV RX6 145 RX5 yX5_changeSetting wsX5_changeSetting) := goodIn_app (goodIn_of _ (by decide +kernel)) ggX6_set_X5_changeSetting
theorem dX6_set_0 : decode cX6_set 0 = .ok (.iload_n 1, 1) := by decide +kernel
theorem dX6_set_1 : decode cX6_set 1 = .ok (.ifCond .lt 11, 3) := by decide +kernel
theorem dX6_set_4 : decode cX6_set 4 = .ok (.iload_n 1, 1) := by decide +kernel
theorem dX6_set_5 : decode cX6_set 5 = .ok (.getstatic 138, 3) := by decide +kernel
theorem dX6_set_8 : decode cX6_set 8 = .ok (.arraylength, 1) := by decide +kernel
theorem dX6_set_9 : decode cX6_set 9 = .ok (.if_icmp .lt 6, 3) := by decide +kernel
theorem dX6_set_12 : decode cX6_set 12 = .ok (.ldc 60, 2) := by decide +kernel
theorem dX6_set_14 : decode cX6_set 14 = .ok (.ireturn, 1) := by decide +kernel
theorem dX6_set_15 : decode cX6_set 15 = .ok (.iload_n 2, 1) := by decide +kernel
theorem dX6_set_16 : decode cX6_set 16 = .ok (.ifCond .lt 12, 3) := by decide +kernel
theorem dX6_set_19 : decode cX6_set 19 = .ok (.iload_n 2, 1) := by decide +kernel
theorem dX6_set_20 : decode cX6_set 20 = .ok (.getstatic 138, 3) := by decide +kernel
theorem dX6_set_23 : decode cX6_set 23 = .ok (.iload_n 1, 1) := by decide +kernel
theorem dX6_set_24 : decode cX6_set 24 = .ok (.iaload, 1) := by decide +kernel
theorem dX6_set_25 : decode cX6_set 25 = .ok (.if_icmp .le 6, 3) := by decide +kernel
theorem dX6_set_28 : decode cX6_set 28 = .ok (.ldc 60, 2) := by decide +kernel
theorem dX6_set_30 : decode cX6_set 30 = .ok (.ireturn, 1) := by decide +kernel
theorem dX6_set_31 : decode cX6_set 31 = .ok (.aload_n 0, 1) := by decide +kernel
theorem dX6_set_32 : decode cX6_set 32 = .ok (.getfield 10, 3) := by decide +kernel
theorem dX6_set_35 : decode cX6_set 35 = .ok (.iload_n 1, 1) := by decide +kernel
theorem dX6_set_36 : decode cX6_set 36 = .ok (.invokevirtual 142, 3) := by decide +kernel
theorem dX6_set_39 : decode cX6_set 39 = .ok (.istore_n 3, 1) := by decide +kernel
theorem dX6_set_40 : decode cX6_set 40 = .ok (.aload_n 0, 1) := by decide +kernel
theorem dX6_set_41 : decode cX6_set 41 = .ok (.getfield 22, 3) := by decide +kernel
theorem dX6_set_44 : decode cX6_set 44 = .ok (.aload_n 0, 1) := by decide +kernel
theorem dX6_set_45 : decode cX6_set 45 = .ok (.getfield 10, 3) := by decide +kernel
theorem dX6_set_48 : decode cX6_set 48 = .ok (.invokevirtual 66, 3) := by decide +kernel
theorem dX6_set_51 : decode cX6_set 51 = .ok (.aload_n 0, 1) := by decide +kernel
theorem dX6_set_52 : decode cX6_set 52 = .ok (.getfield 10, 3) := by decide +kernel
theorem dX6_set_55 : decode cX6_set 55 = .ok (.iload_n 1, 1) := by decide +kernel
theorem dX6_set_56 : decode cX6_set 56 = .ok (.iload_n 2, 1) := by decide +kernel
theorem dX6_set_57 : decode cX6_set 57 = .ok (.invokevirtual 145, 3) := by decide +kernel
theorem dX6_set_60 : decode cX6_set 60 = .ok (.iload_n 3, 1) := by decide +kernel
theorem dX6_set_61 : decode cX6_set 61 = .ok (.ireturn, 1) := by decide +kernel
set_option maxRecDepth 20000 in
theorem ggX6_wordAt_X4_at : GoodIn wsX6_wordAt wsX4_at := goodIn_r _ [8, 9, 10, 27, 28, 29, 30] (by decide +kernel) (by decide +kernel)
set_option maxRecDepth 20000 in
theorem gX6_wordAt_X4_at : GoodIn wsX6_wordAt (wsV RX6 81 RX4 yX4_at wsX4_at) := goodIn_app (goodIn_of _ (by decide +kernel)) ggX6_wordAt_X4_at
set_option maxRecDepth 20000 in
theorem ggX6_wordAt_X6_orNotFound : GoodIn wsX6_wordAt wsX6_orNotFound := goodIn_r _ [14, 15] (by decide +kernel) (by decide +kernel)
set_option maxRecDepth 20000 in
theorem gX6_wordAt_X6_orNotFound : GoodIn wsX6_wordAt (va_wsS RX6 148 yX6_orNotFound wsX6_orNotFound) := goodIn_app (goodIn_of _ (by decide +kernel)) ggX6_wordAt_X6_orNotFound
theorem dX6_wordAt_0 : decode cX6_wordAt 0 = .ok (.iload_n 1, 1) := by decide +kernel
theorem dX6_wordAt_1 : decode cX6_wordAt 1 = .ok (.ifCond .ge 6, 3) := by decide +kernel
theorem dX6_wordAt_4 : decode cX6_wordAt 4 = .ok (.ldc 60, 2) := by decide +kernel
theorem dX6_wordAt_6 : decode cX6_wordAt 6 = .ok (.ireturn, 1) := by decide +kernel
theorem dX6_wordAt_7 : decode cX6_wordAt 7 = .ok (.aload_n 0, 1) := by decide +kernel
theorem dX6_wordAt_8 : decode cX6_wordAt 8 = .ok (.getfield 10, 3) := by decide +kernel
theorem dX6_wordAt_11 : decode cX6_wordAt 11 = .ok (.getfield 47, 3) := by decide +kernel
theorem dX6_wordAt_14 : decode cX6_wordAt 14 = .ok (.iload_n 1, 1) := by decide +kernel
theorem dX6_wordAt_15 : decode cX6_wordAt 15 = .ok (.invokevirtual 81, 3) := by decide +kernel
theorem dX6_wordAt_18 : decode cX6_wordAt 18 = .ok (.invokestatic 148, 3) := by decide +kernel
theorem dX6_wordAt_21 : decode cX6_wordAt 21 = .ok (.ireturn, 1) := by decide +kernel
set_option maxRecDepth 20000 in
theorem ggX6_anchorOf_X5_anchorNumbered : GoodIn wsX6_anchorOf wsX5_anchorNumbered := goodIn_r _ [7, 8, 9, 96, 97, 98, 99, 100] (by decide +kernel) (by decide +kernel)
set_option maxRecDepth 20000 in
theorem gX6_anchorOf_X5_anchorNumbered : GoodIn wsX6_anchorOf (wsV RX6 109 RX5 yX5_anchorNumbered wsX5_anchorNumbered) := goodIn_app (goodIn_of _ (by decide +kernel)) ggX6_anchorOf_X5_anchorNumbered
set_option maxRecDepth 20000 in
theorem ggX6_anchorOf_X0_place : GoodIn wsX6_anchorOf wsX0_place := goodIn_r _ [14, 15, 101, 102, 103] (by decide +kernel) (by decide +kernel)
set_option maxRecDepth 20000 in
theorem gX6_anchorOf_X0_place : GoodIn wsX6_anchorOf (wsV RX6 128 RX0 yX0_place wsX0_place) := goodIn_app (goodIn_of _ (by decide +kernel)) ggX6_anchorOf_X0_place
set_option maxRecDepth 20000 in
theorem ggX6_anchorOf_X0_truePlace : GoodIn wsX6_anchorOf wsX0_truePlace := goodIn_r _ [19, 20, 101, 102, 103] (by decide +kernel) (by decide +kernel)
set_option maxRecDepth 20000 in
theorem gX6_anchorOf_X0_truePlace : GoodIn wsX6_anchorOf (wsV RX6 151 RX0 yX0_truePlace wsX0_truePlace) := goodIn_app (goodIn_of _ (by decide +kernel)) ggX6_anchorOf_X0_truePlace
set_option maxRecDepth 20000 in
theorem ggX6_anchorOf_X6_orNotFound : GoodIn wsX6_anchorOf wsX6_orNotFound := goodIn_r _ [24, 25] (by decide +kernel) (by decide +kernel)
set_option maxRecDepth 20000 in
theorem gX6_anchorOf_X6_orNotFound : GoodIn wsX6_anchorOf (va_wsS RX6 148 yX6_orNotFound wsX6_orNotFound) := goodIn_app (goodIn_of _ (by decide +kernel)) ggX6_anchorOf_X6_orNotFound
set_option maxRecDepth 20000 in
theorem ggX6_anchorOf_X5_standingOf : GoodIn wsX6_anchorOf wsX5_standingOf := goodIn_r _ [29, 30, 31, 32, 6, 33, 34, 35, 36, 37, 38, 39, 40, 41, 42, 43, 44, 45, 46, 47, 48, 49, 50, 51, 13, 52, 53, 54, 55, 56, 57, 58, 59, 60, 61, 62, 63, 64, 11, 12, 14, 15, 65, 66, 67, 68, 96, 97, 98, 99, 100, 104, 105, 106, 107, 101, 102, 103] (by decide +kernel) (by decide +kernel)
set_option maxRecDepth 20000 in
theorem gX6_anchorOf_X5_standingOf : GoodIn wsX6_anchorOf (wsV RX6 154 RX5 yX5_standingOf wsX5_standingOf) := goodIn_app (goodIn_of _ (by decide +kernel)) ggX6_anchorOf_X5_standingOf
set_option maxRecDepth 20000 in
theorem ggX6_anchorOf_X5_bestPlace : GoodIn wsX6_anchorOf wsX5_bestPlace := goodIn_r _ [72, 30, 31, 32, 6, 33, 34, 35, 36, 37, 38, 39, 40, 41, 42, 43, 44, 45, 46, 47, 48, 49, 50, 51, 13, 52, 53, 54, 55, 56, 57, 58, 59, 60, 61, 62, 63, 64, 11, 12, 14, 15, 96, 97, 98, 99, 100, 104, 105, 106, 107, 101, 102, 103] (by decide +kernel) (by decide +kernel)
set_option maxRecDepth 20000 in
theorem gX6_anchorOf_X5_bestPlace : GoodIn wsX6_anchorOf (wsV RX6 116 RX5 yX5_bestPlace wsX5_bestPlace) := goodIn_app (goodIn_of _ (by decide +kernel)) ggX6_anchorOf_X5_bestPlace
set_option maxRecDepth 20000 in
theorem ggX6_anchorOf_X6_scoreOrNotFound : GoodIn wsX6_anchorOf wsX6_scoreOrNotFound := goodIn_r _ [76, 25, 1, 77, 46, 47, 6, 48, 34, 35, 36, 37, 38, 49, 50, 51, 13, 52, 53, 54, 55, 56, 42, 57, 44, 58, 59, 60, 61, 62, 63, 90, 91, 92, 93, 94, 95, 96, 97, 98, 99, 100, 101, 102, 103, 104, 105, 106, 107] (by decide +kernel) (by decide +kernel)
set_option maxRecDepth 20000 in
theorem gX6_anchorOf_X6_scoreOrNotFound : GoodIn wsX6_anchorOf (wsV RX6 157 RX6 yX6_scoreOrNotFound wsX6_scoreOrNotFound) := goodIn_app (goodIn_of _ (by decide +kernel)) ggX6_anchorOf_X6_scoreOrNotFound
set_option maxRecDepth 20000 in
theorem ggX6_anchorOf_X5_nextBestPlace : GoodIn wsX6_anchorOf wsX5_nextBestPlace := goodIn_r _ [81, 82, 70, 71, 6, 72, 30, 31, 32, 33, 34, 35, 36, 37, 38, 39, 40, 41, 42, 43, 44, 45, 46, 47, 48, 49, 50, 51, 13, 52, 53, 54, 55, 56, 57, 58, 59, 60, 61, 62, 63, 64, 11, 12, 14, 15, 96, 97, 98, 99, 100, 104, 105, 106, 107, 101, 102, 103] (by decide +kernel) (by decide +kernel)
set_option maxRecDepth 20000 in
theorem gX6_anchorOf_X5_nextBestPlace : GoodIn wsX6_anchorOf (wsV RX6 161 RX5 yX5_nextBestPlace wsX5_nextBestPlace) := goodIn_app (goodIn_of _ (by decide +kernel)) ggX6_anchorOf_X5_nextBestPlace
set_option maxRecDepth 20000 in
theorem ggX6_anchorOf_X5_isOfKind : GoodIn wsX6_anchorOf wsX5_isOfKind := goodIn_r _ [86, 82, 70, 71, 6, 72, 30, 31, 32, 33, 34, 35, 36, 37, 38, 39, 40, 41, 42, 43, 44, 45, 46, 47, 48, 49, 50, 51, 13, 52, 53, 54, 55, 56, 57, 58, 59, 60, 61, 62, 63, 64, 11, 12, 14, 15, 65, 66, 67, 68, 87, 17, 18, 19, 20, 88, 27, 28, 29, 96, 97, 98, 99, 100, 104, 105, 106, 107, 101, 102, 103] (by decide +kernel) (by decide +kernel)
set_option maxRecDepth 20000 in
theorem gX6_anchorOf_X5_isOfKind : GoodIn wsX6_anchorOf (wsV RX6 164 RX5 yX5_isOfKind wsX5_isOfKind) := goodIn_app (goodIn_of _ (by decide +kernel)) ggX6_anchorOf_X5_isOfKind
set_option maxRecDepth 20000 in
theorem ggX6_anchorOf_X0_thing : GoodIn wsX6_anchorOf wsX0_thing := goodIn_r _ [52, 53, 101, 102, 103] (by decide +kernel) (by decide +kernel)
set_option maxRecDepth 20000 in
theorem gX6_anchorOf_X0_thing : GoodIn wsX6_anchorOf (wsV RX6 167 RX0 yX0_thing wsX0_thing) := goodIn_app (goodIn_of _ (by decide +kernel)) ggX6_anchorOf_X0_thing
theorem dX6_anchorOf_0 : decode cX6_anchorOf 0 = .ok (.aload_n 0, 1) := by decide +kernel
theorem dX6_anchorOf_1 : decode cX6_anchorOf 1 = .ok (.getfield 10, 3) := by decide +kernel
theorem dX6_anchorOf_4 : decode cX6_anchorOf 4 = .ok (.iload_n 1, 1) := by decide +kernel
theorem dX6_anchorOf_5 : decode cX6_anchorOf 5 = .ok (.invokevirtual 109, 3) := by decide +kernel
theorem dX6_anchorOf_8 : decode cX6_anchorOf 8 = .ok (.astore_n 3, 1) := by decide +kernel
theorem dX6_anchorOf_9 : decode cX6_anchorOf 9 = .ok (.aload_n 3, 1) := by decide +kernel
theorem dX6_anchorOf_10 : decode cX6_anchorOf 10 = .ok (.ifnull 13, 3) := by decide +kernel
theorem dX6_anchorOf_13 : decode cX6_anchorOf 13 = .ok (.iload_n 2, 1) := by decide +kernel
theorem dX6_anchorOf_14 : decode cX6_anchorOf 14 = .ok (.ifCond .lt 9, 3) := by decide +kernel
theorem dX6_anchorOf_17 : decode cX6_anchorOf 17 = .ok (.iload_n 2, 1) := by decide +kernel
theorem dX6_anchorOf_18 : decode cX6_anchorOf 18 = .ok (.bipush 12, 2) := by decide +kernel
theorem dX6_anchorOf_20 : decode cX6_anchorOf 20 = .ok (.if_icmp .le 6, 3) := by decide +kernel
theorem dX6_anchorOf_23 : decode cX6_anchorOf 23 = .ok (.ldc 60, 2) := by decide +kernel
theorem dX6_anchorOf_25 : decode cX6_anchorOf 25 = .ok (.ireturn, 1) := by decide +kernel
theorem dX6_anchorOf_26 : decode cX6_anchorOf 26 = .ok (.iload_n 2, 1) := by decide +kernel
theorem dX6_anchorOf_27 : decode cX6_anchorOf 27 = .ok (.tableswitch 157 0 12 #[65, 70, 157, 157, 157, 157, 157, 78, 87, 99, 113, 125, 139], 65) := by decide +kernel
theorem dX6_anchorOf_92 : decode cX6_anchorOf 92 = .ok (.aload_n 3, 1) := by decide +kernel
theorem dX6_anchorOf_93 : decode cX6_anchorOf 93 = .ok (.invokevirtual 128, 3) := by decide +kernel
theorem dX6_anchorOf_96 : decode cX6_anchorOf 96 = .ok (.ireturn, 1) := by decide +kernel
theorem dX6_anchorOf_97 : decode cX6_anchorOf 97 = .ok (.aload_n 3, 1) := by decide +kernel
theorem dX6_anchorOf_98 : decode cX6_anchorOf 98 = .ok (.invokevirtual 151, 3) := by decide +kernel
theorem dX6_anchorOf_101 : decode cX6_anchorOf 101 = .ok (.invokestatic 148, 3) := by decide +kernel
theorem dX6_anchorOf_104 : decode cX6_anchorOf 104 = .ok (.ireturn, 1) := by decide +kernel
theorem dX6_anchorOf_105 : decode cX6_anchorOf 105 = .ok (.aload_n 0, 1) := by decide +kernel
theorem dX6_anchorOf_106 : decode cX6_anchorOf 106 = .ok (.getfield 10, 3) := by decide +kernel
theorem dX6_anchorOf_109 : decode cX6_anchorOf 109 = .ok (.aload_n 3, 1) := by decide +kernel
theorem dX6_anchorOf_110 : decode cX6_anchorOf 110 = .ok (.invokevirtual 154, 3) := by decide +kernel
theorem dX6_anchorOf_113 : decode cX6_anchorOf 113 = .ok (.ireturn, 1) := by decide +kernel
theorem dX6_anchorOf_114 : decode cX6_anchorOf 114 = .ok (.aload_n 0, 1) := by decide +kernel
theorem dX6_anchorOf_115 : decode cX6_anchorOf 115 = .ok (.getfield 10, 3) := by decide +kernel
theorem dX6_anchorOf_118 : decode cX6_anchorOf 118 = .ok (.aload_n 3, 1) := by decide +kernel
theorem dX6_anchorOf_119 : decode cX6_anchorOf 119 = .ok (.invokevirtual 116, 3) := by decide +kernel
theorem dX6_anchorOf_122 : decode cX6_anchorOf 122 = .ok (.invokestatic 148, 3) := by decide +kernel
theorem dX6_anchorOf_125 : decode cX6_anchorOf 125 = .ok (.ireturn, 1) := by decide +kernel
theorem dX6_anchorOf_126 : decode cX6_anchorOf 126 = .ok (.aload_n 0, 1) := by decide +kernel
theorem dX6_anchorOf_127 : decode cX6_anchorOf 127 = .ok (.aload_n 3, 1) := by decide +kernel
theorem dX6_anchorOf_128 : decode cX6_anchorOf 128 = .ok (.aload_n 0, 1) := by decide +kernel
theorem dX6_anchorOf_129 : decode cX6_anchorOf 129 = .ok (.getfield 10, 3) := by decide +kernel
theorem dX6_anchorOf_132 : decode cX6_anchorOf 132 = .ok (.aload_n 3, 1) := by decide +kernel
theorem dX6_anchorOf_133 : decode cX6_anchorOf 133 = .ok (.invokevirtual 116, 3) := by decide +kernel
theorem dX6_anchorOf_136 : decode cX6_anchorOf 136 = .ok (.invokevirtual 157, 3) := by decide +kernel
theorem dX6_anchorOf_139 : decode cX6_anchorOf 139 = .ok (.ireturn, 1) := by decide +kernel
theorem dX6_anchorOf_140 : decode cX6_anchorOf 140 = .ok (.aload_n 0, 1) := by decide +kernel
theorem dX6_anchorOf_141 : decode cX6_anchorOf 141 = .ok (.getfield 10, 3) := by decide +kernel
theorem dX6_anchorOf_144 : decode cX6_anchorOf 144 = .ok (.aload_n 3, 1) := by decide +kernel
theorem dX6_anchorOf_145 : decode cX6_anchorOf 145 = .ok (.invokevirtual 161, 3) := by decide +kernel
theorem dX6_anchorOf_148 : decode cX6_anchorOf 148 = .ok (.invokestatic 148, 3) := by decide +kernel
theorem dX6_anchorOf_151 : decode cX6_anchorOf 151 = .ok (.ireturn, 1) := by decide +kernel
theorem dX6_anchorOf_152 : decode cX6_anchorOf 152 = .ok (.aload_n 0, 1) := by decide +kernel
theorem dX6_anchorOf_153 : decode cX6_anchorOf 153 = .ok (.aload_n 3, 1) := by decide +kernel
theorem dX6_anchorOf_154 : decode cX6_anchorOf 154 = .ok (.aload_n 0, 1) := by decide +kernel
theorem dX6_anchorOf_155 : decode cX6_anchorOf 155 = .ok (.getfield 10, 3) := by decide +kernel
theorem dX6_anchorOf_158 : decode cX6_anchorOf 158 = .ok (.aload_n 3, 1) := by decide +kernel
theorem dX6_anchorOf_159 : decode cX6_anchorOf 159 = .ok (.invokevirtual 161, 3) := by decide +kernel
theorem dX6_anchorOf_162 : decode cX6_anchorOf 162 = .ok (.invokevirtual 157, 3) := by decide +kernel
theorem dX6_anchorOf_165 : decode cX6_anchorOf 165 = .ok (.ireturn, 1) := by decide +kernel
theorem dX6_anchorOf_166 : decode cX6_anchorOf 166 = .ok (.aload_n 0, 1) := by decide +kernel
theorem dX6_anchorOf_167 : decode cX6_anchorOf 167 = .ok (.getfield 10, 3) := by decide +kernel
theorem dX6_anchorOf_170 : decode cX6_anchorOf 170 = .ok (.aload_n 3, 1) := by decide +kernel
theorem dX6_anchorOf_171 : decode cX6_anchorOf 171 = .ok (.iconst 3, 1) := by decide +kernel
theorem dX6_anchorOf_172 : decode cX6_anchorOf 172 = .ok (.invokevirtual 164, 3) := by decide +kernel
theorem dX6_anchorOf_175 : decode cX6_anchorOf 175 = .ok (.ifCond .eq 7, 3) := by decide +kernel
theorem dX6_anchorOf_178 : decode cX6_anchorOf 178 = .ok (.iconst 1, 1) := by decide +kernel
theorem dX6_anchorOf_179 : decode cX6_anchorOf 179 = .ok (.goto 4, 3) := by decide +kernel
theorem dX6_anchorOf_182 : decode cX6_anchorOf 182 = .ok (.iconst 0, 1) := by decide +kernel
theorem dX6_anchorOf_183 : decode cX6_anchorOf 183 = .ok (.ireturn, 1) := by decide +kernel
theorem dX6_anchorOf_184 : decode cX6_anchorOf 184 = .ok (.aload_n 3, 1) := by decide +kernel
theorem dX6_anchorOf_185 : decode cX6_anchorOf 185 = .ok (.iload_n 2, 1) := by decide +kernel
theorem dX6_anchorOf_186 : decode cX6_anchorOf 186 = .ok (.iconst 2, 1) := by decide +kernel
theorem dX6_anchorOf_187 : decode cX6_anchorOf 187 = .ok (.isub, 1) := by decide +kernel
theorem dX6_anchorOf_188 : decode cX6_anchorOf 188 = .ok (.invokevirtual 167, 3) := by decide +kernel
theorem dX6_anchorOf_191 : decode cX6_anchorOf 191 = .ok (.invokestatic 148, 3) := by decide +kernel
theorem dX6_anchorOf_194 : decode cX6_anchorOf 194 = .ok (.ireturn, 1) := by decide +kernel
set_option maxRecDepth 20000 in
theorem ggX6_score_X5_anchorNumbered : GoodIn wsX6_score wsX5_anchorNumbered := goodIn_r _ [8, 9, 10, 48, 49, 50, 51, 52] (by decide +kernel) (by decide +kernel)
set_option maxRecDepth 20000 in
theorem gX6_score_X5_anchorNumbered : GoodIn wsX6_score (wsV RX6 109 RX5 yX5_anchorNumbered wsX5_anchorNumbered) := goodIn_app (goodIn_of _ (by decide +kernel)) ggX6_score_X5_anchorNumbered
set_option maxRecDepth 20000 in
theorem ggX6_score_X4_holds : GoodIn wsX6_score wsX4_holds := goodIn_r _ [15, 16, 17, 53, 54, 55, 56] (by decide +kernel) (by decide +kernel)
set_option maxRecDepth 20000 in
theorem gX6_score_X4_holds : GoodIn wsX6_score (wsV RX6 78 RX4 yX4_holds wsX4_holds) := goodIn_app (goodIn_of _ (by decide +kernel)) ggX6_score_X4_holds
set_option maxRecDepth 20000 in
theorem ggX6_score_X5_scoreOf : GoodIn wsX6_score wsX5_scoreOf := goodIn_r _ [21, 22, 23, 24, 25, 26, 27, 28, 29, 30, 31, 32, 33, 34, 35, 14, 36, 16, 17, 37, 38, 39, 7, 40, 41, 48, 49, 50, 51, 52, 57, 58, 59, 53, 54, 55, 56] (by decide +kernel) (by decide +kernel)
set_option maxRecDepth 20000 in
theorem gX6_score_X5_scoreOf : GoodIn wsX6_score (wsV RX6 170 RX5 yX5_scoreOf wsX5_scoreOf) := goodIn_app (goodIn_of _ (by decide +kernel)) ggX6_score_X5_scoreOf
theorem dX6_score_0 : decode cX6_score 0 = .ok (.aload_n 0, 1) := by decide +kernel
theorem dX6_score_1 : decode cX6_score 1 = .ok (.getfield 10, 3) := by decide +kernel
theorem dX6_score_4 : decode cX6_score 4 = .ok (.iload_n 1, 1) := by decide +kernel
theorem dX6_score_5 : decode cX6_score 5 = .ok (.invokevirtual 109, 3) := by decide +kernel
theorem dX6_score_8 : decode cX6_score 8 = .ok (.astore_n 3, 1) := by decide +kernel
theorem dX6_score_9 : decode cX6_score 9 = .ok (.aload_n 3, 1) := by decide +kernel
theorem dX6_score_10 : decode cX6_score 10 = .ok (.ifnull 17, 3) := by decide +kernel
theorem dX6_score_13 : decode cX6_score 13 = .ok (.aload_n 0, 1) := by decide +kernel
theorem dX6_score_14 : decode cX6_score 14 = .ok (.getfield 10, 3) := by decide +kernel
theorem dX6_score_17 : decode cX6_score 17 = .ok (.getfield 47, 3) := by decide +kernel
theorem dX6_score_20 : decode cX6_score 20 = .ok (.iload_n 2, 1) := by decide +kernel
theorem dX6_score_21 : decode cX6_score 21 = .ok (.invokevirtual 78, 3) := by decide +kernel
theorem dX6_score_24 : decode cX6_score 24 = .ok (.ifCond .ne 6, 3) := by decide +kernel
theorem dX6_score_27 : decode cX6_score 27 = .ok (.ldc 60, 2) := by decide +kernel
theorem dX6_score_29 : decode cX6_score 29 = .ok (.ireturn, 1) := by decide +kernel
theorem dX6_score_30 : decode cX6_score 30 = .ok (.aload_n 0, 1) := by decide +kernel
theorem dX6_score_31 : decode cX6_score 31 = .ok (.getfield 10, 3) := by decide +kernel
theorem dX6_score_34 : decode cX6_score 34 = .ok (.aload_n 3, 1) := by decide +kernel
theorem dX6_score_35 : decode cX6_score 35 = .ok (.iload_n 2, 1) := by decide +kernel
theorem dX6_score_36 : decode cX6_score 36 = .ok (.invokevirtual 170, 3) := by decide +kernel
theorem dX6_score_39 : decode cX6_score 39 = .ok (.ireturn, 1) := by decide +kernel
set_option maxRecDepth 20000 in
theorem ggX6_anchors_X5_anchorsOfKind : GoodIn wsX6_anchors wsX5_anchorsOfKind := goodIn_r _ [7, 8, 9, 10, 11, 6, 12, 13, 14, 15, 16, 17, 18, 19, 20, 21, 22, 23, 24, 25, 26, 27, 28, 29, 30, 31, 32, 33, 34, 35, 36, 37, 38, 39, 40, 41, 42, 43, 44, 45, 46, 47, 48, 49, 50, 51, 52, 53, 54, 55, 56, 57, 58, 59, 60, 61, 62, 63, 64, 65, 66, 67, 68, 69, 70, 71, 72, 73, 74, 81, 82, 83, 84, 85, 86, 87, 88, 89, 90, 91, 92] (by decide +kernel) (by decide +kernel)
set_option maxRecDepth 20000 in
theorem gX6_anchors_X5_anchorsOfKind : GoodIn wsX6_anchors (wsV RX6 173 RX5 yX5_anchorsOfKind wsX5_anchorsOfKind) := goodIn_app (goodIn_of _ (by decide +kernel)) ggX6_anchors_X5_anchorsOfKind
theorem dX6_anchors_0 : decode cX6_anchors 0 = .ok (.iload_n 1, 1) := by decide +kernel
theorem dX6_anchors_1 : decode cX6_anchors 1 = .ok (.ifCond .lt 8, 3) := by decide +kernel
theorem dX6_anchors_4 : decode cX6_anchors 4 = .ok (.iload_n 1, 1) := by decide +kernel
theorem dX6_anchors_5 : decode cX6_anchors 5 = .ok (.iconst 5, 1) := by decide +kernel
theorem dX6_anchors_6 : decode cX6_anchors 6 = .ok (.if_icmp .le 6, 3) := by decide +kernel
theorem dX6_anchors_9 : decode cX6_anchors 9 = .ok (.ldc 60, 2) := by decide +kernel
theorem dX6_anchors_11 : decode cX6_anchors 11 = .ok (.ireturn, 1) := by decide +kernel
theorem dX6_anchors_12 : decode cX6_anchors 12 = .ok (.aload_n 0, 1) := by decide +kernel
theorem dX6_anchors_13 : decode cX6_anchors 13 = .ok (.getfield 10, 3) := by decide +kernel
theorem dX6_anchors_16 : decode cX6_anchors 16 = .ok (.iload_n 1, 1) := by decide +kernel
theorem dX6_anchors_17 : decode cX6_anchors 17 = .ok (.invokevirtual 173, 3) := by decide +kernel
theorem dX6_anchors_20 : decode cX6_anchors 20 = .ok (.ireturn, 1) := by decide +kernel
set_option maxRecDepth 20000 in
theorem ggX6_blockOf_X1_gather : GoodIn wsX6_blockOf wsX1_gather := goodIn_r _ [9, 10, 11, 12, 13, 14, 15, 16, 17, 18, 19, 20, 21, 22, 23, 24, 25, 26, 27, 28, 29, 30, 31, 32, 33, 34, 35, 36, 37, 38, 39, 40, 41, 42, 43, 44, 45, 46, 47, 48, 49, 50, 51, 52, 53, 54, 55, 56, 57, 58, 59, 60, 61, 62, 63, 64, 65, 66, 67, 68, 69, 70, 71, 72, 73, 74, 75, 76, 8, 77, 78, 79, 80, 81, 82, 83, 115, 116, 117, 118, 119, 120, 121, 122, 123, 124, 125, 126, 127, 128, 129] (by decide +kernel) (by decide +kernel)
set_option maxRecDepth 20000 in
theorem gX6_blockOf_X1_gather : GoodIn wsX6_blockOf (wsV RX6 176 RX1 yX1_gather wsX1_gather) := goodIn_app (goodIn_of _ (by decide +kernel)) ggX6_blockOf_X1_gather
set_option maxRecDepth 20000 in
theorem ggX6_blockOf_X1_inOrder : GoodIn wsX6_blockOf wsX1_inOrder := goodIn_r _ [87, 10, 88, 89, 90, 8, 91, 92, 93, 94, 95, 96, 97, 98, 99, 79, 100, 101, 102, 103, 104, 105, 106, 80, 81, 82, 83, 78, 115, 116, 117] (by decide +kernel) (by decide +kernel)
set_option maxRecDepth 20000 in
theorem gX6_blockOf_X1_inOrder : GoodIn wsX6_blockOf (wsV RX6 179 RX1 yX1_inOrder wsX1_inOrder) := goodIn_app (goodIn_of _ (by decide +kernel)) ggX6_blockOf_X1_inOrder
set_option maxRecDepth 20000 in
theorem ggX6_blockOf_X1_membersOf : GoodIn wsX6_blockOf wsX1_membersOf := goodIn_r _ [99, 10, 79, 115, 116, 117] (by decide +kernel) (by decide +kernel)
set_option maxRecDepth 20000 in
theorem gX6_blockOf_X1_membersOf : GoodIn wsX6_blockOf (wsV RX6 183 RX1 yX1_membersOf wsX1_membersOf) := goodIn_app (goodIn_of _ (by decide +kernel)) ggX6_blockOf_X1_membersOf
set_option maxRecDepth 20000 in
theorem ggX6_blockOf_X1_shiftOf : GoodIn wsX6_blockOf wsX1_shiftOf := goodIn_r _ [83, 10, 78, 115, 116, 117] (by decide +kernel) (by decide +kernel)
set_option maxRecDepth 20000 in
theorem gX6_blockOf_X1_shiftOf : GoodIn wsX6_blockOf (wsV RX6 186 RX1 yX1_shiftOf wsX1_shiftOf) := goodIn_app (goodIn_of _ (by decide +kernel)) ggX6_blockOf_X1_shiftOf
theorem dX6_blockOf_0 : decode cX6_blockOf 0 = .ok (.iload_n 1, 1) := by decide +kernel
theorem dX6_blockOf_1 : decode cX6_blockOf 1 = .ok (.ifCond .lt 12, 3) := by decide +kernel
theorem dX6_blockOf_4 : decode cX6_blockOf 4 = .ok (.iload_n 2, 1) := by decide +kernel
theorem dX6_blockOf_5 : decode cX6_blockOf 5 = .ok (.ifCond .lt 8, 3) := by decide +kernel
theorem dX6_blockOf_8 : decode cX6_blockOf 8 = .ok (.iload_n 2, 1) := by decide +kernel
theorem dX6_blockOf_9 : decode cX6_blockOf 9 = .ok (.iconst 1, 1) := by decide +kernel
theorem dX6_blockOf_10 : decode cX6_blockOf 10 = .ok (.if_icmp .le 6, 3) := by decide +kernel
theorem dX6_blockOf_13 : decode cX6_blockOf 13 = .ok (.ldc 60, 2) := by decide +kernel
theorem dX6_blockOf_15 : decode cX6_blockOf 15 = .ok (.ireturn, 1) := by decide +kernel
theorem dX6_blockOf_16 : decode cX6_blockOf 16 = .ok (.aload_n 0, 1) := by decide +kernel
theorem dX6_blockOf_17 : decode cX6_blockOf 17 = .ok (.getfield 36, 3) := by decide +kernel
theorem dX6_blockOf_20 : decode cX6_blockOf 20 = .ok (.aload_n 0, 1) := by decide +kernel
theorem dX6_blockOf_21 : decode cX6_blockOf 21 = .ok (.getfield 10, 3) := by decide +kernel
theorem dX6_blockOf_24 : decode cX6_blockOf 24 = .ok (.invokevirtual 176, 3) := by decide +kernel
theorem dX6_blockOf_27 : decode cX6_blockOf 27 = .ok (.aload_n 0, 1) := by decide +kernel
theorem dX6_blockOf_28 : decode cX6_blockOf 28 = .ok (.getfield 36, 3) := by decide +kernel
theorem dX6_blockOf_31 : decode cX6_blockOf 31 = .ok (.iload_n 1, 1) := by decide +kernel
theorem dX6_blockOf_32 : decode cX6_blockOf 32 = .ok (.invokevirtual 179, 3) := by decide +kernel
theorem dX6_blockOf_35 : decode cX6_blockOf 35 = .ok (.istore_n 3, 1) := by decide +kernel
theorem dX6_blockOf_36 : decode cX6_blockOf 36 = .ok (.iload_n 3, 1) := by decide +kernel
theorem dX6_blockOf_37 : decode cX6_blockOf 37 = .ok (.iconst (-1), 1) := by decide +kernel
theorem dX6_blockOf_38 : decode cX6_blockOf 38 = .ok (.if_icmp .ne 6, 3) := by decide +kernel
theorem dX6_blockOf_41 : decode cX6_blockOf 41 = .ok (.ldc 182, 2) := by decide +kernel
theorem dX6_blockOf_43 : decode cX6_blockOf 43 = .ok (.ireturn, 1) := by decide +kernel
theorem dX6_blockOf_44 : decode cX6_blockOf 44 = .ok (.iload_n 2, 1) := by decide +kernel
theorem dX6_blockOf_45 : decode cX6_blockOf 45 = .ok (.ifCond .ne 14, 3) := by decide +kernel
theorem dX6_blockOf_48 : decode cX6_blockOf 48 = .ok (.aload_n 0, 1) := by decide +kernel
theorem dX6_blockOf_49 : decode cX6_blockOf 49 = .ok (.getfield 36, 3) := by decide +kernel
theorem dX6_blockOf_52 : decode cX6_blockOf 52 = .ok (.iload_n 3, 1) := by decide +kernel
theorem dX6_blockOf_53 : decode cX6_blockOf 53 = .ok (.invokevirtual 183, 3) := by decide +kernel
theorem dX6_blockOf_56 : decode cX6_blockOf 56 = .ok (.goto 14, 3) := by decide +kernel
theorem dX6_blockOf_59 : decode cX6_blockOf 59 = .ok (.aload_n 0, 1) := by decide +kernel
theorem dX6_blockOf_60 : decode cX6_blockOf 60 = .ok (.getfield 36, 3) := by decide +kernel
theorem dX6_blockOf_63 : decode cX6_blockOf 63 = .ok (.iload_n 3, 1) := by decide +kernel
theorem dX6_blockOf_64 : decode cX6_blockOf 64 = .ok (.invokevirtual 186, 3) := by decide +kernel
theorem dX6_blockOf_67 : decode cX6_blockOf 67 = .ok (.bipush 100, 2) := by decide +kernel
theorem dX6_blockOf_69 : decode cX6_blockOf 69 = .ok (.iadd, 1) := by decide +kernel
theorem dX6_blockOf_70 : decode cX6_blockOf 70 = .ok (.ireturn, 1) := by decide +kernel
set_option maxRecDepth 20000 in
theorem ggX6_wouldTake_X4_holds : GoodIn wsX6_wouldTake wsX4_holds := goodIn_r _ [9, 10, 11, 144, 145, 146, 147] (by decide +kernel) (by decide +kernel)
set_option maxRecDepth 20000 in
theorem gX6_wouldTake_X4_holds : GoodIn wsX6_wouldTake (wsV RX6 78 RX4 yX4_holds wsX4_holds) := goodIn_app (goodIn_of _ (by decide +kernel)) ggX6_wouldTake_X4_holds
set_option maxRecDepth 20000 in
theorem ggX6_wouldTake_X6_tryTaking : GoodIn wsX6_wouldTake wsX6_tryTaking := goodIn_r _ [16, 4, 1, 17, 18, 19, 20, 21, 22, 23, 24, 25, 26, 27, 28, 8, 29, 11, 10, 30, 31, 32, 33, 34, 35, 36, 37, 38, 39, 40, 41, 42, 43, 44, 45, 46, 47, 48, 49, 50, 51, 52, 53, 54, 55, 56, 57, 58, 59, 60, 61, 62, 63, 64, 6, 7, 9, 65, 66, 67, 68, 69, 70, 71, 72, 73, 74, 75, 76, 77, 78, 79, 80, 81, 82, 83, 84, 85, 86, 133, 134, 135, 136, 137, 138, 139, 140, 141, 142, 143, 144, 145, 146, 147, 148, 149, 150] (by decide +kernel) (by decide +kernel)
set_option maxRecDepth 20000 in
theorem gX6_wouldTake_X6_tryTaking : GoodIn wsX6_wouldTake (wsV RX6 188 RX6 yX6_tryTaking wsX6_tryTaking) := goodIn_app (goodIn_of _ (by decide +kernel)) ggX6_wouldTake_X6_tryTaking
set_option maxRecDepth 20000 in
theorem ggX6_wouldTake_X5_anchorsOfKind : GoodIn wsX6_wouldTake wsX5_anchorsOfKind := goodIn_r _ [90, 23, 34, 35, 36, 20, 37, 38, 91, 92, 93, 94, 95, 96, 97, 98, 99, 100, 101, 102, 22, 103, 104, 105, 106, 107, 108, 109, 8, 110, 10, 111, 112, 113, 114, 115, 48, 49, 42, 50, 46, 116, 31, 32, 33, 11, 51, 52, 53, 54, 24, 117, 118, 119, 120, 44, 121, 122, 123, 124, 125, 126, 127, 128, 45, 129, 130, 131, 132, 139, 140, 141, 142, 143, 144, 145, 146, 147, 148, 149, 150] (by decide +kernel) (by decide +kernel)
set_option maxRecDepth 20000 in
theorem gX6_wouldTake_X5_anchorsOfKind : GoodIn wsX6_wouldTake (wsV RX6 173 RX5 yX5_anchorsOfKind wsX5_anchorsOfKind) := goodIn_app (goodIn_of _ (by decide +kernel)) ggX6_wouldTake_X5_anchorsOfKind
theorem dX6_wouldTake_0 : decode cX6_wouldTake 0 = .ok (.aload_n 0, 1) := by decide +kernel
theorem dX6_wouldTake_1 : decode cX6_wouldTake 1 = .ok (.getfield 10, 3) := by decide +kernel
theorem dX6_wouldTake_4 : decode cX6_wouldTake 4 = .ok (.getfield 47, 3) := by decide +kernel
theorem dX6_wouldTake_7 : decode cX6_wouldTake 7 = .ok (.iload_n 1, 1) := by decide +kernel
theorem dX6_wouldTake_8 : decode cX6_wouldTake 8 = .ok (.invokevirtual 78, 3) := by decide +kernel
theorem dX6_wouldTake_11 : decode cX6_wouldTake 11 = .ok (.ifCond .eq 12, 3) := by decide +kernel
theorem dX6_wouldTake_14 : decode cX6_wouldTake 14 = .ok (.iload_n 2, 1) := by decide +kernel
theorem dX6_wouldTake_15 : decode cX6_wouldTake 15 = .ok (.ifCond .lt 8, 3) := by decide +kernel
theorem dX6_wouldTake_18 : decode cX6_wouldTake 18 = .ok (.iload_n 2, 1) := by decide +kernel
theorem dX6_wouldTake_19 : decode cX6_wouldTake 19 = .ok (.iconst 1, 1) := by decide +kernel
theorem dX6_wouldTake_20 : decode cX6_wouldTake 20 = .ok (.if_icmp .le 6, 3) := by decide +kernel
theorem dX6_wouldTake_23 : decode cX6_wouldTake 23 = .ok (.ldc 60, 2) := by decide +kernel
theorem dX6_wouldTake_25 : decode cX6_wouldTake 25 = .ok (.ireturn, 1) := by decide +kernel
theorem dX6_wouldTake_26 : decode cX6_wouldTake 26 = .ok (.aload_n 0, 1) := by decide +kernel
theorem dX6_wouldTake_27 : decode cX6_wouldTake 27 = .ok (.iload_n 1, 1) := by decide +kernel
theorem dX6_wouldTake_28 : decode cX6_wouldTake 28 = .ok (.invokevirtual 188, 3) := by decide +kernel
theorem dX6_wouldTake_31 : decode cX6_wouldTake 31 = .ok (.aload_n 0, 1) := by decide +kernel
theorem dX6_wouldTake_32 : decode cX6_wouldTake 32 = .ok (.getfield 16, 3) := by decide +kernel
theorem dX6_wouldTake_35 : decode cX6_wouldTake 35 = .ok (.iload_n 2, 1) := by decide +kernel
theorem dX6_wouldTake_36 : decode cX6_wouldTake 36 = .ok (.ifCond .ne 7, 3) := by decide +kernel
theorem dX6_wouldTake_39 : decode cX6_wouldTake 39 = .ok (.iconst 2, 1) := by decide +kernel
theorem dX6_wouldTake_40 : decode cX6_wouldTake 40 = .ok (.goto 4, 3) := by decide +kernel
theorem dX6_wouldTake_43 : decode cX6_wouldTake 43 = .ok (.iconst 3, 1) := by decide +kernel
theorem dX6_wouldTake_44 : decode cX6_wouldTake 44 = .ok (.invokevirtual 173, 3) := by decide +kernel
theorem dX6_wouldTake_47 : decode cX6_wouldTake 47 = .ok (.ireturn, 1) := by decide +kernel
set_option maxRecDepth 20000 in
theorem ggX6_safest_X4_size : GoodIn wsX6_safest wsX4_size := goodIn_r _ [10, 11, 152, 153, 154, 155] (by decide +kernel) (by decide +kernel)
set_option maxRecDepth 20000 in
theorem gX6_safest_X4_size : GoodIn wsX6_safest (wsV RX6 74 RX4 yX4_size wsX4_size) := goodIn_app (goodIn_of _ (by decide +kernel)) ggX6_safest_X4_size
set_option maxRecDepth 20000 in
theorem ggX6_safest_X6_tryTaking : GoodIn wsX6_safest wsX6_tryTaking := goodIn_r _ [16, 4, 2, 17, 18, 19, 20, 21, 22, 23, 24, 25, 26, 27, 28, 9, 29, 30, 11, 31, 32, 33, 34, 35, 36, 37, 38, 39, 40, 41, 42, 43, 44, 45, 46, 47, 48, 49, 50, 51, 52, 53, 54, 55, 56, 57, 58, 59, 60, 61, 62, 63, 64, 65, 66, 67, 68, 69, 70, 71, 72, 73, 74, 75, 76, 77, 78, 79, 80, 81, 82, 83, 84, 85, 86, 87, 88, 89, 90, 141, 142, 143, 144, 145, 146, 147, 148, 149, 150, 151, 152, 153, 154, 155, 156, 157, 158] (by decide +kernel) (by decide +kernel)
set_option maxRecDepth 20000 in
theorem gX6_safest_X6_tryTaking : GoodIn wsX6_safest (wsV RX6 188 RX6 yX6_tryTaking wsX6_tryTaking) := goodIn_app (goodIn_of _ (by decide +kernel)) ggX6_safest_X6_tryTaking
set_option maxRecDepth 20000 in
theorem ggX6_safest_X5_anchorsOfKind : GoodIn wsX6_safest wsX5_anchorsOfKind := goodIn_r _ [94, 23, 35, 36, 37, 20, 38, 39, 95, 96, 97, 98, 99, 100, 101, 102, 103, 104, 105, 106, 22, 107, 108, 109, 110, 111, 7, 8, 9, 10, 11, 112, 113, 114, 115, 116, 49, 50, 43, 51, 47, 117, 32, 33, 34, 30, 52, 53, 54, 55, 24, 118, 119, 120, 121, 45, 122, 123, 124, 125, 126, 127, 128, 129, 46, 130, 131, 132, 133, 147, 148, 149, 150, 151, 152, 153, 154, 155, 156, 157, 158] (by decide +kernel) (by decide +kernel)
set_option maxRecDepth 20000 in
theorem gX6_safest_X5_anchorsOfKind : GoodIn wsX6_safest (wsV RX6 173 RX5 yX5_anchorsOfKind wsX5_anchorsOfKind) := goodIn_app (goodIn_of _ (by decide +kernel)) ggX6_safest_X5_anchorsOfKind
set_option maxRecDepth 20000 in
theorem ggX6_safest_J6_bitCount_0f7a4 : GoodIn wsX6_safest wsJ6_bitCount_0f7a4 := goodIn_r _ [137, 138, 139, 140] (by decide +kernel) (by decide +kernel)
set_option maxRecDepth 20000 in
theorem gX6_safest_J6_bitCount_0f7a4 : GoodIn wsX6_safest (va_wsS RX6 191 yJ6_bitCount_0f7a4 wsJ6_bitCount_0f7a4) := goodIn_app (goodIn_of _ (by decide +kernel)) ggX6_safest_J6_bitCount_0f7a4
theorem dX6_safest_0 : decode cX6_safest 0 = .ok (.iload_n 1, 1) := by decide +kernel
theorem dX6_safest_1 : decode cX6_safest 1 = .ok (.ifCond .lt 8, 3) := by decide +kernel
theorem dX6_safest_4 : decode cX6_safest 4 = .ok (.iload_n 1, 1) := by decide +kernel
theorem dX6_safest_5 : decode cX6_safest 5 = .ok (.iconst 1, 1) := by decide +kernel
theorem dX6_safest_6 : decode cX6_safest 6 = .ok (.if_icmp .le 6, 3) := by decide +kernel
theorem dX6_safest_9 : decode cX6_safest 9 = .ok (.ldc 60, 2) := by decide +kernel
theorem dX6_safest_11 : decode cX6_safest 11 = .ok (.ireturn, 1) := by decide +kernel
theorem dX6_safest_12 : decode cX6_safest 12 = .ok (.iconst (-1), 1) := by decide +kernel
theorem dX6_safest_13 : decode cX6_safest 13 = .ok (.istore_n 2, 1) := by decide +kernel
theorem dX6_safest_14 : decode cX6_safest 14 = .ok (.bipush 7, 2) := by decide +kernel
theorem dX6_safest_16 : decode cX6_safest 16 = .ok (.istore_n 3, 1) := by decide +kernel
theorem dX6_safest_17 : decode cX6_safest 17 = .ok (.iconst 0, 1) := by decide +kernel
theorem dX6_safest_18 : decode cX6_safest 18 = .ok (.istore 4, 2) := by decide +kernel
theorem dX6_safest_20 : decode cX6_safest 20 = .ok (.iload 4, 2) := by decide +kernel
theorem dX6_safest_22 : decode cX6_safest 22 = .ok (.aload_n 0, 1) := by decide +kernel
theorem dX6_safest_23 : decode cX6_safest 23 = .ok (.getfield 10, 3) := by decide +kernel
theorem dX6_safest_26 : decode cX6_safest 26 = .ok (.getfield 47, 3) := by decide +kernel
theorem dX6_safest_29 : decode cX6_safest 29 = .ok (.invokevirtual 74, 3) := by decide +kernel
theorem dX6_safest_32 : decode cX6_safest 32 = .ok (.if_icmp .ge 44, 3) := by decide +kernel
theorem dX6_safest_35 : decode cX6_safest 35 = .ok (.iload_n 3, 1) := by decide +kernel
theorem dX6_safest_36 : decode cX6_safest 36 = .ok (.ifCond .le 40, 3) := by decide +kernel
theorem dX6_safest_39 : decode cX6_safest 39 = .ok (.aload_n 0, 1) := by decide +kernel
theorem dX6_safest_40 : decode cX6_safest 40 = .ok (.iload 4, 2) := by decide +kernel
theorem dX6_safest_42 : decode cX6_safest 42 = .ok (.invokevirtual 188, 3) := by decide +kernel
theorem dX6_safest_45 : decode cX6_safest 45 = .ok (.aload_n 0, 1) := by decide +kernel
theorem dX6_safest_46 : decode cX6_safest 46 = .ok (.getfield 16, 3) := by decide +kernel
theorem dX6_safest_49 : decode cX6_safest 49 = .ok (.iconst 2, 1) := by decide +kernel
theorem dX6_safest_50 : decode cX6_safest 50 = .ok (.invokevirtual 173, 3) := by decide +kernel
theorem dX6_safest_53 : decode cX6_safest 53 = .ok (.invokestatic 191, 3) := by decide +kernel
theorem dX6_safest_56 : decode cX6_safest 56 = .ok (.istore 5, 2) := by decide +kernel
theorem dX6_safest_58 : decode cX6_safest 58 = .ok (.iload 5, 2) := by decide +kernel
theorem dX6_safest_60 : decode cX6_safest 60 = .ok (.iload_n 3, 1) := by decide +kernel
theorem dX6_safest_61 : decode cX6_safest 61 = .ok (.if_icmp .ge 9, 3) := by decide +kernel
theorem dX6_safest_64 : decode cX6_safest 64 = .ok (.iload 4, 2) := by decide +kernel
theorem dX6_safest_66 : decode cX6_safest 66 = .ok (.istore_n 2, 1) := by decide +kernel
theorem dX6_safest_67 : decode cX6_safest 67 = .ok (.iload 5, 2) := by decide +kernel
theorem dX6_safest_69 : decode cX6_safest 69 = .ok (.istore_n 3, 1) := by decide +kernel
theorem dX6_safest_70 : decode cX6_safest 70 = .ok (.iinc 4 1, 3) := by decide +kernel
theorem dX6_safest_73 : decode cX6_safest 73 = .ok (.goto (-53), 3) := by decide +kernel
theorem dX6_safest_76 : decode cX6_safest 76 = .ok (.iload_n 2, 1) := by decide +kernel
theorem dX6_safest_77 : decode cX6_safest 77 = .ok (.iconst (-1), 1) := by decide +kernel
theorem dX6_safest_78 : decode cX6_safest 78 = .ok (.if_icmp .ne 6, 3) := by decide +kernel
theorem dX6_safest_81 : decode cX6_safest 81 = .ok (.ldc 182, 2) := by decide +kernel
theorem dX6_safest_83 : decode cX6_safest 83 = .ok (.ireturn, 1) := by decide +kernel
theorem dX6_safest_84 : decode cX6_safest 84 = .ok (.iload_n 1, 1) := by decide +kernel
theorem dX6_safest_85 : decode cX6_safest 85 = .ok (.ifCond .ne 7, 3) := by decide +kernel
theorem dX6_safest_88 : decode cX6_safest 88 = .ok (.iload_n 2, 1) := by decide +kernel
theorem dX6_safest_89 : decode cX6_safest 89 = .ok (.goto 4, 3) := by decide +kernel
theorem dX6_safest_92 : decode cX6_safest 92 = .ok (.iload_n 3, 1) := by decide +kernel
theorem dX6_safest_93 : decode cX6_safest 93 = .ok (.ireturn, 1) := by decide +kernel
set_option maxRecDepth 20000 in
theorem ggX6_clearest_X4_size : GoodIn wsX6_clearest wsX4_size := goodIn_r _ [9, 10, 79, 80, 81, 82] (by decide +kernel) (by decide +kernel)
set_option maxRecDepth 20000 in
theorem gX6_clearest_X4_size : GoodIn wsX6_clearest (wsV RX6 74 RX4 yX4_size wsX4_size) := goodIn_app (goodIn_of _ (by decide +kernel)) ggX6_clearest_X4_size
set_option maxRecDepth 20000 in
theorem ggX6_clearest_X6_differenceAt : GoodIn wsX6_clearest wsX6_differenceAt := goodIn_r _ [15, 16, 2, 3, 17, 18, 19, 20, 21, 22, 23, 24, 25, 26, 27, 28, 29, 30, 31, 32, 33, 34, 35, 8, 36, 10, 37, 38, 39, 40, 41, 42, 43, 44, 45, 46, 47, 48, 49, 50, 51, 52, 53, 54, 55, 56, 57, 58, 59, 60, 61, 62, 6, 7, 9, 63, 64, 65, 66, 67, 68, 69, 70, 71, 72, 73, 74, 75, 76, 77, 78, 83, 84, 85, 79, 80, 81, 82] (by decide +kernel) (by decide +kernel)
set_option maxRecDepth 20000 in
theorem gX6_clearest_X6_differenceAt : GoodIn wsX6_clearest (wsV RX6 196 RX6 yX6_differenceAt wsX6_differenceAt) := goodIn_app (goodIn_of _ (by decide +kernel)) ggX6_clearest_X6_differenceAt
theorem dX6_clearest_0 : decode cX6_clearest 0 = .ok (.iload_n 1, 1) := by decide +kernel
theorem dX6_clearest_1 : decode cX6_clearest 1 = .ok (.ifCond .lt 8, 3) := by decide +kernel
theorem dX6_clearest_4 : decode cX6_clearest 4 = .ok (.iload_n 1, 1) := by decide +kernel
theorem dX6_clearest_5 : decode cX6_clearest 5 = .ok (.iconst 1, 1) := by decide +kernel
theorem dX6_clearest_6 : decode cX6_clearest 6 = .ok (.if_icmp .le 6, 3) := by decide +kernel
theorem dX6_clearest_9 : decode cX6_clearest 9 = .ok (.ldc 60, 2) := by decide +kernel
theorem dX6_clearest_11 : decode cX6_clearest 11 = .ok (.ireturn, 1) := by decide +kernel
theorem dX6_clearest_12 : decode cX6_clearest 12 = .ok (.iconst (-1), 1) := by decide +kernel
theorem dX6_clearest_13 : decode cX6_clearest 13 = .ok (.istore_n 2, 1) := by decide +kernel
theorem dX6_clearest_14 : decode cX6_clearest 14 = .ok (.iconst 0, 1) := by decide +kernel
theorem dX6_clearest_15 : decode cX6_clearest 15 = .ok (.istore_n 3, 1) := by decide +kernel
theorem dX6_clearest_16 : decode cX6_clearest 16 = .ok (.iconst 0, 1) := by decide +kernel
theorem dX6_clearest_17 : decode cX6_clearest 17 = .ok (.istore 4, 2) := by decide +kernel
theorem dX6_clearest_19 : decode cX6_clearest 19 = .ok (.iload 4, 2) := by decide +kernel
theorem dX6_clearest_21 : decode cX6_clearest 21 = .ok (.aload_n 0, 1) := by decide +kernel
theorem dX6_clearest_22 : decode cX6_clearest 22 = .ok (.getfield 10, 3) := by decide +kernel
theorem dX6_clearest_25 : decode cX6_clearest 25 = .ok (.getfield 47, 3) := by decide +kernel
theorem dX6_clearest_28 : decode cX6_clearest 28 = .ok (.invokevirtual 74, 3) := by decide +kernel
theorem dX6_clearest_31 : decode cX6_clearest 31 = .ok (.if_icmp .ge 34, 3) := by decide +kernel
theorem dX6_clearest_34 : decode cX6_clearest 34 = .ok (.aload_n 0, 1) := by decide +kernel
theorem dX6_clearest_35 : decode cX6_clearest 35 = .ok (.iload 4, 2) := by decide +kernel
theorem dX6_clearest_37 : decode cX6_clearest 37 = .ok (.invokevirtual 196, 3) := by decide +kernel
theorem dX6_clearest_40 : decode cX6_clearest 40 = .ok (.istore 5, 2) := by decide +kernel
theorem dX6_clearest_42 : decode cX6_clearest 42 = .ok (.iload_n 2, 1) := by decide +kernel
theorem dX6_clearest_43 : decode cX6_clearest 43 = .ok (.iconst (-1), 1) := by decide +kernel
theorem dX6_clearest_44 : decode cX6_clearest 44 = .ok (.if_icmp .eq 9, 3) := by decide +kernel
theorem dX6_clearest_47 : decode cX6_clearest 47 = .ok (.iload 5, 2) := by decide +kernel
theorem dX6_clearest_49 : decode cX6_clearest 49 = .ok (.iload_n 3, 1) := by decide +kernel
theorem dX6_clearest_50 : decode cX6_clearest 50 = .ok (.if_icmp .le 9, 3) := by decide +kernel
theorem dX6_clearest_53 : decode cX6_clearest 53 = .ok (.iload 4, 2) := by decide +kernel
theorem dX6_clearest_55 : decode cX6_clearest 55 = .ok (.istore_n 2, 1) := by decide +kernel
theorem dX6_clearest_56 : decode cX6_clearest 56 = .ok (.iload 5, 2) := by decide +kernel
theorem dX6_clearest_58 : decode cX6_clearest 58 = .ok (.istore_n 3, 1) := by decide +kernel
theorem dX6_clearest_59 : decode cX6_clearest 59 = .ok (.iinc 4 1, 3) := by decide +kernel
theorem dX6_clearest_62 : decode cX6_clearest 62 = .ok (.goto (-43), 3) := by decide +kernel
theorem dX6_clearest_65 : decode cX6_clearest 65 = .ok (.iload_n 2, 1) := by decide +kernel
theorem dX6_clearest_66 : decode cX6_clearest 66 = .ok (.iconst (-1), 1) := by decide +kernel
theorem dX6_clearest_67 : decode cX6_clearest 67 = .ok (.if_icmp .ne 6, 3) := by decide +kernel
theorem dX6_clearest_70 : decode cX6_clearest 70 = .ok (.ldc 182, 2) := by decide +kernel
theorem dX6_clearest_72 : decode cX6_clearest 72 = .ok (.ireturn, 1) := by decide +kernel
theorem dX6_clearest_73 : decode cX6_clearest 73 = .ok (.iload_n 1, 1) := by decide +kernel
theorem dX6_clearest_74 : decode cX6_clearest 74 = .ok (.ifCond .ne 7, 3) := by decide +kernel
theorem dX6_clearest_77 : decode cX6_clearest 77 = .ok (.iload_n 2, 1) := by decide +kernel
theorem dX6_clearest_78 : decode cX6_clearest 78 = .ok (.goto 4, 3) := by decide +kernel
theorem dX6_clearest_81 : decode cX6_clearest 81 = .ok (.iload_n 3, 1) := by decide +kernel
theorem dX6_clearest_82 : decode cX6_clearest 82 = .ok (.ireturn, 1) := by decide +kernel
set_option maxRecDepth 20000 in
theorem ggX6_count_X4_size : GoodIn wsX6_count wsX4_size := goodIn_r _ [10, 11, 64, 65, 66, 67] (by decide +kernel) (by decide +kernel)
set_option maxRecDepth 20000 in
theorem gX6_count_X4_size : GoodIn wsX6_count (wsV RX6 74 RX4 yX4_size wsX4_size) := goodIn_app (goodIn_of _ (by decide +kernel)) ggX6_count_X4_size
set_option maxRecDepth 20000 in
theorem ggX6_count_X5_anchorCount : GoodIn wsX6_count wsX5_anchorCount := goodIn_r _ [16, 17, 59, 60, 61, 62, 63] (by decide +kernel) (by decide +kernel)
set_option maxRecDepth 20000 in
theorem gX6_count_X5_anchorCount : GoodIn wsX6_count (wsV RX6 103 RX5 yX5_anchorCount wsX5_anchorCount) := goodIn_app (goodIn_of _ (by decide +kernel)) ggX6_count_X5_anchorCount
set_option maxRecDepth 20000 in
theorem ggX6_count_X4_unlikeWords : GoodIn wsX6_count wsX4_unlikeWords := goodIn_r _ [21, 11, 22, 23, 24, 9, 25, 26, 27, 28, 29, 30, 64, 65, 66, 67] (by decide +kernel) (by decide +kernel)
set_option maxRecDepth 20000 in
theorem gX6_count_X4_unlikeWords : GoodIn wsX6_count (wsV RX6 199 RX4 yX4_unlikeWords wsX4_unlikeWords) := goodIn_app (goodIn_of _ (by decide +kernel)) ggX6_count_X4_unlikeWords
set_option maxRecDepth 20000 in
theorem ggX6_count_X5_edits : GoodIn wsX6_count wsX5_edits := goodIn_r _ [34, 35, 59, 60, 61, 62, 63] (by decide +kernel) (by decide +kernel)
set_option maxRecDepth 20000 in
theorem gX6_count_X5_edits : GoodIn wsX6_count (wsV RX6 202 RX5 yX5_edits wsX5_edits) := goodIn_app (goodIn_of _ (by decide +kernel)) ggX6_count_X5_edits
set_option maxRecDepth 20000 in
theorem ggX6_count_X3_size : GoodIn wsX6_count wsX3_size := goodIn_r _ [40, 41, 68, 69, 70] (by decide +kernel) (by decide +kernel)
set_option maxRecDepth 20000 in
theorem gX6_count_X3_size : GoodIn wsX6_count (wsV RX6 205 RX3 yX3_size wsX3_size) := goodIn_app (goodIn_of _ (by decide +kernel)) ggX6_count_X3_size
set_option maxRecDepth 20000 in
theorem ggX6_count_X2_length : GoodIn wsX6_count wsX2_length := goodIn_r _ [46, 47, 71, 72, 73, 74, 75, 76] (by decide +kernel) (by decide +kernel)
set_option maxRecDepth 20000 in
theorem gX6_count_X2_length : GoodIn wsX6_count (wsV RX6 206 RX2 yX2_length wsX2_length) := goodIn_app (goodIn_of _ (by decide +kernel)) ggX6_count_X2_length
set_option maxRecDepth 20000 in
theorem ggX6_count_X5_setting : GoodIn wsX6_count wsX5_setting := goodIn_r _ [51, 52, 59, 60, 61, 62, 63] (by decide +kernel) (by decide +kernel)
set_option maxRecDepth 20000 in
theorem gX6_count_X5_setting : GoodIn wsX6_count (wsV RX6 142 RX5 yX5_setting wsX5_setting) := goodIn_app (goodIn_of _ (by decide +kernel)) ggX6_count_X5_setting
theorem dX6_count_0 : decode cX6_count 0 = .ok (.iload_n 1, 1) := by decide +kernel
theorem dX6_count_1 : decode cX6_count 1 = .ok (.tableswitch 181 0 24 #[115, 126, 134, 145, 153, 161, 181, 181, 181, 181, 181, 181, 181, 181, 181, 181, 181, 181, 181, 181, 169, 169, 169, 169, 169], 115) := by decide +kernel
theorem dX6_count_116 : decode cX6_count 116 = .ok (.aload_n 0, 1) := by decide +kernel
theorem dX6_count_117 : decode cX6_count 117 = .ok (.getfield 10, 3) := by decide +kernel
theorem dX6_count_120 : decode cX6_count 120 = .ok (.getfield 47, 3) := by decide +kernel
theorem dX6_count_123 : decode cX6_count 123 = .ok (.invokevirtual 74, 3) := by decide +kernel
theorem dX6_count_126 : decode cX6_count 126 = .ok (.ireturn, 1) := by decide +kernel
theorem dX6_count_127 : decode cX6_count 127 = .ok (.aload_n 0, 1) := by decide +kernel
theorem dX6_count_128 : decode cX6_count 128 = .ok (.getfield 10, 3) := by decide +kernel
theorem dX6_count_131 : decode cX6_count 131 = .ok (.invokevirtual 103, 3) := by decide +kernel
theorem dX6_count_134 : decode cX6_count 134 = .ok (.ireturn, 1) := by decide +kernel
theorem dX6_count_135 : decode cX6_count 135 = .ok (.aload_n 0, 1) := by decide +kernel
theorem dX6_count_136 : decode cX6_count 136 = .ok (.getfield 10, 3) := by decide +kernel
theorem dX6_count_139 : decode cX6_count 139 = .ok (.getfield 47, 3) := by decide +kernel
theorem dX6_count_142 : decode cX6_count 142 = .ok (.invokevirtual 199, 3) := by decide +kernel
theorem dX6_count_145 : decode cX6_count 145 = .ok (.ireturn, 1) := by decide +kernel
theorem dX6_count_146 : decode cX6_count 146 = .ok (.aload_n 0, 1) := by decide +kernel
theorem dX6_count_147 : decode cX6_count 147 = .ok (.getfield 10, 3) := by decide +kernel
theorem dX6_count_150 : decode cX6_count 150 = .ok (.invokevirtual 202, 3) := by decide +kernel
theorem dX6_count_153 : decode cX6_count 153 = .ok (.ireturn, 1) := by decide +kernel
theorem dX6_count_154 : decode cX6_count 154 = .ok (.aload_n 0, 1) := by decide +kernel
theorem dX6_count_155 : decode cX6_count 155 = .ok (.getfield 22, 3) := by decide +kernel
theorem dX6_count_158 : decode cX6_count 158 = .ok (.invokevirtual 205, 3) := by decide +kernel
theorem dX6_count_161 : decode cX6_count 161 = .ok (.ireturn, 1) := by decide +kernel
theorem dX6_count_162 : decode cX6_count 162 = .ok (.aload_n 0, 1) := by decide +kernel
theorem dX6_count_163 : decode cX6_count 163 = .ok (.getfield 29, 3) := by decide +kernel
theorem dX6_count_166 : decode cX6_count 166 = .ok (.invokevirtual 206, 3) := by decide +kernel
theorem dX6_count_169 : decode cX6_count 169 = .ok (.ireturn, 1) := by decide +kernel
theorem dX6_count_170 : decode cX6_count 170 = .ok (.aload_n 0, 1) := by decide +kernel
theorem dX6_count_171 : decode cX6_count 171 = .ok (.getfield 10, 3) := by decide +kernel
theorem dX6_count_174 : decode cX6_count 174 = .ok (.iload_n 1, 1) := by decide +kernel
theorem dX6_count_175 : decode cX6_count 175 = .ok (.bipush 20, 2) := by decide +kernel
theorem dX6_count_177 : decode cX6_count 177 = .ok (.isub, 1) := by decide +kernel
theorem dX6_count_178 : decode cX6_count 178 = .ok (.invokevirtual 142, 3) := by decide +kernel
theorem dX6_count_181 : decode cX6_count 181 = .ok (.ireturn, 1) := by decide +kernel
theorem dX6_count_182 : decode cX6_count 182 = .ok (.ldc 60, 2) := by decide +kernel
theorem dX6_count_184 : decode cX6_count 184 = .ok (.ireturn, 1) := by decide +kernel
set_option maxRecDepth 20000 in
theorem ggX6_undo_X3_latest : GoodIn wsX6_undo wsX3_latest := goodIn_r _ [8, 9, 10, 11, 12, 7, 13, 14, 15, 71, 72, 73] (by decide +kernel) (by decide +kernel)
set_option maxRecDepth 20000 in
theorem gX6_undo_X3_latest : GoodIn wsX6_undo (wsV RX6 209 RX3 yX3_latest wsX3_latest) := goodIn_app (goodIn_of _ (by decide +kernel)) ggX6_undo_X3_latest
set_option maxRecDepth 20000 in
theorem ggX6_undo_X5_copyFrom : GoodIn wsX6_undo wsX5_copyFrom := goodIn_r _ [20, 21, 22, 23, 24, 25, 26, 27, 28, 29, 30, 31, 32, 33, 34, 35, 36, 37, 38, 19, 39, 40, 41, 42, 43, 44, 45, 46, 47, 48, 49, 50, 51, 52, 53, 54, 55, 56, 74, 75, 76, 77, 78, 79, 80, 81, 82, 83, 84, 85] (by decide +kernel) (by decide +kernel)
set_option maxRecDepth 20000 in
theorem gX6_undo_X5_copyFrom : GoodIn wsX6_undo (wsV RX6 213 RX5 yX5_copyFrom wsX5_copyFrom) := goodIn_app (goodIn_of _ (by decide +kernel)) ggX6_undo_X5_copyFrom
set_option maxRecDepth 20000 in
theorem ggX6_undo_X3_forgetLatest : GoodIn wsX6_undo wsX3_forgetLatest := goodIn_r _ [60, 9, 71, 72, 73] (by decide +kernel) (by decide +kernel)
set_option maxRecDepth 20000 in
theorem gX6_undo_X3_forgetLatest : GoodIn wsX6_undo (wsV RX6 216 RX3 yX3_forgetLatest wsX3_forgetLatest) := goodIn_app (goodIn_of _ (by decide +kernel)) ggX6_undo_X3_forgetLatest
set_option maxRecDepth 20000 in
theorem ggX6_undo_X3_size : GoodIn wsX6_undo wsX3_size := goodIn_r _ [64, 9, 71, 72, 73] (by decide +kernel) (by decide +kernel)
set_option maxRecDepth 20000 in
theorem gX6_undo_X3_size : GoodIn wsX6_undo (wsV RX6 205 RX3 yX3_size wsX3_size) := goodIn_app (goodIn_of _ (by decide +kernel)) ggX6_undo_X3_size
theorem dX6_undo_0 : decode cX6_undo 0 = .ok (.aload_n 0, 1) := by decide +kernel
theorem dX6_undo_1 : decode cX6_undo 1 = .ok (.getfield 22, 3) := by decide +kernel
theorem dX6_undo_4 : decode cX6_undo 4 = .ok (.invokevirtual 209, 3) := by decide +kernel
theorem dX6_undo_7 : decode cX6_undo 7 = .ok (.astore_n 1, 1) := by decide +kernel
theorem dX6_undo_8 : decode cX6_undo 8 = .ok (.aload_n 1, 1) := by decide +kernel
theorem dX6_undo_9 : decode cX6_undo 9 = .ok (.ifnonnull 6, 3) := by decide +kernel
theorem dX6_undo_12 : decode cX6_undo 12 = .ok (.ldc 124, 2) := by decide +kernel
theorem dX6_undo_14 : decode cX6_undo 14 = .ok (.ireturn, 1) := by decide +kernel
theorem dX6_undo_15 : decode cX6_undo 15 = .ok (.aload_n 0, 1) := by decide +kernel
theorem dX6_undo_16 : decode cX6_undo 16 = .ok (.getfield 10, 3) := by decide +kernel
theorem dX6_undo_19 : decode cX6_undo 19 = .ok (.aload_n 1, 1) := by decide +kernel
theorem dX6_undo_20 : decode cX6_undo 20 = .ok (.invokevirtual 213, 3) := by decide +kernel
theorem dX6_undo_23 : decode cX6_undo 23 = .ok (.aload_n 0, 1) := by decide +kernel
theorem dX6_undo_24 : decode cX6_undo 24 = .ok (.getfield 22, 3) := by decide +kernel
theorem dX6_undo_27 : decode cX6_undo 27 = .ok (.invokevirtual 216, 3) := by decide +kernel
theorem dX6_undo_30 : decode cX6_undo 30 = .ok (.aload_n 0, 1) := by decide +kernel
theorem dX6_undo_31 : decode cX6_undo 31 = .ok (.getfield 22, 3) := by decide +kernel
theorem dX6_undo_34 : decode cX6_undo 34 = .ok (.invokevirtual 205, 3) := by decide +kernel
theorem dX6_undo_37 : decode cX6_undo 37 = .ok (.ireturn, 1) := by decide +kernel
set_option maxRecDepth 20000 in
theorem ggX6_type_X2_isFull : GoodIn wsX6_type wsX2_isFull := goodIn_r _ [8, 9, 10, 25, 26, 27, 28, 29, 30] (by decide +kernel) (by decide +kernel)
set_option maxRecDepth 20000 in
theorem gX6_type_X2_isFull : GoodIn wsX6_type (wsV RX6 219 RX2 yX2_isFull wsX2_isFull) := goodIn_app (goodIn_of _ (by decide +kernel)) ggX6_type_X2_isFull
set_option maxRecDepth 20000 in
theorem ggX6_type_X2_append : GoodIn wsX6_type wsX2_append := goodIn_r _ [14, 9, 10, 25, 26, 27, 28, 29, 30] (by decide +kernel) (by decide +kernel)
set_option maxRecDepth 20000 in
theorem gX6_type_X2_append : GoodIn wsX6_type (wsV RX6 220 RX2 yX2_append wsX2_append) := goodIn_app (goodIn_of _ (by decide +kernel)) ggX6_type_X2_append
set_option maxRecDepth 20000 in
theorem ggX6_type_X2_length : GoodIn wsX6_type wsX2_length := goodIn_r _ [18, 9, 25, 26, 27, 28, 29, 30] (by decide +kernel) (by decide +kernel)
set_option maxRecDepth 20000 in
theorem gX6_type_X2_length : GoodIn wsX6_type (wsV RX6 206 RX2 yX2_length wsX2_length) := goodIn_app (goodIn_of _ (by decide +kernel)) ggX6_type_X2_length
theorem dX6_type_0 : decode cX6_type 0 = .ok (.iload_n 1, 1) := by decide +kernel
theorem dX6_type_1 : decode cX6_type 1 = .ok (.bipush 32, 2) := by decide +kernel
theorem dX6_type_3 : decode cX6_type 3 = .ok (.if_icmp .lt 9, 3) := by decide +kernel
theorem dX6_type_6 : decode cX6_type 6 = .ok (.iload_n 1, 1) := by decide +kernel
theorem dX6_type_7 : decode cX6_type 7 = .ok (.bipush 126, 2) := by decide +kernel
theorem dX6_type_9 : decode cX6_type 9 = .ok (.if_icmp .le 6, 3) := by decide +kernel
theorem dX6_type_12 : decode cX6_type 12 = .ok (.ldc 60, 2) := by decide +kernel
theorem dX6_type_14 : decode cX6_type 14 = .ok (.ireturn, 1) := by decide +kernel
theorem dX6_type_15 : decode cX6_type 15 = .ok (.aload_n 0, 1) := by decide +kernel
theorem dX6_type_16 : decode cX6_type 16 = .ok (.getfield 29, 3) := by decide +kernel
theorem dX6_type_19 : decode cX6_type 19 = .ok (.invokevirtual 219, 3) := by decide +kernel
theorem dX6_type_22 : decode cX6_type 22 = .ok (.ifCond .eq 6, 3) := by decide +kernel
theorem dX6_type_25 : decode cX6_type 25 = .ok (.ldc 65, 2) := by decide +kernel
theorem dX6_type_27 : decode cX6_type 27 = .ok (.ireturn, 1) := by decide +kernel
theorem dX6_type_28 : decode cX6_type 28 = .ok (.aload_n 0, 1) := by decide +kernel
theorem dX6_type_29 : decode cX6_type 29 = .ok (.getfield 29, 3) := by decide +kernel
theorem dX6_type_32 : decode cX6_type 32 = .ok (.iload_n 1, 1) := by decide +kernel
theorem dX6_type_33 : decode cX6_type 33 = .ok (.i2c, 1) := by decide +kernel
theorem dX6_type_34 : decode cX6_type 34 = .ok (.invokevirtual 220, 3) := by decide +kernel
theorem dX6_type_37 : decode cX6_type 37 = .ok (.aload_n 0, 1) := by decide +kernel
theorem dX6_type_38 : decode cX6_type 38 = .ok (.getfield 29, 3) := by decide +kernel
theorem dX6_type_41 : decode cX6_type 41 = .ok (.invokevirtual 206, 3) := by decide +kernel
theorem dX6_type_44 : decode cX6_type 44 = .ok (.ireturn, 1) := by decide +kernel
set_option maxRecDepth 20000 in
theorem ggX6_clearText_X2_length : GoodIn wsX6_clearText wsX2_length := goodIn_r _ [6, 7, 18, 19, 20, 21, 22, 23] (by decide +kernel) (by decide +kernel)
set_option maxRecDepth 20000 in
theorem gX6_clearText_X2_length : GoodIn wsX6_clearText (wsV RX6 206 RX2 yX2_length wsX2_length) := goodIn_app (goodIn_of _ (by decide +kernel)) ggX6_clearText_X2_length
set_option maxRecDepth 20000 in
theorem ggX6_clearText_X2_empty : GoodIn wsX6_clearText wsX2_empty := goodIn_r _ [11, 7, 18, 19, 20, 21, 22, 23] (by decide +kernel) (by decide +kernel)
set_option maxRecDepth 20000 in
theorem gX6_clearText_X2_empty : GoodIn wsX6_clearText (wsV RX6 224 RX2 yX2_empty wsX2_empty) := goodIn_app (goodIn_of _ (by decide +kernel)) ggX6_clearText_X2_empty
theorem dX6_clearText_0 : decode cX6_clearText 0 = .ok (.aload_n 0, 1) := by decide +kernel
theorem dX6_clearText_1 : decode cX6_clearText 1 = .ok (.getfield 29, 3) := by decide +kernel
theorem dX6_clearText_4 : decode cX6_clearText 4 = .ok (.invokevirtual 206, 3) := by decide +kernel
theorem dX6_clearText_7 : decode cX6_clearText 7 = .ok (.istore_n 1, 1) := by decide +kernel
theorem dX6_clearText_8 : decode cX6_clearText 8 = .ok (.aload_n 0, 1) := by decide +kernel
theorem dX6_clearText_9 : decode cX6_clearText 9 = .ok (.getfield 29, 3) := by decide +kernel
theorem dX6_clearText_12 : decode cX6_clearText 12 = .ok (.invokevirtual 224, 3) := by decide +kernel
theorem dX6_clearText_15 : decode cX6_clearText 15 = .ok (.iload_n 1, 1) := by decide +kernel
theorem dX6_clearText_16 : decode cX6_clearText 16 = .ok (.ireturn, 1) := by decide +kernel
set_option maxRecDepth 20000 in
theorem ggX6_fault_X6_rehearse : GoodIn wsX6_fault wsX6_rehearse := goodIn_r _ [8, 9, 10, 3, 11, 12, 13, 14, 15, 16, 17, 18, 19, 20, 21, 22, 23, 24, 25, 26, 27, 28, 29, 30, 31, 32, 33, 34, 35, 36, 37, 38, 39, 40, 41, 42, 43, 44, 45, 46, 47, 48, 49, 50, 51, 52, 53, 54, 55, 56, 57, 58, 59, 60, 61, 62, 63, 64, 65, 66, 67, 68, 69, 70, 71, 72, 73, 74, 75, 76, 77, 78, 79, 80, 81, 82, 83, 84, 85, 86, 87, 88, 89, 90, 91, 92, 93, 94, 95, 96, 97, 98, 99, 100, 101, 102, 103, 104, 105, 106, 107, 108, 109, 110, 111, 112, 113, 114, 115, 116, 117, 118, 119, 120, 121, 122, 123, 124, 125, 126, 127, 128, 129, 130, 131, 132, 133, 134, 135, 136, 137, 138, 139, 140, 141, 142, 143, 144, 145, 146, 147, 148, 149, 150, 151, 152, 153, 154, 155, 156, 157, 158, 159, 160, 161, 162, 163, 164, 165, 166, 167, 168, 169, 170, 171, 172, 173, 174, 175, 176, 177, 178, 179, 180, 181, 182, 187, 188, 189, 190, 191, 192, 193, 194, 195, 196, 197, 198, 199, 200, 201, 202, 203, 204, 205, 206, 207, 208, 209, 210] (by decide +kernel) (by decide +kernel)
set_option maxRecDepth 20000 in
theorem gX6_fault_X6_rehearse : GoodIn wsX6_fault (wsV RX6 227 RX6 yX6_rehearse wsX6_rehearse) := goodIn_app (goodIn_of _ (by decide +kernel)) ggX6_fault_X6_rehearse
set_option maxRecDepth 20000 in
theorem ggX6_fault_X2_editStart : GoodIn wsX6_fault wsX2_editStart := goodIn_r _ [186, 67, 205, 206, 207, 208, 209, 210] (by decide +kernel) (by decide +kernel)
set_option maxRecDepth 20000 in
theorem gX6_fault_X2_editStart : GoodIn wsX6_fault (wsV RX6 230 RX2 yX2_editStart wsX2_editStart) := goodIn_app (goodIn_of _ (by decide +kernel)) ggX6_fault_X2_editStart
theorem dX6_fault_0 : decode cX6_fault 0 = .ok (.iload_n 1, 1) := by decide +kernel
theorem dX6_fault_1 : decode cX6_fault 1 = .ok (.ifCond .lt 8, 3) := by decide +kernel
theorem dX6_fault_4 : decode cX6_fault 4 = .ok (.iload_n 1, 1) := by decide +kernel
theorem dX6_fault_5 : decode cX6_fault 5 = .ok (.iconst 1, 1) := by decide +kernel
theorem dX6_fault_6 : decode cX6_fault 6 = .ok (.if_icmp .le 6, 3) := by decide +kernel
theorem dX6_fault_9 : decode cX6_fault 9 = .ok (.ldc 60, 2) := by decide +kernel
theorem dX6_fault_11 : decode cX6_fault 11 = .ok (.ireturn, 1) := by decide +kernel
theorem dX6_fault_12 : decode cX6_fault 12 = .ok (.aload_n 0, 1) := by decide +kernel
theorem dX6_fault_13 : decode cX6_fault 13 = .ok (.invokevirtual 227, 3) := by decide +kernel
theorem dX6_fault_16 : decode cX6_fault 16 = .ok (.istore_n 2, 1) := by decide +kernel
theorem dX6_fault_17 : decode cX6_fault 17 = .ok (.iload_n 2, 1) := by decide +kernel
theorem dX6_fault_18 : decode cX6_fault 18 = .ok (.ifCond .ne 6, 3) := by decide +kernel
theorem dX6_fault_21 : decode cX6_fault 21 = .ok (.ldc 182, 2) := by decide +kernel
theorem dX6_fault_23 : decode cX6_fault 23 = .ok (.ireturn, 1) := by decide +kernel
theorem dX6_fault_24 : decode cX6_fault 24 = .ok (.iload_n 1, 1) := by decide +kernel
theorem dX6_fault_25 : decode cX6_fault 25 = .ok (.ifCond .ne 13, 3) := by decide +kernel
theorem dX6_fault_28 : decode cX6_fault 28 = .ok (.aload_n 0, 1) := by decide +kernel
theorem dX6_fault_29 : decode cX6_fault 29 = .ok (.getfield 29, 3) := by decide +kernel
theorem dX6_fault_32 : decode cX6_fault 32 = .ok (.invokevirtual 230, 3) := by decide +kernel
theorem dX6_fault_35 : decode cX6_fault 35 = .ok (.goto 4, 3) := by decide +kernel
theorem dX6_fault_38 : decode cX6_fault 38 = .ok (.iload_n 2, 1) := by decide +kernel
theorem dX6_fault_39 : decode cX6_fault 39 = .ok (.ireturn, 1) := by decide +kernel
set_option maxRecDepth 20000 in
theorem ggX6_play_X6_rehearse : GoodIn wsX6_play wsX6_rehearse := goodIn_r _ [10, 4, 3, 11, 12, 13, 14, 15, 16, 17, 18, 19, 20, 21, 22, 23, 24, 25, 26, 27, 28, 29, 30, 31, 32, 33, 34, 35, 36, 37, 38, 39, 40, 41, 42, 43, 44, 45, 46, 47, 48, 49, 50, 51, 52, 53, 54, 55, 56, 57, 58, 59, 60, 61, 62, 63, 64, 65, 66, 67, 68, 69, 70, 71, 72, 73, 74, 75, 76, 77, 78, 79, 80, 81, 82, 83, 84, 85, 86, 87, 88, 89, 90, 91, 92, 93, 94, 95, 96, 97, 98, 99, 100, 101, 102, 103, 104, 105, 106, 107, 108, 109, 110, 111, 112, 113, 114, 115, 116, 117, 118, 119, 120, 121, 122, 123, 124, 125, 126, 127, 128, 129, 130, 131, 132, 133, 134, 135, 136, 137, 138, 139, 140, 141, 142, 143, 144, 145, 146, 147, 148, 149, 150, 151, 152, 153, 154, 155, 156, 157, 158, 159, 160, 161, 162, 163, 164, 165, 166, 167, 168, 169, 170, 171, 172, 173, 174, 175, 176, 177, 178, 179, 180, 181, 182, 183, 201, 202, 203, 204, 205, 206, 207, 208, 209, 210, 211, 212, 213, 214, 215, 216, 217, 218, 219, 220, 221, 222, 223, 224] (by decide +kernel) (by decide +kernel)
set_option maxRecDepth 20000 in
theorem gX6_play_X6_rehearse : GoodIn wsX6_play (wsV RX6 227 RX6 yX6_rehearse wsX6_rehearse) := goodIn_app (goodIn_of _ (by decide +kernel)) ggX6_play_X6_rehearse
set_option maxRecDepth 20000 in
theorem ggX6_play_X3_record : GoodIn wsX6_play wsX3_record := goodIn_r _ [188, 189, 190, 191, 192, 193, 187, 194, 195, 196, 13, 14, 15, 16, 17, 18, 19, 20, 21, 22, 23, 24, 25, 26, 27, 28, 29, 30, 31, 32, 33, 34, 35, 36, 37, 38, 39, 40, 41, 42, 43, 44, 45, 46, 47, 48, 49, 50, 51, 52, 225, 226, 227, 207, 208, 209, 210, 211, 212, 213, 214, 215, 216, 217, 218] (by decide +kernel) (by decide +kernel)
set_option maxRecDepth 20000 in
theorem gX6_play_X3_record : GoodIn wsX6_play (wsV RX6 66 RX3 yX3_record wsX3_record) := goodIn_app (goodIn_of _ (by decide +kernel)) ggX6_play_X3_record
set_option maxRecDepth 20000 in
theorem ggX6_play_X5_copyFrom : GoodIn wsX6_play wsX5_copyFrom := goodIn_r _ [16, 17, 18, 19, 20, 21, 22, 23, 24, 25, 26, 27, 28, 29, 30, 31, 32, 33, 34, 15, 35, 36, 37, 38, 39, 40, 41, 42, 43, 44, 45, 46, 47, 48, 49, 50, 51, 52, 207, 208, 209, 210, 211, 212, 213, 214, 215, 216, 217, 218] (by decide +kernel) (by decide +kernel)
set_option maxRecDepth 20000 in
theorem gX6_play_X5_copyFrom : GoodIn wsX6_play (wsV RX6 213 RX5 yX5_copyFrom wsX5_copyFrom) := goodIn_app (goodIn_of _ (by decide +kernel)) ggX6_play_X5_copyFrom
set_option maxRecDepth 20000 in
theorem ggX6_play_X4_size : GoodIn wsX6_play wsX4_size := goodIn_r _ [200, 27, 212, 213, 214, 215] (by decide +kernel) (by decide +kernel)
set_option maxRecDepth 20000 in
theorem gX6_play_X4_size : GoodIn wsX6_play (wsV RX6 74 RX4 yX4_size wsX4_size) := goodIn_app (goodIn_of _ (by decide +kernel)) ggX6_play_X4_size
theorem dX6_play_0 : decode cX6_play 0 = .ok (.aload_n 0, 1) := by decide +kernel
theorem dX6_play_1 : decode cX6_play 1 = .ok (.invokevirtual 227, 3) := by decide +kernel
theorem dX6_play_4 : decode cX6_play 4 = .ok (.ifCond .eq 6, 3) := by decide +kernel
theorem dX6_play_7 : decode cX6_play 7 = .ok (.ldc 124, 2) := by decide +kernel
theorem dX6_play_9 : decode cX6_play 9 = .ok (.ireturn, 1) := by decide +kernel
theorem dX6_play_10 : decode cX6_play 10 = .ok (.aload_n 0, 1) := by decide +kernel
theorem dX6_play_11 : decode cX6_play 11 = .ok (.getfield 22, 3) := by decide +kernel
theorem dX6_play_14 : decode cX6_play 14 = .ok (.aload_n 0, 1) := by decide +kernel
theorem dX6_play_15 : decode cX6_play 15 = .ok (.getfield 10, 3) := by decide +kernel
theorem dX6_play_18 : decode cX6_play 18 = .ok (.invokevirtual 66, 3) := by decide +kernel
theorem dX6_play_21 : decode cX6_play 21 = .ok (.aload_n 0, 1) := by decide +kernel
theorem dX6_play_22 : decode cX6_play 22 = .ok (.getfield 10, 3) := by decide +kernel
theorem dX6_play_25 : decode cX6_play 25 = .ok (.aload_n 0, 1) := by decide +kernel
theorem dX6_play_26 : decode cX6_play 26 = .ok (.getfield 16, 3) := by decide +kernel
theorem dX6_play_29 : decode cX6_play 29 = .ok (.invokevirtual 213, 3) := by decide +kernel
theorem dX6_play_32 : decode cX6_play 32 = .ok (.aload_n 0, 1) := by decide +kernel
theorem dX6_play_33 : decode cX6_play 33 = .ok (.getfield 10, 3) := by decide +kernel
theorem dX6_play_36 : decode cX6_play 36 = .ok (.getfield 47, 3) := by decide +kernel
theorem dX6_play_39 : decode cX6_play 39 = .ok (.invokevirtual 74, 3) := by decide +kernel
theorem dX6_play_42 : decode cX6_play 42 = .ok (.ireturn, 1) := by decide +kernel
theorem dX6_isWord_0 : decode cX6_isWord 0 = .ok (.iload_n 0, 1) := by decide +kernel
theorem dX6_isWord_1 : decode cX6_isWord 1 = .ok (.ifCond .lt 13, 3) := by decide +kernel
theorem dX6_isWord_4 : decode cX6_isWord 4 = .ok (.iload_n 0, 1) := by decide +kernel
theorem dX6_isWord_5 : decode cX6_isWord 5 = .ok (.bipush 99, 2) := by decide +kernel
theorem dX6_isWord_7 : decode cX6_isWord 7 = .ok (.if_icmp .gt 7, 3) := by decide +kernel
theorem dX6_isWord_10 : decode cX6_isWord 10 = .ok (.iconst 1, 1) := by decide +kernel
theorem dX6_isWord_11 : decode cX6_isWord 11 = .ok (.goto 4, 3) := by decide +kernel
theorem dX6_isWord_14 : decode cX6_isWord 14 = .ok (.iconst 0, 1) := by decide +kernel
theorem dX6_isWord_15 : decode cX6_isWord 15 = .ok (.ireturn, 1) := by decide +kernel
theorem dX6_orNotFound_0 : decode cX6_orNotFound 0 = .ok (.iload_n 0, 1) := by decide +kernel
theorem dX6_orNotFound_1 : decode cX6_orNotFound 1 = .ok (.iconst (-1), 1) := by decide +kernel
theorem dX6_orNotFound_2 : decode cX6_orNotFound 2 = .ok (.if_icmp .ne 8, 3) := by decide +kernel
theorem dX6_orNotFound_5 : decode cX6_orNotFound 5 = .ok (.ldc 182, 2) := by decide +kernel
theorem dX6_orNotFound_7 : decode cX6_orNotFound 7 = .ok (.goto 4, 3) := by decide +kernel
theorem dX6_orNotFound_10 : decode cX6_orNotFound 10 = .ok (.iload_n 0, 1) := by decide +kernel
theorem dX6_orNotFound_11 : decode cX6_orNotFound 11 = .ok (.ireturn, 1) := by decide +kernel
set_option maxRecDepth 20000 in
theorem ggX6_scoreOrNotFound_X5_scoreOf : GoodIn wsX6_scoreOrNotFound wsX5_scoreOf := goodIn_r _ [7, 8, 9, 10, 11, 12, 13, 14, 15, 16, 17, 18, 19, 20, 21, 22, 23, 24, 25, 26, 27, 28, 6, 29, 30, 37, 38, 39, 40, 41, 42, 43, 44, 45, 46, 47, 48] (by decide +kernel) (by decide +kernel)
set_option maxRecDepth 20000 in
theorem gX6_scoreOrNotFound_X5_scoreOf : GoodIn wsX6_scoreOrNotFound (wsV RX6 170 RX5 yX5_scoreOf wsX5_scoreOf) := goodIn_app (goodIn_of _ (by decide +kernel)) ggX6_scoreOrNotFound_X5_scoreOf
theorem dX6_scoreOrNotFound_0 : decode cX6_scoreOrNotFound 0 = .ok (.iload_n 2, 1) := by decide +kernel
theorem dX6_scoreOrNotFound_1 : decode cX6_scoreOrNotFound 1 = .ok (.iconst (-1), 1) := by decide +kernel
theorem dX6_scoreOrNotFound_2 : decode cX6_scoreOrNotFound 2 = .ok (.if_icmp .ne 8, 3) := by decide +kernel
theorem dX6_scoreOrNotFound_5 : decode cX6_scoreOrNotFound 5 = .ok (.ldc 182, 2) := by decide +kernel
theorem dX6_scoreOrNotFound_7 : decode cX6_scoreOrNotFound 7 = .ok (.goto 12, 3) := by decide +kernel
theorem dX6_scoreOrNotFound_10 : decode cX6_scoreOrNotFound 10 = .ok (.aload_n 0, 1) := by decide +kernel
theorem dX6_scoreOrNotFound_11 : decode cX6_scoreOrNotFound 11 = .ok (.getfield 10, 3) := by decide +kernel
theorem dX6_scoreOrNotFound_14 : decode cX6_scoreOrNotFound 14 = .ok (.aload_n 1, 1) := by decide +kernel
theorem dX6_scoreOrNotFound_15 : decode cX6_scoreOrNotFound 15 = .ok (.iload_n 2, 1) := by decide +kernel
theorem dX6_scoreOrNotFound_16 : decode cX6_scoreOrNotFound 16 = .ok (.invokevirtual 170, 3) := by decide +kernel
theorem dX6_scoreOrNotFound_19 : decode cX6_scoreOrNotFound 19 = .ok (.ireturn, 1) := by decide +kernel
set_option maxRecDepth 20000 in
theorem ggX6_tryTaking_X5_copyFrom : GoodIn wsX6_tryTaking wsX5_copyFrom := goodIn_r _ [7, 8, 9, 10, 11, 12, 13, 14, 15, 16, 17, 18, 19, 20, 21, 22, 23, 24, 25, 6, 26, 27, 28, 29, 30, 31, 32, 33, 34, 35, 36, 37, 38, 39, 40, 41, 42, 43, 85, 86, 87, 88, 89, 90, 91, 92, 93, 94, 95, 96] (by decide +kernel) (by decide +kernel)
set_option maxRecDepth 20000 in
theorem gX6_tryTaking_X5_copyFrom : GoodIn wsX6_tryTaking (wsV RX6 213 RX5 yX5_copyFrom wsX5_copyFrom) := goodIn_app (goodIn_of _ (by decide +kernel)) ggX6_tryTaking_X5_copyFrom
set_option maxRecDepth 20000 in
theorem ggX6_tryTaking_X5_removeWord : GoodIn wsX6_tryTaking wsX5_removeWord := goodIn_r _ [47, 8, 48, 49, 50, 15, 51, 52, 18, 53, 54, 55, 56, 17, 57, 58, 59, 60, 61, 62, 63, 64, 65, 66, 67, 68, 69, 70, 71, 72, 6, 73, 11, 9, 23, 24, 25, 26, 27, 74, 75, 76, 31, 77, 34, 78, 85, 86, 87, 88, 89, 90, 91, 92, 93, 94, 95, 96] (by decide +kernel) (by decide +kernel)
set_option maxRecDepth 20000 in
theorem gX6_tryTaking_X5_removeWord : GoodIn wsX6_tryTaking (wsV RX6 85 RX5 yX5_removeWord wsX5_removeWord) := goodIn_app (goodIn_of _ (by decide +kernel)) ggX6_tryTaking_X5_removeWord
theorem dX6_tryTaking_0 : decode cX6_tryTaking 0 = .ok (.aload_n 0, 1) := by decide +kernel
theorem dX6_tryTaking_1 : decode cX6_tryTaking 1 = .ok (.getfield 16, 3) := by decide +kernel
theorem dX6_tryTaking_4 : decode cX6_tryTaking 4 = .ok (.aload_n 0, 1) := by decide +kernel
theorem dX6_tryTaking_5 : decode cX6_tryTaking 5 = .ok (.getfield 10, 3) := by decide +kernel
theorem dX6_tryTaking_8 : decode cX6_tryTaking 8 = .ok (.invokevirtual 213, 3) := by decide +kernel
theorem dX6_tryTaking_11 : decode cX6_tryTaking 11 = .ok (.aload_n 0, 1) := by decide +kernel
theorem dX6_tryTaking_12 : decode cX6_tryTaking 12 = .ok (.getfield 16, 3) := by decide +kernel
theorem dX6_tryTaking_15 : decode cX6_tryTaking 15 = .ok (.iload_n 1, 1) := by decide +kernel
theorem dX6_tryTaking_16 : decode cX6_tryTaking 16 = .ok (.invokevirtual 85, 3) := by decide +kernel
theorem dX6_tryTaking_19 : decode cX6_tryTaking 19 = .ok (.return_, 1) := by decide +kernel
set_option maxRecDepth 20000 in
theorem ggX6_differenceAt_X0_setAt : GoodIn wsX6_differenceAt wsX0_setAt := goodIn_r _ [8, 9, 10, 11, 7, 12, 13, 14, 15, 16, 17, 18, 19, 20, 21, 22, 23, 24, 25, 26, 71, 72, 73, 74, 75, 76, 77] (by decide +kernel) (by decide +kernel)
set_option maxRecDepth 20000 in
theorem gX6_differenceAt_X0_setAt : GoodIn wsX6_differenceAt (wsV RX6 233 RX0 yX0_setAt wsX0_setAt) := goodIn_app (goodIn_of _ (by decide +kernel)) ggX6_differenceAt_X0_setAt
set_option maxRecDepth 20000 in
theorem ggX6_differenceAt_X5_scoreOf : GoodIn wsX6_differenceAt wsX5_scoreOf := goodIn_r _ [31, 32, 33, 34, 35, 36, 37, 38, 39, 7, 40, 18, 41, 21, 22, 23, 24, 25, 26, 42, 43, 44, 30, 45, 46, 66, 67, 68, 69, 70, 71, 72, 73, 74, 75, 76, 77] (by decide +kernel) (by decide +kernel)
set_option maxRecDepth 20000 in
theorem gX6_differenceAt_X5_scoreOf : GoodIn wsX6_differenceAt (wsV RX6 170 RX5 yX5_scoreOf wsX5_scoreOf) := goodIn_app (goodIn_of _ (by decide +kernel)) ggX6_differenceAt_X5_scoreOf
set_option maxRecDepth 20000 in
theorem ggX6_differenceAt_X5_bestPlaceBut : GoodIn wsX6_differenceAt wsX5_bestPlaceBut := goodIn_r _ [50, 32, 33, 34, 35, 36, 51, 52, 53, 23, 54, 25, 55, 28, 29, 30, 31, 37, 38, 39, 7, 40, 18, 41, 21, 22, 24, 26, 42, 43, 44, 45, 46, 56, 57, 58, 59, 13, 66, 67, 68, 69, 70, 74, 75, 76, 77, 71, 72, 73] (by decide +kernel) (by decide +kernel)
set_option maxRecDepth 20000 in
theorem gX6_differenceAt_X5_bestPlaceBut : GoodIn wsX6_differenceAt (wsV RX6 237 RX5 yX5_bestPlaceBut wsX5_bestPlaceBut) := goodIn_app (goodIn_of _ (by decide +kernel)) ggX6_differenceAt_X5_bestPlaceBut
theorem dX6_differenceAt_0 : decode cX6_differenceAt 0 = .ok (.aload_n 0, 1) := by decide +kernel
theorem dX6_differenceAt_1 : decode cX6_differenceAt 1 = .ok (.getfield 43, 3) := by decide +kernel
theorem dX6_differenceAt_4 : decode cX6_differenceAt 4 = .ok (.aload_n 0, 1) := by decide +kernel
theorem dX6_differenceAt_5 : decode cX6_differenceAt 5 = .ok (.getfield 10, 3) := by decide +kernel
theorem dX6_differenceAt_8 : decode cX6_differenceAt 8 = .ok (.getfield 47, 3) := by decide +kernel
theorem dX6_differenceAt_11 : decode cX6_differenceAt 11 = .ok (.iload_n 1, 1) := by decide +kernel
theorem dX6_differenceAt_12 : decode cX6_differenceAt 12 = .ok (.invokevirtual 233, 3) := by decide +kernel
theorem dX6_differenceAt_15 : decode cX6_differenceAt 15 = .ok (.aload_n 0, 1) := by decide +kernel
theorem dX6_differenceAt_16 : decode cX6_differenceAt 16 = .ok (.getfield 10, 3) := by decide +kernel
theorem dX6_differenceAt_19 : decode cX6_differenceAt 19 = .ok (.aload_n 0, 1) := by decide +kernel
theorem dX6_differenceAt_20 : decode cX6_differenceAt 20 = .ok (.getfield 43, 3) := by decide +kernel
theorem dX6_differenceAt_23 : decode cX6_differenceAt 23 = .ok (.iload_n 1, 1) := by decide +kernel
theorem dX6_differenceAt_24 : decode cX6_differenceAt 24 = .ok (.invokevirtual 170, 3) := by decide +kernel
theorem dX6_differenceAt_27 : decode cX6_differenceAt 27 = .ok (.istore_n 2, 1) := by decide +kernel
theorem dX6_differenceAt_28 : decode cX6_differenceAt 28 = .ok (.aload_n 0, 1) := by decide +kernel
theorem dX6_differenceAt_29 : decode cX6_differenceAt 29 = .ok (.getfield 10, 3) := by decide +kernel
theorem dX6_differenceAt_32 : decode cX6_differenceAt 32 = .ok (.aload_n 0, 1) := by decide +kernel
theorem dX6_differenceAt_33 : decode cX6_differenceAt 33 = .ok (.getfield 43, 3) := by decide +kernel
theorem dX6_differenceAt_36 : decode cX6_differenceAt 36 = .ok (.iload_n 1, 1) := by decide +kernel
theorem dX6_differenceAt_37 : decode cX6_differenceAt 37 = .ok (.invokevirtual 237, 3) := by decide +kernel
theorem dX6_differenceAt_40 : decode cX6_differenceAt 40 = .ok (.istore_n 3, 1) := by decide +kernel
theorem dX6_differenceAt_41 : decode cX6_differenceAt 41 = .ok (.iload_n 3, 1) := by decide +kernel
theorem dX6_differenceAt_42 : decode cX6_differenceAt 42 = .ok (.iconst (-1), 1) := by decide +kernel
theorem dX6_differenceAt_43 : decode cX6_differenceAt 43 = .ok (.if_icmp .ne 7, 3) := by decide +kernel
theorem dX6_differenceAt_46 : decode cX6_differenceAt 46 = .ok (.iload_n 2, 1) := by decide +kernel
theorem dX6_differenceAt_47 : decode cX6_differenceAt 47 = .ok (.goto 17, 3) := by decide +kernel
theorem dX6_differenceAt_50 : decode cX6_differenceAt 50 = .ok (.iload_n 2, 1) := by decide +kernel
theorem dX6_differenceAt_51 : decode cX6_differenceAt 51 = .ok (.aload_n 0, 1) := by decide +kernel
theorem dX6_differenceAt_52 : decode cX6_differenceAt 52 = .ok (.getfield 10, 3) := by decide +kernel
theorem dX6_differenceAt_55 : decode cX6_differenceAt 55 = .ok (.aload_n 0, 1) := by decide +kernel
theorem dX6_differenceAt_56 : decode cX6_differenceAt 56 = .ok (.getfield 43, 3) := by decide +kernel
theorem dX6_differenceAt_59 : decode cX6_differenceAt 59 = .ok (.iload_n 3, 1) := by decide +kernel
theorem dX6_differenceAt_60 : decode cX6_differenceAt 60 = .ok (.invokevirtual 170, 3) := by decide +kernel
theorem dX6_differenceAt_63 : decode cX6_differenceAt 63 = .ok (.isub, 1) := by decide +kernel
theorem dX6_differenceAt_64 : decode cX6_differenceAt 64 = .ok (.ireturn, 1) := by decide +kernel
set_option maxRecDepth 20000 in
theorem ggX6_rehearse_X5_copyFrom : GoodIn wsX6_rehearse wsX5_copyFrom := goodIn_r _ [8, 9, 10, 11, 12, 13, 14, 15, 16, 17, 18, 19, 20, 21, 22, 23, 24, 25, 26, 7, 27, 28, 29, 30, 31, 32, 33, 34, 35, 36, 37, 38, 39, 40, 41, 42, 43, 44, 182, 183, 184, 185, 186, 187, 188, 189, 190, 191, 192, 193] (by decide +kernel) (by decide +kernel)
set_option maxRecDepth 20000 in
theorem gX6_rehearse_X5_copyFrom : GoodIn wsX6_rehearse (wsV RX6 213 RX5 yX5_copyFrom wsX5_copyFrom) := goodIn_app (goodIn_of _ (by decide +kernel)) ggX6_rehearse_X5_copyFrom
set_option maxRecDepth 20000 in
theorem ggX6_rehearse_X2_rewind : GoodIn wsX6_rehearse wsX2_rewind := goodIn_r _ [49, 50, 194, 195, 196, 197, 198, 199] (by decide +kernel) (by decide +kernel)
set_option maxRecDepth 20000 in
theorem gX6_rehearse_X2_rewind : GoodIn wsX6_rehearse (wsV RX6 240 RX2 yX2_rewind wsX2_rewind) := goodIn_app (goodIn_of _ (by decide +kernel)) ggX6_rehearse_X2_rewind
set_option maxRecDepth 20000 in
theorem ggX6_rehearse_X2_hasMore : GoodIn wsX6_rehearse wsX2_hasMore := goodIn_r _ [54, 50, 55, 194, 195, 196, 197, 198, 199] (by decide +kernel) (by decide +kernel)
set_option maxRecDepth 20000 in
theorem gX6_rehearse_X2_hasMore : GoodIn wsX6_rehearse (wsV RX6 243 RX2 yX2_hasMore wsX2_hasMore) := goodIn_app (goodIn_of _ (by decide +kernel)) ggX6_rehearse_X2_hasMore
set_option maxRecDepth 20000 in
theorem ggX6_rehearse_X2_readEdit : GoodIn wsX6_rehearse wsX2_readEdit := goodIn_r _ [59, 50, 60, 61, 62, 63, 64, 48, 65, 55, 66, 67, 68, 69, 70, 71, 72, 73, 74, 75, 76, 77, 78, 79, 80, 81, 194, 195, 196, 197, 198, 199] (by decide +kernel) (by decide +kernel)
set_option maxRecDepth 20000 in
theorem gX6_rehearse_X2_readEdit : GoodIn wsX6_rehearse (wsV RX6 246 RX2 yX2_readEdit wsX2_readEdit) := goodIn_app (goodIn_of _ (by decide +kernel)) ggX6_rehearse_X2_readEdit
set_option maxRecDepth 20000 in
theorem ggX6_rehearse_X5_faultOf : GoodIn wsX6_rehearse wsX5_faultOf := goodIn_r _ [85, 9, 86, 87, 88, 48, 89, 78, 90, 91, 92, 93, 61, 94, 95, 96, 16, 97, 19, 98, 99, 100, 101, 102, 103, 104, 105, 18, 106, 107, 108, 109, 110, 182, 183, 184, 185, 186, 194, 195, 196, 197, 198, 199, 187, 188, 189, 190] (by decide +kernel) (by decide +kernel)
set_option maxRecDepth 20000 in
theorem gX6_rehearse_X5_faultOf : GoodIn wsX6_rehearse (wsV RX6 249 RX5 yX5_faultOf wsX5_faultOf) := goodIn_app (goodIn_of _ (by decide +kernel)) ggX6_rehearse_X5_faultOf
set_option maxRecDepth 20000 in
theorem ggX6_rehearse_X5_perform : GoodIn wsX6_rehearse wsX5_perform := goodIn_r _ [114, 86, 87, 88, 48, 89, 78, 90, 91, 92, 93, 61, 115, 116, 117, 7, 118, 9, 119, 120, 121, 16, 122, 123, 19, 124, 95, 96, 97, 125, 108, 109, 110, 18, 126, 127, 128, 129, 130, 131, 132, 133, 134, 135, 136, 137, 138, 139, 140, 141, 142, 12, 10, 24, 25, 26, 27, 28, 143, 144, 145, 32, 146, 35, 147, 148, 149, 150, 151, 152, 153, 154, 155, 102, 103, 104, 105, 156, 157, 158, 159, 160, 161, 162, 163, 164, 165, 166, 167, 168, 169, 170, 171, 172, 99, 100, 101, 173, 174, 175, 194, 195, 196, 197, 198, 199, 182, 183, 184, 185, 186, 187, 188, 189, 190, 191, 192, 193] (by decide +kernel) (by decide +kernel)
set_option maxRecDepth 20000 in
theorem gX6_rehearse_X5_perform : GoodIn wsX6_rehearse (wsV RX6 253 RX5 yX5_perform wsX5_perform) := goodIn_app (goodIn_of _ (by decide +kernel)) ggX6_rehearse_X5_perform
theorem dX6_rehearse_0 : decode cX6_rehearse 0 = .ok (.aload_n 0, 1) := by decide +kernel
theorem dX6_rehearse_1 : decode cX6_rehearse 1 = .ok (.getfield 16, 3) := by decide +kernel
theorem dX6_rehearse_4 : decode cX6_rehearse 4 = .ok (.aload_n 0, 1) := by decide +kernel
theorem dX6_rehearse_5 : decode cX6_rehearse 5 = .ok (.getfield 10, 3) := by decide +kernel
theorem dX6_rehearse_8 : decode cX6_rehearse 8 = .ok (.invokevirtual 213, 3) := by decide +kernel
theorem dX6_rehearse_11 : decode cX6_rehearse 11 = .ok (.aload_n 0, 1) := by decide +kernel
theorem dX6_rehearse_12 : decode cX6_rehearse 12 = .ok (.getfield 29, 3) := by decide +kernel
theorem dX6_rehearse_15 : decode cX6_rehearse 15 = .ok (.invokevirtual 240, 3) := by decide +kernel
theorem dX6_rehearse_18 : decode cX6_rehearse 18 = .ok (.iconst 0, 1) := by decide +kernel
theorem dX6_rehearse_19 : decode cX6_rehearse 19 = .ok (.istore_n 1, 1) := by decide +kernel
theorem dX6_rehearse_20 : decode cX6_rehearse 20 = .ok (.iconst 0, 1) := by decide +kernel
theorem dX6_rehearse_21 : decode cX6_rehearse 21 = .ok (.istore_n 2, 1) := by decide +kernel
theorem dX6_rehearse_22 : decode cX6_rehearse 22 = .ok (.iload_n 2, 1) := by decide +kernel
theorem dX6_rehearse_23 : decode cX6_rehearse 23 = .ok (.bipush 60, 2) := by decide +kernel
theorem dX6_rehearse_25 : decode cX6_rehearse 25 = .ok (.if_icmp .ge 64, 3) := by decide +kernel
theorem dX6_rehearse_28 : decode cX6_rehearse 28 = .ok (.iload_n 1, 1) := by decide +kernel
theorem dX6_rehearse_29 : decode cX6_rehearse 29 = .ok (.ifCond .ne 60, 3) := by decide +kernel
theorem dX6_rehearse_32 : decode cX6_rehearse 32 = .ok (.aload_n 0, 1) := by decide +kernel
theorem dX6_rehearse_33 : decode cX6_rehearse 33 = .ok (.getfield 29, 3) := by decide +kernel
theorem dX6_rehearse_36 : decode cX6_rehearse 36 = .ok (.invokevirtual 243, 3) := by decide +kernel
theorem dX6_rehearse_39 : decode cX6_rehearse 39 = .ok (.ifCond .eq 50, 3) := by decide +kernel
theorem dX6_rehearse_42 : decode cX6_rehearse 42 = .ok (.aload_n 0, 1) := by decide +kernel
theorem dX6_rehearse_43 : decode cX6_rehearse 43 = .ok (.getfield 29, 3) := by decide +kernel
theorem dX6_rehearse_46 : decode cX6_rehearse 46 = .ok (.invokevirtual 246, 3) := by decide +kernel
theorem dX6_rehearse_49 : decode cX6_rehearse 49 = .ok (.ifCond .eq 17, 3) := by decide +kernel
theorem dX6_rehearse_52 : decode cX6_rehearse 52 = .ok (.aload_n 0, 1) := by decide +kernel
theorem dX6_rehearse_53 : decode cX6_rehearse 53 = .ok (.getfield 16, 3) := by decide +kernel
theorem dX6_rehearse_56 : decode cX6_rehearse 56 = .ok (.aload_n 0, 1) := by decide +kernel
theorem dX6_rehearse_57 : decode cX6_rehearse 57 = .ok (.getfield 29, 3) := by decide +kernel
theorem dX6_rehearse_60 : decode cX6_rehearse 60 = .ok (.invokevirtual 249, 3) := by decide +kernel
theorem dX6_rehearse_63 : decode cX6_rehearse 63 = .ok (.goto 4, 3) := by decide +kernel
theorem dX6_rehearse_66 : decode cX6_rehearse 66 = .ok (.iconst 1, 1) := by decide +kernel
theorem dX6_rehearse_67 : decode cX6_rehearse 67 = .ok (.istore_n 1, 1) := by decide +kernel
theorem dX6_rehearse_68 : decode cX6_rehearse 68 = .ok (.iload_n 1, 1) := by decide +kernel
theorem dX6_rehearse_69 : decode cX6_rehearse 69 = .ok (.ifCond .ne 14, 3) := by decide +kernel
theorem dX6_rehearse_72 : decode cX6_rehearse 72 = .ok (.aload_n 0, 1) := by decide +kernel
theorem dX6_rehearse_73 : decode cX6_rehearse 73 = .ok (.getfield 16, 3) := by decide +kernel
theorem dX6_rehearse_76 : decode cX6_rehearse 76 = .ok (.aload_n 0, 1) := by decide +kernel
theorem dX6_rehearse_77 : decode cX6_rehearse 77 = .ok (.getfield 29, 3) := by decide +kernel
theorem dX6_rehearse_80 : decode cX6_rehearse 80 = .ok (.invokevirtual 253, 3) := by decide +kernel
theorem dX6_rehearse_83 : decode cX6_rehearse 83 = .ok (.iinc 2 1, 3) := by decide +kernel
theorem dX6_rehearse_86 : decode cX6_rehearse 86 = .ok (.goto (-64), 3) := by decide +kernel
theorem dX6_rehearse_89 : decode cX6_rehearse 89 = .ok (.iload_n 1, 1) := by decide +kernel
theorem dX6_rehearse_90 : decode cX6_rehearse 90 = .ok (.ireturn, 1) := by decide +kernel
