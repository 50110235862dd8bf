set_option maxRecDepth 20000 in
theorem ggX6_init_X2_init : GoodIn wsX6_init wsX2_init := goodIn_r _ [29, 30, 2, 3, 31, 32, 33, 6, 34, 35, 36, 37, 38, 39, 40, 41, 69] (by decide +kernel) (by decide +kernel)
set_option maxRecDepth 20000 in
theorem gX6_init_X2_init : GoodIn wsX6_init (wsX2_init) := ggX6_init_X2_init
set_option maxRecDepth 20000 in
theorem ggX6_init_X1_init : GoodIn wsX6_init wsX1_init := goodIn_r _ [43, 44, 2, 3, 35, 45, 78, 79] (by decide +kernel) (by decide +kernel)
set_option maxRecDepth 20000 in
theorem gX6_init_X1_init_n18 : GoodIn wsX6_init (wsX1_init) := ggX6_init_X1_init
set_option maxRecDepth 20000 in
theorem ggX6_init_X3_init : GoodIn wsX6_init wsX3_init := goodIn_r _ [48, 49, 2, 3, 50, 51, 52, 53, 54, 55, 56, 57, 58, 80, 81, 82, 83, 84, 89, 90, 91, 92] (by decide +kernel) (by decide +kernel)
set_option maxRecDepth 20000 in
theorem gX6_init_X3_init : GoodIn wsX6_init (wsX3_init) := ggX6_init_X3_init
set_option maxRecDepth 20000 in
theorem ggX6_init_X4_init : GoodIn wsX6_init wsX4_init := goodIn_r _ [60, 61, 2, 3, 35, 62, 85, 86] (by decide +kernel) (by decide +kernel)
set_option maxRecDepth 20000 in
theorem gX6_init_X4_init_n32 : GoodIn wsX6_init (wsX4_init) := ggX6_init_X4_init
set_option maxRecDepth 20000 in
theorem ggX6_init_X0_init : GoodIn wsX6_init wsX0_init := goodIn_r _ [65, 66, 2, 3, 67, 68, 17, 18, 59, 60, 61, 35, 62, 87, 88, 85, 86] (by decide +kernel) (by decide +kernel)
set_option maxRecDepth 20000 in
theorem gX6_init_X0_init : GoodIn wsX6_init (wsX0_init) := ggX6_init_X0_init
theorem dX6_init_0 : decode cX6_init 0 = .ok (.aload_n 0, 1) := by decide +kernel
theorem dX6_init_1 : decode cX6_init 1 = .ok (.invokespecial 3, 3) := by decide +kernel
theorem dX6_init_4 : decode cX6_init 4 = .ok (.aload_n 0, 1) := by decide +kernel
theorem dX6_init_5 : decode cX6_init 5 = .ok (.new 9, 3) := by decide +kernel
theorem dX6_init_8 : decode cX6_init 8 = .ok (.dup, 1) := by decide +kernel
theorem dX6_init_9 : decode cX6_init 9 = .ok (.invokespecial 11, 3) := by decide +kernel
theorem dX6_init_12 : decode cX6_init 12 = .ok (.putfield 12, 3) := by decide +kernel
theorem dX6_init_15 : decode cX6_init 15 = .ok (.aload_n 0, 1) := by decide +kernel
theorem dX6_init_16 : decode cX6_init 16 = .ok (.new 16, 3) := by decide +kernel
theorem dX6_init_19 : decode cX6_init 19 = .ok (.dup, 1) := by decide +kernel
theorem dX6_init_20 : decode cX6_init 20 = .ok (.invokespecial 18, 3) := by decide +kernel
theorem dX6_init_23 : decode cX6_init 23 = .ok (.putfield 19, 3) := by decide +kernel
theorem dX6_init_26 : decode cX6_init 26 = .ok (.aload_n 0, 1) := by decide +kernel
theorem dX6_init_27 : decode cX6_init 27 = .ok (.new 23, 3) := by decide +kernel
theorem dX6_init_30 : decode cX6_init 30 = .ok (.dup, 1) := by decide +kernel
theorem dX6_init_31 : decode cX6_init 31 = .ok (.invokespecial 25, 3) := by decide +kernel
theorem dX6_init_34 : decode cX6_init 34 = .ok (.putfield 26, 3) := by decide +kernel
theorem dX6_init_37 : decode cX6_init 37 = .ok (.aload_n 0, 1) := by decide +kernel
theorem dX6_init_38 : decode cX6_init 38 = .ok (.new 30, 3) := by decide +kernel
theorem dX6_init_41 : decode cX6_init 41 = .ok (.dup, 1) := by decide +kernel
theorem dX6_init_42 : decode cX6_init 42 = .ok (.invokespecial 32, 3) := by decide +kernel
theorem dX6_init_45 : decode cX6_init 45 = .ok (.putfield 33, 3) := by decide +kernel
theorem dX6_init_48 : decode cX6_init 48 = .ok (.aload_n 0, 1) := by decide +kernel
theorem dX6_init_49 : decode cX6_init 49 = .ok (.new 30, 3) := by decide +kernel
theorem dX6_init_52 : decode cX6_init 52 = .ok (.dup, 1) := by decide +kernel
theorem dX6_init_53 : decode cX6_init 53 = .ok (.invokespecial 32, 3) := by decide +kernel
theorem dX6_init_56 : decode cX6_init 56 = .ok (.putfield 37, 3) := by decide +kernel
theorem dX6_init_59 : decode cX6_init 59 = .ok (.aload_n 0, 1) := by decide +kernel
theorem dX6_init_60 : decode cX6_init 60 = .ok (.new 30, 3) := by decide +kernel
theorem dX6_init_63 : decode cX6_init 63 = .ok (.dup, 1) := by decide +kernel
theorem dX6_init_64 : decode cX6_init 64 = .ok (.invokespecial 32, 3) := by decide +kernel
theorem dX6_init_67 : decode cX6_init 67 = .ok (.putfield 40, 3) := by decide +kernel
theorem dX6_init_70 : decode cX6_init 70 = .ok (.aload_n 0, 1) := by decide +kernel
theorem dX6_init_71 : decode cX6_init 71 = .ok (.new 43, 3) := by decide +kernel
theorem dX6_init_74 : decode cX6_init 74 = .ok (.dup, 1) := by decide +kernel
theorem dX6_init_75 : decode cX6_init 75 = .ok (.invokespecial 45, 3) := by decide +kernel
theorem dX6_init_78 : decode cX6_init 78 = .ok (.putfield 46, 3) := by decide +kernel
theorem dX6_init_81 : decode cX6_init 81 = .ok (.aload_n 0, 1) := by decide +kernel
theorem dX6_init_82 : decode cX6_init 82 = .ok (.iconst 0, 1) := by decide +kernel
theorem dX6_init_83 : decode cX6_init 83 = .ok (.putfield 50, 3) := by decide +kernel
theorem dX6_init_86 : decode cX6_init 86 = .ok (.return_, 1) := by decide +kernel
set_option maxRecDepth 20000 in
theorem ggX6_set_X6_requireRegister : GoodIn wsX6_set wsX6_requireRegister := goodIn_ca (goodIn_r _ [7, 8, 9] (by decide +kernel) (by decide +kernel)) (goodIn_sub (fun _ h => List.mem_cons_of_mem _ (List.mem_append_left _ (List.mem_append_right _ h))) (by decide +kernel))
set_option maxRecDepth 20000 in
theorem gX6_set_X6_requireRegister : GoodIn wsX6_set (va_wsS RX6 54 yX6_requireRegister wsX6_requireRegister) := goodIn_app (goodIn_of _ (by decide +kernel)) ggX6_set_X6_requireRegister
set_option maxRecDepth 20000 in
theorem ggX6_set_X6_requireRange : GoodIn wsX6_set wsX6_requireRange := goodIn_ca (goodIn_r _ [12, 13, 14] (by decide +kernel) (by decide +kernel)) (goodIn_sub (fun _ h => List.mem_cons_of_mem _ (List.mem_append_right _ h)) (by decide +kernel))
set_option maxRecDepth 20000 in
theorem gX6_set_X6_requireRange : GoodIn wsX6_set (va_wsS RX6 59 yX6_requireRange wsX6_requireRange) := goodIn_app (goodIn_of _ (by decide +kernel)) ggX6_set_X6_requireRange
set_option maxRecDepth 20000 in
theorem ggX6_set_X4_nimberIn : GoodIn wsX6_set wsX4_nimberIn := goodIn_r _ [19, 20, 54, 55] (by decide +kernel) (by decide +kernel)
set_option maxRecDepth 20000 in
theorem gX6_set_X4_nimberIn : GoodIn wsX6_set (wsV RX6 63 RX4 yX4_nimberIn wsX4_nimberIn) := goodIn_app (goodIn_of _ (by decide +kernel)) ggX6_set_X4_nimberIn
set_option maxRecDepth 20000 in
theorem ggX6_set_X0_record : GoodIn wsX6_set wsX0_record := goodIn_r _ [25, 26, 27, 28, 29, 30, 31, 32, 33, 34, 18, 35, 20, 36, 37, 16, 17, 19, 38, 39, 40, 41, 56, 57, 54, 55] (by decide +kernel) (by decide +kernel)
set_option maxRecDepth 20000 in
theorem gX6_set_X0_record : GoodIn wsX6_set (wsV RX6 67 RX0 yX0_record wsX0_record) := goodIn_app (goodIn_of _ (by decide +kernel)) ggX6_set_X0_record
set_option maxRecDepth 20000 in
theorem ggX6_set_X4_put : GoodIn wsX6_set wsX4_put := goodIn_r _ [45, 20, 54, 55] (by decide +kernel) (by decide +kernel)
set_option maxRecDepth 20000 in
theorem gX6_set_X4_put : GoodIn wsX6_set (wsV RX6 71 RX4 yX4_put wsX4_put) := goodIn_app (goodIn_of _ (by decide +kernel)) ggX6_set_X4_put
theorem dX6_set_0 : decode cX6_set 0 = .ok (.iload_n 1, 1) := by decide +kernel
theorem dX6_set_1 : decode cX6_set 1 = .ok (.invokestatic 54, 3) := by decide +kernel
theorem dX6_set_4 : decode cX6_set 4 = .ok (.iload_n 2, 1) := by decide +kernel
theorem dX6_set_5 : decode cX6_set 5 = .ok (.ldc 58, 2) := by decide +kernel
theorem dX6_set_7 : decode cX6_set 7 = .ok (.invokestatic 59, 3) := by decide +kernel
theorem dX6_set_10 : decode cX6_set 10 = .ok (.aload_n 0, 1) := by decide +kernel
theorem dX6_set_11 : decode cX6_set 11 = .ok (.getfield 33, 3) := by decide +kernel
theorem dX6_set_14 : decode cX6_set 14 = .ok (.iload_n 1, 1) := by decide +kernel
theorem dX6_set_15 : decode cX6_set 15 = .ok (.invokevirtual 63, 3) := by decide +kernel
theorem dX6_set_18 : decode cX6_set 18 = .ok (.istore_n 3, 1) := by decide +kernel
theorem dX6_set_19 : decode cX6_set 19 = .ok (.aload_n 0, 1) := by decide +kernel
theorem dX6_set_20 : decode cX6_set 20 = .ok (.getfield 46, 3) := by decide +kernel
theorem dX6_set_23 : decode cX6_set 23 = .ok (.aload_n 0, 1) := by decide +kernel
theorem dX6_set_24 : decode cX6_set 24 = .ok (.getfield 33, 3) := by decide +kernel
theorem dX6_set_27 : decode cX6_set 27 = .ok (.invokevirtual 67, 3) := by decide +kernel
theorem dX6_set_30 : decode cX6_set 30 = .ok (.aload_n 0, 1) := by decide +kernel
theorem dX6_set_31 : decode cX6_set 31 = .ok (.getfield 33, 3) := by decide +kernel
theorem dX6_set_34 : decode cX6_set 34 = .ok (.iload_n 1, 1) := by decide +kernel
theorem dX6_set_35 : decode cX6_set 35 = .ok (.iload_n 2, 1) := by decide +kernel
theorem dX6_set_36 : decode cX6_set 36 = .ok (.invokevirtual 71, 3) := by decide +kernel
theorem dX6_set_39 : decode cX6_set 39 = .ok (.iload_n 3, 1) := by decide +kernel
theorem dX6_set_40 : decode cX6_set 40 = .ok (.ireturn, 1) := by decide +kernel
set_option maxRecDepth 20000 in
theorem ggX6_invert_X6_requireRegister : GoodIn wsX6_invert wsX6_requireRegister := goodIn_ca (goodIn_r _ [8, 9, 10] (by decide +kernel) (by decide +kernel)) (goodIn_sub (fun _ h => List.mem_cons_of_mem _ (List.mem_append_right _ h)) (by decide +kernel))
set_option maxRecDepth 20000 in
theorem gX6_invert_X6_requireRegister : GoodIn wsX6_invert (va_wsS RX6 54 yX6_requireRegister wsX6_requireRegister) := goodIn_app (goodIn_of _ (by decide +kernel)) ggX6_invert_X6_requireRegister
set_option maxRecDepth 20000 in
theorem ggX6_invert_X4_nimberIn : GoodIn wsX6_invert wsX4_nimberIn := goodIn_r _ [15, 16, 69, 70] (by decide +kernel) (by decide +kernel)
set_option maxRecDepth 20000 in
theorem gX6_invert_X4_nimberIn : GoodIn wsX6_invert (wsV RX6 63 RX4 yX4_nimberIn wsX4_nimberIn) := goodIn_app (goodIn_of _ (by decide +kernel)) ggX6_invert_X4_nimberIn
set_option maxRecDepth 20000 in
theorem ggX6_invert_X2_dividedBy : GoodIn wsX6_invert wsX2_dividedBy := goodIn_r _ [21, 22, 23, 24, 20, 25, 26, 27, 28, 29, 30, 71] (by decide +kernel) (by decide +kernel)
set_option maxRecDepth 20000 in
theorem gX6_invert_X2_dividedBy : GoodIn wsX6_invert (wsV RX6 81 RX2 yX2_dividedBy wsX2_dividedBy) := goodIn_app (goodIn_of _ (by decide +kernel)) ggX6_invert_X2_dividedBy
set_option maxRecDepth 20000 in
theorem ggX6_invert_X6_replace : GoodIn wsX6_invert wsX6_replace := goodIn_r _ [34, 35, 3, 36, 37, 38, 39, 40, 41, 42, 43, 44, 45, 46, 47, 48, 49, 14, 50, 16, 51, 52, 12, 13, 15, 53, 54, 55, 56, 57, 58, 59, 60, 61, 62, 63, 64, 65, 66, 67, 68, 72, 73, 69, 70] (by decide +kernel) (by decide +kernel)
set_option maxRecDepth 20000 in
theorem gX6_invert_X6_replace : GoodIn wsX6_invert (wsV RX6 85 RX6 yX6_replace wsX6_replace) := goodIn_app (goodIn_of _ (by decide +kernel)) ggX6_invert_X6_replace
theorem dX6_invert_0 : decode cX6_invert 0 = .ok (.iload_n 1, 1) := by decide +kernel
theorem dX6_invert_1 : decode cX6_invert 1 = .ok (.invokestatic 54, 3) := by decide +kernel
theorem dX6_invert_4 : decode cX6_invert 4 = .ok (.aload_n 0, 1) := by decide +kernel
theorem dX6_invert_5 : decode cX6_invert 5 = .ok (.getfield 33, 3) := by decide +kernel
theorem dX6_invert_8 : decode cX6_invert 8 = .ok (.iload_n 1, 1) := by decide +kernel
theorem dX6_invert_9 : decode cX6_invert 9 = .ok (.invokevirtual 63, 3) := by decide +kernel
theorem dX6_invert_12 : decode cX6_invert 12 = .ok (.istore_n 2, 1) := by decide +kernel
theorem dX6_invert_13 : decode cX6_invert 13 = .ok (.iload_n 2, 1) := by decide +kernel
theorem dX6_invert_14 : decode cX6_invert 14 = .ok (.ifCond .ne 13, 3) := by decide +kernel
theorem dX6_invert_17 : decode cX6_invert 17 = .ok (.new 74, 3) := by decide +kernel
theorem dX6_invert_20 : decode cX6_invert 20 = .ok (.dup, 1) := by decide +kernel
theorem dX6_invert_21 : decode cX6_invert 21 = .ok (.ldc 76, 2) := by decide +kernel
theorem dX6_invert_23 : decode cX6_invert 23 = .ok (.invokespecial 78, 3) := by decide +kernel
theorem dX6_invert_26 : decode cX6_invert 26 = .ok (.athrow, 1) := by decide +kernel
theorem dX6_invert_27 : decode cX6_invert 27 = .ok (.aload_n 0, 1) := by decide +kernel
theorem dX6_invert_28 : decode cX6_invert 28 = .ok (.iload_n 1, 1) := by decide +kernel
theorem dX6_invert_29 : decode cX6_invert 29 = .ok (.aload_n 0, 1) := by decide +kernel
theorem dX6_invert_30 : decode cX6_invert 30 = .ok (.getfield 12, 3) := by decide +kernel
theorem dX6_invert_33 : decode cX6_invert 33 = .ok (.iconst 1, 1) := by decide +kernel
theorem dX6_invert_34 : decode cX6_invert 34 = .ok (.iload_n 2, 1) := by decide +kernel
theorem dX6_invert_35 : decode cX6_invert 35 = .ok (.invokevirtual 81, 3) := by decide +kernel
theorem dX6_invert_38 : decode cX6_invert 38 = .ok (.invokevirtual 85, 3) := by decide +kernel
theorem dX6_invert_41 : decode cX6_invert 41 = .ok (.ireturn, 1) := by decide +kernel
set_option maxRecDepth 20000 in
theorem ggX6_takeRoot_X6_requireRegister : GoodIn wsX6_takeRoot wsX6_requireRegister := goodIn_ca (goodIn_r _ [6, 7, 8] (by decide +kernel) (by decide +kernel)) (goodIn_sub (fun _ h => List.mem_cons_of_mem _ (List.mem_append_right _ h)) (by decide +kernel))
set_option maxRecDepth 20000 in
theorem gX6_takeRoot_X6_requireRegister : GoodIn wsX6_takeRoot (va_wsS RX6 54 yX6_requireRegister wsX6_requireRegister) := goodIn_app (goodIn_of _ (by decide +kernel)) ggX6_takeRoot_X6_requireRegister
set_option maxRecDepth 20000 in
theorem ggX6_takeRoot_X4_nimberIn : GoodIn wsX6_takeRoot wsX4_nimberIn := goodIn_r _ [13, 14, 63, 64] (by decide +kernel) (by decide +kernel)
set_option maxRecDepth 20000 in
theorem gX6_takeRoot_X4_nimberIn : GoodIn wsX6_takeRoot (wsV RX6 63 RX4 yX4_nimberIn wsX4_nimberIn) := goodIn_app (goodIn_of _ (by decide +kernel)) ggX6_takeRoot_X4_nimberIn
set_option maxRecDepth 20000 in
theorem ggX6_takeRoot_X2_root : GoodIn wsX6_takeRoot wsX2_root := goodIn_r _ [19, 20, 21, 22, 18, 23, 24, 65] (by decide +kernel) (by decide +kernel)
set_option maxRecDepth 20000 in
theorem gX6_takeRoot_X2_root : GoodIn wsX6_takeRoot (wsV RX6 88 RX2 yX2_root wsX2_root) := goodIn_app (goodIn_of _ (by decide +kernel)) ggX6_takeRoot_X2_root
set_option maxRecDepth 20000 in
theorem ggX6_takeRoot_X6_replace : GoodIn wsX6_takeRoot wsX6_replace := goodIn_r _ [28, 29, 2, 30, 31, 32, 33, 34, 35, 36, 37, 38, 39, 40, 41, 42, 43, 12, 44, 14, 45, 46, 10, 11, 13, 47, 48, 49, 50, 51, 52, 53, 54, 55, 56, 57, 58, 59, 60, 61, 62, 66, 67, 63, 64] (by decide +kernel) (by decide +kernel)
set_option maxRecDepth 20000 in
theorem gX6_takeRoot_X6_replace : GoodIn wsX6_takeRoot (wsV RX6 85 RX6 yX6_replace wsX6_replace) := goodIn_app (goodIn_of _ (by decide +kernel)) ggX6_takeRoot_X6_replace
theorem dX6_takeRoot_0 : decode cX6_takeRoot 0 = .ok (.iload_n 1, 1) := by decide +kernel
theorem dX6_takeRoot_1 : decode cX6_takeRoot 1 = .ok (.invokestatic 54, 3) := by decide +kernel
theorem dX6_takeRoot_4 : decode cX6_takeRoot 4 = .ok (.aload_n 0, 1) := by decide +kernel
theorem dX6_takeRoot_5 : decode cX6_takeRoot 5 = .ok (.iload_n 1, 1) := by decide +kernel
theorem dX6_takeRoot_6 : decode cX6_takeRoot 6 = .ok (.aload_n 0, 1) := by decide +kernel
theorem dX6_takeRoot_7 : decode cX6_takeRoot 7 = .ok (.getfield 12, 3) := by decide +kernel
theorem dX6_takeRoot_10 : decode cX6_takeRoot 10 = .ok (.aload_n 0, 1) := by decide +kernel
theorem dX6_takeRoot_11 : decode cX6_takeRoot 11 = .ok (.getfield 33, 3) := by decide +kernel
theorem dX6_takeRoot_14 : decode cX6_takeRoot 14 = .ok (.iload_n 1, 1) := by decide +kernel
theorem dX6_takeRoot_15 : decode cX6_takeRoot 15 = .ok (.invokevirtual 63, 3) := by decide +kernel
theorem dX6_takeRoot_18 : decode cX6_takeRoot 18 = .ok (.invokevirtual 88, 3) := by decide +kernel
theorem dX6_takeRoot_21 : decode cX6_takeRoot 21 = .ok (.invokevirtual 85, 3) := by decide +kernel
theorem dX6_takeRoot_24 : decode cX6_takeRoot 24 = .ok (.ireturn, 1) := by decide +kernel
set_option maxRecDepth 20000 in
theorem ggX6_multiply_X6_requireRegister : GoodIn wsX6_multiply wsX6_requireRegister := goodIn_ca (goodIn_r _ [6, 7, 8] (by decide +kernel) (by decide +kernel)) (goodIn_sub (fun _ h => List.mem_cons_of_mem _ (List.mem_append_right _ h)) (by decide +kernel))
set_option maxRecDepth 20000 in
theorem gX6_multiply_X6_requireRegister : GoodIn wsX6_multiply (va_wsS RX6 54 yX6_requireRegister wsX6_requireRegister) := goodIn_app (goodIn_of _ (by decide +kernel)) ggX6_multiply_X6_requireRegister
set_option maxRecDepth 20000 in
theorem ggX6_multiply_X4_nimberIn : GoodIn wsX6_multiply wsX4_nimberIn := goodIn_r _ [13, 14, 63, 64] (by decide +kernel) (by decide +kernel)
set_option maxRecDepth 20000 in
theorem gX6_multiply_X4_nimberIn : GoodIn wsX6_multiply (wsV RX6 63 RX4 yX4_nimberIn wsX4_nimberIn) := goodIn_app (goodIn_of _ (by decide +kernel)) ggX6_multiply_X4_nimberIn
set_option maxRecDepth 20000 in
theorem ggX6_multiply_X2_times : GoodIn wsX6_multiply wsX2_times := goodIn_r _ [19, 20, 65] (by decide +kernel) (by decide +kernel)
set_option maxRecDepth 20000 in
theorem gX6_multiply_X2_times : GoodIn wsX6_multiply (wsV RX6 91 RX2 yX2_times wsX2_times) := goodIn_app (goodIn_of _ (by decide +kernel)) ggX6_multiply_X2_times
set_option maxRecDepth 20000 in
theorem ggX6_multiply_X6_replace : GoodIn wsX6_multiply wsX6_replace := goodIn_r _ [24, 25, 2, 26, 27, 28, 29, 30, 31, 32, 33, 34, 35, 36, 37, 38, 39, 12, 40, 14, 41, 42, 10, 11, 13, 43, 44, 45, 46, 47, 48, 49, 50, 55, 56, 57, 58, 59, 60, 61, 62, 66, 67, 63, 64] (by decide +kernel) (by decide +kernel)
set_option maxRecDepth 20000 in
theorem gX6_multiply_X6_replace : GoodIn wsX6_multiply (wsV RX6 85 RX6 yX6_replace wsX6_replace) := goodIn_app (goodIn_of _ (by decide +kernel)) ggX6_multiply_X6_replace
set_option maxRecDepth 20000 in
theorem ggX6_multiply_X4_countProduct : GoodIn wsX6_multiply wsX4_countProduct := goodIn_r _ [54, 41, 63, 64] (by decide +kernel) (by decide +kernel)
set_option maxRecDepth 20000 in
theorem gX6_multiply_X4_countProduct : GoodIn wsX6_multiply (wsV RX6 94 RX4 yX4_countProduct wsX4_countProduct) := goodIn_app (goodIn_of _ (by decide +kernel)) ggX6_multiply_X4_countProduct
theorem dX6_multiply_0 : decode cX6_multiply 0 = .ok (.iload_n 1, 1) := by decide +kernel
theorem dX6_multiply_1 : decode cX6_multiply 1 = .ok (.invokestatic 54, 3) := by decide +kernel
theorem dX6_multiply_4 : decode cX6_multiply 4 = .ok (.iload_n 2, 1) := by decide +kernel
theorem dX6_multiply_5 : decode cX6_multiply 5 = .ok (.invokestatic 54, 3) := by decide +kernel
theorem dX6_multiply_8 : decode cX6_multiply 8 = .ok (.aload_n 0, 1) := by decide +kernel
theorem dX6_multiply_9 : decode cX6_multiply 9 = .ok (.iload_n 1, 1) := by decide +kernel
theorem dX6_multiply_10 : decode cX6_multiply 10 = .ok (.aload_n 0, 1) := by decide +kernel
theorem dX6_multiply_11 : decode cX6_multiply 11 = .ok (.getfield 12, 3) := by decide +kernel
theorem dX6_multiply_14 : decode cX6_multiply 14 = .ok (.aload_n 0, 1) := by decide +kernel
theorem dX6_multiply_15 : decode cX6_multiply 15 = .ok (.getfield 33, 3) := by decide +kernel
theorem dX6_multiply_18 : decode cX6_multiply 18 = .ok (.iload_n 1, 1) := by decide +kernel
theorem dX6_multiply_19 : decode cX6_multiply 19 = .ok (.invokevirtual 63, 3) := by decide +kernel
theorem dX6_multiply_22 : decode cX6_multiply 22 = .ok (.aload_n 0, 1) := by decide +kernel
theorem dX6_multiply_23 : decode cX6_multiply 23 = .ok (.getfield 33, 3) := by decide +kernel
theorem dX6_multiply_26 : decode cX6_multiply 26 = .ok (.iload_n 2, 1) := by decide +kernel
theorem dX6_multiply_27 : decode cX6_multiply 27 = .ok (.invokevirtual 63, 3) := by decide +kernel
theorem dX6_multiply_30 : decode cX6_multiply 30 = .ok (.invokevirtual 91, 3) := by decide +kernel
theorem dX6_multiply_33 : decode cX6_multiply 33 = .ok (.invokevirtual 85, 3) := by decide +kernel
theorem dX6_multiply_36 : decode cX6_multiply 36 = .ok (.istore_n 3, 1) := by decide +kernel
theorem dX6_multiply_37 : decode cX6_multiply 37 = .ok (.aload_n 0, 1) := by decide +kernel
theorem dX6_multiply_38 : decode cX6_multiply 38 = .ok (.getfield 33, 3) := by decide +kernel
theorem dX6_multiply_41 : decode cX6_multiply 41 = .ok (.invokevirtual 94, 3) := by decide +kernel
theorem dX6_multiply_44 : decode cX6_multiply 44 = .ok (.iload_n 3, 1) := by decide +kernel
theorem dX6_multiply_45 : decode cX6_multiply 45 = .ok (.ireturn, 1) := by decide +kernel
set_option maxRecDepth 20000 in
theorem ggX6_exchange_X6_requireRegister : GoodIn wsX6_exchange wsX6_requireRegister := goodIn_ca (goodIn_r _ [6, 7, 8] (by decide +kernel) (by decide +kernel)) (goodIn_sub (fun _ h => List.mem_cons_of_mem _ (List.mem_append_right _ h)) (by decide +kernel))
set_option maxRecDepth 20000 in
theorem gX6_exchange_X6_requireRegister : GoodIn wsX6_exchange (va_wsS RX6 54 yX6_requireRegister wsX6_requireRegister) := goodIn_app (goodIn_of _ (by decide +kernel)) ggX6_exchange_X6_requireRegister
set_option maxRecDepth 20000 in
theorem ggX6_exchange_X4_nimberIn : GoodIn wsX6_exchange wsX4_nimberIn := goodIn_r _ [13, 14, 48, 49] (by decide +kernel) (by decide +kernel)
set_option maxRecDepth 20000 in
theorem gX6_exchange_X4_nimberIn : GoodIn wsX6_exchange (wsV RX6 63 RX4 yX4_nimberIn wsX4_nimberIn) := goodIn_app (goodIn_of _ (by decide +kernel)) ggX6_exchange_X4_nimberIn
set_option maxRecDepth 20000 in
theorem ggX6_exchange_X0_record : GoodIn wsX6_exchange wsX0_record := goodIn_r _ [19, 20, 21, 22, 23, 24, 25, 26, 27, 28, 12, 29, 14, 30, 31, 10, 11, 13, 32, 33, 34, 35, 50, 51, 48, 49] (by decide +kernel) (by decide +kernel)
set_option maxRecDepth 20000 in
theorem gX6_exchange_X0_record : GoodIn wsX6_exchange (wsV RX6 67 RX0 yX0_record wsX0_record) := goodIn_app (goodIn_of _ (by decide +kernel)) ggX6_exchange_X0_record
set_option maxRecDepth 20000 in
theorem ggX6_exchange_X4_put : GoodIn wsX6_exchange wsX4_put := goodIn_r _ [39, 14, 48, 49] (by decide +kernel) (by decide +kernel)
set_option maxRecDepth 20000 in
theorem gX6_exchange_X4_put : GoodIn wsX6_exchange (wsV RX6 71 RX4 yX4_put wsX4_put) := goodIn_app (goodIn_of _ (by decide +kernel)) ggX6_exchange_X4_put
theorem dX6_exchange_0 : decode cX6_exchange 0 = .ok (.iload_n 1, 1) := by decide +kernel
theorem dX6_exchange_1 : decode cX6_exchange 1 = .ok (.invokestatic 54, 3) := by decide +kernel
theorem dX6_exchange_4 : decode cX6_exchange 4 = .ok (.iload_n 2, 1) := by decide +kernel
theorem dX6_exchange_5 : decode cX6_exchange 5 = .ok (.invokestatic 54, 3) := by decide +kernel
theorem dX6_exchange_8 : decode cX6_exchange 8 = .ok (.aload_n 0, 1) := by decide +kernel
theorem dX6_exchange_9 : decode cX6_exchange 9 = .ok (.getfield 33, 3) := by decide +kernel
theorem dX6_exchange_12 : decode cX6_exchange 12 = .ok (.iload_n 1, 1) := by decide +kernel
theorem dX6_exchange_13 : decode cX6_exchange 13 = .ok (.invokevirtual 63, 3) := by decide +kernel
theorem dX6_exchange_16 : decode cX6_exchange 16 = .ok (.istore_n 3, 1) := by decide +kernel
theorem dX6_exchange_17 : decode cX6_exchange 17 = .ok (.aload_n 0, 1) := by decide +kernel
theorem dX6_exchange_18 : decode cX6_exchange 18 = .ok (.getfield 33, 3) := by decide +kernel
theorem dX6_exchange_21 : decode cX6_exchange 21 = .ok (.iload_n 2, 1) := by decide +kernel
theorem dX6_exchange_22 : decode cX6_exchange 22 = .ok (.invokevirtual 63, 3) := by decide +kernel
theorem dX6_exchange_25 : decode cX6_exchange 25 = .ok (.istore 4, 2) := by decide +kernel
theorem dX6_exchange_27 : decode cX6_exchange 27 = .ok (.aload_n 0, 1) := by decide +kernel
theorem dX6_exchange_28 : decode cX6_exchange 28 = .ok (.getfield 46, 3) := by decide +kernel
theorem dX6_exchange_31 : decode cX6_exchange 31 = .ok (.aload_n 0, 1) := by decide +kernel
theorem dX6_exchange_32 : decode cX6_exchange 32 = .ok (.getfield 33, 3) := by decide +kernel
theorem dX6_exchange_35 : decode cX6_exchange 35 = .ok (.invokevirtual 67, 3) := by decide +kernel
theorem dX6_exchange_38 : decode cX6_exchange 38 = .ok (.aload_n 0, 1) := by decide +kernel
theorem dX6_exchange_39 : decode cX6_exchange 39 = .ok (.getfield 33, 3) := by decide +kernel
theorem dX6_exchange_42 : decode cX6_exchange 42 = .ok (.iload_n 1, 1) := by decide +kernel
theorem dX6_exchange_43 : decode cX6_exchange 43 = .ok (.iload 4, 2) := by decide +kernel
theorem dX6_exchange_45 : decode cX6_exchange 45 = .ok (.invokevirtual 71, 3) := by decide +kernel
theorem dX6_exchange_48 : decode cX6_exchange 48 = .ok (.aload_n 0, 1) := by decide +kernel
theorem dX6_exchange_49 : decode cX6_exchange 49 = .ok (.getfield 33, 3) := by decide +kernel
theorem dX6_exchange_52 : decode cX6_exchange 52 = .ok (.iload_n 2, 1) := by decide +kernel
theorem dX6_exchange_53 : decode cX6_exchange 53 = .ok (.iload_n 3, 1) := by decide +kernel
theorem dX6_exchange_54 : decode cX6_exchange 54 = .ok (.invokevirtual 71, 3) := by decide +kernel
theorem dX6_exchange_57 : decode cX6_exchange 57 = .ok (.iload 4, 2) := by decide +kernel
theorem dX6_exchange_59 : decode cX6_exchange 59 = .ok (.ireturn, 1) := by decide +kernel
set_option maxRecDepth 20000 in
theorem ggX6_type_X3_isFull : GoodIn wsX6_type wsX3_isFull := goodIn_r _ [8, 9, 23, 24, 25, 26, 27] (by decide +kernel) (by decide +kernel)
set_option maxRecDepth 20000 in
theorem gX6_type_X3_isFull : GoodIn wsX6_type (wsV RX6 97 RX3 yX3_isFull wsX3_isFull) := goodIn_app (goodIn_of _ (by decide +kernel)) ggX6_type_X3_isFull
set_option maxRecDepth 20000 in
theorem ggX6_type_X3_append : GoodIn wsX6_type wsX3_append := goodIn_r _ [13, 9, 14, 23, 24, 25, 26, 27] (by decide +kernel) (by decide +kernel)
set_option maxRecDepth 20000 in
theorem gX6_type_X3_append : GoodIn wsX6_type (wsV RX6 103 RX3 yX3_append wsX3_append) := goodIn_app (goodIn_of _ (by decide +kernel)) ggX6_type_X3_append
theorem dX6_type_0 : decode cX6_type 0 = .ok (.aload_n 0, 1) := by decide +kernel
theorem dX6_type_1 : decode cX6_type 1 = .ok (.getfield 26, 3) := by decide +kernel
theorem dX6_type_4 : decode cX6_type 4 = .ok (.invokevirtual 97, 3) := by decide +kernel
theorem dX6_type_7 : decode cX6_type 7 = .ok (.ifCond .eq 13, 3) := by decide +kernel
theorem dX6_type_10 : decode cX6_type 10 = .ok (.new 74, 3) := by decide +kernel
theorem dX6_type_13 : decode cX6_type 13 = .ok (.dup, 1) := by decide +kernel
theorem dX6_type_14 : decode cX6_type 14 = .ok (.ldc 101, 2) := by decide +kernel
theorem dX6_type_16 : decode cX6_type 16 = .ok (.invokespecial 78, 3) := by decide +kernel
theorem dX6_type_19 : decode cX6_type 19 = .ok (.athrow, 1) := by decide +kernel
theorem dX6_type_20 : decode cX6_type 20 = .ok (.aload_n 0, 1) := by decide +kernel
theorem dX6_type_21 : decode cX6_type 21 = .ok (.getfield 26, 3) := by decide +kernel
theorem dX6_type_24 : decode cX6_type 24 = .ok (.iload_n 1, 1) := by decide +kernel
theorem dX6_type_25 : decode cX6_type 25 = .ok (.invokevirtual 103, 3) := by decide +kernel
theorem dX6_type_28 : decode cX6_type 28 = .ok (.ireturn, 1) := by decide +kernel
set_option maxRecDepth 20000 in
theorem ggX6_clearProgram_X3_empty : GoodIn wsX6_clearProgram wsX3_empty := goodIn_r _ [6, 7, 16, 17, 18, 19, 20] (by decide +kernel) (by decide +kernel)
set_option maxRecDepth 20000 in
theorem gX6_clearProgram_X3_empty : GoodIn wsX6_clearProgram (wsV RX6 107 RX3 yX3_empty wsX3_empty) := goodIn_app (goodIn_of _ (by decide +kernel)) ggX6_clearProgram_X3_empty
theorem dX6_clearProgram_0 : decode cX6_clearProgram 0 = .ok (.aload_n 0, 1) := by decide +kernel
theorem dX6_clearProgram_1 : decode cX6_clearProgram 1 = .ok (.getfield 26, 3) := by decide +kernel
theorem dX6_clearProgram_4 : decode cX6_clearProgram 4 = .ok (.invokevirtual 107, 3) := by decide +kernel
theorem dX6_clearProgram_7 : decode cX6_clearProgram 7 = .ok (.ireturn, 1) := by decide +kernel
set_option maxRecDepth 20000 in
theorem ggX6_carryOut_X6_requireValidProgram : GoodIn wsX6_carryOut wsX6_requireValidProgram := goodIn_ca (goodIn_r _ [11, 1, 2, 6, 12, 13, 14, 15, 16, 17, 18, 19, 20, 21, 22, 23, 24, 25, 26, 27, 28, 29, 30, 31, 32, 33, 34, 35, 36, 37, 38, 39, 40, 41, 42, 43, 44, 45, 46, 47, 48, 49, 50, 51, 52, 53, 54, 55, 56, 57, 58, 59, 60, 61, 62, 63, 64, 65, 66, 67, 157, 158, 159, 160, 161, 162, 163, 164, 165, 166, 167, 168, 169, 170, 171, 172, 173] (by decide +kernel) (by decide +kernel)) (goodIn_sub (fun _ h => List.mem_cons_of_mem _ (List.mem_append_right _ h)) (by decide +kernel))
set_option maxRecDepth 20000 in
theorem gX6_carryOut_X6_requireValidProgram : GoodIn wsX6_carryOut (wsV RX6 114 RX6 yX6_requireValidProgram wsX6_requireValidProgram) := goodIn_app (goodIn_of _ (by decide +kernel)) ggX6_carryOut_X6_requireValidProgram
set_option maxRecDepth 20000 in
theorem ggX6_carryOut_X6_tryProgram : GoodIn wsX6_carryOut wsX6_tryProgram := goodIn_r _ [71, 5, 4, 6, 72, 73, 74, 75, 76, 77, 78, 79, 80, 81, 82, 83, 84, 85, 86, 87, 88, 89, 90, 15, 91, 18, 19, 92, 93, 94, 37, 95, 66, 67, 39, 65, 96, 97, 98, 99, 100, 101, 102, 103, 104, 105, 106, 107, 108, 109, 110, 111, 112, 113, 114, 115, 116, 117, 118, 119, 120, 121, 122, 123, 124, 125, 126, 127, 128, 129, 130, 131, 132, 133, 134, 135, 157, 158, 159, 160, 161, 162, 163, 164, 174, 175, 165, 166, 167, 168, 169, 170, 171, 172, 173, 176] (by decide +kernel) (by decide +kernel)
set_option maxRecDepth 20000 in
theorem gX6_carryOut_X6_tryProgram : GoodIn wsX6_carryOut (wsV RX6 117 RX6 yX6_tryProgram wsX6_tryProgram) := goodIn_app (goodIn_of _ (by decide +kernel)) ggX6_carryOut_X6_tryProgram
set_option maxRecDepth 20000 in
theorem ggX6_carryOut_X0_record : GoodIn wsX6_carryOut wsX0_record := goodIn_r _ [140, 141, 142, 143, 144, 145, 146, 147, 74, 75, 76, 77, 78, 79, 80, 81, 82, 83, 84, 85, 86, 87, 177, 178, 174, 175] (by decide +kernel) (by decide +kernel)
set_option maxRecDepth 20000 in
theorem gX6_carryOut_X0_record : GoodIn wsX6_carryOut (wsV RX6 67 RX0 yX0_record wsX0_record) := goodIn_app (goodIn_of _ (by decide +kernel)) ggX6_carryOut_X0_record
set_option maxRecDepth 20000 in
theorem ggX6_carryOut_X4_copyFrom : GoodIn wsX6_carryOut wsX4_copyFrom := goodIn_r _ [77, 78, 79, 80, 81, 82, 76, 83, 84, 85, 86, 87, 174, 175] (by decide +kernel) (by decide +kernel)
set_option maxRecDepth 20000 in
theorem gX6_carryOut_X4_copyFrom : GoodIn wsX6_carryOut (wsV RX6 122 RX4 yX4_copyFrom wsX4_copyFrom) := goodIn_app (goodIn_of _ (by decide +kernel)) ggX6_carryOut_X4_copyFrom
set_option maxRecDepth 20000 in
theorem ggX6_carryOut_X3_lastTarget : GoodIn wsX6_carryOut wsX3_lastTarget := goodIn_r _ [151, 18, 19, 152, 153, 154, 37, 155, 39, 165, 166, 167, 168, 169, 170, 171, 172, 173] (by decide +kernel) (by decide +kernel)
set_option maxRecDepth 20000 in
theorem gX6_carryOut_X3_lastTarget : GoodIn wsX6_carryOut (wsV RX6 125 RX3 yX3_lastTarget wsX3_lastTarget) := goodIn_app (goodIn_of _ (by decide +kernel)) ggX6_carryOut_X3_lastTarget
set_option maxRecDepth 20000 in
theorem ggX6_carryOut_X4_nimberIn : GoodIn wsX6_carryOut wsX4_nimberIn := goodIn_r _ [83, 78, 174, 175] (by decide +kernel) (by decide +kernel)
set_option maxRecDepth 20000 in
theorem gX6_carryOut_X4_nimberIn : GoodIn wsX6_carryOut (wsV RX6 63 RX4 yX4_nimberIn wsX4_nimberIn) := goodIn_app (goodIn_of _ (by decide +kernel)) ggX6_carryOut_X4_nimberIn
theorem dX6_carryOut_0 : decode cX6_carryOut 0 = .ok (.aload_n 0, 1) := by decide +kernel
theorem dX6_carryOut_1 : decode cX6_carryOut 1 = .ok (.invokevirtual 114, 3) := by decide +kernel
theorem dX6_carryOut_4 : decode cX6_carryOut 4 = .ok (.aload_n 0, 1) := by decide +kernel
theorem dX6_carryOut_5 : decode cX6_carryOut 5 = .ok (.invokevirtual 117, 3) := by decide +kernel
theorem dX6_carryOut_8 : decode cX6_carryOut 8 = .ok (.iconst (-1), 1) := by decide +kernel
theorem dX6_carryOut_9 : decode cX6_carryOut 9 = .ok (.if_icmp .eq 13, 3) := by decide +kernel
theorem dX6_carryOut_12 : decode cX6_carryOut 12 = .ok (.new 74, 3) := by decide +kernel
theorem dX6_carryOut_15 : decode cX6_carryOut 15 = .ok (.dup, 1) := by decide +kernel
theorem dX6_carryOut_16 : decode cX6_carryOut 16 = .ok (.ldc 120, 2) := by decide +kernel
theorem dX6_carryOut_18 : decode cX6_carryOut 18 = .ok (.invokespecial 78, 3) := by decide +kernel
theorem dX6_carryOut_21 : decode cX6_carryOut 21 = .ok (.athrow, 1) := by decide +kernel
theorem dX6_carryOut_22 : decode cX6_carryOut 22 = .ok (.aload_n 0, 1) := by decide +kernel
theorem dX6_carryOut_23 : decode cX6_carryOut 23 = .ok (.getfield 46, 3) := by decide +kernel
theorem dX6_carryOut_26 : decode cX6_carryOut 26 = .ok (.aload_n 0, 1) := by decide +kernel
theorem dX6_carryOut_27 : decode cX6_carryOut 27 = .ok (.getfield 33, 3) := by decide +kernel
theorem dX6_carryOut_30 : decode cX6_carryOut 30 = .ok (.invokevirtual 67, 3) := by decide +kernel
theorem dX6_carryOut_33 : decode cX6_carryOut 33 = .ok (.aload_n 0, 1) := by decide +kernel
theorem dX6_carryOut_34 : decode cX6_carryOut 34 = .ok (.getfield 33, 3) := by decide +kernel
theorem dX6_carryOut_37 : decode cX6_carryOut 37 = .ok (.aload_n 0, 1) := by decide +kernel
theorem dX6_carryOut_38 : decode cX6_carryOut 38 = .ok (.getfield 37, 3) := by decide +kernel
theorem dX6_carryOut_41 : decode cX6_carryOut 41 = .ok (.invokevirtual 122, 3) := by decide +kernel
theorem dX6_carryOut_44 : decode cX6_carryOut 44 = .ok (.aload_n 0, 1) := by decide +kernel
theorem dX6_carryOut_45 : decode cX6_carryOut 45 = .ok (.getfield 33, 3) := by decide +kernel
theorem dX6_carryOut_48 : decode cX6_carryOut 48 = .ok (.aload_n 0, 1) := by decide +kernel
theorem dX6_carryOut_49 : decode cX6_carryOut 49 = .ok (.getfield 26, 3) := by decide +kernel
theorem dX6_carryOut_52 : decode cX6_carryOut 52 = .ok (.invokevirtual 125, 3) := by decide +kernel
theorem dX6_carryOut_55 : decode cX6_carryOut 55 = .ok (.invokevirtual 63, 3) := by decide +kernel
theorem dX6_carryOut_58 : decode cX6_carryOut 58 = .ok (.ireturn, 1) := by decide +kernel
set_option maxRecDepth 20000 in
theorem ggX6_undo_X0_size : GoodIn wsX6_undo wsX0_size := goodIn_r _ [9, 10, 39, 40] (by decide +kernel) (by decide +kernel)
set_option maxRecDepth 20000 in
theorem gX6_undo_X0_size : GoodIn wsX6_undo (wsV RX6 128 RX0 yX0_size wsX0_size) := goodIn_app (goodIn_of _ (by decide +kernel)) ggX6_undo_X0_size
set_option maxRecDepth 20000 in
theorem ggX6_undo_X0_returnTo : GoodIn wsX6_undo wsX0_returnTo := goodIn_r _ [14, 10, 15, 16, 17, 18, 19, 20, 21, 22, 23, 24, 25, 26, 27, 28, 29, 30, 39, 40, 41, 42] (by decide +kernel) (by decide +kernel)
set_option maxRecDepth 20000 in
theorem gX6_undo_X0_returnTo : GoodIn wsX6_undo (wsV RX6 133 RX0 yX0_returnTo wsX0_returnTo) := goodIn_app (goodIn_of _ (by decide +kernel)) ggX6_undo_X0_returnTo
theorem dX6_undo_0 : decode cX6_undo 0 = .ok (.aload_n 0, 1) := by decide +kernel
theorem dX6_undo_1 : decode cX6_undo 1 = .ok (.getfield 46, 3) := by decide +kernel
theorem dX6_undo_4 : decode cX6_undo 4 = .ok (.invokevirtual 128, 3) := by decide +kernel
theorem dX6_undo_7 : decode cX6_undo 7 = .ok (.ifCond .ne 13, 3) := by decide +kernel
theorem dX6_undo_10 : decode cX6_undo 10 = .ok (.new 74, 3) := by decide +kernel
theorem dX6_undo_13 : decode cX6_undo 13 = .ok (.dup, 1) := by decide +kernel
theorem dX6_undo_14 : decode cX6_undo 14 = .ok (.ldc 131, 2) := by decide +kernel
theorem dX6_undo_16 : decode cX6_undo 16 = .ok (.invokespecial 78, 3) := by decide +kernel
theorem dX6_undo_19 : decode cX6_undo 19 = .ok (.athrow, 1) := by decide +kernel
theorem dX6_undo_20 : decode cX6_undo 20 = .ok (.aload_n 0, 1) := by decide +kernel
theorem dX6_undo_21 : decode cX6_undo 21 = .ok (.getfield 46, 3) := by decide +kernel
theorem dX6_undo_24 : decode cX6_undo 24 = .ok (.aload_n 0, 1) := by decide +kernel
theorem dX6_undo_25 : decode cX6_undo 25 = .ok (.getfield 33, 3) := by decide +kernel
theorem dX6_undo_28 : decode cX6_undo 28 = .ok (.invokevirtual 133, 3) := by decide +kernel
theorem dX6_undo_31 : decode cX6_undo 31 = .ok (.ireturn, 1) := by decide +kernel
set_option maxRecDepth 20000 in
theorem ggX6_takeSnapshot_X4_copyFrom : GoodIn wsX6_takeSnapshot wsX4_copyFrom := goodIn_r _ [8, 9, 10, 11, 12, 13, 7, 14, 15, 16, 17, 18, 31, 32] (by decide +kernel) (by decide +kernel)
set_option maxRecDepth 20000 in
theorem gX6_takeSnapshot_X4_copyFrom : GoodIn wsX6_takeSnapshot (wsV RX6 122 RX4 yX4_copyFrom wsX4_copyFrom) := goodIn_app (goodIn_of _ (by decide +kernel)) ggX6_takeSnapshot_X4_copyFrom
set_option maxRecDepth 20000 in
theorem ggX6_takeSnapshot_X4_sum : GoodIn wsX6_takeSnapshot wsX4_sum := goodIn_r _ [22, 9, 31, 32] (by decide +kernel) (by decide +kernel)
set_option maxRecDepth 20000 in
theorem gX6_takeSnapshot_X4_sum : GoodIn wsX6_takeSnapshot (wsV RX6 137 RX4 yX4_sum wsX4_sum) := goodIn_app (goodIn_of _ (by decide +kernel)) ggX6_takeSnapshot_X4_sum
theorem dX6_takeSnapshot_0 : decode cX6_takeSnapshot 0 = .ok (.aload_n 0, 1) := by decide +kernel
theorem dX6_takeSnapshot_1 : decode cX6_takeSnapshot 1 = .ok (.getfield 40, 3) := by decide +kernel
theorem dX6_takeSnapshot_4 : decode cX6_takeSnapshot 4 = .ok (.aload_n 0, 1) := by decide +kernel
theorem dX6_takeSnapshot_5 : decode cX6_takeSnapshot 5 = .ok (.getfield 33, 3) := by decide +kernel
theorem dX6_takeSnapshot_8 : decode cX6_takeSnapshot 8 = .ok (.invokevirtual 122, 3) := by decide +kernel
theorem dX6_takeSnapshot_11 : decode cX6_takeSnapshot 11 = .ok (.aload_n 0, 1) := by decide +kernel
theorem dX6_takeSnapshot_12 : decode cX6_takeSnapshot 12 = .ok (.iconst 1, 1) := by decide +kernel
theorem dX6_takeSnapshot_13 : decode cX6_takeSnapshot 13 = .ok (.putfield 50, 3) := by decide +kernel
theorem dX6_takeSnapshot_16 : decode cX6_takeSnapshot 16 = .ok (.aload_n 0, 1) := by decide +kernel
theorem dX6_takeSnapshot_17 : decode cX6_takeSnapshot 17 = .ok (.getfield 33, 3) := by decide +kernel
theorem dX6_takeSnapshot_20 : decode cX6_takeSnapshot 20 = .ok (.invokevirtual 137, 3) := by decide +kernel
theorem dX6_takeSnapshot_23 : decode cX6_takeSnapshot 23 = .ok (.ireturn, 1) := by decide +kernel
set_option maxRecDepth 20000 in
theorem ggX6_restoreSnapshot_X0_record : GoodIn wsX6_restoreSnapshot wsX0_record := goodIn_r _ [11, 12, 13, 14, 15, 16, 17, 18, 19, 20, 21, 22, 23, 24, 25, 26, 27, 28, 29, 30, 31, 32, 46, 47, 48, 49] (by decide +kernel) (by decide +kernel)
set_option maxRecDepth 20000 in
theorem gX6_restoreSnapshot_X0_record : GoodIn wsX6_restoreSnapshot (wsV RX6 67 RX0 yX0_record wsX0_record) := goodIn_app (goodIn_of _ (by decide +kernel)) ggX6_restoreSnapshot_X0_record
set_option maxRecDepth 20000 in
theorem ggX6_restoreSnapshot_X4_copyFrom : GoodIn wsX6_restoreSnapshot wsX4_copyFrom := goodIn_r _ [22, 23, 24, 25, 26, 27, 21, 28, 29, 30, 31, 32, 48, 49] (by decide +kernel) (by decide +kernel)
set_option maxRecDepth 20000 in
theorem gX6_restoreSnapshot_X4_copyFrom : GoodIn wsX6_restoreSnapshot (wsV RX6 122 RX4 yX4_copyFrom wsX4_copyFrom) := goodIn_app (goodIn_of _ (by decide +kernel)) ggX6_restoreSnapshot_X4_copyFrom
set_option maxRecDepth 20000 in
theorem ggX6_restoreSnapshot_X4_sum : GoodIn wsX6_restoreSnapshot wsX4_sum := goodIn_r _ [37, 23, 48, 49] (by decide +kernel) (by decide +kernel)
set_option maxRecDepth 20000 in
theorem gX6_restoreSnapshot_X4_sum : GoodIn wsX6_restoreSnapshot (wsV RX6 137 RX4 yX4_sum wsX4_sum) := goodIn_app (goodIn_of _ (by decide +kernel)) ggX6_restoreSnapshot_X4_sum
theorem dX6_restoreSnapshot_0 : decode cX6_restoreSnapshot 0 = .ok (.aload_n 0, 1) := by decide +kernel
theorem dX6_restoreSnapshot_1 : decode cX6_restoreSnapshot 1 = .ok (.getfield 50, 3) := by decide +kernel
theorem dX6_restoreSnapshot_4 : decode cX6_restoreSnapshot 4 = .ok (.ifCond .ne 13, 3) := by decide +kernel
theorem dX6_restoreSnapshot_7 : decode cX6_restoreSnapshot 7 = .ok (.new 74, 3) := by decide +kernel
theorem dX6_restoreSnapshot_10 : decode cX6_restoreSnapshot 10 = .ok (.dup, 1) := by decide +kernel
theorem dX6_restoreSnapshot_11 : decode cX6_restoreSnapshot 11 = .ok (.ldc 140, 2) := by decide +kernel
theorem dX6_restoreSnapshot_13 : decode cX6_restoreSnapshot 13 = .ok (.invokespecial 78, 3) := by decide +kernel
theorem dX6_restoreSnapshot_16 : decode cX6_restoreSnapshot 16 = .ok (.athrow, 1) := by decide +kernel
theorem dX6_restoreSnapshot_17 : decode cX6_restoreSnapshot 17 = .ok (.aload_n 0, 1) := by decide +kernel
theorem dX6_restoreSnapshot_18 : decode cX6_restoreSnapshot 18 = .ok (.getfield 46, 3) := by decide +kernel
theorem dX6_restoreSnapshot_21 : decode cX6_restoreSnapshot 21 = .ok (.aload_n 0, 1) := by decide +kernel
theorem dX6_restoreSnapshot_22 : decode cX6_restoreSnapshot 22 = .ok (.getfield 33, 3) := by decide +kernel
theorem dX6_restoreSnapshot_25 : decode cX6_restoreSnapshot 25 = .ok (.invokevirtual 67, 3) := by decide +kernel
theorem dX6_restoreSnapshot_28 : decode cX6_restoreSnapshot 28 = .ok (.aload_n 0, 1) := by decide +kernel
theorem dX6_restoreSnapshot_29 : decode cX6_restoreSnapshot 29 = .ok (.getfield 33, 3) := by decide +kernel
theorem dX6_restoreSnapshot_32 : decode cX6_restoreSnapshot 32 = .ok (.aload_n 0, 1) := by decide +kernel
theorem dX6_restoreSnapshot_33 : decode cX6_restoreSnapshot 33 = .ok (.getfield 40, 3) := by decide +kernel
theorem dX6_restoreSnapshot_36 : decode cX6_restoreSnapshot 36 = .ok (.invokevirtual 122, 3) := by decide +kernel
theorem dX6_restoreSnapshot_39 : decode cX6_restoreSnapshot 39 = .ok (.aload_n 0, 1) := by decide +kernel
theorem dX6_restoreSnapshot_40 : decode cX6_restoreSnapshot 40 = .ok (.getfield 33, 3) := by decide +kernel
theorem dX6_restoreSnapshot_43 : decode cX6_restoreSnapshot 43 = .ok (.invokevirtual 137, 3) := by decide +kernel
theorem dX6_restoreSnapshot_46 : decode cX6_restoreSnapshot 46 = .ok (.ireturn, 1) := by decide +kernel
set_option maxRecDepth 20000 in
theorem ggX6_nimberOf_X6_requireRegister : GoodIn wsX6_nimberOf wsX6_requireRegister := goodIn_ca (goodIn_r _ [5, 6, 7] (by decide +kernel) (by decide +kernel)) (goodIn_sub (fun _ h => List.mem_cons_of_mem _ (List.mem_append_right _ h)) (by decide +kernel))
set_option maxRecDepth 20000 in
theorem gX6_nimberOf_X6_requireRegister : GoodIn wsX6_nimberOf (va_wsS RX6 54 yX6_requireRegister wsX6_requireRegister) := goodIn_app (goodIn_of _ (by decide +kernel)) ggX6_nimberOf_X6_requireRegister
set_option maxRecDepth 20000 in
theorem ggX6_nimberOf_X4_nimberIn : GoodIn wsX6_nimberOf wsX4_nimberIn := goodIn_r _ [12, 13, 22, 23] (by decide +kernel) (by decide +kernel)
set_option maxRecDepth 20000 in
theorem gX6_nimberOf_X4_nimberIn : GoodIn wsX6_nimberOf (wsV RX6 63 RX4 yX4_nimberIn wsX4_nimberIn) := goodIn_app (goodIn_of _ (by decide +kernel)) ggX6_nimberOf_X4_nimberIn
theorem dX6_nimberOf_0 : decode cX6_nimberOf 0 = .ok (.iload_n 1, 1) := by decide +kernel
theorem dX6_nimberOf_1 : decode cX6_nimberOf 1 = .ok (.invokestatic 54, 3) := by decide +kernel
theorem dX6_nimberOf_4 : decode cX6_nimberOf 4 = .ok (.aload_n 0, 1) := by decide +kernel
theorem dX6_nimberOf_5 : decode cX6_nimberOf 5 = .ok (.getfield 33, 3) := by decide +kernel
theorem dX6_nimberOf_8 : decode cX6_nimberOf 8 = .ok (.iload_n 1, 1) := by decide +kernel
theorem dX6_nimberOf_9 : decode cX6_nimberOf 9 = .ok (.invokevirtual 63, 3) := by decide +kernel
theorem dX6_nimberOf_12 : decode cX6_nimberOf 12 = .ok (.ireturn, 1) := by decide +kernel
set_option maxRecDepth 20000 in
theorem ggX6_sumOfAll_X4_sum : GoodIn wsX6_sumOfAll wsX4_sum := goodIn_r _ [6, 7, 16, 17] (by decide +kernel) (by decide +kernel)
set_option maxRecDepth 20000 in
theorem gX6_sumOfAll_X4_sum : GoodIn wsX6_sumOfAll (wsV RX6 137 RX4 yX4_sum wsX4_sum) := goodIn_app (goodIn_of _ (by decide +kernel)) ggX6_sumOfAll_X4_sum
theorem dX6_sumOfAll_0 : decode cX6_sumOfAll 0 = .ok (.aload_n 0, 1) := by decide +kernel
theorem dX6_sumOfAll_1 : decode cX6_sumOfAll 1 = .ok (.getfield 33, 3) := by decide +kernel
theorem dX6_sumOfAll_4 : decode cX6_sumOfAll 4 = .ok (.invokevirtual 137, 3) := by decide +kernel
theorem dX6_sumOfAll_7 : decode cX6_sumOfAll 7 = .ok (.ireturn, 1) := by decide +kernel
set_option maxRecDepth 20000 in
theorem ggX6_registerToLessen_X4_sum : GoodIn wsX6_registerToLessen wsX4_sum := goodIn_r _ [6, 7, 20, 21] (by decide +kernel) (by decide +kernel)
set_option maxRecDepth 20000 in
theorem gX6_registerToLessen_X4_sum : GoodIn wsX6_registerToLessen (wsV RX6 137 RX4 yX4_sum wsX4_sum) := goodIn_app (goodIn_of _ (by decide +kernel)) ggX6_registerToLessen_X4_sum
set_option maxRecDepth 20000 in
theorem ggX6_registerToLessen_X4_nimberIn : GoodIn wsX6_registerToLessen wsX4_nimberIn := goodIn_r _ [11, 7, 20, 21] (by decide +kernel) (by decide +kernel)
set_option maxRecDepth 20000 in
theorem gX6_registerToLessen_X4_nimberIn : GoodIn wsX6_registerToLessen (wsV RX6 63 RX4 yX4_nimberIn wsX4_nimberIn) := goodIn_app (goodIn_of _ (by decide +kernel)) ggX6_registerToLessen_X4_nimberIn
theorem dX6_registerToLessen_0 : decode cX6_registerToLessen 0 = .ok (.aload_n 0, 1) := by decide +kernel
theorem dX6_registerToLessen_1 : decode cX6_registerToLessen 1 = .ok (.getfield 33, 3) := by decide +kernel
theorem dX6_registerToLessen_4 : decode cX6_registerToLessen 4 = .ok (.invokevirtual 137, 3) := by decide +kernel
theorem dX6_registerToLessen_7 : decode cX6_registerToLessen 7 = .ok (.istore_n 1, 1) := by decide +kernel
theorem dX6_registerToLessen_8 : decode cX6_registerToLessen 8 = .ok (.iconst 0, 1) := by decide +kernel
theorem dX6_registerToLessen_9 : decode cX6_registerToLessen 9 = .ok (.istore_n 2, 1) := by decide +kernel
theorem dX6_registerToLessen_10 : decode cX6_registerToLessen 10 = .ok (.iload_n 2, 1) := by decide +kernel
theorem dX6_registerToLessen_11 : decode cX6_registerToLessen 11 = .ok (.bipush 8, 2) := by decide +kernel
theorem dX6_registerToLessen_13 : decode cX6_registerToLessen 13 = .ok (.if_icmp .ge 27, 3) := by decide +kernel
theorem dX6_registerToLessen_16 : decode cX6_registerToLessen 16 = .ok (.aload_n 0, 1) := by decide +kernel
theorem dX6_registerToLessen_17 : decode cX6_registerToLessen 17 = .ok (.getfield 33, 3) := by decide +kernel
theorem dX6_registerToLessen_20 : decode cX6_registerToLessen 20 = .ok (.iload_n 2, 1) := by decide +kernel
theorem dX6_registerToLessen_21 : decode cX6_registerToLessen 21 = .ok (.invokevirtual 63, 3) := by decide +kernel
theorem dX6_registerToLessen_24 : decode cX6_registerToLessen 24 = .ok (.istore_n 3, 1) := by decide +kernel
theorem dX6_registerToLessen_25 : decode cX6_registerToLessen 25 = .ok (.iload_n 3, 1) := by decide +kernel
theorem dX6_registerToLessen_26 : decode cX6_registerToLessen 26 = .ok (.iload_n 1, 1) := by decide +kernel
theorem dX6_registerToLessen_27 : decode cX6_registerToLessen 27 = .ok (.ixor, 1) := by decide +kernel
theorem dX6_registerToLessen_28 : decode cX6_registerToLessen 28 = .ok (.iload_n 3, 1) := by decide +kernel
theorem dX6_registerToLessen_29 : decode cX6_registerToLessen 29 = .ok (.if_icmp .ge 5, 3) := by decide +kernel
theorem dX6_registerToLessen_32 : decode cX6_registerToLessen 32 = .ok (.iload_n 2, 1) := by decide +kernel
theorem dX6_registerToLessen_33 : decode cX6_registerToLessen 33 = .ok (.ireturn, 1) := by decide +kernel
theorem dX6_registerToLessen_34 : decode cX6_registerToLessen 34 = .ok (.iinc 2 1, 3) := by decide +kernel
theorem dX6_registerToLessen_37 : decode cX6_registerToLessen 37 = .ok (.goto (-27), 3) := by decide +kernel
theorem dX6_registerToLessen_40 : decode cX6_registerToLessen 40 = .ok (.iconst (-1), 1) := by decide +kernel
theorem dX6_registerToLessen_41 : decode cX6_registerToLessen 41 = .ok (.ireturn, 1) := by decide +kernel
set_option maxRecDepth 20000 in
theorem ggX6_productByHalves_X6_requireRange : GoodIn wsX6_productByHalves wsX6_requireRange := goodIn_ca (goodIn_r _ [5, 6, 7] (by decide +kernel) (by decide +kernel)) (goodIn_sub (fun _ h => List.mem_cons_of_mem _ (List.mem_append_right _ h)) (by decide +kernel))
set_option maxRecDepth 20000 in
theorem gX6_productByHalves_X6_requireRange : GoodIn wsX6_productByHalves (va_wsS RX6 59 yX6_requireRange wsX6_requireRange) := goodIn_app (goodIn_of _ (by decide +kernel)) ggX6_productByHalves_X6_requireRange
set_option maxRecDepth 20000 in
theorem ggX6_productByHalves_X2_timesByHalves : GoodIn wsX6_productByHalves wsX2_timesByHalves := goodIn_r _ [10, 11, 8, 9] (by decide +kernel) (by decide +kernel)
set_option maxRecDepth 20000 in
theorem gX6_productByHalves_X2_timesByHalves_n142 : GoodIn wsX6_productByHalves (wsX2_timesByHalves) := ggX6_productByHalves_X2_timesByHalves
theorem dX6_productByHalves_0 : decode cX6_productByHalves 0 = .ok (.iload_n 1, 1) := by decide +kernel
theorem dX6_productByHalves_1 : decode cX6_productByHalves 1 = .ok (.ldc 58, 2) := by decide +kernel
theorem dX6_productByHalves_3 : decode cX6_productByHalves 3 = .ok (.invokestatic 59, 3) := by decide +kernel
theorem dX6_productByHalves_6 : decode cX6_productByHalves 6 = .ok (.iload_n 2, 1) := by decide +kernel
theorem dX6_productByHalves_7 : decode cX6_productByHalves 7 = .ok (.ldc 58, 2) := by decide +kernel
theorem dX6_productByHalves_9 : decode cX6_productByHalves 9 = .ok (.invokestatic 59, 3) := by decide +kernel
theorem dX6_productByHalves_12 : decode cX6_productByHalves 12 = .ok (.iload_n 1, 1) := by decide +kernel
theorem dX6_productByHalves_13 : decode cX6_productByHalves 13 = .ok (.iload_n 2, 1) := by decide +kernel
theorem dX6_productByHalves_14 : decode cX6_productByHalves 14 = .ok (.bipush 8, 2) := by decide +kernel
theorem dX6_productByHalves_16 : decode cX6_productByHalves 16 = .ok (.invokestatic 142, 3) := by decide +kernel
theorem dX6_productByHalves_19 : decode cX6_productByHalves 19 = .ok (.ireturn, 1) := by decide +kernel
set_option maxRecDepth 20000 in
theorem ggX6_productByBits_X6_requireRange : GoodIn wsX6_productByBits wsX6_requireRange := goodIn_ca (goodIn_r _ [6, 7, 8] (by decide +kernel) (by decide +kernel)) (goodIn_sub (fun _ h => List.mem_cons_of_mem _ (List.mem_append_right _ h)) (by decide +kernel))
set_option maxRecDepth 20000 in
theorem gX6_productByBits_X6_requireRange : GoodIn wsX6_productByBits (va_wsS RX6 59 yX6_requireRange wsX6_requireRange) := goodIn_app (goodIn_of _ (by decide +kernel)) ggX6_productByBits_X6_requireRange
set_option maxRecDepth 20000 in
theorem ggX6_productByBits_X2_times : GoodIn wsX6_productByBits wsX2_times := goodIn_r _ [13, 14, 23] (by decide +kernel) (by decide +kernel)
set_option maxRecDepth 20000 in
theorem gX6_productByBits_X2_times : GoodIn wsX6_productByBits (wsV RX6 91 RX2 yX2_times wsX2_times) := goodIn_app (goodIn_of _ (by decide +kernel)) ggX6_productByBits_X2_times
theorem dX6_productByBits_0 : decode cX6_productByBits 0 = .ok (.iload_n 1, 1) := by decide +kernel
theorem dX6_productByBits_1 : decode cX6_productByBits 1 = .ok (.ldc 58, 2) := by decide +kernel
theorem dX6_productByBits_3 : decode cX6_productByBits 3 = .ok (.invokestatic 59, 3) := by decide +kernel
theorem dX6_productByBits_6 : decode cX6_productByBits 6 = .ok (.iload_n 2, 1) := by decide +kernel
theorem dX6_productByBits_7 : decode cX6_productByBits 7 = .ok (.ldc 58, 2) := by decide +kernel
theorem dX6_productByBits_9 : decode cX6_productByBits 9 = .ok (.invokestatic 59, 3) := by decide +kernel
theorem dX6_productByBits_12 : decode cX6_productByBits 12 = .ok (.aload_n 0, 1) := by decide +kernel
theorem dX6_productByBits_13 : decode cX6_productByBits 13 = .ok (.getfield 12, 3) := by decide +kernel
theorem dX6_productByBits_16 : decode cX6_productByBits 16 = .ok (.iload_n 1, 1) := by decide +kernel
theorem dX6_productByBits_17 : decode cX6_productByBits 17 = .ok (.iload_n 2, 1) := by decide +kernel
theorem dX6_productByBits_18 : decode cX6_productByBits 18 = .ok (.invokevirtual 91, 3) := by decide +kernel
theorem dX6_productByBits_21 : decode cX6_productByBits 21 = .ok (.ireturn, 1) := by decide +kernel
set_option maxRecDepth 20000 in
theorem ggX6_quotient_X6_requireRange : GoodIn wsX6_quotient wsX6_requireRange := goodIn_ca (goodIn_r _ [6, 7, 8] (by decide +kernel) (by decide +kernel)) (goodIn_sub (fun _ h => List.mem_cons_of_mem _ (List.mem_append_right _ h)) (by decide +kernel))
set_option maxRecDepth 20000 in
theorem gX6_quotient_X6_requireRange : GoodIn wsX6_quotient (va_wsS RX6 59 yX6_requireRange wsX6_requireRange) := goodIn_app (goodIn_of _ (by decide +kernel)) ggX6_quotient_X6_requireRange
set_option maxRecDepth 20000 in
theorem ggX6_quotient_X2_dividedBy : GoodIn wsX6_quotient wsX2_dividedBy := goodIn_r _ [13, 14, 15, 16, 12, 17, 18, 19, 20, 21, 22, 31] (by decide +kernel) (by decide +kernel)
set_option maxRecDepth 20000 in
theorem gX6_quotient_X2_dividedBy : GoodIn wsX6_quotient (wsV RX6 81 RX2 yX2_dividedBy wsX2_dividedBy) := goodIn_app (goodIn_of _ (by decide +kernel)) ggX6_quotient_X2_dividedBy
theorem dX6_quotient_0 : decode cX6_quotient 0 = .ok (.iload_n 1, 1) := by decide +kernel
theorem dX6_quotient_1 : decode cX6_quotient 1 = .ok (.ldc 58, 2) := by decide +kernel
theorem dX6_quotient_3 : decode cX6_quotient 3 = .ok (.invokestatic 59, 3) := by decide +kernel
theorem dX6_quotient_6 : decode cX6_quotient 6 = .ok (.iload_n 2, 1) := by decide +kernel
theorem dX6_quotient_7 : decode cX6_quotient 7 = .ok (.ldc 58, 2) := by decide +kernel
theorem dX6_quotient_9 : decode cX6_quotient 9 = .ok (.invokestatic 59, 3) := by decide +kernel
theorem dX6_quotient_12 : decode cX6_quotient 12 = .ok (.aload_n 0, 1) := by decide +kernel
theorem dX6_quotient_13 : decode cX6_quotient 13 = .ok (.getfield 12, 3) := by decide +kernel
theorem dX6_quotient_16 : decode cX6_quotient 16 = .ok (.iload_n 1, 1) := by decide +kernel
theorem dX6_quotient_17 : decode cX6_quotient 17 = .ok (.iload_n 2, 1) := by decide +kernel
theorem dX6_quotient_18 : decode cX6_quotient 18 = .ok (.invokevirtual 81, 3) := by decide +kernel
theorem dX6_quotient_21 : decode cX6_quotient 21 = .ok (.ireturn, 1) := by decide +kernel
set_option maxRecDepth 20000 in
theorem ggX6_power_X6_requireRange : GoodIn wsX6_power wsX6_requireRange := goodIn_ca (goodIn_r _ [7, 8, 9] (by decide +kernel) (by decide +kernel)) (goodIn_sub (fun _ h => List.mem_cons_of_mem _ (List.mem_append_right _ h)) (by decide +kernel))
set_option maxRecDepth 20000 in
theorem gX6_power_X6_requireRange : GoodIn wsX6_power (va_wsS RX6 59 yX6_requireRange wsX6_requireRange) := goodIn_app (goodIn_of _ (by decide +kernel)) ggX6_power_X6_requireRange
set_option maxRecDepth 20000 in
theorem ggX6_power_X2_raised : GoodIn wsX6_power wsX2_raised := goodIn_r _ [14, 15, 16, 17, 13, 18, 19, 20, 21, 22, 23, 32] (by decide +kernel) (by decide +kernel)
set_option maxRecDepth 20000 in
theorem gX6_power_X2_raised : GoodIn wsX6_power (wsV RX6 150 RX2 yX2_raised wsX2_raised) := goodIn_app (goodIn_of _ (by decide +kernel)) ggX6_power_X2_raised
theorem dX6_power_0 : decode cX6_power 0 = .ok (.iload_n 1, 1) := by decide +kernel
theorem dX6_power_1 : decode cX6_power 1 = .ok (.ldc 58, 2) := by decide +kernel
theorem dX6_power_3 : decode cX6_power 3 = .ok (.invokestatic 59, 3) := by decide +kernel
theorem dX6_power_6 : decode cX6_power 6 = .ok (.iload_n 2, 1) := by decide +kernel
theorem dX6_power_7 : decode cX6_power 7 = .ok (.ldc 149, 2) := by decide +kernel
theorem dX6_power_9 : decode cX6_power 9 = .ok (.invokestatic 59, 3) := by decide +kernel
theorem dX6_power_12 : decode cX6_power 12 = .ok (.aload_n 0, 1) := by decide +kernel
theorem dX6_power_13 : decode cX6_power 13 = .ok (.getfield 12, 3) := by decide +kernel
theorem dX6_power_16 : decode cX6_power 16 = .ok (.iload_n 1, 1) := by decide +kernel
theorem dX6_power_17 : decode cX6_power 17 = .ok (.iload_n 2, 1) := by decide +kernel
theorem dX6_power_18 : decode cX6_power 18 = .ok (.invokevirtual 150, 3) := by decide +kernel
theorem dX6_power_21 : decode cX6_power 21 = .ok (.ireturn, 1) := by decide +kernel
set_option maxRecDepth 20000 in
theorem ggX6_rootOf_X6_requireRange : GoodIn wsX6_rootOf wsX6_requireRange := goodIn_ca (goodIn_r _ [6, 7, 8] (by decide +kernel) (by decide +kernel)) (goodIn_sub (fun _ h => List.mem_cons_of_mem _ (List.mem_append_right _ h)) (by decide +kernel))
set_option maxRecDepth 20000 in
theorem gX6_rootOf_X6_requireRange : GoodIn wsX6_rootOf (va_wsS RX6 59 yX6_requireRange wsX6_requireRange) := goodIn_app (goodIn_of _ (by decide +kernel)) ggX6_rootOf_X6_requireRange
set_option maxRecDepth 20000 in
theorem ggX6_rootOf_X2_root : GoodIn wsX6_rootOf wsX2_root := goodIn_r _ [13, 14, 15, 16, 12, 17, 18, 27] (by decide +kernel) (by decide +kernel)
set_option maxRecDepth 20000 in
theorem gX6_rootOf_X2_root : GoodIn wsX6_rootOf (wsV RX6 88 RX2 yX2_root wsX2_root) := goodIn_app (goodIn_of _ (by decide +kernel)) ggX6_rootOf_X2_root
theorem dX6_rootOf_0 : decode cX6_rootOf 0 = .ok (.iload_n 1, 1) := by decide +kernel
theorem dX6_rootOf_1 : decode cX6_rootOf 1 = .ok (.ldc 58, 2) := by decide +kernel
theorem dX6_rootOf_3 : decode cX6_rootOf 3 = .ok (.invokestatic 59, 3) := by decide +kernel
theorem dX6_rootOf_6 : decode cX6_rootOf 6 = .ok (.aload_n 0, 1) := by decide +kernel
theorem dX6_rootOf_7 : decode cX6_rootOf 7 = .ok (.getfield 12, 3) := by decide +kernel
theorem dX6_rootOf_10 : decode cX6_rootOf 10 = .ok (.iload_n 1, 1) := by decide +kernel
theorem dX6_rootOf_11 : decode cX6_rootOf 11 = .ok (.invokevirtual 88, 3) := by decide +kernel
theorem dX6_rootOf_14 : decode cX6_rootOf 14 = .ok (.ireturn, 1) := by decide +kernel
set_option maxRecDepth 20000 in
theorem ggX6_fieldOf_X6_requireRange : GoodIn wsX6_fieldOf wsX6_requireRange := goodIn_ca (goodIn_r _ [5, 6, 7] (by decide +kernel) (by decide +kernel)) (goodIn_sub (fun _ h => List.mem_cons_of_mem _ (List.mem_append_right _ h)) (by decide +kernel))
set_option maxRecDepth 20000 in
theorem gX6_fieldOf_X6_requireRange : GoodIn wsX6_fieldOf (va_wsS RX6 59 yX6_requireRange wsX6_requireRange) := goodIn_app (goodIn_of _ (by decide +kernel)) ggX6_fieldOf_X6_requireRange
theorem dX6_fieldOf_0 : decode cX6_fieldOf 0 = .ok (.iload_n 1, 1) := by decide +kernel
theorem dX6_fieldOf_1 : decode cX6_fieldOf 1 = .ok (.ldc 58, 2) := by decide +kernel
theorem dX6_fieldOf_3 : decode cX6_fieldOf 3 = .ok (.invokestatic 59, 3) := by decide +kernel
theorem dX6_fieldOf_6 : decode cX6_fieldOf 6 = .ok (.iconst 1, 1) := by decide +kernel
theorem dX6_fieldOf_7 : decode cX6_fieldOf 7 = .ok (.istore_n 2, 1) := by decide +kernel
theorem dX6_fieldOf_8 : decode cX6_fieldOf 8 = .ok (.iload_n 2, 1) := by decide +kernel
theorem dX6_fieldOf_9 : decode cX6_fieldOf 9 = .ok (.bipush 16, 2) := by decide +kernel
theorem dX6_fieldOf_11 : decode cX6_fieldOf 11 = .ok (.if_icmp .ge 16, 3) := by decide +kernel
theorem dX6_fieldOf_14 : decode cX6_fieldOf 14 = .ok (.iload_n 1, 1) := by decide +kernel
theorem dX6_fieldOf_15 : decode cX6_fieldOf 15 = .ok (.iload_n 2, 1) := by decide +kernel
theorem dX6_fieldOf_16 : decode cX6_fieldOf 16 = .ok (.ishr, 1) := by decide +kernel
theorem dX6_fieldOf_17 : decode cX6_fieldOf 17 = .ok (.ifCond .eq 10, 3) := by decide +kernel
theorem dX6_fieldOf_20 : decode cX6_fieldOf 20 = .ok (.iload_n 2, 1) := by decide +kernel
theorem dX6_fieldOf_21 : decode cX6_fieldOf 21 = .ok (.iconst 2, 1) := by decide +kernel
theorem dX6_fieldOf_22 : decode cX6_fieldOf 22 = .ok (.imul, 1) := by decide +kernel
theorem dX6_fieldOf_23 : decode cX6_fieldOf 23 = .ok (.istore_n 2, 1) := by decide +kernel
theorem dX6_fieldOf_24 : decode cX6_fieldOf 24 = .ok (.goto (-16), 3) := by decide +kernel
theorem dX6_fieldOf_27 : decode cX6_fieldOf 27 = .ok (.iload_n 2, 1) := by decide +kernel
theorem dX6_fieldOf_28 : decode cX6_fieldOf 28 = .ok (.ireturn, 1) := by decide +kernel
set_option maxRecDepth 20000 in
theorem ggX6_orderByDivisors_X6_requireRange : GoodIn wsX6_orderByDivisors wsX6_requireRange := goodIn_ca (goodIn_r _ [6, 7, 8] (by decide +kernel) (by decide +kernel)) (goodIn_sub (fun _ h => List.mem_cons_of_mem _ (List.mem_append_right _ h)) (by decide +kernel))
set_option maxRecDepth 20000 in
theorem gX6_orderByDivisors_X6_requireRange : GoodIn wsX6_orderByDivisors (va_wsS RX6 59 yX6_requireRange wsX6_requireRange) := goodIn_app (goodIn_of _ (by decide +kernel)) ggX6_orderByDivisors_X6_requireRange
set_option maxRecDepth 20000 in
theorem ggX6_orderByDivisors_X2_orderByQuotients : GoodIn wsX6_orderByDivisors wsX2_orderByQuotients := goodIn_r _ [13, 14, 15, 16, 17, 18, 12, 19, 20, 21, 22, 23, 24, 25, 26, 27, 28, 37] (by decide +kernel) (by decide +kernel)
set_option maxRecDepth 20000 in
theorem gX6_orderByDivisors_X2_orderByQuotients : GoodIn wsX6_orderByDivisors (wsV RX6 156 RX2 yX2_orderByQuotients wsX2_orderByQuotients) := goodIn_app (goodIn_of _ (by decide +kernel)) ggX6_orderByDivisors_X2_orderByQuotients
theorem dX6_orderByDivisors_0 : decode cX6_orderByDivisors 0 = .ok (.iload_n 1, 1) := by decide +kernel
theorem dX6_orderByDivisors_1 : decode cX6_orderByDivisors 1 = .ok (.ldc 58, 2) := by decide +kernel
theorem dX6_orderByDivisors_3 : decode cX6_orderByDivisors 3 = .ok (.invokestatic 59, 3) := by decide +kernel
theorem dX6_orderByDivisors_6 : decode cX6_orderByDivisors 6 = .ok (.aload_n 0, 1) := by decide +kernel
theorem dX6_orderByDivisors_7 : decode cX6_orderByDivisors 7 = .ok (.getfield 12, 3) := by decide +kernel
theorem dX6_orderByDivisors_10 : decode cX6_orderByDivisors 10 = .ok (.iload_n 1, 1) := by decide +kernel
theorem dX6_orderByDivisors_11 : decode cX6_orderByDivisors 11 = .ok (.invokevirtual 156, 3) := by decide +kernel
theorem dX6_orderByDivisors_14 : decode cX6_orderByDivisors 14 = .ok (.ireturn, 1) := by decide +kernel
set_option maxRecDepth 20000 in
theorem ggX6_traceOf_X6_requireRange : GoodIn wsX6_traceOf wsX6_requireRange := goodIn_ca (goodIn_r _ [6, 7, 8] (by decide +kernel) (by decide +kernel)) (goodIn_sub (fun _ h => List.mem_cons_of_mem _ (List.mem_append_right _ h)) (by decide +kernel))
set_option maxRecDepth 20000 in
theorem gX6_traceOf_X6_requireRange : GoodIn wsX6_traceOf (va_wsS RX6 59 yX6_requireRange wsX6_requireRange) := goodIn_app (goodIn_of _ (by decide +kernel)) ggX6_traceOf_X6_requireRange
set_option maxRecDepth 20000 in
theorem ggX6_traceOf_X2_trace : GoodIn wsX6_traceOf wsX2_trace := goodIn_r _ [13, 14, 15, 16, 12, 17, 18, 27] (by decide +kernel) (by decide +kernel)
set_option maxRecDepth 20000 in
theorem gX6_traceOf_X2_trace : GoodIn wsX6_traceOf (wsV RX6 159 RX2 yX2_trace wsX2_trace) := goodIn_app (goodIn_of _ (by decide +kernel)) ggX6_traceOf_X2_trace
theorem dX6_traceOf_0 : decode cX6_traceOf 0 = .ok (.iload_n 1, 1) := by decide +kernel
theorem dX6_traceOf_1 : decode cX6_traceOf 1 = .ok (.ldc 58, 2) := by decide +kernel
theorem dX6_traceOf_3 : decode cX6_traceOf 3 = .ok (.invokestatic 59, 3) := by decide +kernel
theorem dX6_traceOf_6 : decode cX6_traceOf 6 = .ok (.aload_n 0, 1) := by decide +kernel
theorem dX6_traceOf_7 : decode cX6_traceOf 7 = .ok (.getfield 12, 3) := by decide +kernel
theorem dX6_traceOf_10 : decode cX6_traceOf 10 = .ok (.iload_n 1, 1) := by decide +kernel
theorem dX6_traceOf_11 : decode cX6_traceOf 11 = .ok (.invokevirtual 159, 3) := by decide +kernel
theorem dX6_traceOf_14 : decode cX6_traceOf 14 = .ok (.ireturn, 1) := by decide +kernel
set_option maxRecDepth 20000 in
theorem ggX6_solve_X6_requireRange : GoodIn wsX6_solve wsX6_requireRange := goodIn_ca (goodIn_r _ [6, 7, 8] (by decide +kernel) (by decide +kernel)) (goodIn_sub (fun _ h => List.mem_cons_of_mem _ (List.mem_append_right _ h)) (by decide +kernel))
set_option maxRecDepth 20000 in
theorem gX6_solve_X6_requireRange : GoodIn wsX6_solve (va_wsS RX6 59 yX6_requireRange wsX6_requireRange) := goodIn_app (goodIn_of _ (by decide +kernel)) ggX6_solve_X6_requireRange
set_option maxRecDepth 20000 in
theorem ggX6_solve_X2_leastSolution : GoodIn wsX6_solve wsX2_leastSolution := goodIn_r _ [13, 14, 15, 16, 12, 17, 18, 27] (by decide +kernel) (by decide +kernel)
set_option maxRecDepth 20000 in
theorem gX6_solve_X2_leastSolution : GoodIn wsX6_solve (wsV RX6 162 RX2 yX2_leastSolution wsX2_leastSolution) := goodIn_app (goodIn_of _ (by decide +kernel)) ggX6_solve_X2_leastSolution
theorem dX6_solve_0 : decode cX6_solve 0 = .ok (.iload_n 1, 1) := by decide +kernel
theorem dX6_solve_1 : decode cX6_solve 1 = .ok (.ldc 58, 2) := by decide +kernel
theorem dX6_solve_3 : decode cX6_solve 3 = .ok (.invokestatic 59, 3) := by decide +kernel
theorem dX6_solve_6 : decode cX6_solve 6 = .ok (.aload_n 0, 1) := by decide +kernel
theorem dX6_solve_7 : decode cX6_solve 7 = .ok (.getfield 12, 3) := by decide +kernel
theorem dX6_solve_10 : decode cX6_solve 10 = .ok (.iload_n 1, 1) := by decide +kernel
theorem dX6_solve_11 : decode cX6_solve 11 = .ok (.invokevirtual 162, 3) := by decide +kernel
theorem dX6_solve_14 : decode cX6_solve 14 = .ok (.ireturn, 1) := by decide +kernel
set_option maxRecDepth 20000 in
theorem ggX6_products_X4_productCount : GoodIn wsX6_products wsX4_productCount := goodIn_r _ [6, 7, 16, 17] (by decide +kernel) (by decide +kernel)
set_option maxRecDepth 20000 in
theorem gX6_products_X4_productCount : GoodIn wsX6_products (wsV RX6 165 RX4 yX4_productCount wsX4_productCount) := goodIn_app (goodIn_of _ (by decide +kernel)) ggX6_products_X4_productCount
theorem dX6_products_0 : decode cX6_products 0 = .ok (.aload_n 0, 1) := by decide +kernel
theorem dX6_products_1 : decode cX6_products 1 = .ok (.getfield 33, 3) := by decide +kernel
theorem dX6_products_4 : decode cX6_products 4 = .ok (.invokevirtual 165, 3) := by decide +kernel
theorem dX6_products_7 : decode cX6_products 7 = .ok (.ireturn, 1) := by decide +kernel
set_option maxRecDepth 20000 in
theorem ggX6_recordedStates_X0_size : GoodIn wsX6_recordedStates wsX0_size := goodIn_r _ [6, 7, 16, 17] (by decide +kernel) (by decide +kernel)
set_option maxRecDepth 20000 in
theorem gX6_recordedStates_X0_size : GoodIn wsX6_recordedStates (wsV RX6 128 RX0 yX0_size wsX0_size) := goodIn_app (goodIn_of _ (by decide +kernel)) ggX6_recordedStates_X0_size
theorem dX6_recordedStates_0 : decode cX6_recordedStates 0 = .ok (.aload_n 0, 1) := by decide +kernel
theorem dX6_recordedStates_1 : decode cX6_recordedStates 1 = .ok (.getfield 46, 3) := by decide +kernel
theorem dX6_recordedStates_4 : decode cX6_recordedStates 4 = .ok (.invokevirtual 128, 3) := by decide +kernel
theorem dX6_recordedStates_7 : decode cX6_recordedStates 7 = .ok (.ireturn, 1) := by decide +kernel
theorem dX6_requireRegister_0 : decode cX6_requireRegister 0 = .ok (.iload_n 0, 1) := by decide +kernel
theorem dX6_requireRegister_1 : decode cX6_requireRegister 1 = .ok (.ifCond .lt 9, 3) := by decide +kernel
theorem dX6_requireRegister_4 : decode cX6_requireRegister 4 = .ok (.iload_n 0, 1) := by decide +kernel
theorem dX6_requireRegister_5 : decode cX6_requireRegister 5 = .ok (.bipush 8, 2) := by decide +kernel
theorem dX6_requireRegister_7 : decode cX6_requireRegister 7 = .ok (.if_icmp .lt 13, 3) := by decide +kernel
theorem dX6_requireRegister_10 : decode cX6_requireRegister 10 = .ok (.new 168, 3) := by decide +kernel
theorem dX6_requireRegister_13 : decode cX6_requireRegister 13 = .ok (.dup, 1) := by decide +kernel
theorem dX6_requireRegister_14 : decode cX6_requireRegister 14 = .ok (.ldc 170, 2) := by decide +kernel
theorem dX6_requireRegister_16 : decode cX6_requireRegister 16 = .ok (.invokespecial 172, 3) := by decide +kernel
theorem dX6_requireRegister_19 : decode cX6_requireRegister 19 = .ok (.athrow, 1) := by decide +kernel
theorem dX6_requireRegister_20 : decode cX6_requireRegister 20 = .ok (.return_, 1) := by decide +kernel
theorem dX6_requireRange_0 : decode cX6_requireRange 0 = .ok (.iload_n 0, 1) := by decide +kernel
theorem dX6_requireRange_1 : decode cX6_requireRange 1 = .ok (.ifCond .lt 8, 3) := by decide +kernel
theorem dX6_requireRange_4 : decode cX6_requireRange 4 = .ok (.iload_n 0, 1) := by decide +kernel
theorem dX6_requireRange_5 : decode cX6_requireRange 5 = .ok (.iload_n 1, 1) := by decide +kernel
theorem dX6_requireRange_6 : decode cX6_requireRange 6 = .ok (.if_icmp .le 13, 3) := by decide +kernel
theorem dX6_requireRange_9 : decode cX6_requireRange 9 = .ok (.new 173, 3) := by decide +kernel
theorem dX6_requireRange_12 : decode cX6_requireRange 12 = .ok (.dup, 1) := by decide +kernel
theorem dX6_requireRange_13 : decode cX6_requireRange 13 = .ok (.ldc 175, 2) := by decide +kernel
theorem dX6_requireRange_15 : decode cX6_requireRange 15 = .ok (.invokespecial 177, 3) := by decide +kernel
theorem dX6_requireRange_18 : decode cX6_requireRange 18 = .ok (.athrow, 1) := by decide +kernel
theorem dX6_requireRange_19 : decode cX6_requireRange 19 = .ok (.return_, 1) := by decide +kernel
set_option maxRecDepth 20000 in
theorem ggX6_requireValidProgram_X3_read : GoodIn wsX6_requireValidProgram wsX3_read := goodIn_r _ [8, 9, 10, 11, 12, 13, 14, 15, 7, 16, 17, 18, 19, 20, 21, 22, 23, 24, 25, 26, 27, 28, 29, 30, 31, 32, 33, 34, 35, 36, 37, 38, 39, 40, 41, 42, 43, 44, 45, 46, 47, 48, 49, 50, 51, 52, 53, 54, 55, 56, 57, 58, 59, 68, 69, 70, 71, 72, 73, 74, 75, 76] (by decide +kernel) (by decide +kernel)
set_option maxRecDepth 20000 in
theorem gX6_requireValidProgram_X3_read : GoodIn wsX6_requireValidProgram (wsV RX6 111 RX3 yX3_read wsX3_read) := goodIn_app (goodIn_of _ (by decide +kernel)) ggX6_requireValidProgram_X3_read
theorem dX6_requireValidProgram_0 : decode cX6_requireValidProgram 0 = .ok (.aload_n 0, 1) := by decide +kernel
theorem dX6_requireValidProgram_1 : decode cX6_requireValidProgram 1 = .ok (.getfield 26, 3) := by decide +kernel
theorem dX6_requireValidProgram_4 : decode cX6_requireValidProgram 4 = .ok (.invokevirtual 111, 3) := by decide +kernel
theorem dX6_requireValidProgram_7 : decode cX6_requireValidProgram 7 = .ok (.iconst (-1), 1) := by decide +kernel
theorem dX6_requireValidProgram_8 : decode cX6_requireValidProgram 8 = .ok (.if_icmp .eq 13, 3) := by decide +kernel
theorem dX6_requireValidProgram_11 : decode cX6_requireValidProgram 11 = .ok (.new 74, 3) := by decide +kernel
theorem dX6_requireValidProgram_14 : decode cX6_requireValidProgram 14 = .ok (.dup, 1) := by decide +kernel
theorem dX6_requireValidProgram_15 : decode cX6_requireValidProgram 15 = .ok (.ldc 178, 2) := by decide +kernel
theorem dX6_requireValidProgram_17 : decode cX6_requireValidProgram 17 = .ok (.invokespecial 78, 3) := by decide +kernel
theorem dX6_requireValidProgram_20 : decode cX6_requireValidProgram 20 = .ok (.athrow, 1) := by decide +kernel
theorem dX6_requireValidProgram_21 : decode cX6_requireValidProgram 21 = .ok (.return_, 1) := by decide +kernel
set_option maxRecDepth 20000 in
theorem ggX6_replace_X0_record : GoodIn wsX6_replace wsX0_record := goodIn_r _ [7, 8, 9, 10, 11, 12, 13, 14, 15, 16, 17, 18, 19, 20, 21, 22, 23, 24, 25, 26, 27, 28, 41, 42, 43, 44] (by decide +kernel) (by decide +kernel)
set_option maxRecDepth 20000 in
theorem gX6_replace_X0_record : GoodIn wsX6_replace (wsV RX6 67 RX0 yX0_record wsX0_record) := goodIn_app (goodIn_of _ (by decide +kernel)) ggX6_replace_X0_record
set_option maxRecDepth 20000 in
theorem ggX6_replace_X4_put : GoodIn wsX6_replace wsX4_put := goodIn_r _ [32, 19, 43, 44] (by decide +kernel) (by decide +kernel)
set_option maxRecDepth 20000 in
theorem gX6_replace_X4_put : GoodIn wsX6_replace (wsV RX6 71 RX4 yX4_put wsX4_put) := goodIn_app (goodIn_of _ (by decide +kernel)) ggX6_replace_X4_put
theorem dX6_replace_0 : decode cX6_replace 0 = .ok (.aload_n 0, 1) := by decide +kernel
theorem dX6_replace_1 : decode cX6_replace 1 = .ok (.getfield 46, 3) := by decide +kernel
theorem dX6_replace_4 : decode cX6_replace 4 = .ok (.aload_n 0, 1) := by decide +kernel
theorem dX6_replace_5 : decode cX6_replace 5 = .ok (.getfield 33, 3) := by decide +kernel
theorem dX6_replace_8 : decode cX6_replace 8 = .ok (.invokevirtual 67, 3) := by decide +kernel
theorem dX6_replace_11 : decode cX6_replace 11 = .ok (.aload_n 0, 1) := by decide +kernel
theorem dX6_replace_12 : decode cX6_replace 12 = .ok (.getfield 33, 3) := by decide +kernel
theorem dX6_replace_15 : decode cX6_replace 15 = .ok (.iload_n 1, 1) := by decide +kernel
theorem dX6_replace_16 : decode cX6_replace 16 = .ok (.iload_n 2, 1) := by decide +kernel
theorem dX6_replace_17 : decode cX6_replace 17 = .ok (.invokevirtual 71, 3) := by decide +kernel
theorem dX6_replace_20 : decode cX6_replace 20 = .ok (.iload_n 2, 1) := by decide +kernel
theorem dX6_replace_21 : decode cX6_replace 21 = .ok (.ireturn, 1) := by decide +kernel
set_option maxRecDepth 20000 in
theorem ggX6_tryProgram_X4_copyFrom : GoodIn wsX6_tryProgram wsX4_copyFrom := goodIn_r _ [9, 10, 11, 12, 13, 14, 8, 15, 16, 17, 18, 19, 84, 85] (by decide +kernel) (by decide +kernel)
set_option maxRecDepth 20000 in
theorem gX6_tryProgram_X4_copyFrom : GoodIn wsX6_tryProgram (wsV RX6 122 RX4 yX4_copyFrom wsX4_copyFrom) := goodIn_app (goodIn_of _ (by decide +kernel)) ggX6_tryProgram_X4_copyFrom
set_option maxRecDepth 20000 in
theorem ggX6_tryProgram_X3_runOn : GoodIn wsX6_tryProgram wsX3_runOn := goodIn_r _ [24, 25, 26, 27, 28, 29, 30, 31, 32, 33, 34, 35, 36, 37, 38, 39, 40, 13, 14, 8, 15, 10, 41, 42, 43, 44, 45, 46, 47, 48, 49, 50, 51, 52, 53, 54, 55, 56, 57, 58, 59, 60, 61, 62, 63, 64, 65, 66, 67, 68, 69, 70, 71, 72, 73, 74, 75, 11, 86, 87, 88, 89, 90, 91, 92, 93, 94, 84, 85, 95] (by decide +kernel) (by decide +kernel)
set_option maxRecDepth 20000 in
theorem gX6_tryProgram_X3_runOn : GoodIn wsX6_tryProgram (wsV RX6 180 RX3 yX3_runOn wsX3_runOn) := goodIn_app (goodIn_of _ (by decide +kernel)) ggX6_tryProgram_X3_runOn
theorem dX6_tryProgram_0 : decode cX6_tryProgram 0 = .ok (.aload_n 0, 1) := by decide +kernel
theorem dX6_tryProgram_1 : decode cX6_tryProgram 1 = .ok (.getfield 37, 3) := by decide +kernel
theorem dX6_tryProgram_4 : decode cX6_tryProgram 4 = .ok (.aload_n 0, 1) := by decide +kernel
theorem dX6_tryProgram_5 : decode cX6_tryProgram 5 = .ok (.getfield 33, 3) := by decide +kernel
theorem dX6_tryProgram_8 : decode cX6_tryProgram 8 = .ok (.invokevirtual 122, 3) := by decide +kernel
theorem dX6_tryProgram_11 : decode cX6_tryProgram 11 = .ok (.aload_n 0, 1) := by decide +kernel
theorem dX6_tryProgram_12 : decode cX6_tryProgram 12 = .ok (.getfield 26, 3) := by decide +kernel
theorem dX6_tryProgram_15 : decode cX6_tryProgram 15 = .ok (.aload_n 0, 1) := by decide +kernel
theorem dX6_tryProgram_16 : decode cX6_tryProgram 16 = .ok (.getfield 37, 3) := by decide +kernel
theorem dX6_tryProgram_19 : decode cX6_tryProgram 19 = .ok (.aload_n 0, 1) := by decide +kernel
theorem dX6_tryProgram_20 : decode cX6_tryProgram 20 = .ok (.getfield 12, 3) := by decide +kernel
theorem dX6_tryProgram_23 : decode cX6_tryProgram 23 = .ok (.invokevirtual 180, 3) := by decide +kernel
theorem dX6_tryProgram_26 : decode cX6_tryProgram 26 = .ok (.ireturn, 1) := by decide +kernel
theorem dJ9_min_7cf53_0 : decode cJ9_min_7cf53 0 = .ok (.iload_n 0, 1) := by decide +kernel
theorem dJ9_min_7cf53_1 : decode cJ9_min_7cf53 1 = .ok (.iload_n 1, 1) := by decide +kernel
theorem dJ9_min_7cf53_2 : decode cJ9_min_7cf53 2 = .ok (.if_icmp .gt 7, 3) := by decide +kernel
theorem dJ9_min_7cf53_5 : decode cJ9_min_7cf53 5 = .ok (.iload_n 0, 1) := by decide +kernel
theorem dJ9_min_7cf53_6 : decode cJ9_min_7cf53 6 = .ok (.goto 4, 3) := by decide +kernel
theorem dJ9_min_7cf53_9 : decode cJ9_min_7cf53 9 = .ok (.iload_n 1, 1) := by decide +kernel
theorem dJ9_min_7cf53_10 : decode cJ9_min_7cf53 10 = .ok (.ireturn, 1) := by decide +kernel
