theorem dL_cell_0 : decode cL_cell 0 = .ok (.iload_n 1, 1) := by decide +kernel
theorem dL_cell_1 : decode cL_cell 1 = .ok (.aload_n 0, 1) := by decide +kernel
theorem dL_cell_2 : decode cL_cell 2 = .ok (.arraylength, 1) := by decide +kernel
theorem dL_cell_3 : decode cL_cell 3 = .ok (.if_icmp .ge 9, 3) := by decide +kernel
theorem dL_cell_6 : decode cL_cell 6 = .ok (.aload_n 0, 1) := by decide +kernel
theorem dL_cell_7 : decode cL_cell 7 = .ok (.iload_n 1, 1) := by decide +kernel
theorem dL_cell_8 : decode cL_cell 8 = .ok (.iaload, 1) := by decide +kernel
theorem dL_cell_9 : decode cL_cell 9 = .ok (.goto 11, 3) := by decide +kernel
theorem dL_cell_12 : decode cL_cell 12 = .ok (.ldc 7, 2) := by decide +kernel
theorem dL_cell_14 : decode cL_cell 14 = .ok (.iload_n 1, 1) := by decide +kernel
theorem dL_cell_15 : decode cL_cell 15 = .ok (.sipush 1877, 3) := by decide +kernel
theorem dL_cell_18 : decode cL_cell 18 = .ok (.iadd, 1) := by decide +kernel
theorem dL_cell_19 : decode cL_cell 19 = .ok (.imul, 1) := by decide +kernel
theorem dL_cell_20 : decode cL_cell 20 = .ok (.ireturn, 1) := by decide +kernel
theorem dL_up_0 : decode cL_up 0 = .ok (.iload_n 0, 1) := by decide +kernel
theorem dL_up_1 : decode cL_up 1 = .ok (.ldc 8, 2) := by decide +kernel
theorem dL_up_3 : decode cL_up 3 = .ok (.iand, 1) := by decide +kernel
theorem dL_up_4 : decode cL_up 4 = .ok (.iload_n 1, 1) := by decide +kernel
theorem dL_up_5 : decode cL_up 5 = .ok (.irem, 1) := by decide +kernel
theorem dL_up_6 : decode cL_up 6 = .ok (.ireturn, 1) := by decide +kernel
set_option maxRecDepth 20000 in
theorem ggL_set_X6_set : GoodIn wsL_set wsX6_set := goodIn_ca (goodIn_ca (goodIn_r _ [9, 10, 11, 12, 13, 14, 8, 15, 16, 17, 18, 19, 20, 21, 22, 23, 24, 25, 26, 27, 28, 29, 30, 31, 32, 33, 34, 35, 36, 37, 38, 39, 40, 41, 42, 43, 44, 45, 46, 47, 48, 49, 50, 51, 52, 53, 54, 55, 56, 57, 58, 59, 60, 61, 62, 63, 64, 65] (by decide +kernel) (by decide +kernel)) (goodIn_sub (fun _ h => List.mem_cons_of_mem _ (List.mem_append_left _ (List.mem_append_right _ h))) (by decide +kernel))) (goodIn_sub (fun _ h => List.mem_cons_of_mem _ (List.mem_append_right _ h)) (by decide +kernel))
set_option maxRecDepth 20000 in
theorem gL_set_X6_set : GoodIn wsL_set (wsV RL 9 RX6 yX6_set wsX6_set) := goodIn_app (goodIn_of _ (by decide +kernel)) ggL_set_X6_set
theorem dL_set_0 : decode cL_set 0 = .ok (.aload_n 0, 1) := by decide +kernel
theorem dL_set_1 : decode cL_set 1 = .ok (.iload_n 1, 1) := by decide +kernel
theorem dL_set_2 : decode cL_set 2 = .ok (.iload_n 2, 1) := by decide +kernel
theorem dL_set_3 : decode cL_set 3 = .ok (.invokevirtual 9, 3) := by decide +kernel
theorem dL_set_6 : decode cL_set 6 = .ok (.ireturn, 1) := by decide +kernel
theorem dL_set_7 : decode cL_set 7 = .ok (.astore_n 3, 1) := by decide +kernel
theorem dL_set_8 : decode cL_set 8 = .ok (.ldc 17, 2) := by decide +kernel
theorem dL_set_10 : decode cL_set 10 = .ok (.ireturn, 1) := by decide +kernel
theorem dL_set_11 : decode cL_set 11 = .ok (.astore_n 3, 1) := by decide +kernel
theorem dL_set_12 : decode cL_set 12 = .ok (.ldc 20, 2) := by decide +kernel
theorem dL_set_14 : decode cL_set 14 = .ok (.ireturn, 1) := by decide +kernel
set_option maxRecDepth 20000 in
theorem ggL_invert_X6_invert : GoodIn wsL_invert wsX6_invert := goodIn_ca (goodIn_ca (goodIn_r _ [9, 10, 11, 12, 13, 14, 15, 8, 16, 17, 18, 19, 20, 21, 22, 23, 24, 25, 26, 27, 28, 29, 30, 31, 32, 33, 34, 35, 36, 37, 38, 39, 40, 41, 42, 43, 44, 45, 46, 47, 48, 49, 50, 51, 52, 53, 54, 55, 56, 57, 58, 59, 60, 61, 62, 63, 64, 65, 66, 67, 68, 69, 70, 71, 72, 73, 74, 75, 76, 77, 78, 79, 80, 81] (by decide +kernel) (by decide +kernel)) (goodIn_sub (fun _ h => List.mem_cons_of_mem _ (List.mem_append_left _ (List.mem_append_right _ h))) (by decide +kernel))) (goodIn_sub (fun _ h => List.mem_cons_of_mem _ (List.mem_append_right _ h)) (by decide +kernel))
set_option maxRecDepth 20000 in
theorem gL_invert_X6_invert : GoodIn wsL_invert (wsV RL 21 RX6 yX6_invert wsX6_invert) := goodIn_app (goodIn_of _ (by decide +kernel)) ggL_invert_X6_invert
theorem dL_invert_0 : decode cL_invert 0 = .ok (.aload_n 0, 1) := by decide +kernel
theorem dL_invert_1 : decode cL_invert 1 = .ok (.iload_n 1, 1) := by decide +kernel
theorem dL_invert_2 : decode cL_invert 2 = .ok (.invokevirtual 21, 3) := by decide +kernel
theorem dL_invert_5 : decode cL_invert 5 = .ok (.ireturn, 1) := by decide +kernel
theorem dL_invert_6 : decode cL_invert 6 = .ok (.astore_n 2, 1) := by decide +kernel
theorem dL_invert_7 : decode cL_invert 7 = .ok (.ldc 17, 2) := by decide +kernel
theorem dL_invert_9 : decode cL_invert 9 = .ok (.ireturn, 1) := by decide +kernel
theorem dL_invert_10 : decode cL_invert 10 = .ok (.astore_n 2, 1) := by decide +kernel
theorem dL_invert_11 : decode cL_invert 11 = .ok (.ldc 20, 2) := by decide +kernel
theorem dL_invert_13 : decode cL_invert 13 = .ok (.ireturn, 1) := by decide +kernel
set_option maxRecDepth 20000 in
theorem ggL_takeRoot_X6_takeRoot : GoodIn wsL_takeRoot wsX6_takeRoot := goodIn_ca (goodIn_r _ [7, 8, 9, 10, 11, 6, 12, 13, 14, 15, 16, 17, 18, 19, 20, 21, 22, 23, 24, 25, 26, 27, 28, 29, 30, 31, 32, 33, 34, 35, 36, 37, 38, 39, 40, 41, 42, 43, 44, 45, 46, 47, 48, 49, 50, 51, 52, 53, 54, 55, 56, 57, 58, 59, 60, 61, 62, 63, 64, 65, 66, 67, 68, 69, 70, 71, 72, 73] (by decide +kernel) (by decide +kernel)) (goodIn_sub (fun _ h => List.mem_cons_of_mem _ (List.mem_append_right _ h)) (by decide +kernel))
set_option maxRecDepth 20000 in
theorem gL_takeRoot_X6_takeRoot : GoodIn wsL_takeRoot (wsV RL 27 RX6 yX6_takeRoot wsX6_takeRoot) := goodIn_app (goodIn_of _ (by decide +kernel)) ggL_takeRoot_X6_takeRoot
theorem dL_takeRoot_0 : decode cL_takeRoot 0 = .ok (.aload_n 0, 1) := by decide +kernel
theorem dL_takeRoot_1 : decode cL_takeRoot 1 = .ok (.iload_n 1, 1) := by decide +kernel
theorem dL_takeRoot_2 : decode cL_takeRoot 2 = .ok (.invokevirtual 27, 3) := by decide +kernel
theorem dL_takeRoot_5 : decode cL_takeRoot 5 = .ok (.ireturn, 1) := by decide +kernel
theorem dL_takeRoot_6 : decode cL_takeRoot 6 = .ok (.astore_n 2, 1) := by decide +kernel
theorem dL_takeRoot_7 : decode cL_takeRoot 7 = .ok (.ldc 17, 2) := by decide +kernel
theorem dL_takeRoot_9 : decode cL_takeRoot 9 = .ok (.ireturn, 1) := by decide +kernel
set_option maxRecDepth 20000 in
theorem ggL_multiply_X6_multiply : GoodIn wsL_multiply wsX6_multiply := goodIn_ca (goodIn_r _ [7, 8, 9, 10, 11, 6, 12, 13, 14, 15, 16, 17, 18, 19, 20, 21, 22, 23, 24, 25, 26, 27, 28, 29, 30, 31, 32, 33, 34, 35, 36, 37, 38, 39, 40, 41, 42, 43, 44, 45, 46, 47, 48, 49, 50, 51, 52, 53, 54, 55, 56, 57, 58, 59, 60, 61, 62, 63, 64, 65, 66, 67, 68, 69, 70, 71, 72, 73] (by decide +kernel) (by decide +kernel)) (goodIn_sub (fun _ h => List.mem_cons_of_mem _ (List.mem_append_right _ h)) (by decide +kernel))
set_option maxRecDepth 20000 in
theorem gL_multiply_X6_multiply : GoodIn wsL_multiply (wsV RL 30 RX6 yX6_multiply wsX6_multiply) := goodIn_app (goodIn_of _ (by decide +kernel)) ggL_multiply_X6_multiply
theorem dL_multiply_0 : decode cL_multiply 0 = .ok (.aload_n 0, 1) := by decide +kernel
theorem dL_multiply_1 : decode cL_multiply 1 = .ok (.iload_n 1, 1) := by decide +kernel
theorem dL_multiply_2 : decode cL_multiply 2 = .ok (.iload_n 2, 1) := by decide +kernel
theorem dL_multiply_3 : decode cL_multiply 3 = .ok (.invokevirtual 30, 3) := by decide +kernel
theorem dL_multiply_6 : decode cL_multiply 6 = .ok (.ireturn, 1) := by decide +kernel
theorem dL_multiply_7 : decode cL_multiply 7 = .ok (.astore_n 3, 1) := by decide +kernel
theorem dL_multiply_8 : decode cL_multiply 8 = .ok (.ldc 17, 2) := by decide +kernel
theorem dL_multiply_10 : decode cL_multiply 10 = .ok (.ireturn, 1) := by decide +kernel
set_option maxRecDepth 20000 in
theorem ggL_exchange_X6_exchange : GoodIn wsL_exchange wsX6_exchange := goodIn_ca (goodIn_r _ [7, 8, 9, 10, 11, 6, 12, 13, 14, 15, 16, 17, 18, 19, 20, 21, 22, 23, 24, 25, 26, 27, 28, 29, 30, 31, 32, 33, 34, 35, 36, 37, 38, 39, 40, 41, 42, 43, 44, 45, 46, 47, 48, 49, 50, 51, 52, 53, 54, 55, 56, 57] (by decide +kernel) (by decide +kernel)) (goodIn_sub (fun _ h => List.mem_cons_of_mem _ (List.mem_append_right _ h)) (by decide +kernel))
set_option maxRecDepth 20000 in
theorem gL_exchange_X6_exchange : GoodIn wsL_exchange (wsV RL 33 RX6 yX6_exchange wsX6_exchange) := goodIn_app (goodIn_of _ (by decide +kernel)) ggL_exchange_X6_exchange
theorem dL_exchange_0 : decode cL_exchange 0 = .ok (.aload_n 0, 1) := by decide +kernel
theorem dL_exchange_1 : decode cL_exchange 1 = .ok (.iload_n 1, 1) := by decide +kernel
theorem dL_exchange_2 : decode cL_exchange 2 = .ok (.iload_n 2, 1) := by decide +kernel
theorem dL_exchange_3 : decode cL_exchange 3 = .ok (.invokevirtual 33, 3) := by decide +kernel
theorem dL_exchange_6 : decode cL_exchange 6 = .ok (.ireturn, 1) := by decide +kernel
theorem dL_exchange_7 : decode cL_exchange 7 = .ok (.astore_n 3, 1) := by decide +kernel
theorem dL_exchange_8 : decode cL_exchange 8 = .ok (.ldc 17, 2) := by decide +kernel
theorem dL_exchange_10 : decode cL_exchange 10 = .ok (.ireturn, 1) := by decide +kernel
set_option maxRecDepth 20000 in
theorem ggL_type_X6_type : GoodIn wsL_type wsX6_type := goodIn_ca (goodIn_r _ [7, 8, 9, 10, 11, 12, 13, 14, 15, 16, 17, 18, 19, 20, 21, 22, 23, 24, 25, 26, 27, 28, 29, 30, 31, 32, 33, 34] (by decide +kernel) (by decide +kernel)) (goodIn_sub (fun _ h => List.mem_cons_of_mem _ (List.mem_append_right _ h)) (by decide +kernel))
set_option maxRecDepth 20000 in
theorem gL_type_X6_type : GoodIn wsL_type (wsV RL 36 RX6 yX6_type wsX6_type) := goodIn_app (goodIn_of _ (by decide +kernel)) ggL_type_X6_type
theorem dL_type_0 : decode cL_type 0 = .ok (.aload_n 0, 1) := by decide +kernel
theorem dL_type_1 : decode cL_type 1 = .ok (.iload_n 1, 1) := by decide +kernel
theorem dL_type_2 : decode cL_type 2 = .ok (.i2c, 1) := by decide +kernel
theorem dL_type_3 : decode cL_type 3 = .ok (.invokevirtual 36, 3) := by decide +kernel
theorem dL_type_6 : decode cL_type 6 = .ok (.ireturn, 1) := by decide +kernel
theorem dL_type_7 : decode cL_type 7 = .ok (.astore_n 2, 1) := by decide +kernel
theorem dL_type_8 : decode cL_type 8 = .ok (.ldc 17, 2) := by decide +kernel
theorem dL_type_10 : decode cL_type 10 = .ok (.ireturn, 1) := by decide +kernel
set_option maxRecDepth 20000 in
theorem ggL_carryOut_X6_carryOut : GoodIn wsL_carryOut wsX6_carryOut := goodIn_ca (goodIn_r _ [7, 8, 9, 10, 11, 12, 13, 14, 15, 16, 6, 17, 18, 19, 20, 21, 22, 23, 24, 25, 26, 27, 28, 29, 30, 31, 32, 33, 34, 35, 36, 37, 38, 39, 40, 41, 42, 43, 44, 45, 46, 47, 48, 49, 50, 51, 52, 53, 54, 55, 56, 57, 58, 59, 60, 61, 62, 63, 64, 65, 66, 67, 68, 69, 70, 71, 72, 73, 74, 75, 76, 77, 78, 79, 80, 81, 82, 83, 84, 85, 86, 87, 88, 89, 90, 91, 92, 93, 94, 95, 96, 97, 98, 99, 100, 101, 102, 103, 104, 105, 106, 107, 108, 109, 110, 111, 112, 113, 114, 115, 116, 117, 118, 119, 120, 121, 122, 123, 124, 125, 126, 127, 128, 129, 130, 131, 132, 133, 134, 135, 136, 137, 138, 139, 140, 141, 142, 143, 144, 145, 146, 147, 148, 149, 150, 151, 152, 153, 154, 155, 156, 157, 158, 159, 160, 161, 162, 163, 164, 165, 166, 167, 168, 169, 170, 171, 172, 173, 174, 175, 176, 177, 178, 179, 180, 181, 182, 183, 184] (by decide +kernel) (by decide +kernel)) (goodIn_sub (fun _ h => List.mem_cons_of_mem _ (List.mem_append_right _ h)) (by decide +kernel))
set_option maxRecDepth 20000 in
theorem gL_carryOut_X6_carryOut : GoodIn wsL_carryOut (wsV RL 44 RX6 yX6_carryOut wsX6_carryOut) := goodIn_app (goodIn_of _ (by decide +kernel)) ggL_carryOut_X6_carryOut
theorem dL_carryOut_0 : decode cL_carryOut 0 = .ok (.aload_n 0, 1) := by decide +kernel
theorem dL_carryOut_1 : decode cL_carryOut 1 = .ok (.invokevirtual 44, 3) := by decide +kernel
theorem dL_carryOut_4 : decode cL_carryOut 4 = .ok (.ireturn, 1) := by decide +kernel
theorem dL_carryOut_5 : decode cL_carryOut 5 = .ok (.astore_n 1, 1) := by decide +kernel
theorem dL_carryOut_6 : decode cL_carryOut 6 = .ok (.ldc 17, 2) := by decide +kernel
theorem dL_carryOut_8 : decode cL_carryOut 8 = .ok (.ireturn, 1) := by decide +kernel
set_option maxRecDepth 20000 in
theorem ggL_undo_X6_undo : GoodIn wsL_undo wsX6_undo := goodIn_ca (goodIn_r _ [7, 8, 9, 10, 11, 12, 13, 14, 15, 16, 17, 18, 19, 20, 21, 22, 23, 24, 25, 26, 27, 28, 29, 30, 31, 32, 33, 34, 35, 36, 37, 38, 39, 40, 41, 42, 43, 44, 45, 46, 47, 48, 49] (by decide +kernel) (by decide +kernel)) (goodIn_sub (fun _ h => List.mem_cons_of_mem _ (List.mem_append_right _ h)) (by decide +kernel))
set_option maxRecDepth 20000 in
theorem gL_undo_X6_undo : GoodIn wsL_undo (wsV RL 47 RX6 yX6_undo wsX6_undo) := goodIn_app (goodIn_of _ (by decide +kernel)) ggL_undo_X6_undo
theorem dL_undo_0 : decode cL_undo 0 = .ok (.aload_n 0, 1) := by decide +kernel
theorem dL_undo_1 : decode cL_undo 1 = .ok (.invokevirtual 47, 3) := by decide +kernel
theorem dL_undo_4 : decode cL_undo 4 = .ok (.ireturn, 1) := by decide +kernel
theorem dL_undo_5 : decode cL_undo 5 = .ok (.astore_n 1, 1) := by decide +kernel
theorem dL_undo_6 : decode cL_undo 6 = .ok (.ldc 17, 2) := by decide +kernel
theorem dL_undo_8 : decode cL_undo 8 = .ok (.ireturn, 1) := by decide +kernel
set_option maxRecDepth 20000 in
theorem ggL_restore_X6_restoreSnapshot : GoodIn wsL_restore wsX6_restoreSnapshot := goodIn_ca (goodIn_r _ [7, 8, 9, 10, 11, 12, 13, 14, 15, 16, 17, 18, 19, 20, 21, 22, 23, 24, 25, 26, 27, 28, 29, 30, 31, 32, 33, 34, 35, 36, 37, 38, 39, 40, 41, 42, 43, 44, 45, 46, 47, 48, 49, 50, 51, 52, 53, 54, 55, 56] (by decide +kernel) (by decide +kernel)) (goodIn_sub (fun _ h => List.mem_cons_of_mem _ (List.mem_append_right _ h)) (by decide +kernel))
set_option maxRecDepth 20000 in
theorem gL_restore_X6_restoreSnapshot : GoodIn wsL_restore (wsV RL 50 RX6 yX6_restoreSnapshot wsX6_restoreSnapshot) := goodIn_app (goodIn_of _ (by decide +kernel)) ggL_restore_X6_restoreSnapshot
theorem dL_restore_0 : decode cL_restore 0 = .ok (.aload_n 0, 1) := by decide +kernel
theorem dL_restore_1 : decode cL_restore 1 = .ok (.invokevirtual 50, 3) := by decide +kernel
theorem dL_restore_4 : decode cL_restore 4 = .ok (.ireturn, 1) := by decide +kernel
theorem dL_restore_5 : decode cL_restore 5 = .ok (.astore_n 1, 1) := by decide +kernel
theorem dL_restore_6 : decode cL_restore 6 = .ok (.ldc 17, 2) := by decide +kernel
theorem dL_restore_8 : decode cL_restore 8 = .ok (.ireturn, 1) := by decide +kernel
set_option maxRecDepth 20000 in
theorem ggL_nimber_X6_nimberOf : GoodIn wsL_nimber wsX6_nimberOf := goodIn_ca (goodIn_r _ [7, 8, 9, 10, 6, 11, 12, 13, 14, 15, 16, 17, 18, 19, 20, 21, 22, 23, 24, 25, 26, 27, 28, 29] (by decide +kernel) (by decide +kernel)) (goodIn_sub (fun _ h => List.mem_cons_of_mem _ (List.mem_append_right _ h)) (by decide +kernel))
set_option maxRecDepth 20000 in
theorem gL_nimber_X6_nimberOf : GoodIn wsL_nimber (wsV RL 53 RX6 yX6_nimberOf wsX6_nimberOf) := goodIn_app (goodIn_of _ (by decide +kernel)) ggL_nimber_X6_nimberOf
theorem dL_nimber_0 : decode cL_nimber 0 = .ok (.aload_n 0, 1) := by decide +kernel
theorem dL_nimber_1 : decode cL_nimber 1 = .ok (.iload_n 1, 1) := by decide +kernel
theorem dL_nimber_2 : decode cL_nimber 2 = .ok (.invokevirtual 53, 3) := by decide +kernel
theorem dL_nimber_5 : decode cL_nimber 5 = .ok (.ireturn, 1) := by decide +kernel
theorem dL_nimber_6 : decode cL_nimber 6 = .ok (.astore_n 2, 1) := by decide +kernel
theorem dL_nimber_7 : decode cL_nimber 7 = .ok (.ldc 17, 2) := by decide +kernel
theorem dL_nimber_9 : decode cL_nimber 9 = .ok (.ireturn, 1) := by decide +kernel
set_option maxRecDepth 20000 in
theorem ggL_halves_X6_productByHalves : GoodIn wsL_halves wsX6_productByHalves := goodIn_ca (goodIn_r _ [7, 8, 9, 10, 6, 11, 12, 13, 14, 15, 16, 17] (by decide +kernel) (by decide +kernel)) (goodIn_sub (fun _ h => List.mem_cons_of_mem _ (List.mem_append_right _ h)) (by decide +kernel))
set_option maxRecDepth 20000 in
theorem gL_halves_X6_productByHalves : GoodIn wsL_halves (wsV RL 56 RX6 yX6_productByHalves wsX6_productByHalves) := goodIn_app (goodIn_of _ (by decide +kernel)) ggL_halves_X6_productByHalves
theorem dL_halves_0 : decode cL_halves 0 = .ok (.aload_n 0, 1) := by decide +kernel
theorem dL_halves_1 : decode cL_halves 1 = .ok (.iload_n 1, 1) := by decide +kernel
theorem dL_halves_2 : decode cL_halves 2 = .ok (.iload_n 2, 1) := by decide +kernel
theorem dL_halves_3 : decode cL_halves 3 = .ok (.invokevirtual 56, 3) := by decide +kernel
theorem dL_halves_6 : decode cL_halves 6 = .ok (.ireturn, 1) := by decide +kernel
theorem dL_halves_7 : decode cL_halves 7 = .ok (.astore_n 3, 1) := by decide +kernel
theorem dL_halves_8 : decode cL_halves 8 = .ok (.ldc 17, 2) := by decide +kernel
theorem dL_halves_10 : decode cL_halves 10 = .ok (.ireturn, 1) := by decide +kernel
set_option maxRecDepth 20000 in
theorem ggL_bits_X6_productByBits : GoodIn wsL_bits wsX6_productByBits := goodIn_ca (goodIn_r _ [7, 8, 9, 10, 11, 6, 12, 13, 14, 15, 16, 17, 18, 19, 20, 21, 22, 23, 24, 25, 26, 27, 28, 29] (by decide +kernel) (by decide +kernel)) (goodIn_sub (fun _ h => List.mem_cons_of_mem _ (List.mem_append_right _ h)) (by decide +kernel))
set_option maxRecDepth 20000 in
theorem gL_bits_X6_productByBits : GoodIn wsL_bits (wsV RL 59 RX6 yX6_productByBits wsX6_productByBits) := goodIn_app (goodIn_of _ (by decide +kernel)) ggL_bits_X6_productByBits
theorem dL_bits_0 : decode cL_bits 0 = .ok (.aload_n 0, 1) := by decide +kernel
theorem dL_bits_1 : decode cL_bits 1 = .ok (.iload_n 1, 1) := by decide +kernel
theorem dL_bits_2 : decode cL_bits 2 = .ok (.iload_n 2, 1) := by decide +kernel
theorem dL_bits_3 : decode cL_bits 3 = .ok (.invokevirtual 59, 3) := by decide +kernel
theorem dL_bits_6 : decode cL_bits 6 = .ok (.ireturn, 1) := by decide +kernel
theorem dL_bits_7 : decode cL_bits 7 = .ok (.astore_n 3, 1) := by decide +kernel
theorem dL_bits_8 : decode cL_bits 8 = .ok (.ldc 17, 2) := by decide +kernel
theorem dL_bits_10 : decode cL_bits 10 = .ok (.ireturn, 1) := by decide +kernel
set_option maxRecDepth 20000 in
theorem ggL_quotient_X6_quotient : GoodIn wsL_quotient wsX6_quotient := goodIn_ca (goodIn_r _ [7, 8, 9, 10, 11, 6, 12, 13, 14, 15, 16, 17, 18, 19, 20, 21, 22, 23, 24, 25, 26, 27, 28, 29, 30, 31, 32, 33, 34, 35, 36, 37] (by decide +kernel) (by decide +kernel)) (goodIn_sub (fun _ h => List.mem_cons_of_mem _ (List.mem_append_right _ h)) (by decide +kernel))
set_option maxRecDepth 20000 in
theorem gL_quotient_X6_quotient : GoodIn wsL_quotient (wsV RL 65 RX6 yX6_quotient wsX6_quotient) := goodIn_app (goodIn_of _ (by decide +kernel)) ggL_quotient_X6_quotient
theorem dL_quotient_0 : decode cL_quotient 0 = .ok (.aload_n 0, 1) := by decide +kernel
theorem dL_quotient_1 : decode cL_quotient 1 = .ok (.iload_n 1, 1) := by decide +kernel
theorem dL_quotient_2 : decode cL_quotient 2 = .ok (.iload_n 2, 1) := by decide +kernel
theorem dL_quotient_3 : decode cL_quotient 3 = .ok (.invokevirtual 65, 3) := by decide +kernel
theorem dL_quotient_6 : decode cL_quotient 6 = .ok (.ireturn, 1) := by decide +kernel
theorem dL_quotient_7 : decode cL_quotient 7 = .ok (.astore_n 3, 1) := by decide +kernel
theorem dL_quotient_8 : decode cL_quotient 8 = .ok (.ldc 17, 2) := by decide +kernel
theorem dL_quotient_10 : decode cL_quotient 10 = .ok (.ireturn, 1) := by decide +kernel
set_option maxRecDepth 20000 in
theorem ggL_power_X6_power : GoodIn wsL_power wsX6_power := goodIn_ca (goodIn_r _ [7, 8, 9, 10, 11, 12, 6, 13, 14, 15, 16, 17, 18, 19, 20, 21, 22, 23, 24, 25, 26, 27, 28, 29, 30, 31, 32, 33, 34, 35, 36, 37, 38] (by decide +kernel) (by decide +kernel)) (goodIn_sub (fun _ h => List.mem_cons_of_mem _ (List.mem_append_right _ h)) (by decide +kernel))
set_option maxRecDepth 20000 in
theorem gL_power_X6_power : GoodIn wsL_power (wsV RL 68 RX6 yX6_power wsX6_power) := goodIn_app (goodIn_of _ (by decide +kernel)) ggL_power_X6_power
theorem dL_power_0 : decode cL_power 0 = .ok (.aload_n 0, 1) := by decide +kernel
theorem dL_power_1 : decode cL_power 1 = .ok (.iload_n 1, 1) := by decide +kernel
theorem dL_power_2 : decode cL_power 2 = .ok (.iload_n 2, 1) := by decide +kernel
theorem dL_power_3 : decode cL_power 3 = .ok (.invokevirtual 68, 3) := by decide +kernel
theorem dL_power_6 : decode cL_power 6 = .ok (.ireturn, 1) := by decide +kernel
theorem dL_power_7 : decode cL_power 7 = .ok (.astore_n 3, 1) := by decide +kernel
theorem dL_power_8 : decode cL_power 8 = .ok (.ldc 17, 2) := by decide +kernel
theorem dL_power_10 : decode cL_power 10 = .ok (.ireturn, 1) := by decide +kernel
set_option maxRecDepth 20000 in
theorem ggL_root_X6_rootOf : GoodIn wsL_root wsX6_rootOf := goodIn_ca (goodIn_r _ [7, 8, 9, 10, 11, 6, 12, 13, 14, 15, 16, 17, 18, 19, 20, 21, 22, 23, 24, 25, 26, 27, 28, 29, 30, 31, 32, 33] (by decide +kernel) (by decide +kernel)) (goodIn_sub (fun _ h => List.mem_cons_of_mem _ (List.mem_append_right _ h)) (by decide +kernel))
set_option maxRecDepth 20000 in
theorem gL_root_X6_rootOf : GoodIn wsL_root (wsV RL 71 RX6 yX6_rootOf wsX6_rootOf) := goodIn_app (goodIn_of _ (by decide +kernel)) ggL_root_X6_rootOf
theorem dL_root_0 : decode cL_root 0 = .ok (.aload_n 0, 1) := by decide +kernel
theorem dL_root_1 : decode cL_root 1 = .ok (.iload_n 1, 1) := by decide +kernel
theorem dL_root_2 : decode cL_root 2 = .ok (.invokevirtual 71, 3) := by decide +kernel
theorem dL_root_5 : decode cL_root 5 = .ok (.ireturn, 1) := by decide +kernel
theorem dL_root_6 : decode cL_root 6 = .ok (.astore_n 2, 1) := by decide +kernel
theorem dL_root_7 : decode cL_root 7 = .ok (.ldc 17, 2) := by decide +kernel
theorem dL_root_9 : decode cL_root 9 = .ok (.ireturn, 1) := by decide +kernel
set_option maxRecDepth 20000 in
theorem ggL_field_X6_fieldOf : GoodIn wsL_field wsX6_fieldOf := goodIn_ca (goodIn_r _ [7, 8, 9, 10, 6, 11, 12, 13] (by decide +kernel) (by decide +kernel)) (goodIn_sub (fun _ h => List.mem_cons_of_mem _ (List.mem_append_right _ h)) (by decide +kernel))
set_option maxRecDepth 20000 in
theorem gL_field_X6_fieldOf : GoodIn wsL_field (wsV RL 74 RX6 yX6_fieldOf wsX6_fieldOf) := goodIn_app (goodIn_of _ (by decide +kernel)) ggL_field_X6_fieldOf
theorem dL_field_0 : decode cL_field 0 = .ok (.aload_n 0, 1) := by decide +kernel
theorem dL_field_1 : decode cL_field 1 = .ok (.iload_n 1, 1) := by decide +kernel
theorem dL_field_2 : decode cL_field 2 = .ok (.invokevirtual 74, 3) := by decide +kernel
theorem dL_field_5 : decode cL_field 5 = .ok (.ireturn, 1) := by decide +kernel
theorem dL_field_6 : decode cL_field 6 = .ok (.astore_n 2, 1) := by decide +kernel
theorem dL_field_7 : decode cL_field 7 = .ok (.ldc 17, 2) := by decide +kernel
theorem dL_field_9 : decode cL_field 9 = .ok (.ireturn, 1) := by decide +kernel
set_option maxRecDepth 20000 in
theorem ggL_order_X6_orderByDivisors : GoodIn wsL_order wsX6_orderByDivisors := goodIn_ca (goodIn_r _ [7, 8, 9, 10, 11, 6, 12, 13, 14, 15, 16, 17, 18, 19, 20, 21, 22, 23, 24, 25, 26, 27, 28, 29, 30, 31, 32, 33, 34, 35, 36, 37, 38, 39, 40, 41, 42, 43] (by decide +kernel) (by decide +kernel)) (goodIn_sub (fun _ h => List.mem_cons_of_mem _ (List.mem_append_right _ h)) (by decide +kernel))
set_option maxRecDepth 20000 in
theorem gL_order_X6_orderByDivisors : GoodIn wsL_order (wsV RL 80 RX6 yX6_orderByDivisors wsX6_orderByDivisors) := goodIn_app (goodIn_of _ (by decide +kernel)) ggL_order_X6_orderByDivisors
theorem dL_order_0 : decode cL_order 0 = .ok (.aload_n 0, 1) := by decide +kernel
theorem dL_order_1 : decode cL_order 1 = .ok (.iload_n 1, 1) := by decide +kernel
theorem dL_order_2 : decode cL_order 2 = .ok (.invokevirtual 80, 3) := by decide +kernel
theorem dL_order_5 : decode cL_order 5 = .ok (.ireturn, 1) := by decide +kernel
theorem dL_order_6 : decode cL_order 6 = .ok (.astore_n 2, 1) := by decide +kernel
theorem dL_order_7 : decode cL_order 7 = .ok (.ldc 17, 2) := by decide +kernel
theorem dL_order_9 : decode cL_order 9 = .ok (.ireturn, 1) := by decide +kernel
set_option maxRecDepth 20000 in
theorem ggL_trace_X6_traceOf : GoodIn wsL_trace wsX6_traceOf := goodIn_ca (goodIn_r _ [7, 8, 9, 10, 11, 6, 12, 13, 14, 15, 16, 17, 18, 19, 20, 21, 22, 23, 24, 25, 26, 27, 28, 29, 30, 31, 32, 33] (by decide +kernel) (by decide +kernel)) (goodIn_sub (fun _ h => List.mem_cons_of_mem _ (List.mem_append_right _ h)) (by decide +kernel))
set_option maxRecDepth 20000 in
theorem gL_trace_X6_traceOf : GoodIn wsL_trace (wsV RL 83 RX6 yX6_traceOf wsX6_traceOf) := goodIn_app (goodIn_of _ (by decide +kernel)) ggL_trace_X6_traceOf
theorem dL_trace_0 : decode cL_trace 0 = .ok (.aload_n 0, 1) := by decide +kernel
theorem dL_trace_1 : decode cL_trace 1 = .ok (.iload_n 1, 1) := by decide +kernel
theorem dL_trace_2 : decode cL_trace 2 = .ok (.invokevirtual 83, 3) := by decide +kernel
theorem dL_trace_5 : decode cL_trace 5 = .ok (.ireturn, 1) := by decide +kernel
theorem dL_trace_6 : decode cL_trace 6 = .ok (.astore_n 2, 1) := by decide +kernel
theorem dL_trace_7 : decode cL_trace 7 = .ok (.ldc 17, 2) := by decide +kernel
theorem dL_trace_9 : decode cL_trace 9 = .ok (.ireturn, 1) := by decide +kernel
set_option maxRecDepth 20000 in
theorem ggL_solve_X6_solve : GoodIn wsL_solve wsX6_solve := goodIn_ca (goodIn_r _ [7, 8, 9, 10, 11, 6, 12, 13, 14, 15, 16, 17, 18, 19, 20, 21, 22, 23, 24, 25, 26, 27, 28, 29, 30, 31, 32, 33] (by decide +kernel) (by decide +kernel)) (goodIn_sub (fun _ h => List.mem_cons_of_mem _ (List.mem_append_right _ h)) (by decide +kernel))
set_option maxRecDepth 20000 in
theorem gL_solve_X6_solve : GoodIn wsL_solve (wsV RL 86 RX6 yX6_solve wsX6_solve) := goodIn_app (goodIn_of _ (by decide +kernel)) ggL_solve_X6_solve
theorem dL_solve_0 : decode cL_solve 0 = .ok (.aload_n 0, 1) := by decide +kernel
theorem dL_solve_1 : decode cL_solve 1 = .ok (.iload_n 1, 1) := by decide +kernel
theorem dL_solve_2 : decode cL_solve 2 = .ok (.invokevirtual 86, 3) := by decide +kernel
theorem dL_solve_5 : decode cL_solve 5 = .ok (.ireturn, 1) := by decide +kernel
theorem dL_solve_6 : decode cL_solve 6 = .ok (.astore_n 2, 1) := by decide +kernel
theorem dL_solve_7 : decode cL_solve 7 = .ok (.ldc 17, 2) := by decide +kernel
theorem dL_solve_9 : decode cL_solve 9 = .ok (.ireturn, 1) := by decide +kernel
set_option maxRecDepth 20000 in
theorem ggL_square_L_halves : GoodIn wsL_square wsL_halves := goodIn_ca (goodIn_r _ [4, 5, 6, 7, 8, 9, 10, 11, 12, 13, 14, 15, 16, 17, 18, 19, 20, 21] (by decide +kernel) (by decide +kernel)) (goodIn_sub (fun _ h => List.mem_cons_of_mem _ (List.mem_append_right _ h)) (by decide +kernel))
set_option maxRecDepth 20000 in
theorem gL_square_L_halves : GoodIn wsL_square (va_wsS RL 89 yL_halves wsL_halves) := goodIn_app (goodIn_of _ (by decide +kernel)) ggL_square_L_halves
theorem dL_square_0 : decode cL_square 0 = .ok (.aload_n 0, 1) := by decide +kernel
theorem dL_square_1 : decode cL_square 1 = .ok (.iload_n 1, 1) := by decide +kernel
theorem dL_square_2 : decode cL_square 2 = .ok (.iload_n 1, 1) := by decide +kernel
theorem dL_square_3 : decode cL_square 3 = .ok (.invokestatic 89, 3) := by decide +kernel
theorem dL_square_6 : decode cL_square 6 = .ok (.ireturn, 1) := by decide +kernel
set_option maxRecDepth 20000 in
theorem ggL_isBack_L_square : GoodIn wsL_isBack wsL_square := goodIn_ca (goodIn_r _ [5, 6, 7, 4, 8, 9, 1, 10, 11, 12, 13, 14, 15, 16, 17, 18, 19, 20, 21, 22, 23, 24] (by decide +kernel) (by decide +kernel)) (goodIn_sub (fun _ h => List.mem_cons_of_mem _ (List.mem_append_right _ h)) (by decide +kernel))
set_option maxRecDepth 20000 in
theorem gL_isBack_L_square : GoodIn wsL_isBack (va_wsS RL 115 yL_square wsL_square) := goodIn_app (goodIn_of _ (by decide +kernel)) ggL_isBack_L_square
theorem dL_isBack_0 : decode cL_isBack 0 = .ok (.iload_n 2, 1) := by decide +kernel
theorem dL_isBack_1 : decode cL_isBack 1 = .ok (.ldc 17, 2) := by decide +kernel
theorem dL_isBack_3 : decode cL_isBack 3 = .ok (.if_icmp .ne 17, 3) := by decide +kernel
theorem dL_isBack_6 : decode cL_isBack 6 = .ok (.iload_n 3, 1) := by decide +kernel
theorem dL_isBack_7 : decode cL_isBack 7 = .ok (.ldc 17, 2) := by decide +kernel
theorem dL_isBack_9 : decode cL_isBack 9 = .ok (.if_icmp .ne 7, 3) := by decide +kernel
theorem dL_isBack_12 : decode cL_isBack 12 = .ok (.iconst 1, 1) := by decide +kernel
theorem dL_isBack_13 : decode cL_isBack 13 = .ok (.goto 21, 3) := by decide +kernel
theorem dL_isBack_16 : decode cL_isBack 16 = .ok (.iconst 0, 1) := by decide +kernel
theorem dL_isBack_17 : decode cL_isBack 17 = .ok (.goto 17, 3) := by decide +kernel
theorem dL_isBack_20 : decode cL_isBack 20 = .ok (.aload_n 0, 1) := by decide +kernel
theorem dL_isBack_21 : decode cL_isBack 21 = .ok (.iload_n 2, 1) := by decide +kernel
theorem dL_isBack_22 : decode cL_isBack 22 = .ok (.invokestatic 115, 3) := by decide +kernel
theorem dL_isBack_25 : decode cL_isBack 25 = .ok (.iload_n 3, 1) := by decide +kernel
theorem dL_isBack_26 : decode cL_isBack 26 = .ok (.if_icmp .ne 7, 3) := by decide +kernel
theorem dL_isBack_29 : decode cL_isBack 29 = .ok (.iconst 1, 1) := by decide +kernel
theorem dL_isBack_30 : decode cL_isBack 30 = .ok (.goto 4, 3) := by decide +kernel
theorem dL_isBack_33 : decode cL_isBack 33 = .ok (.iconst 0, 1) := by decide +kernel
theorem dL_isBack_34 : decode cL_isBack 34 = .ok (.ireturn, 1) := by decide +kernel
