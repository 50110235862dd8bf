set_option maxRecDepth 20000 in
theorem ggL_written_X6_clearProgram : GoodIn wsL_written wsX6_clearProgram := goodIn_r _ [5, 6, 7, 8, 9, 10, 11, 12, 190, 191, 192, 193, 194, 195, 196, 197, 198, 199, 200, 201, 202] (by decide +kernel) (by decide +kernel)
set_option maxRecDepth 20000 in
theorem gL_written_X6_clearProgram : GoodIn wsL_written (wsV RL 95 RX6 yX6_clearProgram wsX6_clearProgram) := goodIn_app (goodIn_of _ (by decide +kernel)) ggL_written_X6_clearProgram
set_option maxRecDepth 20000 in
theorem ggL_written_L_type : GoodIn wsL_written wsL_type := goodIn_ca (goodIn_r _ [16, 17, 18, 19, 20, 21, 4, 22, 23, 24, 6, 25, 26, 27, 10, 28, 12, 29, 30, 31, 32, 33, 190, 191, 192, 193, 194, 195, 196, 197, 198, 199, 200, 201, 202] (by decide +kernel) (by decide +kernel)) (goodIn_sub (fun _ h => List.mem_cons_of_mem _ (List.mem_append_right _ h)) (by decide +kernel))
set_option maxRecDepth 20000 in
theorem gL_written_L_type : GoodIn wsL_written (va_wsS RL 98 yL_type wsL_type) := goodIn_app (goodIn_of _ (by decide +kernel)) ggL_written_L_type
set_option maxRecDepth 20000 in
theorem ggL_written_L_carryOut : GoodIn wsL_written wsL_carryOut := goodIn_ca (goodIn_r _ [36, 17, 18, 37, 38, 39, 4, 40, 23, 24, 41, 42, 43, 6, 44, 45, 46, 47, 48, 49, 50, 10, 51, 52, 53, 54, 12, 55, 56, 57, 58, 59, 60, 61, 62, 63, 64, 65, 66, 33, 67, 68, 69, 70, 71, 72, 73, 74, 75, 76, 77, 78, 79, 80, 81, 82, 83, 84, 85, 86, 87, 88, 89, 90, 91, 92, 93, 94, 95, 96, 97, 98, 99, 100, 101, 102, 103, 104, 105, 106, 107, 108, 109, 110, 111, 112, 113, 114, 115, 116, 117, 118, 119, 120, 121, 122, 123, 124, 125, 126, 127, 128, 129, 130, 131, 132, 133, 134, 135, 136, 137, 138, 139, 140, 141, 142, 143, 144, 145, 146, 147, 148, 149, 150, 151, 152, 153, 154, 155, 156, 157, 158, 159, 160, 161, 162, 163, 164, 165, 166, 167, 168, 169, 170, 171, 172, 173, 174, 175, 176, 177, 178, 179, 180, 181, 182, 183, 184, 185, 186, 187, 188, 189, 190, 191, 192, 193, 194, 195, 196, 197, 198, 199, 200, 201, 202, 203, 204, 205, 206, 207, 208, 209, 210, 211] (by decide +kernel) (by decide +kernel)) (goodIn_sub (fun _ h => List.mem_cons_of_mem _ (List.mem_append_right _ h)) (by decide +kernel))
set_option maxRecDepth 20000 in
theorem gL_written_L_carryOut : GoodIn wsL_written (va_wsS RL 101 yL_carryOut wsL_carryOut) := goodIn_app (goodIn_of _ (by decide +kernel)) ggL_written_L_carryOut
theorem dL_written_0 : decode cL_written 0 = .ok (.sipush 10000, 3) := by decide +kernel
theorem dL_written_3 : decode cL_written 3 = .ok (.istore 4, 2) := by decide +kernel
theorem dL_written_5 : decode cL_written 5 = .ok (.aload_n 0, 1) := by decide +kernel
theorem dL_written_6 : decode cL_written 6 = .ok (.invokevirtual 95, 3) := by decide +kernel
theorem dL_written_9 : decode cL_written 9 = .ok (.ifCond .lt 54, 3) := by decide +kernel
theorem dL_written_12 : decode cL_written 12 = .ok (.aload_n 0, 1) := by decide +kernel
theorem dL_written_13 : decode cL_written 13 = .ok (.bipush 65, 2) := by decide +kernel
theorem dL_written_15 : decode cL_written 15 = .ok (.iload_n 1, 1) := by decide +kernel
theorem dL_written_16 : decode cL_written 16 = .ok (.iadd, 1) := by decide +kernel
theorem dL_written_17 : decode cL_written 17 = .ok (.invokestatic 98, 3) := by decide +kernel
theorem dL_written_20 : decode cL_written 20 = .ok (.iconst 1, 1) := by decide +kernel
theorem dL_written_21 : decode cL_written 21 = .ok (.if_icmp .ne 42, 3) := by decide +kernel
theorem dL_written_24 : decode cL_written 24 = .ok (.aload_n 0, 1) := by decide +kernel
theorem dL_written_25 : decode cL_written 25 = .ok (.bipush 61, 2) := by decide +kernel
theorem dL_written_27 : decode cL_written 27 = .ok (.invokestatic 98, 3) := by decide +kernel
theorem dL_written_30 : decode cL_written 30 = .ok (.iconst 2, 1) := by decide +kernel
theorem dL_written_31 : decode cL_written 31 = .ok (.if_icmp .ne 32, 3) := by decide +kernel
theorem dL_written_34 : decode cL_written 34 = .ok (.iload_n 2, 1) := by decide +kernel
theorem dL_written_35 : decode cL_written 35 = .ok (.ifCond .eq 24, 3) := by decide +kernel
theorem dL_written_38 : decode cL_written 38 = .ok (.aload_n 0, 1) := by decide +kernel
theorem dL_written_39 : decode cL_written 39 = .ok (.bipush 65, 2) := by decide +kernel
theorem dL_written_41 : decode cL_written 41 = .ok (.iload_n 1, 1) := by decide +kernel
theorem dL_written_42 : decode cL_written 42 = .ok (.iadd, 1) := by decide +kernel
theorem dL_written_43 : decode cL_written 43 = .ok (.invokestatic 98, 3) := by decide +kernel
theorem dL_written_46 : decode cL_written 46 = .ok (.iconst 3, 1) := by decide +kernel
theorem dL_written_47 : decode cL_written 47 = .ok (.if_icmp .ne 16, 3) := by decide +kernel
theorem dL_written_50 : decode cL_written 50 = .ok (.aload_n 0, 1) := by decide +kernel
theorem dL_written_51 : decode cL_written 51 = .ok (.iload_n 2, 1) := by decide +kernel
theorem dL_written_52 : decode cL_written 52 = .ok (.invokestatic 98, 3) := by decide +kernel
theorem dL_written_55 : decode cL_written 55 = .ok (.iconst 4, 1) := by decide +kernel
theorem dL_written_56 : decode cL_written 56 = .ok (.if_icmp .ne 7, 3) := by decide +kernel
theorem dL_written_59 : decode cL_written 59 = .ok (.iconst 1, 1) := by decide +kernel
theorem dL_written_60 : decode cL_written 60 = .ok (.goto 4, 3) := by decide +kernel
theorem dL_written_63 : decode cL_written 63 = .ok (.iconst 0, 1) := by decide +kernel
theorem dL_written_64 : decode cL_written 64 = .ok (.istore 5, 2) := by decide +kernel
theorem dL_written_66 : decode cL_written 66 = .ok (.iload 4, 2) := by decide +kernel
theorem dL_written_68 : decode cL_written 68 = .ok (.iconst 1, 1) := by decide +kernel
theorem dL_written_69 : decode cL_written 69 = .ok (.if_icmp .le 19, 3) := by decide +kernel
theorem dL_written_72 : decode cL_written 72 = .ok (.iload_n 3, 1) := by decide +kernel
theorem dL_written_73 : decode cL_written 73 = .ok (.iload 4, 2) := by decide +kernel
theorem dL_written_75 : decode cL_written 75 = .ok (.if_icmp .ge 13, 3) := by decide +kernel
theorem dL_written_78 : decode cL_written 78 = .ok (.iload 4, 2) := by decide +kernel
theorem dL_written_80 : decode cL_written 80 = .ok (.bipush 10, 2) := by decide +kernel
theorem dL_written_82 : decode cL_written 82 = .ok (.idiv, 1) := by decide +kernel
theorem dL_written_83 : decode cL_written 83 = .ok (.istore 4, 2) := by decide +kernel
theorem dL_written_85 : decode cL_written 85 = .ok (.goto (-19), 3) := by decide +kernel
theorem dL_written_88 : decode cL_written 88 = .ok (.iload 4, 2) := by decide +kernel
theorem dL_written_90 : decode cL_written 90 = .ok (.ifCond .le 44, 3) := by decide +kernel
theorem dL_written_93 : decode cL_written 93 = .ok (.iload 5, 2) := by decide +kernel
theorem dL_written_95 : decode cL_written 95 = .ok (.ifCond .eq 26, 3) := by decide +kernel
theorem dL_written_98 : decode cL_written 98 = .ok (.aload_n 0, 1) := by decide +kernel
theorem dL_written_99 : decode cL_written 99 = .ok (.bipush 48, 2) := by decide +kernel
theorem dL_written_101 : decode cL_written 101 = .ok (.iload_n 3, 1) := by decide +kernel
theorem dL_written_102 : decode cL_written 102 = .ok (.iload 4, 2) := by decide +kernel
theorem dL_written_104 : decode cL_written 104 = .ok (.idiv, 1) := by decide +kernel
theorem dL_written_105 : decode cL_written 105 = .ok (.bipush 10, 2) := by decide +kernel
theorem dL_written_107 : decode cL_written 107 = .ok (.irem, 1) := by decide +kernel
theorem dL_written_108 : decode cL_written 108 = .ok (.iadd, 1) := by decide +kernel
theorem dL_written_109 : decode cL_written 109 = .ok (.invokestatic 98, 3) := by decide +kernel
theorem dL_written_112 : decode cL_written 112 = .ok (.bipush 10, 2) := by decide +kernel
theorem dL_written_114 : decode cL_written 114 = .ok (.if_icmp .ge 7, 3) := by decide +kernel
theorem dL_written_117 : decode cL_written 117 = .ok (.iconst 1, 1) := by decide +kernel
theorem dL_written_118 : decode cL_written 118 = .ok (.goto 4, 3) := by decide +kernel
theorem dL_written_121 : decode cL_written 121 = .ok (.iconst 0, 1) := by decide +kernel
theorem dL_written_122 : decode cL_written 122 = .ok (.istore 5, 2) := by decide +kernel
theorem dL_written_124 : decode cL_written 124 = .ok (.iload 4, 2) := by decide +kernel
theorem dL_written_126 : decode cL_written 126 = .ok (.bipush 10, 2) := by decide +kernel
theorem dL_written_128 : decode cL_written 128 = .ok (.idiv, 1) := by decide +kernel
theorem dL_written_129 : decode cL_written 129 = .ok (.istore 4, 2) := by decide +kernel
theorem dL_written_131 : decode cL_written 131 = .ok (.goto (-43), 3) := by decide +kernel
theorem dL_written_134 : decode cL_written 134 = .ok (.iload 5, 2) := by decide +kernel
theorem dL_written_136 : decode cL_written 136 = .ok (.ifCond .eq 10, 3) := by decide +kernel
theorem dL_written_139 : decode cL_written 139 = .ok (.aload_n 0, 1) := by decide +kernel
theorem dL_written_140 : decode cL_written 140 = .ok (.invokestatic 101, 3) := by decide +kernel
theorem dL_written_143 : decode cL_written 143 = .ok (.goto 5, 3) := by decide +kernel
theorem dL_written_146 : decode cL_written 146 = .ok (.bipush (-99), 2) := by decide +kernel
theorem dL_written_148 : decode cL_written 148 = .ok (.ireturn, 1) := by decide +kernel
set_option maxRecDepth 20000 in
theorem ggL_areAlike_X6_products : GoodIn wsL_areAlike wsX6_products := goodIn_r _ [5, 6, 7, 8, 9, 10, 11, 12, 144, 145, 146, 147, 148, 149, 150, 151, 152, 153] (by decide +kernel) (by decide +kernel)
set_option maxRecDepth 20000 in
theorem gL_areAlike_X6_products : GoodIn wsL_areAlike (wsV RL 122 RX6 yX6_products wsX6_products) := goodIn_app (goodIn_of _ (by decide +kernel)) ggL_areAlike_X6_products
set_option maxRecDepth 20000 in
theorem ggL_areAlike_X6_sumOfAll : GoodIn wsL_areAlike wsX6_sumOfAll := goodIn_r _ [16, 6, 17, 18, 19, 10, 20, 21, 144, 145, 146, 147, 148, 149, 150, 151, 152, 153] (by decide +kernel) (by decide +kernel)
set_option maxRecDepth 20000 in
theorem gL_areAlike_X6_sumOfAll : GoodIn wsL_areAlike (wsV RL 110 RX6 yX6_sumOfAll wsX6_sumOfAll) := goodIn_app (goodIn_of _ (by decide +kernel)) ggL_areAlike_X6_sumOfAll
set_option maxRecDepth 20000 in
theorem ggL_areAlike_L_square : GoodIn wsL_areAlike wsL_square := goodIn_ca (goodIn_r _ [25, 26, 27, 24, 28, 29, 30, 31, 32, 33, 4, 34, 35, 36, 37, 38, 39, 40, 41, 42, 43, 44] (by decide +kernel) (by decide +kernel)) (goodIn_sub (fun _ h => List.mem_cons_of_mem _ (List.mem_append_left _ (List.mem_append_right _ h))) (by decide +kernel))
set_option maxRecDepth 20000 in
theorem gL_areAlike_L_square : GoodIn wsL_areAlike (va_wsS RL 115 yL_square wsL_square) := goodIn_app (goodIn_of _ (by decide +kernel)) ggL_areAlike_L_square
set_option maxRecDepth 20000 in
theorem ggL_areAlike_X6_recordedStates : GoodIn wsL_areAlike wsX6_recordedStates := goodIn_r _ [48, 49, 50, 51, 52, 53, 54, 55, 144, 145, 146, 147, 148, 149, 150, 151, 154, 155] (by decide +kernel) (by decide +kernel)
set_option maxRecDepth 20000 in
theorem gL_areAlike_X6_recordedStates : GoodIn wsL_areAlike (wsV RL 153 RX6 yX6_recordedStates wsX6_recordedStates) := goodIn_app (goodIn_of _ (by decide +kernel)) ggL_areAlike_X6_recordedStates
set_option maxRecDepth 20000 in
theorem ggL_areAlike_X6_registerToLessen : GoodIn wsL_areAlike wsX6_registerToLessen := goodIn_r _ [59, 6, 17, 18, 19, 10, 20, 21, 60, 61, 62, 63, 144, 145, 146, 147, 148, 149, 150, 151, 152, 153] (by decide +kernel) (by decide +kernel)
set_option maxRecDepth 20000 in
theorem gL_areAlike_X6_registerToLessen : GoodIn wsL_areAlike (wsV RL 156 RX6 yX6_registerToLessen wsX6_registerToLessen) := goodIn_app (goodIn_of _ (by decide +kernel)) ggL_areAlike_X6_registerToLessen
set_option maxRecDepth 20000 in
theorem ggL_areAlike_L_nimber : GoodIn wsL_areAlike wsL_nimber := goodIn_ca (goodIn_r _ [66, 67, 30, 68, 69, 70, 4, 71, 6, 72, 73, 74, 75, 76, 60, 61, 62, 10, 63, 21, 144, 145, 146, 147, 148, 149, 150, 151, 152, 153] (by decide +kernel) (by decide +kernel)) (goodIn_sub (fun _ h => List.mem_cons_of_mem _ (List.mem_append_right _ h)) (by decide +kernel))
set_option maxRecDepth 20000 in
theorem gL_areAlike_L_nimber : GoodIn wsL_areAlike (va_wsS RL 107 yL_nimber wsL_nimber) := goodIn_app (goodIn_of _ (by decide +kernel)) ggL_areAlike_L_nimber
set_option maxRecDepth 20000 in
theorem ggL_areAlike_L_solve : GoodIn wsL_areAlike wsL_solve := goodIn_ca (goodIn_r _ [79, 29, 30, 80, 81, 82, 4, 83, 35, 84, 36, 37, 38, 39, 40, 85, 86, 87, 42, 88, 89, 90, 91, 92, 93, 144, 145, 146, 147, 148, 149, 150, 151, 156] (by decide +kernel) (by decide +kernel)) (goodIn_sub (fun _ h => List.mem_cons_of_mem _ (List.mem_append_left _ (List.mem_append_right _ h))) (by decide +kernel))
set_option maxRecDepth 20000 in
theorem gL_areAlike_L_solve : GoodIn wsL_areAlike (va_wsS RL 159 yL_solve wsL_solve) := goodIn_app (goodIn_of _ (by decide +kernel)) ggL_areAlike_L_solve
set_option maxRecDepth 20000 in
theorem ggL_areAlike_L_root : GoodIn wsL_areAlike wsL_root := goodIn_ca (goodIn_r _ [96, 29, 30, 97, 98, 99, 4, 100, 35, 84, 36, 37, 38, 39, 40, 101, 102, 103, 42, 104, 89, 90, 91, 92, 93, 144, 145, 146, 147, 148, 149, 150, 151, 156] (by decide +kernel) (by decide +kernel)) (goodIn_sub (fun _ h => List.mem_cons_of_mem _ (List.mem_append_left _ (List.mem_append_right _ h))) (by decide +kernel))
set_option maxRecDepth 20000 in
theorem gL_areAlike_L_root : GoodIn wsL_areAlike (va_wsS RL 161 yL_root wsL_root) := goodIn_app (goodIn_of _ (by decide +kernel)) ggL_areAlike_L_root
set_option maxRecDepth 20000 in
theorem ggL_areAlike_L_field : GoodIn wsL_areAlike wsL_field := goodIn_ca (goodIn_r _ [107, 29, 30, 108, 109, 110, 4, 111, 35, 36, 37, 38, 39, 40] (by decide +kernel) (by decide +kernel)) (goodIn_sub (fun _ h => List.mem_cons_of_mem _ (List.mem_append_left _ (List.mem_append_right _ h))) (by decide +kernel))
set_option maxRecDepth 20000 in
theorem gL_areAlike_L_field : GoodIn wsL_areAlike (va_wsS RL 164 yL_field wsL_field) := goodIn_app (goodIn_of _ (by decide +kernel)) ggL_areAlike_L_field
set_option maxRecDepth 20000 in
theorem ggL_areAlike_L_order : GoodIn wsL_areAlike wsL_order := goodIn_ca (goodIn_r _ [114, 29, 30, 115, 116, 117, 4, 118, 35, 84, 36, 37, 38, 39, 40, 119, 120, 121, 42, 122, 123, 124, 125, 126, 127, 128, 129, 130, 131, 132, 93, 89, 90, 91, 92, 144, 145, 146, 147, 148, 149, 150, 151, 156] (by decide +kernel) (by decide +kernel)) (goodIn_sub (fun _ h => List.mem_cons_of_mem _ (List.mem_append_left _ (List.mem_append_right _ h))) (by decide +kernel))
set_option maxRecDepth 20000 in
theorem gL_areAlike_L_order : GoodIn wsL_areAlike (va_wsS RL 167 yL_order wsL_order) := goodIn_app (goodIn_of _ (by decide +kernel)) ggL_areAlike_L_order
set_option maxRecDepth 20000 in
theorem ggL_areAlike_L_trace : GoodIn wsL_areAlike wsL_trace := goodIn_ca (goodIn_r _ [135, 29, 30, 136, 137, 138, 4, 139, 35, 84, 36, 37, 38, 39, 40, 140, 141, 142, 42, 143, 89, 90, 91, 92, 93, 144, 145, 146, 147, 148, 149, 150, 151, 156] (by decide +kernel) (by decide +kernel)) (goodIn_sub (fun _ h => List.mem_cons_of_mem _ (List.mem_append_left _ (List.mem_append_right _ h))) (by decide +kernel))
set_option maxRecDepth 20000 in
theorem gL_areAlike_L_trace : GoodIn wsL_areAlike (va_wsS RL 170 yL_trace wsL_trace) := goodIn_app (goodIn_of _ (by decide +kernel)) ggL_areAlike_L_trace
theorem dL_areAlike_0 : decode cL_areAlike 0 = .ok (.aload_n 0, 1) := by decide +kernel
theorem dL_areAlike_1 : decode cL_areAlike 1 = .ok (.invokevirtual 122, 3) := by decide +kernel
theorem dL_areAlike_4 : decode cL_areAlike 4 = .ok (.aload_n 1, 1) := by decide +kernel
theorem dL_areAlike_5 : decode cL_areAlike 5 = .ok (.invokevirtual 122, 3) := by decide +kernel
theorem dL_areAlike_8 : decode cL_areAlike 8 = .ok (.if_icmp .ne 60, 3) := by decide +kernel
theorem dL_areAlike_11 : decode cL_areAlike 11 = .ok (.aload_n 0, 1) := by decide +kernel
theorem dL_areAlike_12 : decode cL_areAlike 12 = .ok (.aload_n 0, 1) := by decide +kernel
theorem dL_areAlike_13 : decode cL_areAlike 13 = .ok (.invokevirtual 110, 3) := by decide +kernel
theorem dL_areAlike_16 : decode cL_areAlike 16 = .ok (.invokestatic 115, 3) := by decide +kernel
theorem dL_areAlike_19 : decode cL_areAlike 19 = .ok (.aload_n 1, 1) := by decide +kernel
theorem dL_areAlike_20 : decode cL_areAlike 20 = .ok (.invokevirtual 110, 3) := by decide +kernel
theorem dL_areAlike_23 : decode cL_areAlike 23 = .ok (.if_icmp .ne 45, 3) := by decide +kernel
theorem dL_areAlike_26 : decode cL_areAlike 26 = .ok (.aload_n 0, 1) := by decide +kernel
theorem dL_areAlike_27 : decode cL_areAlike 27 = .ok (.invokevirtual 153, 3) := by decide +kernel
theorem dL_areAlike_30 : decode cL_areAlike 30 = .ok (.aload_n 1, 1) := by decide +kernel
theorem dL_areAlike_31 : decode cL_areAlike 31 = .ok (.invokevirtual 153, 3) := by decide +kernel
theorem dL_areAlike_34 : decode cL_areAlike 34 = .ok (.if_icmp .ne 34, 3) := by decide +kernel
theorem dL_areAlike_37 : decode cL_areAlike 37 = .ok (.aload_n 0, 1) := by decide +kernel
theorem dL_areAlike_38 : decode cL_areAlike 38 = .ok (.invokevirtual 156, 3) := by decide +kernel
theorem dL_areAlike_41 : decode cL_areAlike 41 = .ok (.ifCond .ge 7, 3) := by decide +kernel
theorem dL_areAlike_44 : decode cL_areAlike 44 = .ok (.iconst 1, 1) := by decide +kernel
theorem dL_areAlike_45 : decode cL_areAlike 45 = .ok (.goto 4, 3) := by decide +kernel
theorem dL_areAlike_48 : decode cL_areAlike 48 = .ok (.iconst 0, 1) := by decide +kernel
theorem dL_areAlike_49 : decode cL_areAlike 49 = .ok (.aload_n 1, 1) := by decide +kernel
theorem dL_areAlike_50 : decode cL_areAlike 50 = .ok (.invokevirtual 156, 3) := by decide +kernel
theorem dL_areAlike_53 : decode cL_areAlike 53 = .ok (.ifCond .ge 7, 3) := by decide +kernel
theorem dL_areAlike_56 : decode cL_areAlike 56 = .ok (.iconst 1, 1) := by decide +kernel
theorem dL_areAlike_57 : decode cL_areAlike 57 = .ok (.goto 4, 3) := by decide +kernel
theorem dL_areAlike_60 : decode cL_areAlike 60 = .ok (.iconst 0, 1) := by decide +kernel
theorem dL_areAlike_61 : decode cL_areAlike 61 = .ok (.if_icmp .ne 7, 3) := by decide +kernel
theorem dL_areAlike_64 : decode cL_areAlike 64 = .ok (.iconst 1, 1) := by decide +kernel
theorem dL_areAlike_65 : decode cL_areAlike 65 = .ok (.goto 4, 3) := by decide +kernel
theorem dL_areAlike_68 : decode cL_areAlike 68 = .ok (.iconst 0, 1) := by decide +kernel
theorem dL_areAlike_69 : decode cL_areAlike 69 = .ok (.istore_n 2, 1) := by decide +kernel
theorem dL_areAlike_70 : decode cL_areAlike 70 = .ok (.iconst 0, 1) := by decide +kernel
theorem dL_areAlike_71 : decode cL_areAlike 71 = .ok (.istore_n 3, 1) := by decide +kernel
theorem dL_areAlike_72 : decode cL_areAlike 72 = .ok (.iload_n 3, 1) := by decide +kernel
theorem dL_areAlike_73 : decode cL_areAlike 73 = .ok (.bipush 8, 2) := by decide +kernel
theorem dL_areAlike_75 : decode cL_areAlike 75 = .ok (.if_icmp .ge 147, 3) := by decide +kernel
theorem dL_areAlike_78 : decode cL_areAlike 78 = .ok (.aload_n 0, 1) := by decide +kernel
theorem dL_areAlike_79 : decode cL_areAlike 79 = .ok (.iload_n 3, 1) := by decide +kernel
theorem dL_areAlike_80 : decode cL_areAlike 80 = .ok (.invokestatic 107, 3) := by decide +kernel
theorem dL_areAlike_83 : decode cL_areAlike 83 = .ok (.istore 4, 2) := by decide +kernel
theorem dL_areAlike_85 : decode cL_areAlike 85 = .ok (.aload_n 1, 1) := by decide +kernel
theorem dL_areAlike_86 : decode cL_areAlike 86 = .ok (.bipush 7, 2) := by decide +kernel
theorem dL_areAlike_88 : decode cL_areAlike 88 = .ok (.iload_n 3, 1) := by decide +kernel
theorem dL_areAlike_89 : decode cL_areAlike 89 = .ok (.isub, 1) := by decide +kernel
theorem dL_areAlike_90 : decode cL_areAlike 90 = .ok (.invokestatic 107, 3) := by decide +kernel
theorem dL_areAlike_93 : decode cL_areAlike 93 = .ok (.istore 5, 2) := by decide +kernel
theorem dL_areAlike_95 : decode cL_areAlike 95 = .ok (.aload_n 0, 1) := by decide +kernel
theorem dL_areAlike_96 : decode cL_areAlike 96 = .ok (.iload 4, 2) := by decide +kernel
theorem dL_areAlike_98 : decode cL_areAlike 98 = .ok (.invokestatic 159, 3) := by decide +kernel
theorem dL_areAlike_101 : decode cL_areAlike 101 = .ok (.istore 6, 2) := by decide +kernel
theorem dL_areAlike_103 : decode cL_areAlike 103 = .ok (.iload_n 2, 1) := by decide +kernel
theorem dL_areAlike_104 : decode cL_areAlike 104 = .ok (.ifCond .eq 110, 3) := by decide +kernel
theorem dL_areAlike_107 : decode cL_areAlike 107 = .ok (.aload_n 0, 1) := by decide +kernel
theorem dL_areAlike_108 : decode cL_areAlike 108 = .ok (.iload 4, 2) := by decide +kernel
theorem dL_areAlike_110 : decode cL_areAlike 110 = .ok (.invokestatic 115, 3) := by decide +kernel
theorem dL_areAlike_113 : decode cL_areAlike 113 = .ok (.iload 5, 2) := by decide +kernel
theorem dL_areAlike_115 : decode cL_areAlike 115 = .ok (.if_icmp .ne 99, 3) := by decide +kernel
theorem dL_areAlike_118 : decode cL_areAlike 118 = .ok (.aload_n 1, 1) := by decide +kernel
theorem dL_areAlike_119 : decode cL_areAlike 119 = .ok (.iload 5, 2) := by decide +kernel
theorem dL_areAlike_121 : decode cL_areAlike 121 = .ok (.invokestatic 161, 3) := by decide +kernel
theorem dL_areAlike_124 : decode cL_areAlike 124 = .ok (.iload 4, 2) := by decide +kernel
theorem dL_areAlike_126 : decode cL_areAlike 126 = .ok (.if_icmp .ne 88, 3) := by decide +kernel
theorem dL_areAlike_129 : decode cL_areAlike 129 = .ok (.aload_n 0, 1) := by decide +kernel
theorem dL_areAlike_130 : decode cL_areAlike 130 = .ok (.iload 4, 2) := by decide +kernel
theorem dL_areAlike_132 : decode cL_areAlike 132 = .ok (.invokestatic 164, 3) := by decide +kernel
theorem dL_areAlike_135 : decode cL_areAlike 135 = .ok (.aload_n 1, 1) := by decide +kernel
theorem dL_areAlike_136 : decode cL_areAlike 136 = .ok (.iload 5, 2) := by decide +kernel
theorem dL_areAlike_138 : decode cL_areAlike 138 = .ok (.invokestatic 164, 3) := by decide +kernel
theorem dL_areAlike_141 : decode cL_areAlike 141 = .ok (.if_icmp .ne 73, 3) := by decide +kernel
theorem dL_areAlike_144 : decode cL_areAlike 144 = .ok (.aload_n 0, 1) := by decide +kernel
theorem dL_areAlike_145 : decode cL_areAlike 145 = .ok (.iload 4, 2) := by decide +kernel
theorem dL_areAlike_147 : decode cL_areAlike 147 = .ok (.invokestatic 167, 3) := by decide +kernel
theorem dL_areAlike_150 : decode cL_areAlike 150 = .ok (.aload_n 1, 1) := by decide +kernel
theorem dL_areAlike_151 : decode cL_areAlike 151 = .ok (.iload 5, 2) := by decide +kernel
theorem dL_areAlike_153 : decode cL_areAlike 153 = .ok (.invokestatic 167, 3) := by decide +kernel
theorem dL_areAlike_156 : decode cL_areAlike 156 = .ok (.if_icmp .ne 58, 3) := by decide +kernel
theorem dL_areAlike_159 : decode cL_areAlike 159 = .ok (.aload_n 0, 1) := by decide +kernel
theorem dL_areAlike_160 : decode cL_areAlike 160 = .ok (.iload 4, 2) := by decide +kernel
theorem dL_areAlike_162 : decode cL_areAlike 162 = .ok (.invokestatic 170, 3) := by decide +kernel
theorem dL_areAlike_165 : decode cL_areAlike 165 = .ok (.aload_n 1, 1) := by decide +kernel
theorem dL_areAlike_166 : decode cL_areAlike 166 = .ok (.iload 5, 2) := by decide +kernel
theorem dL_areAlike_168 : decode cL_areAlike 168 = .ok (.invokestatic 170, 3) := by decide +kernel
theorem dL_areAlike_171 : decode cL_areAlike 171 = .ok (.if_icmp .ne 43, 3) := by decide +kernel
theorem dL_areAlike_174 : decode cL_areAlike 174 = .ok (.iload 6, 2) := by decide +kernel
theorem dL_areAlike_176 : decode cL_areAlike 176 = .ok (.ifCond .ge 15, 3) := by decide +kernel
theorem dL_areAlike_179 : decode cL_areAlike 179 = .ok (.aload_n 1, 1) := by decide +kernel
theorem dL_areAlike_180 : decode cL_areAlike 180 = .ok (.iload 5, 2) := by decide +kernel
theorem dL_areAlike_182 : decode cL_areAlike 182 = .ok (.invokestatic 159, 3) := by decide +kernel
theorem dL_areAlike_185 : decode cL_areAlike 185 = .ok (.ifCond .ge 29, 3) := by decide +kernel
theorem dL_areAlike_188 : decode cL_areAlike 188 = .ok (.goto 22, 3) := by decide +kernel
theorem dL_areAlike_191 : decode cL_areAlike 191 = .ok (.aload_n 1, 1) := by decide +kernel
theorem dL_areAlike_192 : decode cL_areAlike 192 = .ok (.iload 5, 2) := by decide +kernel
theorem dL_areAlike_194 : decode cL_areAlike 194 = .ok (.invokestatic 159, 3) := by decide +kernel
theorem dL_areAlike_197 : decode cL_areAlike 197 = .ok (.iconst 1, 1) := by decide +kernel
theorem dL_areAlike_198 : decode cL_areAlike 198 = .ok (.ior, 1) := by decide +kernel
theorem dL_areAlike_199 : decode cL_areAlike 199 = .ok (.aload_n 0, 1) := by decide +kernel
theorem dL_areAlike_200 : decode cL_areAlike 200 = .ok (.iload 6, 2) := by decide +kernel
theorem dL_areAlike_202 : decode cL_areAlike 202 = .ok (.invokestatic 115, 3) := by decide +kernel
theorem dL_areAlike_205 : decode cL_areAlike 205 = .ok (.iconst 1, 1) := by decide +kernel
theorem dL_areAlike_206 : decode cL_areAlike 206 = .ok (.ior, 1) := by decide +kernel
theorem dL_areAlike_207 : decode cL_areAlike 207 = .ok (.if_icmp .ne 7, 3) := by decide +kernel
theorem dL_areAlike_210 : decode cL_areAlike 210 = .ok (.iconst 1, 1) := by decide +kernel
theorem dL_areAlike_211 : decode cL_areAlike 211 = .ok (.goto 4, 3) := by decide +kernel
theorem dL_areAlike_214 : decode cL_areAlike 214 = .ok (.iconst 0, 1) := by decide +kernel
theorem dL_areAlike_215 : decode cL_areAlike 215 = .ok (.istore_n 2, 1) := by decide +kernel
theorem dL_areAlike_216 : decode cL_areAlike 216 = .ok (.iinc 3 1, 3) := by decide +kernel
theorem dL_areAlike_219 : decode cL_areAlike 219 = .ok (.goto (-147), 3) := by decide +kernel
theorem dL_areAlike_222 : decode cL_areAlike 222 = .ok (.iload_n 2, 1) := by decide +kernel
theorem dL_areAlike_223 : decode cL_areAlike 223 = .ok (.ireturn, 1) := by decide +kernel
set_option maxRecDepth 20000 in
theorem ggL_isWell_L_nimber : GoodIn wsL_isWell wsL_nimber := goodIn_ca (goodIn_r _ [6, 7, 8, 9, 10, 11, 12, 13, 14, 15, 16, 17, 18, 19, 20, 21, 22, 23, 24, 25, 130, 131, 132, 133, 134, 135, 136, 137, 138, 139] (by decide +kernel) (by decide +kernel)) (goodIn_sub (fun _ h => List.mem_cons_of_mem _ (List.mem_append_left _ (List.mem_append_right _ h))) (by decide +kernel))
set_option maxRecDepth 20000 in
theorem gL_isWell_L_nimber : GoodIn wsL_isWell (va_wsS RL 107 yL_nimber wsL_nimber) := goodIn_app (goodIn_of _ (by decide +kernel)) ggL_isWell_L_nimber
set_option maxRecDepth 20000 in
theorem ggL_isWell_L_root : GoodIn wsL_isWell wsL_root := goodIn_ca (goodIn_r _ [28, 29, 8, 30, 31, 32, 12, 33, 34, 35, 36, 37, 38, 39, 40, 41, 42, 43, 44, 45, 46, 47, 48, 49, 50, 130, 131, 132, 133, 134, 135, 136, 137, 140] (by decide +kernel) (by decide +kernel)) (goodIn_sub (fun _ h => List.mem_cons_of_mem _ (List.mem_append_right _ h)) (by decide +kernel))
set_option maxRecDepth 20000 in
theorem gL_isWell_L_root : GoodIn wsL_isWell (va_wsS RL 161 yL_root wsL_root) := goodIn_app (goodIn_of _ (by decide +kernel)) ggL_isWell_L_root
set_option maxRecDepth 20000 in
theorem ggL_isWell_L_square : GoodIn wsL_isWell wsL_square := goodIn_ca (goodIn_r _ [53, 54, 55, 5, 56, 29, 8, 57, 58, 59, 12, 60, 34, 36, 37, 38, 39, 40, 61, 44, 62, 63] (by decide +kernel) (by decide +kernel)) (goodIn_sub (fun _ h => List.mem_cons_of_mem _ (List.mem_append_right _ h)) (by decide +kernel))
set_option maxRecDepth 20000 in
theorem gL_isWell_L_square : GoodIn wsL_isWell (va_wsS RL 115 yL_square wsL_square) := goodIn_app (goodIn_of _ (by decide +kernel)) ggL_isWell_L_square
set_option maxRecDepth 20000 in
theorem ggL_isWell_L_order : GoodIn wsL_isWell wsL_order := goodIn_ca (goodIn_r _ [66, 29, 8, 67, 68, 69, 12, 70, 34, 35, 36, 37, 38, 39, 40, 71, 72, 73, 44, 74, 75, 76, 77, 78, 79, 80, 81, 82, 83, 84, 50, 46, 47, 48, 49, 130, 131, 132, 133, 134, 135, 136, 137, 140] (by decide +kernel) (by decide +kernel)) (goodIn_sub (fun _ h => List.mem_cons_of_mem _ (List.mem_append_right _ h)) (by decide +kernel))
set_option maxRecDepth 20000 in
theorem gL_isWell_L_order : GoodIn wsL_isWell (va_wsS RL 167 yL_order wsL_order) := goodIn_app (goodIn_of _ (by decide +kernel)) ggL_isWell_L_order
set_option maxRecDepth 20000 in
theorem ggL_isWell_L_quotient : GoodIn wsL_isWell wsL_quotient := goodIn_ca (goodIn_r _ [87, 29, 8, 88, 89, 90, 12, 91, 34, 35, 36, 37, 38, 39, 40, 92, 93, 94, 44, 95, 46, 47, 48, 49, 50, 81, 82, 83, 84, 130, 131, 132, 133, 134, 135, 136, 137, 140] (by decide +kernel) (by decide +kernel)) (goodIn_sub (fun _ h => List.mem_cons_of_mem _ (List.mem_append_right _ h)) (by decide +kernel))
set_option maxRecDepth 20000 in
theorem gL_isWell_L_quotient : GoodIn wsL_isWell (va_wsS RL 137 yL_quotient wsL_quotient) := goodIn_app (goodIn_of _ (by decide +kernel)) ggL_isWell_L_quotient
set_option maxRecDepth 20000 in
theorem ggL_isWell_L_halves : GoodIn wsL_isWell wsL_halves := goodIn_ca (goodIn_r _ [56, 29, 8, 57, 58, 59, 12, 60, 34, 36, 37, 38, 39, 40, 61, 44, 62, 63] (by decide +kernel) (by decide +kernel)) (goodIn_sub (fun _ h => List.mem_cons_of_mem _ (List.mem_append_right _ h)) (by decide +kernel))
set_option maxRecDepth 20000 in
theorem gL_isWell_L_halves : GoodIn wsL_isWell (va_wsS RL 89 yL_halves wsL_halves) := goodIn_app (goodIn_of _ (by decide +kernel)) ggL_isWell_L_halves
set_option maxRecDepth 20000 in
theorem ggL_isWell_L_trace : GoodIn wsL_isWell wsL_trace := goodIn_ca (goodIn_r _ [98, 29, 8, 99, 100, 101, 12, 102, 34, 35, 36, 37, 38, 39, 40, 103, 104, 105, 44, 106, 46, 47, 48, 49, 50, 130, 131, 132, 133, 134, 135, 136, 137, 140] (by decide +kernel) (by decide +kernel)) (goodIn_sub (fun _ h => List.mem_cons_of_mem _ (List.mem_append_right _ h)) (by decide +kernel))
set_option maxRecDepth 20000 in
theorem gL_isWell_L_trace : GoodIn wsL_isWell (va_wsS RL 170 yL_trace wsL_trace) := goodIn_app (goodIn_of _ (by decide +kernel)) ggL_isWell_L_trace
set_option maxRecDepth 20000 in
theorem ggL_isWell_L_solve : GoodIn wsL_isWell wsL_solve := goodIn_ca (goodIn_r _ [109, 29, 8, 110, 111, 112, 12, 113, 34, 35, 36, 37, 38, 39, 40, 114, 115, 116, 44, 117, 46, 47, 48, 49, 50, 130, 131, 132, 133, 134, 135, 136, 137, 140] (by decide +kernel) (by decide +kernel)) (goodIn_sub (fun _ h => List.mem_cons_of_mem _ (List.mem_append_right _ h)) (by decide +kernel))
set_option maxRecDepth 20000 in
theorem gL_isWell_L_solve : GoodIn wsL_isWell (va_wsS RL 159 yL_solve wsL_solve) := goodIn_app (goodIn_of _ (by decide +kernel)) ggL_isWell_L_solve
set_option maxRecDepth 20000 in
theorem ggL_isWell_X6_registerToLessen : GoodIn wsL_isWell wsX6_registerToLessen := goodIn_r _ [121, 14, 122, 123, 124, 23, 125, 25, 20, 21, 22, 24, 130, 131, 132, 133, 134, 135, 136, 137, 138, 139] (by decide +kernel) (by decide +kernel)
set_option maxRecDepth 20000 in
theorem gL_isWell_X6_registerToLessen : GoodIn wsL_isWell (wsV RL 156 RX6 yX6_registerToLessen wsX6_registerToLessen) := goodIn_app (goodIn_of _ (by decide +kernel)) ggL_isWell_X6_registerToLessen
set_option maxRecDepth 20000 in
theorem ggL_isWell_X6_sumOfAll : GoodIn wsL_isWell wsX6_sumOfAll := goodIn_r _ [129, 14, 122, 123, 124, 23, 125, 25, 130, 131, 132, 133, 134, 135, 136, 137, 138, 139] (by decide +kernel) (by decide +kernel)
set_option maxRecDepth 20000 in
theorem gL_isWell_X6_sumOfAll : GoodIn wsL_isWell (wsV RL 110 RX6 yX6_sumOfAll wsX6_sumOfAll) := goodIn_app (goodIn_of _ (by decide +kernel)) ggL_isWell_X6_sumOfAll
theorem dL_isWell_0 : decode cL_isWell 0 = .ok (.iconst 0, 1) := by decide +kernel
theorem dL_isWell_1 : decode cL_isWell 1 = .ok (.istore_n 1, 1) := by decide +kernel
theorem dL_isWell_2 : decode cL_isWell 2 = .ok (.iconst 1, 1) := by decide +kernel
theorem dL_isWell_3 : decode cL_isWell 3 = .ok (.istore_n 2, 1) := by decide +kernel
theorem dL_isWell_4 : decode cL_isWell 4 = .ok (.iconst 0, 1) := by decide +kernel
theorem dL_isWell_5 : decode cL_isWell 5 = .ok (.istore_n 3, 1) := by decide +kernel
theorem dL_isWell_6 : decode cL_isWell 6 = .ok (.iload_n 3, 1) := by decide +kernel
theorem dL_isWell_7 : decode cL_isWell 7 = .ok (.bipush 8, 2) := by decide +kernel
theorem dL_isWell_9 : decode cL_isWell 9 = .ok (.if_icmp .ge 123, 3) := by decide +kernel
theorem dL_isWell_12 : decode cL_isWell 12 = .ok (.aload_n 0, 1) := by decide +kernel
theorem dL_isWell_13 : decode cL_isWell 13 = .ok (.iload_n 3, 1) := by decide +kernel
theorem dL_isWell_14 : decode cL_isWell 14 = .ok (.invokestatic 107, 3) := by decide +kernel
theorem dL_isWell_17 : decode cL_isWell 17 = .ok (.istore 4, 2) := by decide +kernel
theorem dL_isWell_19 : decode cL_isWell 19 = .ok (.iload_n 1, 1) := by decide +kernel
theorem dL_isWell_20 : decode cL_isWell 20 = .ok (.iload 4, 2) := by decide +kernel
theorem dL_isWell_22 : decode cL_isWell 22 = .ok (.ixor, 1) := by decide +kernel
theorem dL_isWell_23 : decode cL_isWell 23 = .ok (.istore_n 1, 1) := by decide +kernel
theorem dL_isWell_24 : decode cL_isWell 24 = .ok (.iload_n 2, 1) := by decide +kernel
theorem dL_isWell_25 : decode cL_isWell 25 = .ok (.ifCond .eq 99, 3) := by decide +kernel
theorem dL_isWell_28 : decode cL_isWell 28 = .ok (.iload 4, 2) := by decide +kernel
theorem dL_isWell_30 : decode cL_isWell 30 = .ok (.ifCond .lt 94, 3) := by decide +kernel
theorem dL_isWell_33 : decode cL_isWell 33 = .ok (.iload 4, 2) := by decide +kernel
theorem dL_isWell_35 : decode cL_isWell 35 = .ok (.ldc 173, 2) := by decide +kernel
theorem dL_isWell_37 : decode cL_isWell 37 = .ok (.if_icmp .ge 87, 3) := by decide +kernel
theorem dL_isWell_40 : decode cL_isWell 40 = .ok (.aload_n 0, 1) := by decide +kernel
theorem dL_isWell_41 : decode cL_isWell 41 = .ok (.aload_n 0, 1) := by decide +kernel
theorem dL_isWell_42 : decode cL_isWell 42 = .ok (.iload 4, 2) := by decide +kernel
theorem dL_isWell_44 : decode cL_isWell 44 = .ok (.invokestatic 161, 3) := by decide +kernel
theorem dL_isWell_47 : decode cL_isWell 47 = .ok (.invokestatic 115, 3) := by decide +kernel
theorem dL_isWell_50 : decode cL_isWell 50 = .ok (.iload 4, 2) := by decide +kernel
theorem dL_isWell_52 : decode cL_isWell 52 = .ok (.if_icmp .ne 72, 3) := by decide +kernel
theorem dL_isWell_55 : decode cL_isWell 55 = .ok (.iload 4, 2) := by decide +kernel
theorem dL_isWell_57 : decode cL_isWell 57 = .ok (.ifCond .eq 32, 3) := by decide +kernel
theorem dL_isWell_60 : decode cL_isWell 60 = .ok (.ldc 130, 2) := by decide +kernel
theorem dL_isWell_62 : decode cL_isWell 62 = .ok (.aload_n 0, 1) := by decide +kernel
theorem dL_isWell_63 : decode cL_isWell 63 = .ok (.iload 4, 2) := by decide +kernel
theorem dL_isWell_65 : decode cL_isWell 65 = .ok (.invokestatic 167, 3) := by decide +kernel
theorem dL_isWell_68 : decode cL_isWell 68 = .ok (.irem, 1) := by decide +kernel
theorem dL_isWell_69 : decode cL_isWell 69 = .ok (.ifCond .ne 55, 3) := by decide +kernel
theorem dL_isWell_72 : decode cL_isWell 72 = .ok (.aload_n 0, 1) := by decide +kernel
theorem dL_isWell_73 : decode cL_isWell 73 = .ok (.iload 4, 2) := by decide +kernel
theorem dL_isWell_75 : decode cL_isWell 75 = .ok (.aload_n 0, 1) := by decide +kernel
theorem dL_isWell_76 : decode cL_isWell 76 = .ok (.iconst 1, 1) := by decide +kernel
theorem dL_isWell_77 : decode cL_isWell 77 = .ok (.iload 4, 2) := by decide +kernel
theorem dL_isWell_79 : decode cL_isWell 79 = .ok (.invokestatic 137, 3) := by decide +kernel
theorem dL_isWell_82 : decode cL_isWell 82 = .ok (.invokestatic 89, 3) := by decide +kernel
theorem dL_isWell_85 : decode cL_isWell 85 = .ok (.iconst 1, 1) := by decide +kernel
theorem dL_isWell_86 : decode cL_isWell 86 = .ok (.if_icmp .ne 38, 3) := by decide +kernel
theorem dL_isWell_89 : decode cL_isWell 89 = .ok (.aload_n 0, 1) := by decide +kernel
theorem dL_isWell_90 : decode cL_isWell 90 = .ok (.iload 4, 2) := by decide +kernel
theorem dL_isWell_92 : decode cL_isWell 92 = .ok (.invokestatic 170, 3) := by decide +kernel
theorem dL_isWell_95 : decode cL_isWell 95 = .ok (.ifCond .ne 7, 3) := by decide +kernel
theorem dL_isWell_98 : decode cL_isWell 98 = .ok (.iconst 1, 1) := by decide +kernel
theorem dL_isWell_99 : decode cL_isWell 99 = .ok (.goto 4, 3) := by decide +kernel
theorem dL_isWell_102 : decode cL_isWell 102 = .ok (.iconst 0, 1) := by decide +kernel
theorem dL_isWell_103 : decode cL_isWell 103 = .ok (.aload_n 0, 1) := by decide +kernel
theorem dL_isWell_104 : decode cL_isWell 104 = .ok (.iload 4, 2) := by decide +kernel
theorem dL_isWell_106 : decode cL_isWell 106 = .ok (.invokestatic 159, 3) := by decide +kernel
theorem dL_isWell_109 : decode cL_isWell 109 = .ok (.ifCond .lt 7, 3) := by decide +kernel
theorem dL_isWell_112 : decode cL_isWell 112 = .ok (.iconst 1, 1) := by decide +kernel
theorem dL_isWell_113 : decode cL_isWell 113 = .ok (.goto 4, 3) := by decide +kernel
theorem dL_isWell_116 : decode cL_isWell 116 = .ok (.iconst 0, 1) := by decide +kernel
theorem dL_isWell_117 : decode cL_isWell 117 = .ok (.if_icmp .ne 7, 3) := by decide +kernel
theorem dL_isWell_120 : decode cL_isWell 120 = .ok (.iconst 1, 1) := by decide +kernel
theorem dL_isWell_121 : decode cL_isWell 121 = .ok (.goto 4, 3) := by decide +kernel
theorem dL_isWell_124 : decode cL_isWell 124 = .ok (.iconst 0, 1) := by decide +kernel
theorem dL_isWell_125 : decode cL_isWell 125 = .ok (.istore_n 2, 1) := by decide +kernel
theorem dL_isWell_126 : decode cL_isWell 126 = .ok (.iinc 3 1, 3) := by decide +kernel
theorem dL_isWell_129 : decode cL_isWell 129 = .ok (.goto (-123), 3) := by decide +kernel
theorem dL_isWell_132 : decode cL_isWell 132 = .ok (.aload_n 0, 1) := by decide +kernel
theorem dL_isWell_133 : decode cL_isWell 133 = .ok (.invokevirtual 156, 3) := by decide +kernel
theorem dL_isWell_136 : decode cL_isWell 136 = .ok (.istore_n 3, 1) := by decide +kernel
theorem dL_isWell_137 : decode cL_isWell 137 = .ok (.iload_n 2, 1) := by decide +kernel
theorem dL_isWell_138 : decode cL_isWell 138 = .ok (.ifCond .eq 55, 3) := by decide +kernel
theorem dL_isWell_141 : decode cL_isWell 141 = .ok (.iload_n 1, 1) := by decide +kernel
theorem dL_isWell_142 : decode cL_isWell 142 = .ok (.aload_n 0, 1) := by decide +kernel
theorem dL_isWell_143 : decode cL_isWell 143 = .ok (.invokevirtual 110, 3) := by decide +kernel
theorem dL_isWell_146 : decode cL_isWell 146 = .ok (.if_icmp .ne 47, 3) := by decide +kernel
theorem dL_isWell_149 : decode cL_isWell 149 = .ok (.iload_n 3, 1) := by decide +kernel
theorem dL_isWell_150 : decode cL_isWell 150 = .ok (.ifCond .ge 7, 3) := by decide +kernel
theorem dL_isWell_153 : decode cL_isWell 153 = .ok (.iconst 1, 1) := by decide +kernel
theorem dL_isWell_154 : decode cL_isWell 154 = .ok (.goto 4, 3) := by decide +kernel
theorem dL_isWell_157 : decode cL_isWell 157 = .ok (.iconst 0, 1) := by decide +kernel
theorem dL_isWell_158 : decode cL_isWell 158 = .ok (.iload_n 1, 1) := by decide +kernel
theorem dL_isWell_159 : decode cL_isWell 159 = .ok (.ifCond .ne 7, 3) := by decide +kernel
theorem dL_isWell_162 : decode cL_isWell 162 = .ok (.iconst 1, 1) := by decide +kernel
theorem dL_isWell_163 : decode cL_isWell 163 = .ok (.goto 4, 3) := by decide +kernel
theorem dL_isWell_166 : decode cL_isWell 166 = .ok (.iconst 0, 1) := by decide +kernel
theorem dL_isWell_167 : decode cL_isWell 167 = .ok (.if_icmp .ne 26, 3) := by decide +kernel
theorem dL_isWell_170 : decode cL_isWell 170 = .ok (.iload_n 3, 1) := by decide +kernel
theorem dL_isWell_171 : decode cL_isWell 171 = .ok (.ifCond .lt 18, 3) := by decide +kernel
theorem dL_isWell_174 : decode cL_isWell 174 = .ok (.aload_n 0, 1) := by decide +kernel
theorem dL_isWell_175 : decode cL_isWell 175 = .ok (.iload_n 3, 1) := by decide +kernel
theorem dL_isWell_176 : decode cL_isWell 176 = .ok (.invokestatic 107, 3) := by decide +kernel
theorem dL_isWell_179 : decode cL_isWell 179 = .ok (.iload_n 1, 1) := by decide +kernel
theorem dL_isWell_180 : decode cL_isWell 180 = .ok (.ixor, 1) := by decide +kernel
theorem dL_isWell_181 : decode cL_isWell 181 = .ok (.aload_n 0, 1) := by decide +kernel
theorem dL_isWell_182 : decode cL_isWell 182 = .ok (.iload_n 3, 1) := by decide +kernel
theorem dL_isWell_183 : decode cL_isWell 183 = .ok (.invokestatic 107, 3) := by decide +kernel
theorem dL_isWell_186 : decode cL_isWell 186 = .ok (.if_icmp .ge 7, 3) := by decide +kernel
theorem dL_isWell_189 : decode cL_isWell 189 = .ok (.iconst 1, 1) := by decide +kernel
theorem dL_isWell_190 : decode cL_isWell 190 = .ok (.goto 4, 3) := by decide +kernel
theorem dL_isWell_193 : decode cL_isWell 193 = .ok (.iconst 0, 1) := by decide +kernel
theorem dL_isWell_194 : decode cL_isWell 194 = .ok (.ireturn, 1) := by decide +kernel
