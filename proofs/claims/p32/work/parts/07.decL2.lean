set_option maxRecDepth 20000 in
theorem ggL_written_X6_clearProgram : GoodIn wsL_written wsX6_clearProgram := goodIn_r _ [5, 6, 7, 8, 9, 10, 11, 12, 190, 191, 192, 193, 194, 195, 196, 197, 198, 199, 200, 201, 202] (by decide +kernel) (by decide +kernel)
set_option maxRecDepth 20000 in
theorem gL_written_X6_clearProgram : GoodIn wsL_written (wsV RL 95 RX6 yX6_clearProgram wsX6_clearProgram) := goodIn_app (goodIn_of _ (by decide +kernel)) ggL_written_X6_clearProgram
set_option maxRecDepth 20000 in
theorem ggL_written_L_type : GoodIn wsL_written wsL_type := goodIn_ca (goodIn_r _ [16, 17, 18, 19, 20, 21, 4, 22, 23, 24, 6, 25, 26, 27, 10, 28, 12, 29, 30, 31, 32, 33, 190, 191, 192, 193, 194, 195, 196, 197, 198, 199, 200, 201, 202] (by decide +kernel) (by decide +kernel)) (goodIn_sub (fun _ h => List.mem_cons_of_mem _ (List.mem_append_right _ h)) (by decide +kernel))
set_option maxRecDepth 20000 in
theorem gL_written_L_type : GoodIn wsL_written (va_wsS RL 98 yL_type wsL_type) := goodIn_app (goodIn_of _ (by decide +kernel)) ggL_written_L_type
set_option maxRecDepth 20000 in
theorem ggL_written_L_carryOut : GoodIn wsL_written wsL_carryOut := goodIn_ca (goodIn_r _ [36, 17, 18, 37, 38, 39, 4, 40, 23, 24, 41, 42, 43, 6, 44, 45, 46, 47, 48, 49, 50, 10, 51, 52, 53, 54, 12, 55, 56, 57, 58, 59, 60, 61, 62, 63, 64, 65, 66, 33, 67, 68, 69, 70, 71, 72, 73, 74, 75, 76, 77, 78, 79, 80, 81, 82, 83, 84, 85, 86, 87, 88, 89, 90, 91, 92, 93, 94, 95, 96, 97, 98, 99, 100, 101, 102, 103, 104, 105, 106, 107, 108, 109, 110, 111, 112, 113, 114, 115, 116, 117, 118, 119, 120, 121, 122, 123, 124, 125, 126, 127, 128, 129, 130, 131, 132, 133, 134, 135, 136, 137, 138, 139, 140, 141, 142, 143, 144, 145, 146, 147, 148, 149, 150, 151, 152, 153, 154, 155, 156, 157, 158, 159, 160, 161, 162, 163, 164, 165, 166, 167, 168, 169, 170, 171, 172, 173, 174, 175, 176, 177, 178, 179, 180, 181, 182, 183, 184, 185, 186, 187, 188, 189, 190, 191, 192, 193, 194, 195, 196, 197, 198, 199, 200, 201, 202, 203, 204, 205, 206, 207, 208, 209, 210, 211] (by decide +kernel) (by decide +kernel)) (goodIn_sub (fun _ h => List.mem_cons_of_mem _ (List.mem_append_right _ h)) (by decide +kernel))
set_option maxRecDepth 20000 in
theorem gL_written_L_carryOut : GoodIn wsL_written (va_wsS RL 101 yL_carryOut wsL_carryOut) := goodIn_app (goodIn_of _ (by decide +kernel)) ggL_written_L_carryOut
theorem dL_written_0 : decode cL_written 0 = .ok (.sipush 10000, 3) := by decide +kernel
theorem dL_written_3 : decode cL_written 3 = .ok (.istore 4, 2) := by decide +kernel
theorem dL_written_5 : decode cL_written 5 = .ok (.aload_n 0, 1) := by decide +kernel
theorem dL_written_6 : decode cL_written 6 = .ok (.invokevirtual 95, 3) := by decide +kernel
theorem dL_written_9 : decode cL_written 9 = .ok (.ifCond .lt 54, 3) := by decide +kernel
theorem dL_written_12 : decode cL_written 12 = .ok (.aload_n 0, 1) := by decide +kernel
theorem dL_written_13 : decode cL_written 13 = .ok (.bipush 65, 2) := by decide +kernel
theorem dL_written_15 : decode cL_written 15 = .ok (.iload_n 1, 1) := by decide +kernel
theorem dL_written_16 : decode cL_written 16 = .ok (.iadd, 1) := by decide +kernel
theorem dL_written_17 : decode cL_written 17 = .ok (.invokestatic 98, 3) := by decide +kernel
theorem dL_written_20 : decode cL_written 20 = .ok (.iconst 1, 1) := by decide +kernel
theorem dL_written_21 : decode cL_written 21 = .ok (.if_icmp .ne 42, 3) := by decide +kernel
theorem dL_written_24 : decode cL_written 24 = .ok (.aload_n 0, 1) := by decide +kernel
theorem dL_written_25 : decode cL_written 25 = .ok (.bipush 61, 2) := by decide +kernel
theorem dL_written_27 : decode cL_written 27 = .ok (.invokestatic 98, 3) := by decide +kernel
theorem dL_written_30 : decode cL_written 30 = .ok (.iconst 2, 1) := by decide +kernel
theorem dL_written_31 : decode cL_written 31 = .ok (.if_icmp .ne 32, 3) := by decide +kernel
theorem dL_written_34 : decode cL_written 34 = .ok (.iload_n 2, 1) := by decide +kernel
theorem dL_written_35 : decode cL_written 35 = .ok (.ifCond .eq 24, 3) := by decide +kernel
theorem dL_written_38 : decode cL_written 38 = .ok (.aload_n 0, 1) := by decide +kernel
theorem dL_written_39 : decode cL_written 39 = .ok (.bipush 65, 2) := by decide +kernel
theorem dL_written_41 : decode cL_written 41 = .ok (.iload_n 1, 1) := by decide +kernel
theorem dL_written_42 : decode cL_written 42 = .ok (.iadd, 1) := by decide +kernel
theorem dL_written_43 : decode cL_written 43 = .ok (.invokestatic 98, 3) := by decide +kernel
theorem dL_written_46 : decode cL_written 46 = .ok (.iconst 3, 1) := by decide +kernel
theorem dL_written_47 : decode cL_written 47 = .ok (.if_icmp .ne 16, 3) := by decide +kernel
theorem dL_written_50 : decode cL_written 50 = .ok (.aload_n 0, 1) := by decide +kernel
theorem dL_written_51 : decode cL_written 51 = .ok (.iload_n 2, 1) := by decide +kernel
theorem dL_written_52 : decode cL_written 52 = .ok (.invokestatic 98, 3) := by decide +kernel
theorem dL_written_55 : decode cL_written 55 = .ok (.iconst 4, 1) := by decide +kernel
theorem dL_written_56 : decode cL_written 56 = .ok (.if_icmp .ne 7, 3) := by decide +kernel
theorem dL_written_59 : decode cL_written 59 = .ok (.iconst 1, 1) := by decide +kernel
theorem dL_written_60 : decode cL_written 60 = .ok (.goto 4, 3) := by decide +kernel
theorem dL_written_63 : decode cL_written 63 = .ok (.iconst 0, 1) := by decide +kernel
theorem dL_written_64 : decode cL_written 64 = .ok (.istore 5, 2) := by decide +kernel
theorem dL_written_66 : decode cL_written 66 = .ok (.iload 4, 2) := by decide +kernel
theorem dL_written_68 : decode cL_written 68 = .ok (.iconst 1, 1) := by decide +kernel
theorem dL_written_69 : decode cL_written 69 = .ok (.if_icmp .le 19, 3) := by decide +kernel
theorem dL_written_72 : decode cL_written 72 = .ok (.iload_n 3, 1) := by decide +kernel
theorem dL_written_73 : decode cL_written 73 = .ok (.iload 4, 2) := by decide +kernel
theorem dL_written_75 : decode cL_written 75 = .ok (.if_icmp .ge 13, 3) := by decide +kernel
theorem dL_written_78 : decode cL_written 78 = .ok (.iload 4, 2) := by decide +kernel
theorem dL_written_80 : decode cL_written 80 = .ok (.bipush 10, 2) := by decide +kernel
theorem dL_written_82 : decode cL_written 82 = .ok (.idiv, 1) := by decide +kernel
theorem dL_written_83 : decode cL_written 83 = .ok (.istore 4, 2) := by decide +kernel
theorem dL_written_85 : decode cL_written 85 = .ok (.goto (-19), 3) := by decide +kernel
theorem dL_written_88 : decode cL_written 88 = .ok (.iload 4, 2) := by decide +kernel
theorem dL_written_90 : decode cL_written 90 = .ok (.ifCond .le 44, 3) := by decide +kernel
theorem dL_written_93 : decode cL_written 93 = .ok (.iload 5, 2) := by decide +kernel
theorem dL_written_95 : decode cL_written 95 = .ok (.ifCond .eq 26, 3) := by decide +kernel
theorem dL_written_98 : decode cL_written 98 = .ok (.aload_n 0, 1) := by decide +kernel
theorem dL_written_99 : decode cL_written 99 = .ok (.bipush 48, 2) := by decide +kernel
theorem dL_written_101 : decode cL_written 101 = .ok (.iload_n 3, 1) := by decide +kernel
theorem dL_written_102 : decode cL_written 102 = .ok (.iload 4, 2) := by decide +kernel
theorem dL_written_104 : decode cL_written 104 = .ok (.idiv, 1) := by decide +kernel
theorem dL_written_105 : decode cL_written 105 = .ok (.bipush 10, 2) := by decide +kernel
theorem dL_written_107 : decode cL_written 107 = .ok (.irem, 1) := by decide +kernel
theorem dL_written_108 : decode cL_written 108 = .ok (.iadd, 1) := by decide +kernel
theorem dL_written_109 : decode cL_written 109 = .ok (.invokestatic 98, 3) := by decide +kernel
theorem dL_written_112 : decode cL_written 112 = .ok (.bipush 10, 2) := by decide +kernel
theorem dL_written_114 : decode cL_written 114 = .ok (.if_icmp .ge 7, 3) := by decide +kernel
theorem dL_written_117 : decode cL_written 117 = .ok (.iconst 1, 1) := by decide +kernel
theorem dL_written_118 : decode cL_written 118 = .ok (.goto 4, 3) := by decide +kernel
theorem dL_written_121 : decode cL_written 121 = .ok (.iconst 0, 1) := by decide +kernel
theorem dL_written_122 : decode cL_written 122 = .ok (.istore 5, 2) := by decide +kernel
theorem dL_written_124 : decode cL_written 124 = .ok (.iload 4, 2) := by decide +kernel
theorem dL_written_126 : decode cL_written 126 = .ok (.bipush 10, 2) := by decide +kernel
theorem dL_written_128 : decode cL_written 128 = .ok (.idiv, 1) := by decide +kernel
theorem dL_written_129 : decode cL_written 129 = .ok (.istore 4, 2) := by decide +kernel
theorem dL_written_131 : decode cL_written 131 = .ok (.goto (-43), 3) := by decide +kernel
theorem dL_written_134 : decode cL_written 134 = .ok (.iload 5, 2) := by decide +kernel
theorem dL_written_136 : decode cL_written 136 = .ok (.ifCond .eq 10, 3) := by decide +kernel
theorem dL_written_139 : decode cL_written 139 = .ok (.aload_n 0, 1) := by decide +kernel
theorem dL_written_140 : decode cL_written 140 = .ok (.invokestatic 101, 3) := by decide +kernel
theorem dL_written_143 : decode cL_written 143 = .ok (.goto 5, 3) := by decide +kernel
theorem dL_written_146 : decode cL_written 146 = .ok (.bipush (-99), 2) := by decide +kernel
theorem dL_written_148 : decode cL_written 148 = .ok (.ireturn, 1) := by decide +kernel
set_option maxRecDepth 20000 in
theorem ggL_isStep_L_up : GoodIn wsL_isStep wsL_up := goodIn_r _ [7, 8] (by decide +kernel) (by decide +kernel)
set_option maxRecDepth 20000 in
theorem gL_isStep_L_up : GoodIn wsL_isStep (va_wsS RL 104 yL_up wsL_up) := goodIn_app (goodIn_of _ (by decide +kernel)) ggL_isStep_L_up
set_option maxRecDepth 20000 in
theorem ggL_isStep_L_nimber : GoodIn wsL_isStep wsL_nimber := goodIn_ca (goodIn_r _ [11, 12, 3, 13, 14, 15, 16, 17, 18, 19, 20, 21, 22, 23, 24, 25, 26, 27, 28, 29, 343, 344, 345, 346, 347, 348, 349, 350, 351, 352] (by decide +kernel) (by decide +kernel)) (goodIn_sub (fun _ h => List.mem_cons_of_mem _ (List.mem_append_left _ (List.mem_append_left _ (List.mem_append_right _ h)))) (by decide +kernel))
set_option maxRecDepth 20000 in
theorem gL_isStep_L_nimber : GoodIn wsL_isStep (va_wsS RL 107 yL_nimber wsL_nimber) := goodIn_app (goodIn_of _ (by decide +kernel)) ggL_isStep_L_nimber
set_option maxRecDepth 20000 in
theorem ggL_isStep_X6_sumOfAll : GoodIn wsL_isStep wsX6_sumOfAll := goodIn_r _ [33, 18, 34, 35, 36, 27, 37, 29, 343, 344, 345, 346, 347, 348, 349, 350, 351, 352] (by decide +kernel) (by decide +kernel)
set_option maxRecDepth 20000 in
theorem gL_isStep_X6_sumOfAll : GoodIn wsL_isStep (wsV RL 110 RX6 yX6_sumOfAll wsX6_sumOfAll) := goodIn_app (goodIn_of _ (by decide +kernel)) ggL_isStep_X6_sumOfAll
set_option maxRecDepth 20000 in
theorem ggL_isStep_L_invert : GoodIn wsL_isStep wsL_invert := goodIn_ca (goodIn_ca (goodIn_r _ [40, 12, 41, 3, 1, 42, 43, 44, 16, 45, 46, 47, 18, 48, 19, 20, 21, 22, 23, 24, 25, 26, 27, 28, 29, 49, 50, 51, 52, 53, 54, 55, 56, 57, 58, 59, 60, 61, 62, 63, 64, 65, 66, 67, 68, 69, 70, 71, 72, 73, 74, 75, 76, 77, 78, 79, 80, 81, 82, 83, 84, 85, 86, 87, 88, 89, 90, 91, 92, 343, 344, 345, 346, 347, 348, 349, 350, 351, 352, 353, 354, 355] (by decide +kernel) (by decide +kernel)) (goodIn_sub (fun _ h => List.mem_cons_of_mem _ (List.mem_append_left _ (List.mem_append_right _ h))) (by decide +kernel))) (goodIn_sub (fun _ h => List.mem_cons_of_mem _ (List.mem_append_left _ (List.mem_append_left _ (List.mem_append_right _ h)))) (by decide +kernel))
set_option maxRecDepth 20000 in
theorem gL_isStep_L_invert : GoodIn wsL_isStep (va_wsS RL 113 yL_invert wsL_invert) := goodIn_app (goodIn_of _ (by decide +kernel)) ggL_isStep_L_invert
set_option maxRecDepth 20000 in
theorem ggL_isStep_L_square : GoodIn wsL_isStep wsL_square := goodIn_ca (goodIn_r _ [95, 96, 97, 6, 98, 99, 3, 100, 101, 102, 16, 103, 104, 105, 106, 107, 108, 109, 110, 52, 111, 112] (by decide +kernel) (by decide +kernel)) (goodIn_sub (fun _ h => List.mem_cons_of_mem _ (List.mem_append_right _ h)) (by decide +kernel))
set_option maxRecDepth 20000 in
theorem gL_isStep_L_square : GoodIn wsL_isStep (va_wsS RL 115 yL_square wsL_square) := goodIn_app (goodIn_of _ (by decide +kernel)) ggL_isStep_L_square
set_option maxRecDepth 20000 in
theorem ggL_isStep_L_halves : GoodIn wsL_isStep wsL_halves := goodIn_ca (goodIn_r _ [98, 99, 3, 100, 101, 102, 16, 103, 104, 105, 106, 107, 108, 109, 110, 52, 111, 112] (by decide +kernel) (by decide +kernel)) (goodIn_sub (fun _ h => List.mem_cons_of_mem _ (List.mem_append_right _ h)) (by decide +kernel))
set_option maxRecDepth 20000 in
theorem gL_isStep_L_halves : GoodIn wsL_isStep (va_wsS RL 89 yL_halves wsL_halves) := goodIn_app (goodIn_of _ (by decide +kernel)) ggL_isStep_L_halves
set_option maxRecDepth 20000 in
theorem ggL_isStep_L_takeRoot : GoodIn wsL_isStep wsL_takeRoot := goodIn_ca (goodIn_r _ [115, 12, 3, 116, 117, 118, 16, 119, 48, 18, 19, 20, 21, 22, 23, 24, 25, 26, 27, 28, 29, 120, 121, 122, 52, 123, 54, 55, 56, 57, 58, 63, 64, 65, 66, 67, 68, 69, 70, 71, 72, 73, 74, 75, 76, 77, 78, 79, 80, 81, 82, 83, 84, 85, 86, 87, 88, 89, 90, 91, 92, 343, 344, 345, 346, 347, 348, 349, 350, 351, 352, 353, 354, 355] (by decide +kernel) (by decide +kernel)) (goodIn_sub (fun _ h => List.mem_cons_of_mem _ (List.mem_append_left _ (List.mem_append_left _ (List.mem_append_right _ h)))) (by decide +kernel))
set_option maxRecDepth 20000 in
theorem gL_isStep_L_takeRoot : GoodIn wsL_isStep (va_wsS RL 118 yL_takeRoot wsL_takeRoot) := goodIn_app (goodIn_of _ (by decide +kernel)) ggL_isStep_L_takeRoot
set_option maxRecDepth 20000 in
theorem ggL_isStep_L_multiply : GoodIn wsL_isStep wsL_multiply := goodIn_ca (goodIn_r _ [126, 12, 3, 127, 128, 129, 16, 130, 48, 18, 19, 20, 21, 22, 23, 24, 25, 26, 27, 28, 29, 131, 60, 61, 52, 62, 58, 63, 64, 65, 66, 67, 68, 69, 70, 71, 72, 73, 74, 75, 76, 77, 78, 79, 80, 81, 82, 83, 84, 85, 86, 87, 88, 89, 90, 91, 92, 132, 133, 134, 135, 343, 344, 345, 346, 347, 348, 349, 350, 351, 352, 353, 354, 355] (by decide +kernel) (by decide +kernel)) (goodIn_sub (fun _ h => List.mem_cons_of_mem _ (List.mem_append_left _ (List.mem_append_left _ (List.mem_append_right _ h)))) (by decide +kernel))
set_option maxRecDepth 20000 in
theorem gL_isStep_L_multiply : GoodIn wsL_isStep (va_wsS RL 120 yL_multiply wsL_multiply) := goodIn_app (goodIn_of _ (by decide +kernel)) ggL_isStep_L_multiply
set_option maxRecDepth 20000 in
theorem ggL_isStep_X6_products : GoodIn wsL_isStep wsX6_products := goodIn_r _ [139, 18, 140, 86, 87, 27, 88, 83, 343, 344, 345, 346, 347, 348, 349, 350, 351, 352] (by decide +kernel) (by decide +kernel)
set_option maxRecDepth 20000 in
theorem gL_isStep_X6_products : GoodIn wsL_isStep (wsV RL 122 RX6 yX6_products wsX6_products) := goodIn_app (goodIn_of _ (by decide +kernel)) ggL_isStep_X6_products
set_option maxRecDepth 20000 in
theorem ggL_isStep_L_bits : GoodIn wsL_isStep wsL_bits := goodIn_ca (goodIn_r _ [143, 99, 3, 144, 145, 146, 16, 147, 104, 48, 105, 106, 107, 108, 109, 131, 60, 61, 52, 62, 58, 343, 344, 345, 346, 347, 348, 349, 350, 353] (by decide +kernel) (by decide +kernel)) (goodIn_sub (fun _ h => List.mem_cons_of_mem _ (List.mem_append_right _ h)) (by decide +kernel))
set_option maxRecDepth 20000 in
theorem gL_isStep_L_bits : GoodIn wsL_isStep (va_wsS RL 125 yL_bits wsL_bits) := goodIn_app (goodIn_of _ (by decide +kernel)) ggL_isStep_L_bits
set_option maxRecDepth 20000 in
theorem ggL_isStep_L_exchange : GoodIn wsL_isStep wsL_exchange := goodIn_ca (goodIn_r _ [150, 12, 3, 151, 152, 153, 16, 154, 18, 67, 19, 20, 21, 22, 23, 24, 25, 26, 27, 28, 29, 68, 69, 70, 71, 72, 73, 74, 75, 76, 77, 78, 79, 80, 81, 82, 83, 84, 85, 86, 87, 88, 89, 90, 91, 92, 343, 344, 345, 346, 347, 348, 349, 350, 351, 352, 354, 355] (by decide +kernel) (by decide +kernel)) (goodIn_sub (fun _ h => List.mem_cons_of_mem _ (List.mem_append_left _ (List.mem_append_left _ (List.mem_append_right _ h)))) (by decide +kernel))
set_option maxRecDepth 20000 in
theorem gL_isStep_L_exchange : GoodIn wsL_isStep (va_wsS RL 128 yL_exchange wsL_exchange) := goodIn_app (goodIn_of _ (by decide +kernel)) ggL_isStep_L_exchange
set_option maxRecDepth 20000 in
theorem ggL_isStep_L_written : GoodIn wsL_isStep wsL_written := goodIn_ca (goodIn_r _ [157, 158, 159, 160, 16, 161, 162, 163, 164, 165, 166, 167, 168, 169, 170, 6, 171, 41, 3, 172, 173, 174, 175, 46, 47, 176, 177, 178, 179, 180, 181, 182, 183, 184, 185, 186, 187, 188, 189, 190, 191, 67, 18, 192, 193, 194, 195, 196, 197, 198, 199, 200, 201, 202, 203, 204, 205, 206, 207, 208, 209, 210, 211, 212, 213, 214, 215, 216, 217, 218, 219, 220, 221, 222, 223, 224, 225, 226, 227, 228, 229, 230, 231, 232, 233, 234, 235, 236, 237, 238, 239, 240, 241, 242, 243, 244, 245, 246, 247, 248, 249, 250, 251, 252, 253, 48, 254, 80, 81, 27, 82, 29, 83, 84, 25, 26, 28, 85, 86, 87, 88, 255, 256, 257, 258, 259, 260, 261, 262, 263, 264, 265, 266, 267, 268, 269, 270, 271, 272, 50, 51, 52, 53, 54, 55, 56, 57, 58, 59, 60, 61, 62, 273, 121, 122, 123, 274, 275, 276, 277, 278, 279, 90, 91, 92, 280, 133, 134, 135, 68, 69, 70, 71, 72, 73, 74, 75, 76, 77, 78, 79, 281, 282, 283, 284, 285, 286, 287, 288, 24, 343, 344, 345, 346, 347, 348, 349, 350, 356, 357, 358, 359, 360, 361, 362, 363, 364, 351, 352, 353, 354, 355] (by decide +kernel) (by decide +kernel)) (goodIn_sub (fun _ h => List.mem_cons_of_mem _ (List.mem_append_left _ (List.mem_append_right _ h))) (by decide +kernel))
set_option maxRecDepth 20000 in
theorem gL_isStep_L_written : GoodIn wsL_isStep (va_wsS RL 131 yL_written wsL_written) := goodIn_app (goodIn_of _ (by decide +kernel)) ggL_isStep_L_written
set_option maxRecDepth 20000 in
theorem ggL_isStep_L_power : GoodIn wsL_isStep wsL_power := goodIn_ca (goodIn_r _ [291, 99, 3, 292, 293, 294, 16, 295, 104, 296, 48, 105, 106, 107, 108, 109, 297, 276, 277, 52, 278, 59, 60, 61, 62, 58, 54, 55, 56, 57, 343, 344, 345, 346, 347, 348, 349, 350, 353] (by decide +kernel) (by decide +kernel)) (goodIn_sub (fun _ h => List.mem_cons_of_mem _ (List.mem_append_right _ h)) (by decide +kernel))
set_option maxRecDepth 20000 in
theorem gL_isStep_L_power : GoodIn wsL_isStep (va_wsS RL 135 yL_power wsL_power) := goodIn_app (goodIn_of _ (by decide +kernel)) ggL_isStep_L_power
set_option maxRecDepth 20000 in
theorem ggL_isStep_L_quotient : GoodIn wsL_isStep wsL_quotient := goodIn_ca (goodIn_r _ [300, 99, 3, 301, 302, 303, 16, 304, 104, 48, 105, 106, 107, 108, 109, 49, 50, 51, 52, 53, 54, 55, 56, 57, 58, 59, 60, 61, 62, 343, 344, 345, 346, 347, 348, 349, 350, 353] (by decide +kernel) (by decide +kernel)) (goodIn_sub (fun _ h => List.mem_cons_of_mem _ (List.mem_append_right _ h)) (by decide +kernel))
set_option maxRecDepth 20000 in
theorem gL_isStep_L_quotient : GoodIn wsL_isStep (va_wsS RL 137 yL_quotient wsL_quotient) := goodIn_app (goodIn_of _ (by decide +kernel)) ggL_isStep_L_quotient
set_option maxRecDepth 20000 in
theorem ggL_isStep_X6_takeSnapshot : GoodIn wsL_isStep wsX6_takeSnapshot := goodIn_r _ [308, 309, 18, 310, 254, 80, 81, 27, 82, 29, 83, 84, 25, 26, 28, 85, 86, 87, 88, 34, 35, 36, 37, 343, 344, 345, 346, 347, 348, 349, 350, 351, 352] (by decide +kernel) (by decide +kernel)
set_option maxRecDepth 20000 in
theorem gL_isStep_X6_takeSnapshot : GoodIn wsL_isStep (wsV RL 139 RX6 yX6_takeSnapshot wsX6_takeSnapshot) := goodIn_app (goodIn_of _ (by decide +kernel)) ggL_isStep_X6_takeSnapshot
set_option maxRecDepth 20000 in
theorem ggL_isStep_L_restore : GoodIn wsL_isStep wsL_restore := goodIn_ca (goodIn_r _ [313, 41, 3, 314, 315, 316, 16, 317, 46, 47, 310, 67, 18, 309, 68, 69, 70, 71, 72, 73, 74, 75, 76, 77, 78, 79, 80, 81, 27, 82, 29, 83, 84, 25, 26, 28, 85, 86, 87, 88, 254, 34, 35, 36, 37, 343, 344, 345, 346, 347, 348, 349, 350, 354, 355, 351, 352] (by decide +kernel) (by decide +kernel)) (goodIn_sub (fun _ h => List.mem_cons_of_mem _ (List.mem_append_left _ (List.mem_append_right _ h))) (by decide +kernel))
set_option maxRecDepth 20000 in
theorem gL_isStep_L_restore : GoodIn wsL_isStep (va_wsS RL 142 yL_restore wsL_restore) := goodIn_app (goodIn_of _ (by decide +kernel)) ggL_isStep_L_restore
set_option maxRecDepth 20000 in
theorem ggL_isStep_L_isBack : GoodIn wsL_isStep wsL_isBack := goodIn_ca (goodIn_r _ [320, 3, 93, 94, 6, 95, 96, 97, 98, 99, 100, 101, 102, 16, 103, 104, 105, 106, 107, 108, 109, 110, 52, 111, 112] (by decide +kernel) (by decide +kernel)) (goodIn_sub (fun _ h => List.mem_cons_of_mem _ (List.mem_append_right _ h)) (by decide +kernel))
set_option maxRecDepth 20000 in
theorem gL_isStep_L_isBack : GoodIn wsL_isStep (va_wsS RL 145 yL_isBack wsL_isBack) := goodIn_app (goodIn_of _ (by decide +kernel)) ggL_isStep_L_isBack
set_option maxRecDepth 20000 in
theorem ggL_isStep_L_undo : GoodIn wsL_isStep wsL_undo := goodIn_ca (goodIn_r _ [323, 41, 3, 324, 325, 326, 16, 327, 46, 47, 67, 18, 328, 329, 330, 71, 331, 74, 332, 333, 334, 335, 73, 79, 80, 81, 27, 82, 29, 83, 84, 25, 26, 28, 85, 86, 87, 88, 343, 344, 345, 346, 347, 348, 349, 350, 354, 355, 351, 352] (by decide +kernel) (by decide +kernel)) (goodIn_sub (fun _ h => List.mem_cons_of_mem _ (List.mem_append_left _ (List.mem_append_right _ h))) (by decide +kernel))
set_option maxRecDepth 20000 in
theorem gL_isStep_L_undo : GoodIn wsL_isStep (va_wsS RL 149 yL_undo wsL_undo) := goodIn_app (goodIn_of _ (by decide +kernel)) ggL_isStep_L_undo
set_option maxRecDepth 20000 in
theorem ggL_isStep_L_set : GoodIn wsL_isStep wsL_set := goodIn_ca (goodIn_ca (goodIn_r _ [338, 12, 99, 3, 1, 339, 340, 341, 16, 342, 104, 18, 67, 19, 20, 21, 22, 23, 105, 106, 107, 108, 109, 24, 25, 26, 27, 28, 29, 68, 69, 70, 71, 72, 73, 74, 75, 76, 77, 78, 79, 80, 81, 82, 83, 84, 85, 86, 87, 88, 89, 90, 91, 92, 343, 344, 345, 346, 347, 348, 349, 350, 351, 352, 354, 355] (by decide +kernel) (by decide +kernel)) (goodIn_sub (fun _ h => List.mem_cons_of_mem _ (List.mem_append_left _ (List.mem_append_left _ (List.mem_append_right _ h)))) (by decide +kernel))) (goodIn_sub (fun _ h => List.mem_cons_of_mem _ (List.mem_append_right _ h)) (by decide +kernel))
set_option maxRecDepth 20000 in
theorem gL_isStep_L_set : GoodIn wsL_isStep (va_wsS RL 151 yL_set wsL_set) := goodIn_app (goodIn_of _ (by decide +kernel)) ggL_isStep_L_set
theorem dL_isStep_0 : decode cL_isStep 0 = .ok (.iload_n 2, 1) := by decide +kernel
theorem dL_isStep_1 : decode cL_isStep 1 = .ok (.iconst 4, 1) := by decide +kernel
theorem dL_isStep_2 : decode cL_isStep 2 = .ok (.ishr, 1) := by decide +kernel
theorem dL_isStep_3 : decode cL_isStep 3 = .ok (.istore 4, 2) := by decide +kernel
theorem dL_isStep_5 : decode cL_isStep 5 = .ok (.iload_n 3, 1) := by decide +kernel
theorem dL_isStep_6 : decode cL_isStep 6 = .ok (.bipush 8, 2) := by decide +kernel
theorem dL_isStep_8 : decode cL_isStep 8 = .ok (.invokestatic 104, 3) := by decide +kernel
theorem dL_isStep_11 : decode cL_isStep 11 = .ok (.istore 5, 2) := by decide +kernel
theorem dL_isStep_13 : decode cL_isStep 13 = .ok (.iload 4, 2) := by decide +kernel
theorem dL_isStep_15 : decode cL_isStep 15 = .ok (.bipush 8, 2) := by decide +kernel
theorem dL_isStep_17 : decode cL_isStep 17 = .ok (.invokestatic 104, 3) := by decide +kernel
theorem dL_isStep_20 : decode cL_isStep 20 = .ok (.istore 6, 2) := by decide +kernel
theorem dL_isStep_22 : decode cL_isStep 22 = .ok (.aload_n 0, 1) := by decide +kernel
theorem dL_isStep_23 : decode cL_isStep 23 = .ok (.iload 5, 2) := by decide +kernel
theorem dL_isStep_25 : decode cL_isStep 25 = .ok (.invokestatic 107, 3) := by decide +kernel
theorem dL_isStep_28 : decode cL_isStep 28 = .ok (.istore 7, 2) := by decide +kernel
theorem dL_isStep_30 : decode cL_isStep 30 = .ok (.aload_n 0, 1) := by decide +kernel
theorem dL_isStep_31 : decode cL_isStep 31 = .ok (.iload 6, 2) := by decide +kernel
theorem dL_isStep_33 : decode cL_isStep 33 = .ok (.invokestatic 107, 3) := by decide +kernel
theorem dL_isStep_36 : decode cL_isStep 36 = .ok (.istore 8, 2) := by decide +kernel
theorem dL_isStep_38 : decode cL_isStep 38 = .ok (.aload_n 0, 1) := by decide +kernel
theorem dL_isStep_39 : decode cL_isStep 39 = .ok (.invokevirtual 110, 3) := by decide +kernel
theorem dL_isStep_42 : decode cL_isStep 42 = .ok (.istore 9, 2) := by decide +kernel
theorem dL_isStep_44 : decode cL_isStep 44 = .ok (.iload_n 2, 1) := by decide +kernel
theorem dL_isStep_45 : decode cL_isStep 45 = .ok (.bipush 16, 2) := by decide +kernel
theorem dL_isStep_47 : decode cL_isStep 47 = .ok (.invokestatic 104, 3) := by decide +kernel
theorem dL_isStep_50 : decode cL_isStep 50 = .ok (.tableswitch 682 0 11 #[62, 155, 194, 194, 194, 263, 314, 376, 442, 504, 620, 665], 62) := by decide +kernel
theorem dL_isStep_112 : decode cL_isStep 112 = .ok (.aload_n 0, 1) := by decide +kernel
theorem dL_isStep_113 : decode cL_isStep 113 = .ok (.iload 5, 2) := by decide +kernel
theorem dL_isStep_115 : decode cL_isStep 115 = .ok (.invokestatic 113, 3) := by decide +kernel
theorem dL_isStep_118 : decode cL_isStep 118 = .ok (.istore 10, 2) := by decide +kernel
theorem dL_isStep_120 : decode cL_isStep 120 = .ok (.iload 10, 2) := by decide +kernel
theorem dL_isStep_122 : decode cL_isStep 122 = .ok (.ldc 20, 2) := by decide +kernel
theorem dL_isStep_124 : decode cL_isStep 124 = .ok (.if_icmp .ne 30, 3) := by decide +kernel
theorem dL_isStep_127 : decode cL_isStep 127 = .ok (.iload 7, 2) := by decide +kernel
theorem dL_isStep_129 : decode cL_isStep 129 = .ok (.ifCond .ne 21, 3) := by decide +kernel
theorem dL_isStep_132 : decode cL_isStep 132 = .ok (.aload_n 1, 1) := by decide +kernel
theorem dL_isStep_133 : decode cL_isStep 133 = .ok (.bipush 7, 2) := by decide +kernel
theorem dL_isStep_135 : decode cL_isStep 135 = .ok (.iload 5, 2) := by decide +kernel
theorem dL_isStep_137 : decode cL_isStep 137 = .ok (.isub, 1) := by decide +kernel
theorem dL_isStep_138 : decode cL_isStep 138 = .ok (.invokestatic 113, 3) := by decide +kernel
theorem dL_isStep_141 : decode cL_isStep 141 = .ok (.ldc 20, 2) := by decide +kernel
theorem dL_isStep_143 : decode cL_isStep 143 = .ok (.if_icmp .ne 7, 3) := by decide +kernel
theorem dL_isStep_146 : decode cL_isStep 146 = .ok (.iconst 1, 1) := by decide +kernel
theorem dL_isStep_147 : decode cL_isStep 147 = .ok (.goto 57, 3) := by decide +kernel
theorem dL_isStep_150 : decode cL_isStep 150 = .ok (.iconst 0, 1) := by decide +kernel
theorem dL_isStep_151 : decode cL_isStep 151 = .ok (.goto 53, 3) := by decide +kernel
theorem dL_isStep_154 : decode cL_isStep 154 = .ok (.aload_n 0, 1) := by decide +kernel
theorem dL_isStep_155 : decode cL_isStep 155 = .ok (.iload 10, 2) := by decide +kernel
theorem dL_isStep_157 : decode cL_isStep 157 = .ok (.invokestatic 115, 3) := by decide +kernel
theorem dL_isStep_160 : decode cL_isStep 160 = .ok (.aload_n 1, 1) := by decide +kernel
theorem dL_isStep_161 : decode cL_isStep 161 = .ok (.bipush 7, 2) := by decide +kernel
theorem dL_isStep_163 : decode cL_isStep 163 = .ok (.iload 5, 2) := by decide +kernel
theorem dL_isStep_165 : decode cL_isStep 165 = .ok (.isub, 1) := by decide +kernel
theorem dL_isStep_166 : decode cL_isStep 166 = .ok (.invokestatic 113, 3) := by decide +kernel
theorem dL_isStep_169 : decode cL_isStep 169 = .ok (.if_icmp .ne 34, 3) := by decide +kernel
theorem dL_isStep_172 : decode cL_isStep 172 = .ok (.aload_n 0, 1) := by decide +kernel
theorem dL_isStep_173 : decode cL_isStep 173 = .ok (.iload 7, 2) := by decide +kernel
theorem dL_isStep_175 : decode cL_isStep 175 = .ok (.iload 10, 2) := by decide +kernel
theorem dL_isStep_177 : decode cL_isStep 177 = .ok (.invokestatic 89, 3) := by decide +kernel
theorem dL_isStep_180 : decode cL_isStep 180 = .ok (.iconst 1, 1) := by decide +kernel
theorem dL_isStep_181 : decode cL_isStep 181 = .ok (.if_icmp .ne 22, 3) := by decide +kernel
theorem dL_isStep_184 : decode cL_isStep 184 = .ok (.aload_n 0, 1) := by decide +kernel
theorem dL_isStep_185 : decode cL_isStep 185 = .ok (.invokevirtual 110, 3) := by decide +kernel
theorem dL_isStep_188 : decode cL_isStep 188 = .ok (.iload 9, 2) := by decide +kernel
theorem dL_isStep_190 : decode cL_isStep 190 = .ok (.iload 7, 2) := by decide +kernel
theorem dL_isStep_192 : decode cL_isStep 192 = .ok (.ixor, 1) := by decide +kernel
theorem dL_isStep_193 : decode cL_isStep 193 = .ok (.iload 10, 2) := by decide +kernel
theorem dL_isStep_195 : decode cL_isStep 195 = .ok (.ixor, 1) := by decide +kernel
theorem dL_isStep_196 : decode cL_isStep 196 = .ok (.if_icmp .ne 7, 3) := by decide +kernel
theorem dL_isStep_199 : decode cL_isStep 199 = .ok (.iconst 1, 1) := by decide +kernel
theorem dL_isStep_200 : decode cL_isStep 200 = .ok (.goto 4, 3) := by decide +kernel
theorem dL_isStep_203 : decode cL_isStep 203 = .ok (.iconst 0, 1) := by decide +kernel
theorem dL_isStep_204 : decode cL_isStep 204 = .ok (.ireturn, 1) := by decide +kernel
theorem dL_isStep_205 : decode cL_isStep 205 = .ok (.aload_n 0, 1) := by decide +kernel
theorem dL_isStep_206 : decode cL_isStep 206 = .ok (.iload 5, 2) := by decide +kernel
theorem dL_isStep_208 : decode cL_isStep 208 = .ok (.invokestatic 118, 3) := by decide +kernel
theorem dL_isStep_211 : decode cL_isStep 211 = .ok (.istore 10, 2) := by decide +kernel
theorem dL_isStep_213 : decode cL_isStep 213 = .ok (.aload_n 1, 1) := by decide +kernel
theorem dL_isStep_214 : decode cL_isStep 214 = .ok (.bipush 7, 2) := by decide +kernel
theorem dL_isStep_216 : decode cL_isStep 216 = .ok (.iload 5, 2) := by decide +kernel
theorem dL_isStep_218 : decode cL_isStep 218 = .ok (.isub, 1) := by decide +kernel
theorem dL_isStep_219 : decode cL_isStep 219 = .ok (.invokestatic 118, 3) := by decide +kernel
theorem dL_isStep_222 : decode cL_isStep 222 = .ok (.iload 7, 2) := by decide +kernel
theorem dL_isStep_224 : decode cL_isStep 224 = .ok (.if_icmp .ne 18, 3) := by decide +kernel
theorem dL_isStep_227 : decode cL_isStep 227 = .ok (.aload_n 0, 1) := by decide +kernel
theorem dL_isStep_228 : decode cL_isStep 228 = .ok (.iload 10, 2) := by decide +kernel
theorem dL_isStep_230 : decode cL_isStep 230 = .ok (.invokestatic 115, 3) := by decide +kernel
theorem dL_isStep_233 : decode cL_isStep 233 = .ok (.iload 7, 2) := by decide +kernel
theorem dL_isStep_235 : decode cL_isStep 235 = .ok (.if_icmp .ne 7, 3) := by decide +kernel
theorem dL_isStep_238 : decode cL_isStep 238 = .ok (.iconst 1, 1) := by decide +kernel
theorem dL_isStep_239 : decode cL_isStep 239 = .ok (.goto 4, 3) := by decide +kernel
theorem dL_isStep_242 : decode cL_isStep 242 = .ok (.iconst 0, 1) := by decide +kernel
theorem dL_isStep_243 : decode cL_isStep 243 = .ok (.ireturn, 1) := by decide +kernel
theorem dL_isStep_244 : decode cL_isStep 244 = .ok (.aload_n 0, 1) := by decide +kernel
theorem dL_isStep_245 : decode cL_isStep 245 = .ok (.iload 5, 2) := by decide +kernel
theorem dL_isStep_247 : decode cL_isStep 247 = .ok (.iload 6, 2) := by decide +kernel
theorem dL_isStep_249 : decode cL_isStep 249 = .ok (.invokestatic 120, 3) := by decide +kernel
theorem dL_isStep_252 : decode cL_isStep 252 = .ok (.istore 10, 2) := by decide +kernel
theorem dL_isStep_254 : decode cL_isStep 254 = .ok (.aload_n 1, 1) := by decide +kernel
theorem dL_isStep_255 : decode cL_isStep 255 = .ok (.invokevirtual 122, 3) := by decide +kernel
theorem dL_isStep_258 : decode cL_isStep 258 = .ok (.istore 11, 2) := by decide +kernel
theorem dL_isStep_260 : decode cL_isStep 260 = .ok (.aload_n 0, 1) := by decide +kernel
theorem dL_isStep_261 : decode cL_isStep 261 = .ok (.iload 10, 2) := by decide +kernel
theorem dL_isStep_263 : decode cL_isStep 263 = .ok (.invokestatic 115, 3) := by decide +kernel
theorem dL_isStep_266 : decode cL_isStep 266 = .ok (.aload_n 1, 1) := by decide +kernel
theorem dL_isStep_267 : decode cL_isStep 267 = .ok (.bipush 7, 2) := by decide +kernel
theorem dL_isStep_269 : decode cL_isStep 269 = .ok (.iload 5, 2) := by decide +kernel
theorem dL_isStep_271 : decode cL_isStep 271 = .ok (.isub, 1) := by decide +kernel
theorem dL_isStep_272 : decode cL_isStep 272 = .ok (.bipush 7, 2) := by decide +kernel
theorem dL_isStep_274 : decode cL_isStep 274 = .ok (.iload 6, 2) := by decide +kernel
theorem dL_isStep_276 : decode cL_isStep 276 = .ok (.isub, 1) := by decide +kernel
theorem dL_isStep_277 : decode cL_isStep 277 = .ok (.invokestatic 120, 3) := by decide +kernel
theorem dL_isStep_280 : decode cL_isStep 280 = .ok (.if_icmp .ne 31, 3) := by decide +kernel
theorem dL_isStep_283 : decode cL_isStep 283 = .ok (.iload 10, 2) := by decide +kernel
theorem dL_isStep_285 : decode cL_isStep 285 = .ok (.aload_n 0, 1) := by decide +kernel
theorem dL_isStep_286 : decode cL_isStep 286 = .ok (.iload 7, 2) := by decide +kernel
theorem dL_isStep_288 : decode cL_isStep 288 = .ok (.iload 8, 2) := by decide +kernel
theorem dL_isStep_290 : decode cL_isStep 290 = .ok (.invokestatic 125, 3) := by decide +kernel
theorem dL_isStep_293 : decode cL_isStep 293 = .ok (.if_icmp .ne 18, 3) := by decide +kernel
theorem dL_isStep_296 : decode cL_isStep 296 = .ok (.aload_n 1, 1) := by decide +kernel
theorem dL_isStep_297 : decode cL_isStep 297 = .ok (.invokevirtual 122, 3) := by decide +kernel
theorem dL_isStep_300 : decode cL_isStep 300 = .ok (.iload 11, 2) := by decide +kernel
theorem dL_isStep_302 : decode cL_isStep 302 = .ok (.iconst 1, 1) := by decide +kernel
theorem dL_isStep_303 : decode cL_isStep 303 = .ok (.iadd, 1) := by decide +kernel
theorem dL_isStep_304 : decode cL_isStep 304 = .ok (.if_icmp .ne 7, 3) := by decide +kernel
theorem dL_isStep_307 : decode cL_isStep 307 = .ok (.iconst 1, 1) := by decide +kernel
theorem dL_isStep_308 : decode cL_isStep 308 = .ok (.goto 4, 3) := by decide +kernel
theorem dL_isStep_311 : decode cL_isStep 311 = .ok (.iconst 0, 1) := by decide +kernel
theorem dL_isStep_312 : decode cL_isStep 312 = .ok (.ireturn, 1) := by decide +kernel
theorem dL_isStep_313 : decode cL_isStep 313 = .ok (.aload_n 0, 1) := by decide +kernel
theorem dL_isStep_314 : decode cL_isStep 314 = .ok (.iload 5, 2) := by decide +kernel
theorem dL_isStep_316 : decode cL_isStep 316 = .ok (.iload 6, 2) := by decide +kernel
theorem dL_isStep_318 : decode cL_isStep 318 = .ok (.invokestatic 128, 3) := by decide +kernel
theorem dL_isStep_321 : decode cL_isStep 321 = .ok (.iload 8, 2) := by decide +kernel
theorem dL_isStep_323 : decode cL_isStep 323 = .ok (.if_icmp .ne 39, 3) := by decide +kernel
theorem dL_isStep_326 : decode cL_isStep 326 = .ok (.aload_n 1, 1) := by decide +kernel
theorem dL_isStep_327 : decode cL_isStep 327 = .ok (.bipush 7, 2) := by decide +kernel
theorem dL_isStep_329 : decode cL_isStep 329 = .ok (.iload 5, 2) := by decide +kernel
theorem dL_isStep_331 : decode cL_isStep 331 = .ok (.isub, 1) := by decide +kernel
theorem dL_isStep_332 : decode cL_isStep 332 = .ok (.bipush 7, 2) := by decide +kernel
theorem dL_isStep_334 : decode cL_isStep 334 = .ok (.iload 6, 2) := by decide +kernel
theorem dL_isStep_336 : decode cL_isStep 336 = .ok (.isub, 1) := by decide +kernel
theorem dL_isStep_337 : decode cL_isStep 337 = .ok (.invokestatic 128, 3) := by decide +kernel
theorem dL_isStep_340 : decode cL_isStep 340 = .ok (.aload_n 0, 1) := by decide +kernel
theorem dL_isStep_341 : decode cL_isStep 341 = .ok (.iload 8, 2) := by decide +kernel
theorem dL_isStep_343 : decode cL_isStep 343 = .ok (.invokestatic 115, 3) := by decide +kernel
theorem dL_isStep_346 : decode cL_isStep 346 = .ok (.if_icmp .ne 16, 3) := by decide +kernel
theorem dL_isStep_349 : decode cL_isStep 349 = .ok (.aload_n 0, 1) := by decide +kernel
theorem dL_isStep_350 : decode cL_isStep 350 = .ok (.invokevirtual 110, 3) := by decide +kernel
theorem dL_isStep_353 : decode cL_isStep 353 = .ok (.iload 9, 2) := by decide +kernel
theorem dL_isStep_355 : decode cL_isStep 355 = .ok (.if_icmp .ne 7, 3) := by decide +kernel
theorem dL_isStep_358 : decode cL_isStep 358 = .ok (.iconst 1, 1) := by decide +kernel
theorem dL_isStep_359 : decode cL_isStep 359 = .ok (.goto 4, 3) := by decide +kernel
theorem dL_isStep_362 : decode cL_isStep 362 = .ok (.iconst 0, 1) := by decide +kernel
theorem dL_isStep_363 : decode cL_isStep 363 = .ok (.ireturn, 1) := by decide +kernel
theorem dL_isStep_364 : decode cL_isStep 364 = .ok (.iload 4, 2) := by decide +kernel
theorem dL_isStep_366 : decode cL_isStep 366 = .ok (.iconst 3, 1) := by decide +kernel
theorem dL_isStep_367 : decode cL_isStep 367 = .ok (.iushr, 1) := by decide +kernel
theorem dL_isStep_368 : decode cL_isStep 368 = .ok (.ldc 130, 2) := by decide +kernel
theorem dL_isStep_370 : decode cL_isStep 370 = .ok (.iand, 1) := by decide +kernel
theorem dL_isStep_371 : decode cL_isStep 371 = .ok (.istore 10, 2) := by decide +kernel
theorem dL_isStep_373 : decode cL_isStep 373 = .ok (.aload_n 0, 1) := by decide +kernel
theorem dL_isStep_374 : decode cL_isStep 374 = .ok (.iload 5, 2) := by decide +kernel
theorem dL_isStep_376 : decode cL_isStep 376 = .ok (.bipush 43, 2) := by decide +kernel
theorem dL_isStep_378 : decode cL_isStep 378 = .ok (.iload 10, 2) := by decide +kernel
theorem dL_isStep_380 : decode cL_isStep 380 = .ok (.invokestatic 131, 3) := by decide +kernel
theorem dL_isStep_383 : decode cL_isStep 383 = .ok (.iload 7, 2) := by decide +kernel
theorem dL_isStep_385 : decode cL_isStep 385 = .ok (.iload 10, 2) := by decide +kernel
theorem dL_isStep_387 : decode cL_isStep 387 = .ok (.ixor, 1) := by decide +kernel
theorem dL_isStep_388 : decode cL_isStep 388 = .ok (.if_icmp .ne 36, 3) := by decide +kernel
theorem dL_isStep_391 : decode cL_isStep 391 = .ok (.aload_n 1, 1) := by decide +kernel
theorem dL_isStep_392 : decode cL_isStep 392 = .ok (.bipush 7, 2) := by decide +kernel
theorem dL_isStep_394 : decode cL_isStep 394 = .ok (.iload 5, 2) := by decide +kernel
theorem dL_isStep_396 : decode cL_isStep 396 = .ok (.isub, 1) := by decide +kernel
theorem dL_isStep_397 : decode cL_isStep 397 = .ok (.bipush 43, 2) := by decide +kernel
theorem dL_isStep_399 : decode cL_isStep 399 = .ok (.aload_n 0, 1) := by decide +kernel
theorem dL_isStep_400 : decode cL_isStep 400 = .ok (.iload 10, 2) := by decide +kernel
theorem dL_isStep_402 : decode cL_isStep 402 = .ok (.invokestatic 115, 3) := by decide +kernel
theorem dL_isStep_405 : decode cL_isStep 405 = .ok (.invokestatic 131, 3) := by decide +kernel
theorem dL_isStep_408 : decode cL_isStep 408 = .ok (.aload_n 0, 1) := by decide +kernel
theorem dL_isStep_409 : decode cL_isStep 409 = .ok (.iload 7, 2) := by decide +kernel
theorem dL_isStep_411 : decode cL_isStep 411 = .ok (.iload 10, 2) := by decide +kernel
theorem dL_isStep_413 : decode cL_isStep 413 = .ok (.ixor, 1) := by decide +kernel
theorem dL_isStep_414 : decode cL_isStep 414 = .ok (.invokestatic 115, 3) := by decide +kernel
theorem dL_isStep_417 : decode cL_isStep 417 = .ok (.if_icmp .ne 7, 3) := by decide +kernel
theorem dL_isStep_420 : decode cL_isStep 420 = .ok (.iconst 1, 1) := by decide +kernel
theorem dL_isStep_421 : decode cL_isStep 421 = .ok (.goto 4, 3) := by decide +kernel
theorem dL_isStep_424 : decode cL_isStep 424 = .ok (.iconst 0, 1) := by decide +kernel
theorem dL_isStep_425 : decode cL_isStep 425 = .ok (.ireturn, 1) := by decide +kernel
theorem dL_isStep_426 : decode cL_isStep 426 = .ok (.iload 4, 2) := by decide +kernel
theorem dL_isStep_428 : decode cL_isStep 428 = .ok (.iconst 3, 1) := by decide +kernel
theorem dL_isStep_429 : decode cL_isStep 429 = .ok (.iushr, 1) := by decide +kernel
theorem dL_isStep_430 : decode cL_isStep 430 = .ok (.ldc 130, 2) := by decide +kernel
theorem dL_isStep_432 : decode cL_isStep 432 = .ok (.iand, 1) := by decide +kernel
theorem dL_isStep_433 : decode cL_isStep 433 = .ok (.istore 10, 2) := by decide +kernel
theorem dL_isStep_435 : decode cL_isStep 435 = .ok (.aload_n 0, 1) := by decide +kernel
theorem dL_isStep_436 : decode cL_isStep 436 = .ok (.iload 5, 2) := by decide +kernel
theorem dL_isStep_438 : decode cL_isStep 438 = .ok (.bipush 42, 2) := by decide +kernel
theorem dL_isStep_440 : decode cL_isStep 440 = .ok (.iload 10, 2) := by decide +kernel
theorem dL_isStep_442 : decode cL_isStep 442 = .ok (.invokestatic 131, 3) := by decide +kernel
theorem dL_isStep_445 : decode cL_isStep 445 = .ok (.istore 11, 2) := by decide +kernel
theorem dL_isStep_447 : decode cL_isStep 447 = .ok (.iload 11, 2) := by decide +kernel
theorem dL_isStep_449 : decode cL_isStep 449 = .ok (.aload_n 0, 1) := by decide +kernel
theorem dL_isStep_450 : decode cL_isStep 450 = .ok (.iload 7, 2) := by decide +kernel
theorem dL_isStep_452 : decode cL_isStep 452 = .ok (.iload 10, 2) := by decide +kernel
theorem dL_isStep_454 : decode cL_isStep 454 = .ok (.invokestatic 89, 3) := by decide +kernel
theorem dL_isStep_457 : decode cL_isStep 457 = .ok (.if_icmp .ne 33, 3) := by decide +kernel
theorem dL_isStep_460 : decode cL_isStep 460 = .ok (.aload_n 1, 1) := by decide +kernel
theorem dL_isStep_461 : decode cL_isStep 461 = .ok (.bipush 7, 2) := by decide +kernel
theorem dL_isStep_463 : decode cL_isStep 463 = .ok (.iload 5, 2) := by decide +kernel
theorem dL_isStep_465 : decode cL_isStep 465 = .ok (.isub, 1) := by decide +kernel
theorem dL_isStep_466 : decode cL_isStep 466 = .ok (.bipush 42, 2) := by decide +kernel
theorem dL_isStep_468 : decode cL_isStep 468 = .ok (.aload_n 0, 1) := by decide +kernel
theorem dL_isStep_469 : decode cL_isStep 469 = .ok (.iload 10, 2) := by decide +kernel
theorem dL_isStep_471 : decode cL_isStep 471 = .ok (.invokestatic 115, 3) := by decide +kernel
theorem dL_isStep_474 : decode cL_isStep 474 = .ok (.invokestatic 131, 3) := by decide +kernel
theorem dL_isStep_477 : decode cL_isStep 477 = .ok (.aload_n 0, 1) := by decide +kernel
theorem dL_isStep_478 : decode cL_isStep 478 = .ok (.iload 11, 2) := by decide +kernel
theorem dL_isStep_480 : decode cL_isStep 480 = .ok (.invokestatic 115, 3) := by decide +kernel
theorem dL_isStep_483 : decode cL_isStep 483 = .ok (.if_icmp .ne 7, 3) := by decide +kernel
theorem dL_isStep_486 : decode cL_isStep 486 = .ok (.iconst 1, 1) := by decide +kernel
theorem dL_isStep_487 : decode cL_isStep 487 = .ok (.goto 4, 3) := by decide +kernel
theorem dL_isStep_490 : decode cL_isStep 490 = .ok (.iconst 0, 1) := by decide +kernel
theorem dL_isStep_491 : decode cL_isStep 491 = .ok (.ireturn, 1) := by decide +kernel
theorem dL_isStep_492 : decode cL_isStep 492 = .ok (.iload 4, 2) := by decide +kernel
theorem dL_isStep_494 : decode cL_isStep 494 = .ok (.iconst 3, 1) := by decide +kernel
theorem dL_isStep_495 : decode cL_isStep 495 = .ok (.iushr, 1) := by decide +kernel
theorem dL_isStep_496 : decode cL_isStep 496 = .ok (.ldc 130, 2) := by decide +kernel
theorem dL_isStep_498 : decode cL_isStep 498 = .ok (.iand, 1) := by decide +kernel
theorem dL_isStep_499 : decode cL_isStep 499 = .ok (.istore 10, 2) := by decide +kernel
theorem dL_isStep_501 : decode cL_isStep 501 = .ok (.aload_n 0, 1) := by decide +kernel
theorem dL_isStep_502 : decode cL_isStep 502 = .ok (.iload 5, 2) := by decide +kernel
theorem dL_isStep_504 : decode cL_isStep 504 = .ok (.bipush 94, 2) := by decide +kernel
theorem dL_isStep_506 : decode cL_isStep 506 = .ok (.iload 10, 2) := by decide +kernel
theorem dL_isStep_508 : decode cL_isStep 508 = .ok (.invokestatic 131, 3) := by decide +kernel
theorem dL_isStep_511 : decode cL_isStep 511 = .ok (.istore 11, 2) := by decide +kernel
theorem dL_isStep_513 : decode cL_isStep 513 = .ok (.iload 11, 2) := by decide +kernel
theorem dL_isStep_515 : decode cL_isStep 515 = .ok (.aload_n 0, 1) := by decide +kernel
theorem dL_isStep_516 : decode cL_isStep 516 = .ok (.iload 7, 2) := by decide +kernel
theorem dL_isStep_518 : decode cL_isStep 518 = .ok (.iload 10, 2) := by decide +kernel
theorem dL_isStep_520 : decode cL_isStep 520 = .ok (.invokestatic 135, 3) := by decide +kernel
theorem dL_isStep_523 : decode cL_isStep 523 = .ok (.if_icmp .ne 29, 3) := by decide +kernel
theorem dL_isStep_526 : decode cL_isStep 526 = .ok (.aload_n 1, 1) := by decide +kernel
theorem dL_isStep_527 : decode cL_isStep 527 = .ok (.bipush 7, 2) := by decide +kernel
theorem dL_isStep_529 : decode cL_isStep 529 = .ok (.iload 5, 2) := by decide +kernel
theorem dL_isStep_531 : decode cL_isStep 531 = .ok (.isub, 1) := by decide +kernel
theorem dL_isStep_532 : decode cL_isStep 532 = .ok (.bipush 94, 2) := by decide +kernel
theorem dL_isStep_534 : decode cL_isStep 534 = .ok (.iload 10, 2) := by decide +kernel
theorem dL_isStep_536 : decode cL_isStep 536 = .ok (.invokestatic 131, 3) := by decide +kernel
theorem dL_isStep_539 : decode cL_isStep 539 = .ok (.aload_n 0, 1) := by decide +kernel
theorem dL_isStep_540 : decode cL_isStep 540 = .ok (.iload 11, 2) := by decide +kernel
theorem dL_isStep_542 : decode cL_isStep 542 = .ok (.invokestatic 115, 3) := by decide +kernel
theorem dL_isStep_545 : decode cL_isStep 545 = .ok (.if_icmp .ne 7, 3) := by decide +kernel
theorem dL_isStep_548 : decode cL_isStep 548 = .ok (.iconst 1, 1) := by decide +kernel
theorem dL_isStep_549 : decode cL_isStep 549 = .ok (.goto 4, 3) := by decide +kernel
theorem dL_isStep_552 : decode cL_isStep 552 = .ok (.iconst 0, 1) := by decide +kernel
theorem dL_isStep_553 : decode cL_isStep 553 = .ok (.ireturn, 1) := by decide +kernel
theorem dL_isStep_554 : decode cL_isStep 554 = .ok (.iload 4, 2) := by decide +kernel
theorem dL_isStep_556 : decode cL_isStep 556 = .ok (.iconst 5, 1) := by decide +kernel
theorem dL_isStep_557 : decode cL_isStep 557 = .ok (.invokestatic 104, 3) := by decide +kernel
theorem dL_isStep_560 : decode cL_isStep 560 = .ok (.ifCond .ne 7, 3) := by decide +kernel
theorem dL_isStep_563 : decode cL_isStep 563 = .ok (.iconst 0, 1) := by decide +kernel
theorem dL_isStep_564 : decode cL_isStep 564 = .ok (.goto 10, 3) := by decide +kernel
theorem dL_isStep_567 : decode cL_isStep 567 = .ok (.iload 4, 2) := by decide +kernel
theorem dL_isStep_569 : decode cL_isStep 569 = .ok (.iconst 3, 1) := by decide +kernel
theorem dL_isStep_570 : decode cL_isStep 570 = .ok (.iushr, 1) := by decide +kernel
theorem dL_isStep_571 : decode cL_isStep 571 = .ok (.ldc 130, 2) := by decide +kernel
theorem dL_isStep_573 : decode cL_isStep 573 = .ok (.iand, 1) := by decide +kernel
theorem dL_isStep_574 : decode cL_isStep 574 = .ok (.istore 10, 2) := by decide +kernel
theorem dL_isStep_576 : decode cL_isStep 576 = .ok (.aload_n 0, 1) := by decide +kernel
theorem dL_isStep_577 : decode cL_isStep 577 = .ok (.iload 5, 2) := by decide +kernel
theorem dL_isStep_579 : decode cL_isStep 579 = .ok (.bipush 47, 2) := by decide +kernel
theorem dL_isStep_581 : decode cL_isStep 581 = .ok (.iload 10, 2) := by decide +kernel
theorem dL_isStep_583 : decode cL_isStep 583 = .ok (.invokestatic 131, 3) := by decide +kernel
theorem dL_isStep_586 : decode cL_isStep 586 = .ok (.istore 11, 2) := by decide +kernel
theorem dL_isStep_588 : decode cL_isStep 588 = .ok (.iload 10, 2) := by decide +kernel
theorem dL_isStep_590 : decode cL_isStep 590 = .ok (.ifCond .ne 35, 3) := by decide +kernel
theorem dL_isStep_593 : decode cL_isStep 593 = .ok (.iload 11, 2) := by decide +kernel
theorem dL_isStep_595 : decode cL_isStep 595 = .ok (.ldc 17, 2) := by decide +kernel
theorem dL_isStep_597 : decode cL_isStep 597 = .ok (.if_icmp .ne 24, 3) := by decide +kernel
theorem dL_isStep_600 : decode cL_isStep 600 = .ok (.aload_n 1, 1) := by decide +kernel
theorem dL_isStep_601 : decode cL_isStep 601 = .ok (.bipush 7, 2) := by decide +kernel
theorem dL_isStep_603 : decode cL_isStep 603 = .ok (.iload 5, 2) := by decide +kernel
theorem dL_isStep_605 : decode cL_isStep 605 = .ok (.isub, 1) := by decide +kernel
theorem dL_isStep_606 : decode cL_isStep 606 = .ok (.bipush 47, 2) := by decide +kernel
theorem dL_isStep_608 : decode cL_isStep 608 = .ok (.iconst 0, 1) := by decide +kernel
theorem dL_isStep_609 : decode cL_isStep 609 = .ok (.invokestatic 131, 3) := by decide +kernel
theorem dL_isStep_612 : decode cL_isStep 612 = .ok (.ldc 17, 2) := by decide +kernel
theorem dL_isStep_614 : decode cL_isStep 614 = .ok (.if_icmp .ne 7, 3) := by decide +kernel
theorem dL_isStep_617 : decode cL_isStep 617 = .ok (.iconst 1, 1) := by decide +kernel
theorem dL_isStep_618 : decode cL_isStep 618 = .ok (.goto 51, 3) := by decide +kernel
theorem dL_isStep_621 : decode cL_isStep 621 = .ok (.iconst 0, 1) := by decide +kernel
theorem dL_isStep_622 : decode cL_isStep 622 = .ok (.goto 47, 3) := by decide +kernel
theorem dL_isStep_625 : decode cL_isStep 625 = .ok (.iload 11, 2) := by decide +kernel
theorem dL_isStep_627 : decode cL_isStep 627 = .ok (.aload_n 0, 1) := by decide +kernel
theorem dL_isStep_628 : decode cL_isStep 628 = .ok (.iload 7, 2) := by decide +kernel
theorem dL_isStep_630 : decode cL_isStep 630 = .ok (.iload 10, 2) := by decide +kernel
theorem dL_isStep_632 : decode cL_isStep 632 = .ok (.invokestatic 137, 3) := by decide +kernel
theorem dL_isStep_635 : decode cL_isStep 635 = .ok (.if_icmp .ne 33, 3) := by decide +kernel
theorem dL_isStep_638 : decode cL_isStep 638 = .ok (.aload_n 1, 1) := by decide +kernel
theorem dL_isStep_639 : decode cL_isStep 639 = .ok (.bipush 7, 2) := by decide +kernel
theorem dL_isStep_641 : decode cL_isStep 641 = .ok (.iload 5, 2) := by decide +kernel
theorem dL_isStep_643 : decode cL_isStep 643 = .ok (.isub, 1) := by decide +kernel
theorem dL_isStep_644 : decode cL_isStep 644 = .ok (.bipush 47, 2) := by decide +kernel
theorem dL_isStep_646 : decode cL_isStep 646 = .ok (.aload_n 0, 1) := by decide +kernel
theorem dL_isStep_647 : decode cL_isStep 647 = .ok (.iload 10, 2) := by decide +kernel
theorem dL_isStep_649 : decode cL_isStep 649 = .ok (.invokestatic 115, 3) := by decide +kernel
theorem dL_isStep_652 : decode cL_isStep 652 = .ok (.invokestatic 131, 3) := by decide +kernel
theorem dL_isStep_655 : decode cL_isStep 655 = .ok (.aload_n 0, 1) := by decide +kernel
theorem dL_isStep_656 : decode cL_isStep 656 = .ok (.iload 11, 2) := by decide +kernel
theorem dL_isStep_658 : decode cL_isStep 658 = .ok (.invokestatic 115, 3) := by decide +kernel
theorem dL_isStep_661 : decode cL_isStep 661 = .ok (.if_icmp .ne 7, 3) := by decide +kernel
theorem dL_isStep_664 : decode cL_isStep 664 = .ok (.iconst 1, 1) := by decide +kernel
theorem dL_isStep_665 : decode cL_isStep 665 = .ok (.goto 4, 3) := by decide +kernel
theorem dL_isStep_668 : decode cL_isStep 668 = .ok (.iconst 0, 1) := by decide +kernel
theorem dL_isStep_669 : decode cL_isStep 669 = .ok (.ireturn, 1) := by decide +kernel
theorem dL_isStep_670 : decode cL_isStep 670 = .ok (.iload_n 3, 1) := by decide +kernel
theorem dL_isStep_671 : decode cL_isStep 671 = .ok (.iconst 2, 1) := by decide +kernel
theorem dL_isStep_672 : decode cL_isStep 672 = .ok (.invokestatic 104, 3) := by decide +kernel
theorem dL_isStep_675 : decode cL_isStep 675 = .ok (.ifCond .ne 26, 3) := by decide +kernel
theorem dL_isStep_678 : decode cL_isStep 678 = .ok (.aload_n 0, 1) := by decide +kernel
theorem dL_isStep_679 : decode cL_isStep 679 = .ok (.aload_n 0, 1) := by decide +kernel
theorem dL_isStep_680 : decode cL_isStep 680 = .ok (.invokevirtual 139, 3) := by decide +kernel
theorem dL_isStep_683 : decode cL_isStep 683 = .ok (.invokestatic 115, 3) := by decide +kernel
theorem dL_isStep_686 : decode cL_isStep 686 = .ok (.aload_n 1, 1) := by decide +kernel
theorem dL_isStep_687 : decode cL_isStep 687 = .ok (.invokevirtual 139, 3) := by decide +kernel
theorem dL_isStep_690 : decode cL_isStep 690 = .ok (.if_icmp .ne 7, 3) := by decide +kernel
theorem dL_isStep_693 : decode cL_isStep 693 = .ok (.iconst 1, 1) := by decide +kernel
theorem dL_isStep_694 : decode cL_isStep 694 = .ok (.goto 20, 3) := by decide +kernel
theorem dL_isStep_697 : decode cL_isStep 697 = .ok (.iconst 0, 1) := by decide +kernel
theorem dL_isStep_698 : decode cL_isStep 698 = .ok (.goto 16, 3) := by decide +kernel
theorem dL_isStep_701 : decode cL_isStep 701 = .ok (.aload_n 0, 1) := by decide +kernel
theorem dL_isStep_702 : decode cL_isStep 702 = .ok (.aload_n 1, 1) := by decide +kernel
theorem dL_isStep_703 : decode cL_isStep 703 = .ok (.aload_n 0, 1) := by decide +kernel
theorem dL_isStep_704 : decode cL_isStep 704 = .ok (.invokestatic 142, 3) := by decide +kernel
theorem dL_isStep_707 : decode cL_isStep 707 = .ok (.aload_n 1, 1) := by decide +kernel
theorem dL_isStep_708 : decode cL_isStep 708 = .ok (.invokestatic 142, 3) := by decide +kernel
theorem dL_isStep_711 : decode cL_isStep 711 = .ok (.invokestatic 145, 3) := by decide +kernel
theorem dL_isStep_714 : decode cL_isStep 714 = .ok (.ireturn, 1) := by decide +kernel
theorem dL_isStep_715 : decode cL_isStep 715 = .ok (.aload_n 0, 1) := by decide +kernel
theorem dL_isStep_716 : decode cL_isStep 716 = .ok (.invokestatic 149, 3) := by decide +kernel
theorem dL_isStep_719 : decode cL_isStep 719 = .ok (.aload_n 1, 1) := by decide +kernel
theorem dL_isStep_720 : decode cL_isStep 720 = .ok (.invokestatic 149, 3) := by decide +kernel
theorem dL_isStep_723 : decode cL_isStep 723 = .ok (.if_icmp .ne 7, 3) := by decide +kernel
theorem dL_isStep_726 : decode cL_isStep 726 = .ok (.iconst 1, 1) := by decide +kernel
theorem dL_isStep_727 : decode cL_isStep 727 = .ok (.goto 4, 3) := by decide +kernel
theorem dL_isStep_730 : decode cL_isStep 730 = .ok (.iconst 0, 1) := by decide +kernel
theorem dL_isStep_731 : decode cL_isStep 731 = .ok (.ireturn, 1) := by decide +kernel
theorem dL_isStep_732 : decode cL_isStep 732 = .ok (.iload 4, 2) := by decide +kernel
theorem dL_isStep_734 : decode cL_isStep 734 = .ok (.iconst 2, 1) := by decide +kernel
theorem dL_isStep_735 : decode cL_isStep 735 = .ok (.iushr, 1) := by decide +kernel
theorem dL_isStep_736 : decode cL_isStep 736 = .ok (.ldc 130, 2) := by decide +kernel
theorem dL_isStep_738 : decode cL_isStep 738 = .ok (.iload_n 3, 1) := by decide +kernel
theorem dL_isStep_739 : decode cL_isStep 739 = .ok (.iconst 4, 1) := by decide +kernel
theorem dL_isStep_740 : decode cL_isStep 740 = .ok (.ishr, 1) := by decide +kernel
theorem dL_isStep_741 : decode cL_isStep 741 = .ok (.bipush 16, 2) := by decide +kernel
theorem dL_isStep_743 : decode cL_isStep 743 = .ok (.invokestatic 104, 3) := by decide +kernel
theorem dL_isStep_746 : decode cL_isStep 746 = .ok (.ishr, 1) := by decide +kernel
theorem dL_isStep_747 : decode cL_isStep 747 = .ok (.iand, 1) := by decide +kernel
theorem dL_isStep_748 : decode cL_isStep 748 = .ok (.istore 10, 2) := by decide +kernel
theorem dL_isStep_750 : decode cL_isStep 750 = .ok (.aload_n 0, 1) := by decide +kernel
theorem dL_isStep_751 : decode cL_isStep 751 = .ok (.iload 5, 2) := by decide +kernel
theorem dL_isStep_753 : decode cL_isStep 753 = .ok (.iload 10, 2) := by decide +kernel
theorem dL_isStep_755 : decode cL_isStep 755 = .ok (.invokestatic 151, 3) := by decide +kernel
theorem dL_isStep_758 : decode cL_isStep 758 = .ok (.iload 7, 2) := by decide +kernel
theorem dL_isStep_760 : decode cL_isStep 760 = .ok (.if_icmp .ne 47, 3) := by decide +kernel
theorem dL_isStep_763 : decode cL_isStep 763 = .ok (.aload_n 1, 1) := by decide +kernel
theorem dL_isStep_764 : decode cL_isStep 764 = .ok (.bipush 7, 2) := by decide +kernel
theorem dL_isStep_766 : decode cL_isStep 766 = .ok (.iload 5, 2) := by decide +kernel
theorem dL_isStep_768 : decode cL_isStep 768 = .ok (.isub, 1) := by decide +kernel
theorem dL_isStep_769 : decode cL_isStep 769 = .ok (.iconst 0, 1) := by decide +kernel
theorem dL_isStep_770 : decode cL_isStep 770 = .ok (.aload_n 0, 1) := by decide +kernel
theorem dL_isStep_771 : decode cL_isStep 771 = .ok (.iload 10, 2) := by decide +kernel
theorem dL_isStep_773 : decode cL_isStep 773 = .ok (.invokestatic 115, 3) := by decide +kernel
theorem dL_isStep_776 : decode cL_isStep 776 = .ok (.invokestatic 131, 3) := by decide +kernel
theorem dL_isStep_779 : decode cL_isStep 779 = .ok (.aload_n 0, 1) := by decide +kernel
theorem dL_isStep_780 : decode cL_isStep 780 = .ok (.iload 10, 2) := by decide +kernel
theorem dL_isStep_782 : decode cL_isStep 782 = .ok (.invokestatic 115, 3) := by decide +kernel
theorem dL_isStep_785 : decode cL_isStep 785 = .ok (.if_icmp .ne 22, 3) := by decide +kernel
theorem dL_isStep_788 : decode cL_isStep 788 = .ok (.aload_n 0, 1) := by decide +kernel
theorem dL_isStep_789 : decode cL_isStep 789 = .ok (.invokevirtual 110, 3) := by decide +kernel
theorem dL_isStep_792 : decode cL_isStep 792 = .ok (.iload 9, 2) := by decide +kernel
theorem dL_isStep_794 : decode cL_isStep 794 = .ok (.iload 7, 2) := by decide +kernel
theorem dL_isStep_796 : decode cL_isStep 796 = .ok (.ixor, 1) := by decide +kernel
theorem dL_isStep_797 : decode cL_isStep 797 = .ok (.iload 10, 2) := by decide +kernel
theorem dL_isStep_799 : decode cL_isStep 799 = .ok (.ixor, 1) := by decide +kernel
theorem dL_isStep_800 : decode cL_isStep 800 = .ok (.if_icmp .ne 7, 3) := by decide +kernel
theorem dL_isStep_803 : decode cL_isStep 803 = .ok (.iconst 1, 1) := by decide +kernel
theorem dL_isStep_804 : decode cL_isStep 804 = .ok (.goto 4, 3) := by decide +kernel
theorem dL_isStep_807 : decode cL_isStep 807 = .ok (.iconst 0, 1) := by decide +kernel
theorem dL_isStep_808 : decode cL_isStep 808 = .ok (.ireturn, 1) := by decide +kernel
set_option maxRecDepth 20000 in
theorem ggL_areAlike_X6_products : GoodIn wsL_areAlike wsX6_products := goodIn_r _ [5, 6, 7, 8, 9, 10, 11, 12, 144, 145, 146, 147, 148, 149, 150, 151, 152, 153] (by decide +kernel) (by decide +kernel)
set_option maxRecDepth 20000 in
theorem gL_areAlike_X6_products : GoodIn wsL_areAlike (wsV RL 122 RX6 yX6_products wsX6_products) := goodIn_app (goodIn_of _ (by decide +kernel)) ggL_areAlike_X6_products
set_option maxRecDepth 20000 in
theorem ggL_areAlike_X6_sumOfAll : GoodIn wsL_areAlike wsX6_sumOfAll := goodIn_r _ [16, 6, 17, 18, 19, 10, 20, 21, 144, 145, 146, 147, 148, 149, 150, 151, 152, 153] (by decide +kernel) (by decide +kernel)
set_option maxRecDepth 20000 in
theorem gL_areAlike_X6_sumOfAll : GoodIn wsL_areAlike (wsV RL 110 RX6 yX6_sumOfAll wsX6_sumOfAll) := goodIn_app (goodIn_of _ (by decide +kernel)) ggL_areAlike_X6_sumOfAll
set_option maxRecDepth 20000 in
theorem ggL_areAlike_L_square : GoodIn wsL_areAlike wsL_square := goodIn_ca (goodIn_r _ [25, 26, 27, 24, 28, 29, 30, 31, 32, 33, 4, 34, 35, 36, 37, 38, 39, 40, 41, 42, 43, 44] (by decide +kernel) (by decide +kernel)) (goodIn_sub (fun _ h => List.mem_cons_of_mem _ (List.mem_append_left _ (List.mem_append_right _ h))) (by decide +kernel))
set_option maxRecDepth 20000 in
theorem gL_areAlike_L_square : GoodIn wsL_areAlike (va_wsS RL 115 yL_square wsL_square) := goodIn_app (goodIn_of _ (by decide +kernel)) ggL_areAlike_L_square
set_option maxRecDepth 20000 in
theorem ggL_areAlike_X6_recordedStates : GoodIn wsL_areAlike wsX6_recordedStates := goodIn_r _ [48, 49, 50, 51, 52, 53, 54, 55, 144, 145, 146, 147, 148, 149, 150, 151, 154, 155] (by decide +kernel) (by decide +kernel)
set_option maxRecDepth 20000 in
theorem gL_areAlike_X6_recordedStates : GoodIn wsL_areAlike (wsV RL 153 RX6 yX6_recordedStates wsX6_recordedStates) := goodIn_app (goodIn_of _ (by decide +kernel)) ggL_areAlike_X6_recordedStates
set_option maxRecDepth 20000 in
theorem ggL_areAlike_X6_registerToLessen : GoodIn wsL_areAlike wsX6_registerToLessen := goodIn_r _ [59, 6, 17, 18, 19, 10, 20, 21, 60, 61, 62, 63, 144, 145, 146, 147, 148, 149, 150, 151, 152, 153] (by decide +kernel) (by decide +kernel)
set_option maxRecDepth 20000 in
theorem gL_areAlike_X6_registerToLessen : GoodIn wsL_areAlike (wsV RL 156 RX6 yX6_registerToLessen wsX6_registerToLessen) := goodIn_app (goodIn_of _ (by decide +kernel)) ggL_areAlike_X6_registerToLessen
set_option maxRecDepth 20000 in
theorem ggL_areAlike_L_nimber : GoodIn wsL_areAlike wsL_nimber := goodIn_ca (goodIn_r _ [66, 67, 30, 68, 69, 70, 4, 71, 6, 72, 73, 74, 75, 76, 60, 61, 62, 10, 63, 21, 144, 145, 146, 147, 148, 149, 150, 151, 152, 153] (by decide +kernel) (by decide +kernel)) (goodIn_sub (fun _ h => List.mem_cons_of_mem _ (List.mem_append_right _ h)) (by decide +kernel))
set_option maxRecDepth 20000 in
theorem gL_areAlike_L_nimber : GoodIn wsL_areAlike (va_wsS RL 107 yL_nimber wsL_nimber) := goodIn_app (goodIn_of _ (by decide +kernel)) ggL_areAlike_L_nimber
set_option maxRecDepth 20000 in
theorem ggL_areAlike_L_solve : GoodIn wsL_areAlike wsL_solve := goodIn_ca (goodIn_r _ [79, 29, 30, 80, 81, 82, 4, 83, 35, 84, 36, 37, 38, 39, 40, 85, 86, 87, 42, 88, 89, 90, 91, 92, 93, 144, 145, 146, 147, 148, 149, 150, 151, 156] (by decide +kernel) (by decide +kernel)) (goodIn_sub (fun _ h => List.mem_cons_of_mem _ (List.mem_append_left _ (List.mem_append_right _ h))) (by decide +kernel))
set_option maxRecDepth 20000 in
theorem gL_areAlike_L_solve : GoodIn wsL_areAlike (va_wsS RL 159 yL_solve wsL_solve) := goodIn_app (goodIn_of _ (by decide +kernel)) ggL_areAlike_L_solve
set_option maxRecDepth 20000 in
theorem ggL_areAlike_L_root : GoodIn wsL_areAlike wsL_root := goodIn_ca (goodIn_r _ [96, 29, 30, 97, 98, 99, 4, 100, 35, 84, 36, 37, 38, 39, 40, 101, 102, 103, 42, 104, 89, 90, 91, 92, 93, 144, 145, 146, 147, 148, 149, 150, 151, 156] (by decide +kernel) (by decide +kernel)) (goodIn_sub (fun _ h => List.mem_cons_of_mem _ (List.mem_append_left _ (List.mem_append_right _ h))) (by decide +kernel))
set_option maxRecDepth 20000 in
theorem gL_areAlike_L_root : GoodIn wsL_areAlike (va_wsS RL 161 yL_root wsL_root) := goodIn_app (goodIn_of _ (by decide +kernel)) ggL_areAlike_L_root
set_option maxRecDepth 20000 in
theorem ggL_areAlike_L_field : GoodIn wsL_areAlike wsL_field := goodIn_ca (goodIn_r _ [107, 29, 30, 108, 109, 110, 4, 111, 35, 36, 37, 38, 39, 40] (by decide +kernel) (by decide +kernel)) (goodIn_sub (fun _ h => List.mem_cons_of_mem _ (List.mem_append_left _ (List.mem_append_right _ h))) (by decide +kernel))
set_option maxRecDepth 20000 in
theorem gL_areAlike_L_field : GoodIn wsL_areAlike (va_wsS RL 164 yL_field wsL_field) := goodIn_app (goodIn_of _ (by decide +kernel)) ggL_areAlike_L_field
set_option maxRecDepth 20000 in
theorem ggL_areAlike_L_order : GoodIn wsL_areAlike wsL_order := goodIn_ca (goodIn_r _ [114, 29, 30, 115, 116, 117, 4, 118, 35, 84, 36, 37, 38, 39, 40, 119, 120, 121, 42, 122, 123, 124, 125, 126, 127, 128, 129, 130, 131, 132, 93, 89, 90, 91, 92, 144, 145, 146, 147, 148, 149, 150, 151, 156] (by decide +kernel) (by decide +kernel)) (goodIn_sub (fun _ h => List.mem_cons_of_mem _ (List.mem_append_left _ (List.mem_append_right _ h))) (by decide +kernel))
set_option maxRecDepth 20000 in
theorem gL_areAlike_L_order : GoodIn wsL_areAlike (va_wsS RL 167 yL_order wsL_order) := goodIn_app (goodIn_of _ (by decide +kernel)) ggL_areAlike_L_order
set_option maxRecDepth 20000 in
theorem ggL_areAlike_L_trace : GoodIn wsL_areAlike wsL_trace := goodIn_ca (goodIn_r _ [135, 29, 30, 136, 137, 138, 4, 139, 35, 84, 36, 37, 38, 39, 40, 140, 141, 142, 42, 143, 89, 90, 91, 92, 93, 144, 145, 146, 147, 148, 149, 150, 151, 156] (by decide +kernel) (by decide +kernel)) (goodIn_sub (fun _ h => List.mem_cons_of_mem _ (List.mem_append_left _ (List.mem_append_right _ h))) (by decide +kernel))
set_option maxRecDepth 20000 in
theorem gL_areAlike_L_trace : GoodIn wsL_areAlike (va_wsS RL 170 yL_trace wsL_trace) := goodIn_app (goodIn_of _ (by decide +kernel)) ggL_areAlike_L_trace
theorem dL_areAlike_0 : decode cL_areAlike 0 = .ok (.aload_n 0, 1) := by decide +kernel
theorem dL_areAlike_1 : decode cL_areAlike 1 = .ok (.invokevirtual 122, 3) := by decide +kernel
theorem dL_areAlike_4 : decode cL_areAlike 4 = .ok (.aload_n 1, 1) := by decide +kernel
theorem dL_areAlike_5 : decode cL_areAlike 5 = .ok (.invokevirtual 122, 3) := by decide +kernel
theorem dL_areAlike_8 : decode cL_areAlike 8 = .ok (.if_icmp .ne 60, 3) := by decide +kernel
theorem dL_areAlike_11 : decode cL_areAlike 11 = .ok (.aload_n 0, 1) := by decide +kernel
theorem dL_areAlike_12 : decode cL_areAlike 12 = .ok (.aload_n 0, 1) := by decide +kernel
theorem dL_areAlike_13 : decode cL_areAlike 13 = .ok (.invokevirtual 110, 3) := by decide +kernel
theorem dL_areAlike_16 : decode cL_areAlike 16 = .ok (.invokestatic 115, 3) := by decide +kernel
theorem dL_areAlike_19 : decode cL_areAlike 19 = .ok (.aload_n 1, 1) := by decide +kernel
theorem dL_areAlike_20 : decode cL_areAlike 20 = .ok (.invokevirtual 110, 3) := by decide +kernel
theorem dL_areAlike_23 : decode cL_areAlike 23 = .ok (.if_icmp .ne 45, 3) := by decide +kernel
theorem dL_areAlike_26 : decode cL_areAlike 26 = .ok (.aload_n 0, 1) := by decide +kernel
theorem dL_areAlike_27 : decode cL_areAlike 27 = .ok (.invokevirtual 153, 3) := by decide +kernel
theorem dL_areAlike_30 : decode cL_areAlike 30 = .ok (.aload_n 1, 1) := by decide +kernel
theorem dL_areAlike_31 : decode cL_areAlike 31 = .ok (.invokevirtual 153, 3) := by decide +kernel
theorem dL_areAlike_34 : decode cL_areAlike 34 = .ok (.if_icmp .ne 34, 3) := by decide +kernel
theorem dL_areAlike_37 : decode cL_areAlike 37 = .ok (.aload_n 0, 1) := by decide +kernel
theorem dL_areAlike_38 : decode cL_areAlike 38 = .ok (.invokevirtual 156, 3) := by decide +kernel
theorem dL_areAlike_41 : decode cL_areAlike 41 = .ok (.ifCond .ge 7, 3) := by decide +kernel
theorem dL_areAlike_44 : decode cL_areAlike 44 = .ok (.iconst 1, 1) := by decide +kernel
theorem dL_areAlike_45 : decode cL_areAlike 45 = .ok (.goto 4, 3) := by decide +kernel
theorem dL_areAlike_48 : decode cL_areAlike 48 = .ok (.iconst 0, 1) := by decide +kernel
theorem dL_areAlike_49 : decode cL_areAlike 49 = .ok (.aload_n 1, 1) := by decide +kernel
theorem dL_areAlike_50 : decode cL_areAlike 50 = .ok (.invokevirtual 156, 3) := by decide +kernel
theorem dL_areAlike_53 : decode cL_areAlike 53 = .ok (.ifCond .ge 7, 3) := by decide +kernel
theorem dL_areAlike_56 : decode cL_areAlike 56 = .ok (.iconst 1, 1) := by decide +kernel
theorem dL_areAlike_57 : decode cL_areAlike 57 = .ok (.goto 4, 3) := by decide +kernel
theorem dL_areAlike_60 : decode cL_areAlike 60 = .ok (.iconst 0, 1) := by decide +kernel
theorem dL_areAlike_61 : decode cL_areAlike 61 = .ok (.if_icmp .ne 7, 3) := by decide +kernel
theorem dL_areAlike_64 : decode cL_areAlike 64 = .ok (.iconst 1, 1) := by decide +kernel
theorem dL_areAlike_65 : decode cL_areAlike 65 = .ok (.goto 4, 3) := by decide +kernel
theorem dL_areAlike_68 : decode cL_areAlike 68 = .ok (.iconst 0, 1) := by decide +kernel
theorem dL_areAlike_69 : decode cL_areAlike 69 = .ok (.istore_n 2, 1) := by decide +kernel
theorem dL_areAlike_70 : decode cL_areAlike 70 = .ok (.iconst 0, 1) := by decide +kernel
theorem dL_areAlike_71 : decode cL_areAlike 71 = .ok (.istore_n 3, 1) := by decide +kernel
theorem dL_areAlike_72 : decode cL_areAlike 72 = .ok (.iload_n 3, 1) := by decide +kernel
theorem dL_areAlike_73 : decode cL_areAlike 73 = .ok (.bipush 8, 2) := by decide +kernel
theorem dL_areAlike_75 : decode cL_areAlike 75 = .ok (.if_icmp .ge 147, 3) := by decide +kernel
theorem dL_areAlike_78 : decode cL_areAlike 78 = .ok (.aload_n 0, 1) := by decide +kernel
theorem dL_areAlike_79 : decode cL_areAlike 79 = .ok (.iload_n 3, 1) := by decide +kernel
theorem dL_areAlike_80 : decode cL_areAlike 80 = .ok (.invokestatic 107, 3) := by decide +kernel
theorem dL_areAlike_83 : decode cL_areAlike 83 = .ok (.istore 4, 2) := by decide +kernel
theorem dL_areAlike_85 : decode cL_areAlike 85 = .ok (.aload_n 1, 1) := by decide +kernel
theorem dL_areAlike_86 : decode cL_areAlike 86 = .ok (.bipush 7, 2) := by decide +kernel
theorem dL_areAlike_88 : decode cL_areAlike 88 = .ok (.iload_n 3, 1) := by decide +kernel
theorem dL_areAlike_89 : decode cL_areAlike 89 = .ok (.isub, 1) := by decide +kernel
theorem dL_areAlike_90 : decode cL_areAlike 90 = .ok (.invokestatic 107, 3) := by decide +kernel
theorem dL_areAlike_93 : decode cL_areAlike 93 = .ok (.istore 5, 2) := by decide +kernel
theorem dL_areAlike_95 : decode cL_areAlike 95 = .ok (.aload_n 0, 1) := by decide +kernel
theorem dL_areAlike_96 : decode cL_areAlike 96 = .ok (.iload 4, 2) := by decide +kernel
theorem dL_areAlike_98 : decode cL_areAlike 98 = .ok (.invokestatic 159, 3) := by decide +kernel
theorem dL_areAlike_101 : decode cL_areAlike 101 = .ok (.istore 6, 2) := by decide +kernel
theorem dL_areAlike_103 : decode cL_areAlike 103 = .ok (.iload_n 2, 1) := by decide +kernel
theorem dL_areAlike_104 : decode cL_areAlike 104 = .ok (.ifCond .eq 110, 3) := by decide +kernel
theorem dL_areAlike_107 : decode cL_areAlike 107 = .ok (.aload_n 0, 1) := by decide +kernel
theorem dL_areAlike_108 : decode cL_areAlike 108 = .ok (.iload 4, 2) := by decide +kernel
theorem dL_areAlike_110 : decode cL_areAlike 110 = .ok (.invokestatic 115, 3) := by decide +kernel
theorem dL_areAlike_113 : decode cL_areAlike 113 = .ok (.iload 5, 2) := by decide +kernel
theorem dL_areAlike_115 : decode cL_areAlike 115 = .ok (.if_icmp .ne 99, 3) := by decide +kernel
theorem dL_areAlike_118 : decode cL_areAlike 118 = .ok (.aload_n 1, 1) := by decide +kernel
theorem dL_areAlike_119 : decode cL_areAlike 119 = .ok (.iload 5, 2) := by decide +kernel
theorem dL_areAlike_121 : decode cL_areAlike 121 = .ok (.invokestatic 161, 3) := by decide +kernel
theorem dL_areAlike_124 : decode cL_areAlike 124 = .ok (.iload 4, 2) := by decide +kernel
theorem dL_areAlike_126 : decode cL_areAlike 126 = .ok (.if_icmp .ne 88, 3) := by decide +kernel
theorem dL_areAlike_129 : decode cL_areAlike 129 = .ok (.aload_n 0, 1) := by decide +kernel
theorem dL_areAlike_130 : decode cL_areAlike 130 = .ok (.iload 4, 2) := by decide +kernel
theorem dL_areAlike_132 : decode cL_areAlike 132 = .ok (.invokestatic 164, 3) := by decide +kernel
theorem dL_areAlike_135 : decode cL_areAlike 135 = .ok (.aload_n 1, 1) := by decide +kernel
theorem dL_areAlike_136 : decode cL_areAlike 136 = .ok (.iload 5, 2) := by decide +kernel
theorem dL_areAlike_138 : decode cL_areAlike 138 = .ok (.invokestatic 164, 3) := by decide +kernel
theorem dL_areAlike_141 : decode cL_areAlike 141 = .ok (.if_icmp .ne 73, 3) := by decide +kernel
theorem dL_areAlike_144 : decode cL_areAlike 144 = .ok (.aload_n 0, 1) := by decide +kernel
theorem dL_areAlike_145 : decode cL_areAlike 145 = .ok (.iload 4, 2) := by decide +kernel
theorem dL_areAlike_147 : decode cL_areAlike 147 = .ok (.invokestatic 167, 3) := by decide +kernel
theorem dL_areAlike_150 : decode cL_areAlike 150 = .ok (.aload_n 1, 1) := by decide +kernel
theorem dL_areAlike_151 : decode cL_areAlike 151 = .ok (.iload 5, 2) := by decide +kernel
theorem dL_areAlike_153 : decode cL_areAlike 153 = .ok (.invokestatic 167, 3) := by decide +kernel
theorem dL_areAlike_156 : decode cL_areAlike 156 = .ok (.if_icmp .ne 58, 3) := by decide +kernel
theorem dL_areAlike_159 : decode cL_areAlike 159 = .ok (.aload_n 0, 1) := by decide +kernel
theorem dL_areAlike_160 : decode cL_areAlike 160 = .ok (.iload 4, 2) := by decide +kernel
theorem dL_areAlike_162 : decode cL_areAlike 162 = .ok (.invokestatic 170, 3) := by decide +kernel
theorem dL_areAlike_165 : decode cL_areAlike 165 = .ok (.aload_n 1, 1) := by decide +kernel
theorem dL_areAlike_166 : decode cL_areAlike 166 = .ok (.iload 5, 2) := by decide +kernel
theorem dL_areAlike_168 : decode cL_areAlike 168 = .ok (.invokestatic 170, 3) := by decide +kernel
theorem dL_areAlike_171 : decode cL_areAlike 171 = .ok (.if_icmp .ne 43, 3) := by decide +kernel
theorem dL_areAlike_174 : decode cL_areAlike 174 = .ok (.iload 6, 2) := by decide +kernel
theorem dL_areAlike_176 : decode cL_areAlike 176 = .ok (.ifCond .ge 15, 3) := by decide +kernel
theorem dL_areAlike_179 : decode cL_areAlike 179 = .ok (.aload_n 1, 1) := by decide +kernel
theorem dL_areAlike_180 : decode cL_areAlike 180 = .ok (.iload 5, 2) := by decide +kernel
theorem dL_areAlike_182 : decode cL_areAlike 182 = .ok (.invokestatic 159, 3) := by decide +kernel
theorem dL_areAlike_185 : decode cL_areAlike 185 = .ok (.ifCond .ge 29, 3) := by decide +kernel
theorem dL_areAlike_188 : decode cL_areAlike 188 = .ok (.goto 22, 3) := by decide +kernel
theorem dL_areAlike_191 : decode cL_areAlike 191 = .ok (.aload_n 1, 1) := by decide +kernel
theorem dL_areAlike_192 : decode cL_areAlike 192 = .ok (.iload 5, 2) := by decide +kernel
theorem dL_areAlike_194 : decode cL_areAlike 194 = .ok (.invokestatic 159, 3) := by decide +kernel
theorem dL_areAlike_197 : decode cL_areAlike 197 = .ok (.iconst 1, 1) := by decide +kernel
theorem dL_areAlike_198 : decode cL_areAlike 198 = .ok (.ior, 1) := by decide +kernel
theorem dL_areAlike_199 : decode cL_areAlike 199 = .ok (.aload_n 0, 1) := by decide +kernel
theorem dL_areAlike_200 : decode cL_areAlike 200 = .ok (.iload 6, 2) := by decide +kernel
theorem dL_areAlike_202 : decode cL_areAlike 202 = .ok (.invokestatic 115, 3) := by decide +kernel
theorem dL_areAlike_205 : decode cL_areAlike 205 = .ok (.iconst 1, 1) := by decide +kernel
theorem dL_areAlike_206 : decode cL_areAlike 206 = .ok (.ior, 1) := by decide +kernel
theorem dL_areAlike_207 : decode cL_areAlike 207 = .ok (.if_icmp .ne 7, 3) := by decide +kernel
theorem dL_areAlike_210 : decode cL_areAlike 210 = .ok (.iconst 1, 1) := by decide +kernel
theorem dL_areAlike_211 : decode cL_areAlike 211 = .ok (.goto 4, 3) := by decide +kernel
theorem dL_areAlike_214 : decode cL_areAlike 214 = .ok (.iconst 0, 1) := by decide +kernel
theorem dL_areAlike_215 : decode cL_areAlike 215 = .ok (.istore_n 2, 1) := by decide +kernel
theorem dL_areAlike_216 : decode cL_areAlike 216 = .ok (.iinc 3 1, 3) := by decide +kernel
theorem dL_areAlike_219 : decode cL_areAlike 219 = .ok (.goto (-147), 3) := by decide +kernel
theorem dL_areAlike_222 : decode cL_areAlike 222 = .ok (.iload_n 2, 1) := by decide +kernel
theorem dL_areAlike_223 : decode cL_areAlike 223 = .ok (.ireturn, 1) := by decide +kernel
set_option maxRecDepth 20000 in
theorem ggL_isWell_L_nimber : GoodIn wsL_isWell wsL_nimber := goodIn_ca (goodIn_r _ [6, 7, 8, 9, 10, 11, 12, 13, 14, 15, 16, 17, 18, 19, 20, 21, 22, 23, 24, 25, 130, 131, 132, 133, 134, 135, 136, 137, 138, 139] (by decide +kernel) (by decide +kernel)) (goodIn_sub (fun _ h => List.mem_cons_of_mem _ (List.mem_append_left _ (List.mem_append_right _ h))) (by decide +kernel))
set_option maxRecDepth 20000 in
theorem gL_isWell_L_nimber : GoodIn wsL_isWell (va_wsS RL 107 yL_nimber wsL_nimber) := goodIn_app (goodIn_of _ (by decide +kernel)) ggL_isWell_L_nimber
set_option maxRecDepth 20000 in
theorem ggL_isWell_L_root : GoodIn wsL_isWell wsL_root := goodIn_ca (goodIn_r _ [28, 29, 8, 30, 31, 32, 12, 33, 34, 35, 36, 37, 38, 39, 40, 41, 42, 43, 44, 45, 46, 47, 48, 49, 50, 130, 131, 132, 133, 134, 135, 136, 137, 140] (by decide +kernel) (by decide +kernel)) (goodIn_sub (fun _ h => List.mem_cons_of_mem _ (List.mem_append_right _ h)) (by decide +kernel))
set_option maxRecDepth 20000 in
theorem gL_isWell_L_root : GoodIn wsL_isWell (va_wsS RL 161 yL_root wsL_root) := goodIn_app (goodIn_of _ (by decide +kernel)) ggL_isWell_L_root
set_option maxRecDepth 20000 in
theorem ggL_isWell_L_square : GoodIn wsL_isWell wsL_square := goodIn_ca (goodIn_r _ [53, 54, 55, 5, 56, 29, 8, 57, 58, 59, 12, 60, 34, 36, 37, 38, 39, 40, 61, 44, 62, 63] (by decide +kernel) (by decide +kernel)) (goodIn_sub (fun _ h => List.mem_cons_of_mem _ (List.mem_append_right _ h)) (by decide +kernel))
set_option maxRecDepth 20000 in
theorem gL_isWell_L_square : GoodIn wsL_isWell (va_wsS RL 115 yL_square wsL_square) := goodIn_app (goodIn_of _ (by decide +kernel)) ggL_isWell_L_square
set_option maxRecDepth 20000 in
theorem ggL_isWell_L_order : GoodIn wsL_isWell wsL_order := goodIn_ca (goodIn_r _ [66, 29, 8, 67, 68, 69, 12, 70, 34, 35, 36, 37, 38, 39, 40, 71, 72, 73, 44, 74, 75, 76, 77, 78, 79, 80, 81, 82, 83, 84, 50, 46, 47, 48, 49, 130, 131, 132, 133, 134, 135, 136, 137, 140] (by decide +kernel) (by decide +kernel)) (goodIn_sub (fun _ h => List.mem_cons_of_mem _ (List.mem_append_right _ h)) (by decide +kernel))
set_option maxRecDepth 20000 in
theorem gL_isWell_L_order : GoodIn wsL_isWell (va_wsS RL 167 yL_order wsL_order) := goodIn_app (goodIn_of _ (by decide +kernel)) ggL_isWell_L_order
set_option maxRecDepth 20000 in
theorem ggL_isWell_L_quotient : GoodIn wsL_isWell wsL_quotient := goodIn_ca (goodIn_r _ [87, 29, 8, 88, 89, 90, 12, 91, 34, 35, 36, 37, 38, 39, 40, 92, 93, 94, 44, 95, 46, 47, 48, 49, 50, 81, 82, 83, 84, 130, 131, 132, 133, 134, 135, 136, 137, 140] (by decide +kernel) (by decide +kernel)) (goodIn_sub (fun _ h => List.mem_cons_of_mem _ (List.mem_append_right _ h)) (by decide +kernel))
set_option maxRecDepth 20000 in
theorem gL_isWell_L_quotient : GoodIn wsL_isWell (va_wsS RL 137 yL_quotient wsL_quotient) := goodIn_app (goodIn_of _ (by decide +kernel)) ggL_isWell_L_quotient
set_option maxRecDepth 20000 in
theorem ggL_isWell_L_halves : GoodIn wsL_isWell wsL_halves := goodIn_ca (goodIn_r _ [56, 29, 8, 57, 58, 59, 12, 60, 34, 36, 37, 38, 39, 40, 61, 44, 62, 63] (by decide +kernel) (by decide +kernel)) (goodIn_sub (fun _ h => List.mem_cons_of_mem _ (List.mem_append_right _ h)) (by decide +kernel))
set_option maxRecDepth 20000 in
theorem gL_isWell_L_halves : GoodIn wsL_isWell (va_wsS RL 89 yL_halves wsL_halves) := goodIn_app (goodIn_of _ (by decide +kernel)) ggL_isWell_L_halves
set_option maxRecDepth 20000 in
theorem ggL_isWell_L_trace : GoodIn wsL_isWell wsL_trace := goodIn_ca (goodIn_r _ [98, 29, 8, 99, 100, 101, 12, 102, 34, 35, 36, 37, 38, 39, 40, 103, 104, 105, 44, 106, 46, 47, 48, 49, 50, 130, 131, 132, 133, 134, 135, 136, 137, 140] (by decide +kernel) (by decide +kernel)) (goodIn_sub (fun _ h => List.mem_cons_of_mem _ (List.mem_append_right _ h)) (by decide +kernel))
set_option maxRecDepth 20000 in
theorem gL_isWell_L_trace : GoodIn wsL_isWell (va_wsS RL 170 yL_trace wsL_trace) := goodIn_app (goodIn_of _ (by decide +kernel)) ggL_isWell_L_trace
set_option maxRecDepth 20000 in
theorem ggL_isWell_L_solve : GoodIn wsL_isWell wsL_solve := goodIn_ca (goodIn_r _ [109, 29, 8, 110, 111, 112, 12, 113, 34, 35, 36, 37, 38, 39, 40, 114, 115, 116, 44, 117, 46, 47, 48, 49, 50, 130, 131, 132, 133, 134, 135, 136, 137, 140] (by decide +kernel) (by decide +kernel)) (goodIn_sub (fun _ h => List.mem_cons_of_mem _ (List.mem_append_right _ h)) (by decide +kernel))
set_option maxRecDepth 20000 in
theorem gL_isWell_L_solve : GoodIn wsL_isWell (va_wsS RL 159 yL_solve wsL_solve) := goodIn_app (goodIn_of _ (by decide +kernel)) ggL_isWell_L_solve
set_option maxRecDepth 20000 in
theorem ggL_isWell_X6_registerToLessen : GoodIn wsL_isWell wsX6_registerToLessen := goodIn_r _ [121, 14, 122, 123, 124, 23, 125, 25, 20, 21, 22, 24, 130, 131, 132, 133, 134, 135, 136, 137, 138, 139] (by decide +kernel) (by decide +kernel)
set_option maxRecDepth 20000 in
theorem gL_isWell_X6_registerToLessen : GoodIn wsL_isWell (wsV RL 156 RX6 yX6_registerToLessen wsX6_registerToLessen) := goodIn_app (goodIn_of _ (by decide +kernel)) ggL_isWell_X6_registerToLessen
set_option maxRecDepth 20000 in
theorem ggL_isWell_X6_sumOfAll : GoodIn wsL_isWell wsX6_sumOfAll := goodIn_r _ [129, 14, 122, 123, 124, 23, 125, 25, 130, 131, 132, 133, 134, 135, 136, 137, 138, 139] (by decide +kernel) (by decide +kernel)
set_option maxRecDepth 20000 in
theorem gL_isWell_X6_sumOfAll : GoodIn wsL_isWell (wsV RL 110 RX6 yX6_sumOfAll wsX6_sumOfAll) := goodIn_app (goodIn_of _ (by decide +kernel)) ggL_isWell_X6_sumOfAll
theorem dL_isWell_0 : decode cL_isWell 0 = .ok (.iconst 0, 1) := by decide +kernel
theorem dL_isWell_1 : decode cL_isWell 1 = .ok (.istore_n 1, 1) := by decide +kernel
theorem dL_isWell_2 : decode cL_isWell 2 = .ok (.iconst 1, 1) := by decide +kernel
theorem dL_isWell_3 : decode cL_isWell 3 = .ok (.istore_n 2, 1) := by decide +kernel
theorem dL_isWell_4 : decode cL_isWell 4 = .ok (.iconst 0, 1) := by decide +kernel
theorem dL_isWell_5 : decode cL_isWell 5 = .ok (.istore_n 3, 1) := by decide +kernel
theorem dL_isWell_6 : decode cL_isWell 6 = .ok (.iload_n 3, 1) := by decide +kernel
theorem dL_isWell_7 : decode cL_isWell 7 = .ok (.bipush 8, 2) := by decide +kernel
theorem dL_isWell_9 : decode cL_isWell 9 = .ok (.if_icmp .ge 123, 3) := by decide +kernel
theorem dL_isWell_12 : decode cL_isWell 12 = .ok (.aload_n 0, 1) := by decide +kernel
theorem dL_isWell_13 : decode cL_isWell 13 = .ok (.iload_n 3, 1) := by decide +kernel
theorem dL_isWell_14 : decode cL_isWell 14 = .ok (.invokestatic 107, 3) := by decide +kernel
theorem dL_isWell_17 : decode cL_isWell 17 = .ok (.istore 4, 2) := by decide +kernel
theorem dL_isWell_19 : decode cL_isWell 19 = .ok (.iload_n 1, 1) := by decide +kernel
theorem dL_isWell_20 : decode cL_isWell 20 = .ok (.iload 4, 2) := by decide +kernel
theorem dL_isWell_22 : decode cL_isWell 22 = .ok (.ixor, 1) := by decide +kernel
theorem dL_isWell_23 : decode cL_isWell 23 = .ok (.istore_n 1, 1) := by decide +kernel
theorem dL_isWell_24 : decode cL_isWell 24 = .ok (.iload_n 2, 1) := by decide +kernel
theorem dL_isWell_25 : decode cL_isWell 25 = .ok (.ifCond .eq 99, 3) := by decide +kernel
theorem dL_isWell_28 : decode cL_isWell 28 = .ok (.iload 4, 2) := by decide +kernel
theorem dL_isWell_30 : decode cL_isWell 30 = .ok (.ifCond .lt 94, 3) := by decide +kernel
theorem dL_isWell_33 : decode cL_isWell 33 = .ok (.iload 4, 2) := by decide +kernel
theorem dL_isWell_35 : decode cL_isWell 35 = .ok (.ldc 173, 2) := by decide +kernel
theorem dL_isWell_37 : decode cL_isWell 37 = .ok (.if_icmp .ge 87, 3) := by decide +kernel
theorem dL_isWell_40 : decode cL_isWell 40 = .ok (.aload_n 0, 1) := by decide +kernel
theorem dL_isWell_41 : decode cL_isWell 41 = .ok (.aload_n 0, 1) := by decide +kernel
theorem dL_isWell_42 : decode cL_isWell 42 = .ok (.iload 4, 2) := by decide +kernel
theorem dL_isWell_44 : decode cL_isWell 44 = .ok (.invokestatic 161, 3) := by decide +kernel
theorem dL_isWell_47 : decode cL_isWell 47 = .ok (.invokestatic 115, 3) := by decide +kernel
theorem dL_isWell_50 : decode cL_isWell 50 = .ok (.iload 4, 2) := by decide +kernel
theorem dL_isWell_52 : decode cL_isWell 52 = .ok (.if_icmp .ne 72, 3) := by decide +kernel
theorem dL_isWell_55 : decode cL_isWell 55 = .ok (.iload 4, 2) := by decide +kernel
theorem dL_isWell_57 : decode cL_isWell 57 = .ok (.ifCond .eq 32, 3) := by decide +kernel
theorem dL_isWell_60 : decode cL_isWell 60 = .ok (.ldc 130, 2) := by decide +kernel
theorem dL_isWell_62 : decode cL_isWell 62 = .ok (.aload_n 0, 1) := by decide +kernel
theorem dL_isWell_63 : decode cL_isWell 63 = .ok (.iload 4, 2) := by decide +kernel
theorem dL_isWell_65 : decode cL_isWell 65 = .ok (.invokestatic 167, 3) := by decide +kernel
theorem dL_isWell_68 : decode cL_isWell 68 = .ok (.irem, 1) := by decide +kernel
theorem dL_isWell_69 : decode cL_isWell 69 = .ok (.ifCond .ne 55, 3) := by decide +kernel
theorem dL_isWell_72 : decode cL_isWell 72 = .ok (.aload_n 0, 1) := by decide +kernel
theorem dL_isWell_73 : decode cL_isWell 73 = .ok (.iload 4, 2) := by decide +kernel
theorem dL_isWell_75 : decode cL_isWell 75 = .ok (.aload_n 0, 1) := by decide +kernel
theorem dL_isWell_76 : decode cL_isWell 76 = .ok (.iconst 1, 1) := by decide +kernel
theorem dL_isWell_77 : decode cL_isWell 77 = .ok (.iload 4, 2) := by decide +kernel
theorem dL_isWell_79 : decode cL_isWell 79 = .ok (.invokestatic 137, 3) := by decide +kernel
theorem dL_isWell_82 : decode cL_isWell 82 = .ok (.invokestatic 89, 3) := by decide +kernel
theorem dL_isWell_85 : decode cL_isWell 85 = .ok (.iconst 1, 1) := by decide +kernel
theorem dL_isWell_86 : decode cL_isWell 86 = .ok (.if_icmp .ne 38, 3) := by decide +kernel
theorem dL_isWell_89 : decode cL_isWell 89 = .ok (.aload_n 0, 1) := by decide +kernel
theorem dL_isWell_90 : decode cL_isWell 90 = .ok (.iload 4, 2) := by decide +kernel
theorem dL_isWell_92 : decode cL_isWell 92 = .ok (.invokestatic 170, 3) := by decide +kernel
theorem dL_isWell_95 : decode cL_isWell 95 = .ok (.ifCond .ne 7, 3) := by decide +kernel
theorem dL_isWell_98 : decode cL_isWell 98 = .ok (.iconst 1, 1) := by decide +kernel
theorem dL_isWell_99 : decode cL_isWell 99 = .ok (.goto 4, 3) := by decide +kernel
theorem dL_isWell_102 : decode cL_isWell 102 = .ok (.iconst 0, 1) := by decide +kernel
theorem dL_isWell_103 : decode cL_isWell 103 = .ok (.aload_n 0, 1) := by decide +kernel
theorem dL_isWell_104 : decode cL_isWell 104 = .ok (.iload 4, 2) := by decide +kernel
theorem dL_isWell_106 : decode cL_isWell 106 = .ok (.invokestatic 159, 3) := by decide +kernel
theorem dL_isWell_109 : decode cL_isWell 109 = .ok (.ifCond .lt 7, 3) := by decide +kernel
theorem dL_isWell_112 : decode cL_isWell 112 = .ok (.iconst 1, 1) := by decide +kernel
theorem dL_isWell_113 : decode cL_isWell 113 = .ok (.goto 4, 3) := by decide +kernel
theorem dL_isWell_116 : decode cL_isWell 116 = .ok (.iconst 0, 1) := by decide +kernel
theorem dL_isWell_117 : decode cL_isWell 117 = .ok (.if_icmp .ne 7, 3) := by decide +kernel
theorem dL_isWell_120 : decode cL_isWell 120 = .ok (.iconst 1, 1) := by decide +kernel
theorem dL_isWell_121 : decode cL_isWell 121 = .ok (.goto 4, 3) := by decide +kernel
theorem dL_isWell_124 : decode cL_isWell 124 = .ok (.iconst 0, 1) := by decide +kernel
theorem dL_isWell_125 : decode cL_isWell 125 = .ok (.istore_n 2, 1) := by decide +kernel
theorem dL_isWell_126 : decode cL_isWell 126 = .ok (.iinc 3 1, 3) := by decide +kernel
theorem dL_isWell_129 : decode cL_isWell 129 = .ok (.goto (-123), 3) := by decide +kernel
theorem dL_isWell_132 : decode cL_isWell 132 = .ok (.aload_n 0, 1) := by decide +kernel
theorem dL_isWell_133 : decode cL_isWell 133 = .ok (.invokevirtual 156, 3) := by decide +kernel
theorem dL_isWell_136 : decode cL_isWell 136 = .ok (.istore_n 3, 1) := by decide +kernel
theorem dL_isWell_137 : decode cL_isWell 137 = .ok (.iload_n 2, 1) := by decide +kernel
theorem dL_isWell_138 : decode cL_isWell 138 = .ok (.ifCond .eq 55, 3) := by decide +kernel
theorem dL_isWell_141 : decode cL_isWell 141 = .ok (.iload_n 1, 1) := by decide +kernel
theorem dL_isWell_142 : decode cL_isWell 142 = .ok (.aload_n 0, 1) := by decide +kernel
theorem dL_isWell_143 : decode cL_isWell 143 = .ok (.invokevirtual 110, 3) := by decide +kernel
theorem dL_isWell_146 : decode cL_isWell 146 = .ok (.if_icmp .ne 47, 3) := by decide +kernel
theorem dL_isWell_149 : decode cL_isWell 149 = .ok (.iload_n 3, 1) := by decide +kernel
theorem dL_isWell_150 : decode cL_isWell 150 = .ok (.ifCond .ge 7, 3) := by decide +kernel
theorem dL_isWell_153 : decode cL_isWell 153 = .ok (.iconst 1, 1) := by decide +kernel
theorem dL_isWell_154 : decode cL_isWell 154 = .ok (.goto 4, 3) := by decide +kernel
theorem dL_isWell_157 : decode cL_isWell 157 = .ok (.iconst 0, 1) := by decide +kernel
theorem dL_isWell_158 : decode cL_isWell 158 = .ok (.iload_n 1, 1) := by decide +kernel
theorem dL_isWell_159 : decode cL_isWell 159 = .ok (.ifCond .ne 7, 3) := by decide +kernel
theorem dL_isWell_162 : decode cL_isWell 162 = .ok (.iconst 1, 1) := by decide +kernel
theorem dL_isWell_163 : decode cL_isWell 163 = .ok (.goto 4, 3) := by decide +kernel
theorem dL_isWell_166 : decode cL_isWell 166 = .ok (.iconst 0, 1) := by decide +kernel
theorem dL_isWell_167 : decode cL_isWell 167 = .ok (.if_icmp .ne 26, 3) := by decide +kernel
theorem dL_isWell_170 : decode cL_isWell 170 = .ok (.iload_n 3, 1) := by decide +kernel
theorem dL_isWell_171 : decode cL_isWell 171 = .ok (.ifCond .lt 18, 3) := by decide +kernel
theorem dL_isWell_174 : decode cL_isWell 174 = .ok (.aload_n 0, 1) := by decide +kernel
theorem dL_isWell_175 : decode cL_isWell 175 = .ok (.iload_n 3, 1) := by decide +kernel
theorem dL_isWell_176 : decode cL_isWell 176 = .ok (.invokestatic 107, 3) := by decide +kernel
theorem dL_isWell_179 : decode cL_isWell 179 = .ok (.iload_n 1, 1) := by decide +kernel
theorem dL_isWell_180 : decode cL_isWell 180 = .ok (.ixor, 1) := by decide +kernel
theorem dL_isWell_181 : decode cL_isWell 181 = .ok (.aload_n 0, 1) := by decide +kernel
theorem dL_isWell_182 : decode cL_isWell 182 = .ok (.iload_n 3, 1) := by decide +kernel
theorem dL_isWell_183 : decode cL_isWell 183 = .ok (.invokestatic 107, 3) := by decide +kernel
theorem dL_isWell_186 : decode cL_isWell 186 = .ok (.if_icmp .ge 7, 3) := by decide +kernel
theorem dL_isWell_189 : decode cL_isWell 189 = .ok (.iconst 1, 1) := by decide +kernel
theorem dL_isWell_190 : decode cL_isWell 190 = .ok (.goto 4, 3) := by decide +kernel
theorem dL_isWell_193 : decode cL_isWell 193 = .ok (.iconst 0, 1) := by decide +kernel
theorem dL_isWell_194 : decode cL_isWell 194 = .ok (.ireturn, 1) := by decide +kernel
set_option maxRecDepth 20000 in
theorem ggL_law_X6_init : GoodIn wsL_law wsX6_init := goodIn_r _ [5, 6, 7, 8, 9, 10, 11, 12, 13, 14, 15, 16, 17, 18, 19, 20, 21, 22, 23, 24, 25, 26, 27, 28, 29, 30, 31, 32, 33, 34, 35, 36, 37, 38, 39, 40, 41, 42, 43, 44, 45, 46, 47, 48, 49, 50, 51, 52, 53, 54, 55, 56, 57, 58, 59, 60, 61, 62, 63, 64, 65, 66, 67, 68, 69, 70, 71, 72, 73, 478, 470, 471, 472, 473, 474, 475, 476, 477, 479, 480, 481, 482, 483, 484, 485, 486, 487, 488, 489, 490, 491, 492, 493] (by decide +kernel) (by decide +kernel)
set_option maxRecDepth 20000 in
theorem gL_law_X6_init : GoodIn wsL_law (wsX6_init) := ggL_law_X6_init
set_option maxRecDepth 20000 in
theorem ggL_law_L_cell : GoodIn wsL_law wsL_cell := goodIn_r _ [77, 78] (by decide +kernel) (by decide +kernel)
set_option maxRecDepth 20000 in
theorem gL_law_L_cell : GoodIn wsL_law (va_wsS RL 175 yL_cell wsL_cell) := goodIn_app (goodIn_of _ (by decide +kernel)) ggL_law_L_cell
set_option maxRecDepth 20000 in
theorem ggL_law_L_isStep : GoodIn wsL_law wsL_isStep := goodIn_ca (goodIn_ca (goodIn_ca (goodIn_r _ [81, 82, 83, 84, 85, 86, 76, 87, 88, 89, 90, 91, 92, 93, 94, 95, 2, 96, 24, 97, 98, 99, 100, 101, 102, 103, 104, 23, 105, 67, 106, 107, 108, 109, 110, 111, 112, 113, 114, 115, 116, 117, 118, 119, 120, 121, 122, 123, 12, 124, 125, 126, 11, 127, 128, 129, 130, 131, 36, 132, 133, 134, 135, 136, 137, 138, 139, 30, 140, 141, 142, 29, 143, 73, 144, 145, 146, 147, 148, 149, 150, 151, 152, 153, 154, 155, 156, 157, 158, 159, 160, 161, 162, 163, 164, 165, 166, 167, 168, 169, 170, 171, 172, 173, 174, 175, 176, 177, 178, 179, 180, 181, 182, 183, 184, 185, 186, 187, 188, 189, 190, 191, 192, 193, 194, 195, 196, 197, 198, 199, 200, 201, 202, 203, 204, 205, 206, 207, 208, 209, 210, 211, 212, 213, 214, 215, 216, 217, 218, 219, 220, 221, 222, 223, 224, 225, 226, 227, 228, 229, 230, 231, 20, 232, 233, 234, 19, 235, 236, 237, 238, 239, 240, 241, 242, 243, 244, 245, 246, 247, 248, 249, 250, 251, 56, 252, 253, 254, 255, 256, 257, 258, 25, 259, 260, 261, 262, 263, 264, 265, 266, 267, 268, 58, 269, 270, 271, 272, 273, 274, 275, 276, 277, 278, 279, 280, 281, 282, 283, 60, 284, 285, 286, 287, 288, 289, 290, 291, 292, 293, 294, 295, 296, 297, 298, 299, 300, 301, 302, 303, 304, 305, 306, 307, 308, 309, 310, 311, 312, 313, 314, 315, 316, 317, 318, 319, 320, 321, 322, 323, 324, 325, 326, 327, 328, 329, 330, 331, 332, 333, 334, 335, 336, 337, 338, 339, 340, 341, 342, 343, 344, 345, 346, 347, 348, 349, 350, 351, 352, 353, 354, 355, 356, 357, 358, 359, 360, 361, 362, 363, 364, 365, 366, 367, 368, 369, 370, 371, 372, 26, 31, 373, 374, 375, 376, 377, 378, 379, 380, 381, 382, 383, 384, 385, 386, 387, 388, 389, 390, 391, 392, 393, 394, 395, 396, 397, 398, 399, 400, 401, 402, 403, 404, 470, 471, 472, 473, 474, 475, 476, 477, 486, 487, 478, 488, 489, 481, 482, 483, 484, 485, 490, 491, 492, 493] (by decide +kernel) (by decide +kernel)) (goodIn_sub (fun _ h => List.mem_append_left _ (List.mem_append_left _ (List.mem_append_right _ h))) (by decide +kernel))) (goodIn_sub (fun _ h => List.mem_append_left _ (List.mem_append_right _ h)) (by decide +kernel))) (goodIn_sub (fun _ h => List.mem_append_right _ h) (by decide +kernel))
set_option maxRecDepth 20000 in
theorem gL_law_L_isStep : GoodIn wsL_law (va_wsS RL 179 yL_isStep wsL_isStep) := goodIn_app (goodIn_of _ (by decide +kernel)) ggL_law_L_isStep
set_option maxRecDepth 20000 in
theorem ggL_law_L_isWell : GoodIn wsL_law wsL_isWell := goodIn_ca (goodIn_ca (goodIn_r _ [407, 408, 83, 89, 90, 76, 91, 92, 84, 93, 94, 95, 2, 96, 24, 97, 98, 99, 100, 101, 102, 103, 104, 23, 105, 67, 409, 410, 411, 169, 412, 413, 414, 415, 174, 12, 175, 176, 177, 178, 179, 190, 191, 192, 11, 193, 128, 129, 130, 131, 36, 163, 164, 165, 166, 167, 168, 170, 171, 172, 173, 180, 181, 182, 416, 417, 418, 419, 420, 421, 422, 423, 424, 425, 426, 427, 428, 429, 340, 341, 342, 132, 133, 134, 135, 362, 363, 364, 365, 366, 367, 368, 124, 125, 126, 127, 430, 431, 432, 433, 434, 435, 436, 437, 438, 439, 440, 441, 442, 443, 444, 445, 446, 447, 448, 449, 450, 451, 452, 453, 454, 455, 110, 111, 112, 113, 106, 107, 108, 109, 470, 471, 472, 473, 474, 475, 476, 477, 486, 487, 478] (by decide +kernel) (by decide +kernel)) (goodIn_sub (fun _ h => List.mem_append_left _ (List.mem_append_left _ (List.mem_append_right _ h))) (by decide +kernel))) (goodIn_sub (fun _ h => List.mem_append_right _ h) (by decide +kernel))
set_option maxRecDepth 20000 in
theorem gL_law_L_isWell : GoodIn wsL_law (va_wsS RL 182 yL_isWell wsL_isWell) := goodIn_app (goodIn_of _ (by decide +kernel)) ggL_law_L_isWell
set_option maxRecDepth 20000 in
theorem ggL_law_L_areAlike : GoodIn wsL_law wsL_areAlike := goodIn_ca (goodIn_ca (goodIn_r _ [458, 206, 207, 208, 2, 209, 24, 210, 156, 157, 23, 158, 153, 106, 107, 108, 109, 110, 111, 112, 113, 67, 163, 164, 76, 165, 166, 167, 168, 169, 84, 170, 171, 172, 173, 174, 175, 176, 177, 178, 179, 180, 11, 181, 182, 459, 460, 461, 462, 30, 390, 391, 392, 29, 393, 144, 452, 453, 454, 455, 102, 103, 104, 105, 89, 90, 91, 92, 93, 94, 95, 96, 97, 98, 99, 100, 101, 441, 442, 443, 444, 445, 446, 447, 12, 448, 449, 450, 451, 128, 129, 130, 131, 36, 409, 410, 411, 412, 413, 414, 415, 190, 191, 192, 193, 463, 464, 465, 466, 467, 468, 469, 416, 417, 418, 419, 420, 421, 422, 423, 424, 425, 426, 427, 428, 429, 340, 341, 342, 132, 133, 134, 135, 430, 431, 432, 433, 434, 435, 436, 437, 438, 439, 440, 470, 471, 472, 473, 474, 475, 476, 477, 486, 487, 488, 489, 478] (by decide +kernel) (by decide +kernel)) (goodIn_sub (fun _ h => List.mem_append_right _ h) (by decide +kernel))) (goodIn_sub (fun _ h => List.mem_append_left _ (List.mem_append_left _ (List.mem_append_right _ h))) (by decide +kernel))
set_option maxRecDepth 20000 in
theorem gL_law_L_areAlike : GoodIn wsL_law (va_wsS RL 186 yL_areAlike wsL_areAlike) := goodIn_app (goodIn_of _ (by decide +kernel)) ggL_law_L_areAlike
theorem dL_law_0 : decode cL_law 0 = .ok (.new 10, 3) := by decide +kernel
theorem dL_law_3 : decode cL_law 3 = .ok (.dup, 1) := by decide +kernel
theorem dL_law_4 : decode cL_law 4 = .ok (.invokespecial 174, 3) := by decide +kernel
theorem dL_law_7 : decode cL_law 7 = .ok (.astore_n 1, 1) := by decide +kernel
theorem dL_law_8 : decode cL_law 8 = .ok (.new 10, 3) := by decide +kernel
theorem dL_law_11 : decode cL_law 11 = .ok (.dup, 1) := by decide +kernel
theorem dL_law_12 : decode cL_law 12 = .ok (.invokespecial 174, 3) := by decide +kernel
theorem dL_law_15 : decode cL_law 15 = .ok (.astore_n 2, 1) := by decide +kernel
theorem dL_law_16 : decode cL_law 16 = .ok (.iconst 1, 1) := by decide +kernel
theorem dL_law_17 : decode cL_law 17 = .ok (.istore_n 3, 1) := by decide +kernel
theorem dL_law_18 : decode cL_law 18 = .ok (.iconst 0, 1) := by decide +kernel
theorem dL_law_19 : decode cL_law 19 = .ok (.istore 4, 2) := by decide +kernel
theorem dL_law_21 : decode cL_law 21 = .ok (.iload 4, 2) := by decide +kernel
theorem dL_law_23 : decode cL_law 23 = .ok (.bipush 60, 2) := by decide +kernel
theorem dL_law_25 : decode cL_law 25 = .ok (.if_icmp .ge 57, 3) := by decide +kernel
theorem dL_law_28 : decode cL_law 28 = .ok (.iload_n 3, 1) := by decide +kernel
theorem dL_law_29 : decode cL_law 29 = .ok (.ifCond .eq 53, 3) := by decide +kernel
theorem dL_law_32 : decode cL_law 32 = .ok (.aload_n 1, 1) := by decide +kernel
theorem dL_law_33 : decode cL_law 33 = .ok (.aload_n 2, 1) := by decide +kernel
theorem dL_law_34 : decode cL_law 34 = .ok (.aload_n 0, 1) := by decide +kernel
theorem dL_law_35 : decode cL_law 35 = .ok (.iload 4, 2) := by decide +kernel
theorem dL_law_37 : decode cL_law 37 = .ok (.invokestatic 175, 3) := by decide +kernel
theorem dL_law_40 : decode cL_law 40 = .ok (.aload_n 0, 1) := by decide +kernel
theorem dL_law_41 : decode cL_law 41 = .ok (.iload 4, 2) := by decide +kernel
theorem dL_law_43 : decode cL_law 43 = .ok (.iconst 1, 1) := by decide +kernel
theorem dL_law_44 : decode cL_law 44 = .ok (.iadd, 1) := by decide +kernel
theorem dL_law_45 : decode cL_law 45 = .ok (.invokestatic 175, 3) := by decide +kernel
theorem dL_law_48 : decode cL_law 48 = .ok (.iconst 2, 1) := by decide +kernel
theorem dL_law_49 : decode cL_law 49 = .ok (.ishr, 1) := by decide +kernel
theorem dL_law_50 : decode cL_law 50 = .ok (.invokestatic 179, 3) := by decide +kernel
theorem dL_law_53 : decode cL_law 53 = .ok (.ifCond .eq 21, 3) := by decide +kernel
theorem dL_law_56 : decode cL_law 56 = .ok (.iload 4, 2) := by decide +kernel
theorem dL_law_58 : decode cL_law 58 = .ok (.iconst 4, 1) := by decide +kernel
theorem dL_law_59 : decode cL_law 59 = .ok (.irem, 1) := by decide +kernel
theorem dL_law_60 : decode cL_law 60 = .ok (.ifCond .gt 10, 3) := by decide +kernel
theorem dL_law_63 : decode cL_law 63 = .ok (.aload_n 1, 1) := by decide +kernel
theorem dL_law_64 : decode cL_law 64 = .ok (.invokestatic 182, 3) := by decide +kernel
theorem dL_law_67 : decode cL_law 67 = .ok (.ifCond .eq 7, 3) := by decide +kernel
theorem dL_law_70 : decode cL_law 70 = .ok (.iconst 1, 1) := by decide +kernel
theorem dL_law_71 : decode cL_law 71 = .ok (.goto 4, 3) := by decide +kernel
theorem dL_law_74 : decode cL_law 74 = .ok (.iconst 0, 1) := by decide +kernel
theorem dL_law_75 : decode cL_law 75 = .ok (.istore_n 3, 1) := by decide +kernel
theorem dL_law_76 : decode cL_law 76 = .ok (.iinc 4 1, 3) := by decide +kernel
theorem dL_law_79 : decode cL_law 79 = .ok (.goto (-58), 3) := by decide +kernel
theorem dL_law_82 : decode cL_law 82 = .ok (.iload_n 3, 1) := by decide +kernel
theorem dL_law_83 : decode cL_law 83 = .ok (.ifCond .eq 22, 3) := by decide +kernel
theorem dL_law_86 : decode cL_law 86 = .ok (.aload_n 1, 1) := by decide +kernel
theorem dL_law_87 : decode cL_law 87 = .ok (.invokestatic 182, 3) := by decide +kernel
theorem dL_law_90 : decode cL_law 90 = .ok (.ifCond .eq 15, 3) := by decide +kernel
theorem dL_law_93 : decode cL_law 93 = .ok (.aload_n 1, 1) := by decide +kernel
theorem dL_law_94 : decode cL_law 94 = .ok (.aload_n 2, 1) := by decide +kernel
theorem dL_law_95 : decode cL_law 95 = .ok (.invokestatic 186, 3) := by decide +kernel
theorem dL_law_98 : decode cL_law 98 = .ok (.ifCond .eq 7, 3) := by decide +kernel
theorem dL_law_101 : decode cL_law 101 = .ok (.iconst 1, 1) := by decide +kernel
theorem dL_law_102 : decode cL_law 102 = .ok (.goto 4, 3) := by decide +kernel
theorem dL_law_105 : decode cL_law 105 = .ok (.iconst 0, 1) := by decide +kernel
theorem dL_law_106 : decode cL_law 106 = .ok (.ireturn, 1) := by decide +kernel
