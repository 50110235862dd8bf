set_option maxRecDepth 20000 in
theorem ggL_isStep_L_up : GoodIn wsL_isStep wsL_up := goodIn_r _ [7, 8] (by decide +kernel) (by decide +kernel)
set_option maxRecDepth 20000 in
theorem gL_isStep_L_up : GoodIn wsL_isStep (va_wsS RL 104 yL_up wsL_up) := goodIn_app (goodIn_of _ (by decide +kernel)) ggL_isStep_L_up
set_option maxRecDepth 20000 in
theorem ggL_isStep_L_nimber : GoodIn wsL_isStep wsL_nimber := goodIn_ca (goodIn_r _ [11, 12, 3, 13, 14, 15, 16, 17, 18, 19, 20, 21, 22, 23, 24, 25, 26, 27, 28, 29, 343, 344, 345, 346, 347, 348, 349, 350, 351, 352] (by decide +kernel) (by decide +kernel)) (goodIn_sub (fun _ h => List.mem_cons_of_mem _ (List.mem_append_left _ (List.mem_append_left _ (List.mem_append_right _ h)))) (by decide +kernel))
set_option maxRecDepth 20000 in
theorem gL_isStep_L_nimber : GoodIn wsL_isStep (va_wsS RL 107 yL_nimber wsL_nimber) := goodIn_app (goodIn_of _ (by decide +kernel)) ggL_isStep_L_nimber
set_option maxRecDepth 20000 in
theorem ggL_isStep_X6_sumOfAll : GoodIn wsL_isStep wsX6_sumOfAll := goodIn_r _ [33, 18, 34, 35, 36, 27, 37, 29, 343, 344, 345, 346, 347, 348, 349, 350, 351, 352] (by decide +kernel) (by decide +kernel)
set_option maxRecDepth 20000 in
theorem gL_isStep_X6_sumOfAll : GoodIn wsL_isStep (wsV RL 110 RX6 yX6_sumOfAll wsX6_sumOfAll) := goodIn_app (goodIn_of _ (by decide +kernel)) ggL_isStep_X6_sumOfAll
set_option maxRecDepth 20000 in
theorem ggL_isStep_L_invert : GoodIn wsL_isStep wsL_invert := goodIn_ca (goodIn_ca (goodIn_r _ [40, 12, 41, 3, 1, 42, 43, 44, 16, 45, 46, 47, 18, 48, 19, 20, 21, 22, 23, 24, 25, 26, 27, 28, 29, 49, 50, 51, 52, 53, 54, 55, 56, 57, 58, 59, 60, 61, 62, 63, 64, 65, 66, 67, 68, 69, 70, 71, 72, 73, 74, 75, 76, 77, 78, 79, 80, 81, 82, 83, 84, 85, 86, 87, 88, 89, 90, 91, 92, 343, 344, 345, 346, 347, 348, 349, 350, 351, 352, 353, 354, 355] (by decide +kernel) (by decide +kernel)) (goodIn_sub (fun _ h => List.mem_cons_of_mem _ (List.mem_append_left _ (List.mem_append_right _ h))) (by decide +kernel))) (goodIn_sub (fun _ h => List.mem_cons_of_mem _ (List.mem_append_left _ (List.mem_append_left _ (List.mem_append_right _ h)))) (by decide +kernel))
set_option maxRecDepth 20000 in
theorem gL_isStep_L_invert : GoodIn wsL_isStep (va_wsS RL 113 yL_invert wsL_invert) := goodIn_app (goodIn_of _ (by decide +kernel)) ggL_isStep_L_invert
set_option maxRecDepth 20000 in
theorem ggL_isStep_L_square : GoodIn wsL_isStep wsL_square := goodIn_ca (goodIn_r _ [95, 96, 97, 6, 98, 99, 3, 100, 101, 102, 16, 103, 104, 105, 106, 107, 108, 109, 110, 52, 111, 112] (by decide +kernel) (by decide +kernel)) (goodIn_sub (fun _ h => List.mem_cons_of_mem _ (List.mem_append_right _ h)) (by decide +kernel))
set_option maxRecDepth 20000 in
theorem gL_isStep_L_square : GoodIn wsL_isStep (va_wsS RL 115 yL_square wsL_square) := goodIn_app (goodIn_of _ (by decide +kernel)) ggL_isStep_L_square
set_option maxRecDepth 20000 in
theorem ggL_isStep_L_halves : GoodIn wsL_isStep wsL_halves := goodIn_ca (goodIn_r _ [98, 99, 3, 100, 101, 102, 16, 103, 104, 105, 106, 107, 108, 109, 110, 52, 111, 112] (by decide +kernel) (by decide +kernel)) (goodIn_sub (fun _ h => List.mem_cons_of_mem _ (List.mem_append_right _ h)) (by decide +kernel))
set_option maxRecDepth 20000 in
theorem gL_isStep_L_halves : GoodIn wsL_isStep (va_wsS RL 89 yL_halves wsL_halves) := goodIn_app (goodIn_of _ (by decide +kernel)) ggL_isStep_L_halves
set_option maxRecDepth 20000 in
theorem ggL_isStep_L_takeRoot : GoodIn wsL_isStep wsL_takeRoot := goodIn_ca (goodIn_r _ [115, 12, 3, 116, 117, 118, 16, 119, 48, 18, 19, 20, 21, 22, 23, 24, 25, 26, 27, 28, 29, 120, 121, 122, 52, 123, 54, 55, 56, 57, 58, 63, 64, 65, 66, 67, 68, 69, 70, 71, 72, 73, 74, 75, 76, 77, 78, 79, 80, 81, 82, 83, 84, 85, 86, 87, 88, 89, 90, 91, 92, 343, 344, 345, 346, 347, 348, 349, 350, 351, 352, 353, 354, 355] (by decide +kernel) (by decide +kernel)) (goodIn_sub (fun _ h => List.mem_cons_of_mem _ (List.mem_append_left _ (List.mem_append_left _ (List.mem_append_right _ h)))) (by decide +kernel))
set_option maxRecDepth 20000 in
theorem gL_isStep_L_takeRoot : GoodIn wsL_isStep (va_wsS RL 118 yL_takeRoot wsL_takeRoot) := goodIn_app (goodIn_of _ (by decide +kernel)) ggL_isStep_L_takeRoot
set_option maxRecDepth 20000 in
theorem ggL_isStep_L_multiply : GoodIn wsL_isStep wsL_multiply := goodIn_ca (goodIn_r _ [126, 12, 3, 127, 128, 129, 16, 130, 48, 18, 19, 20, 21, 22, 23, 24, 25, 26, 27, 28, 29, 131, 60, 61, 52, 62, 58, 63, 64, 65, 66, 67, 68, 69, 70, 71, 72, 73, 74, 75, 76, 77, 78, 79, 80, 81, 82, 83, 84, 85, 86, 87, 88, 89, 90, 91, 92, 132, 133, 134, 135, 343, 344, 345, 346, 347, 348, 349, 350, 351, 352, 353, 354, 355] (by decide +kernel) (by decide +kernel)) (goodIn_sub (fun _ h => List.mem_cons_of_mem _ (List.mem_append_left _ (List.mem_append_left _ (List.mem_append_right _ h)))) (by decide +kernel))
set_option maxRecDepth 20000 in
theorem gL_isStep_L_multiply : GoodIn wsL_isStep (va_wsS RL 120 yL_multiply wsL_multiply) := goodIn_app (goodIn_of _ (by decide +kernel)) ggL_isStep_L_multiply
set_option maxRecDepth 20000 in
theorem ggL_isStep_X6_products : GoodIn wsL_isStep wsX6_products := goodIn_r _ [139, 18, 140, 86, 87, 27, 88, 83, 343, 344, 345, 346, 347, 348, 349, 350, 351, 352] (by decide +kernel) (by decide +kernel)
set_option maxRecDepth 20000 in
theorem gL_isStep_X6_products : GoodIn wsL_isStep (wsV RL 122 RX6 yX6_products wsX6_products) := goodIn_app (goodIn_of _ (by decide +kernel)) ggL_isStep_X6_products
set_option maxRecDepth 20000 in
theorem ggL_isStep_L_bits : GoodIn wsL_isStep wsL_bits := goodIn_ca (goodIn_r _ [143, 99, 3, 144, 145, 146, 16, 147, 104, 48, 105, 106, 107, 108, 109, 131, 60, 61, 52, 62, 58, 343, 344, 345, 346, 347, 348, 349, 350, 353] (by decide +kernel) (by decide +kernel)) (goodIn_sub (fun _ h => List.mem_cons_of_mem _ (List.mem_append_right _ h)) (by decide +kernel))
set_option maxRecDepth 20000 in
theorem gL_isStep_L_bits : GoodIn wsL_isStep (va_wsS RL 125 yL_bits wsL_bits) := goodIn_app (goodIn_of _ (by decide +kernel)) ggL_isStep_L_bits
set_option maxRecDepth 20000 in
theorem ggL_isStep_L_exchange : GoodIn wsL_isStep wsL_exchange := goodIn_ca (goodIn_r _ [150, 12, 3, 151, 152, 153, 16, 154, 18, 67, 19, 20, 21, 22, 23, 24, 25, 26, 27, 28, 29, 68, 69, 70, 71, 72, 73, 74, 75, 76, 77, 78, 79, 80, 81, 82, 83, 84, 85, 86, 87, 88, 89, 90, 91, 92, 343, 344, 345, 346, 347, 348, 349, 350, 351, 352, 354, 355] (by decide +kernel) (by decide +kernel)) (goodIn_sub (fun _ h => List.mem_cons_of_mem _ (List.mem_append_left _ (List.mem_append_left _ (List.mem_append_right _ h)))) (by decide +kernel))
set_option maxRecDepth 20000 in
theorem gL_isStep_L_exchange : GoodIn wsL_isStep (va_wsS RL 128 yL_exchange wsL_exchange) := goodIn_app (goodIn_of _ (by decide +kernel)) ggL_isStep_L_exchange
set_option maxRecDepth 20000 in
theorem ggL_isStep_L_written : GoodIn wsL_isStep wsL_written := goodIn_ca (goodIn_r _ [157, 158, 159, 160, 16, 161, 162, 163, 164, 165, 166, 167, 168, 169, 170, 6, 171, 41, 3, 172, 173, 174, 175, 46, 47, 176, 177, 178, 179, 180, 181, 182, 183, 184, 185, 186, 187, 188, 189, 190, 191, 67, 18, 192, 193, 194, 195, 196, 197, 198, 199, 200, 201, 202, 203, 204, 205, 206, 207, 208, 209, 210, 211, 212, 213, 214, 215, 216, 217, 218, 219, 220, 221, 222, 223, 224, 225, 226, 227, 228, 229, 230, 231, 232, 233, 234, 235, 236, 237, 238, 239, 240, 241, 242, 243, 244, 245, 246, 247, 248, 249, 250, 251, 252, 253, 48, 254, 80, 81, 27, 82, 29, 83, 84, 25, 26, 28, 85, 86, 87, 88, 255, 256, 257, 258, 259, 260, 261, 262, 263, 264, 265, 266, 267, 268, 269, 270, 271, 272, 50, 51, 52, 53, 54, 55, 56, 57, 58, 59, 60, 61, 62, 273, 121, 122, 123, 274, 275, 276, 277, 278, 279, 90, 91, 92, 280, 133, 134, 135, 68, 69, 70, 71, 72, 73, 74, 75, 76, 77, 78, 79, 281, 282, 283, 284, 285, 286, 287, 288, 24, 343, 344, 345, 346, 347, 348, 349, 350, 356, 357, 358, 359, 360, 361, 362, 363, 364, 351, 352, 353, 354, 355] (by decide +kernel) (by decide +kernel)) (goodIn_sub (fun _ h => List.mem_cons_of_mem _ (List.mem_append_left _ (List.mem_append_right _ h))) (by decide +kernel))
set_option maxRecDepth 20000 in
theorem gL_isStep_L_written : GoodIn wsL_isStep (va_wsS RL 131 yL_written wsL_written) := goodIn_app (goodIn_of _ (by decide +kernel)) ggL_isStep_L_written
set_option maxRecDepth 20000 in
theorem ggL_isStep_L_power : GoodIn wsL_isStep wsL_power := goodIn_ca (goodIn_r _ [291, 99, 3, 292, 293, 294, 16, 295, 104, 296, 48, 105, 106, 107, 108, 109, 297, 276, 277, 52, 278, 59, 60, 61, 62, 58, 54, 55, 56, 57, 343, 344, 345, 346, 347, 348, 349, 350, 353] (by decide +kernel) (by decide +kernel)) (goodIn_sub (fun _ h => List.mem_cons_of_mem _ (List.mem_append_right _ h)) (by decide +kernel))
set_option maxRecDepth 20000 in
theorem gL_isStep_L_power : GoodIn wsL_isStep (va_wsS RL 135 yL_power wsL_power) := goodIn_app (goodIn_of _ (by decide +kernel)) ggL_isStep_L_power
set_option maxRecDepth 20000 in
theorem ggL_isStep_L_quotient : GoodIn wsL_isStep wsL_quotient := goodIn_ca (goodIn_r _ [300, 99, 3, 301, 302, 303, 16, 304, 104, 48, 105, 106, 107, 108, 109, 49, 50, 51, 52, 53, 54, 55, 56, 57, 58, 59, 60, 61, 62, 343, 344, 345, 346, 347, 348, 349, 350, 353] (by decide +kernel) (by decide +kernel)) (goodIn_sub (fun _ h => List.mem_cons_of_mem _ (List.mem_append_right _ h)) (by decide +kernel))
set_option maxRecDepth 20000 in
theorem gL_isStep_L_quotient : GoodIn wsL_isStep (va_wsS RL 137 yL_quotient wsL_quotient) := goodIn_app (goodIn_of _ (by decide +kernel)) ggL_isStep_L_quotient
set_option maxRecDepth 20000 in
theorem ggL_isStep_X6_takeSnapshot : GoodIn wsL_isStep wsX6_takeSnapshot := goodIn_r _ [308, 309, 18, 310, 254, 80, 81, 27, 82, 29, 83, 84, 25, 26, 28, 85, 86, 87, 88, 34, 35, 36, 37, 343, 344, 345, 346, 347, 348, 349, 350, 351, 352] (by decide +kernel) (by decide +kernel)
set_option maxRecDepth 20000 in
theorem gL_isStep_X6_takeSnapshot : GoodIn wsL_isStep (wsV RL 139 RX6 yX6_takeSnapshot wsX6_takeSnapshot) := goodIn_app (goodIn_of _ (by decide +kernel)) ggL_isStep_X6_takeSnapshot
set_option maxRecDepth 20000 in
theorem ggL_isStep_L_restore : GoodIn wsL_isStep wsL_restore := goodIn_ca (goodIn_r _ [313, 41, 3, 314, 315, 316, 16, 317, 46, 47, 310, 67, 18, 309, 68, 69, 70, 71, 72, 73, 74, 75, 76, 77, 78, 79, 80, 81, 27, 82, 29, 83, 84, 25, 26, 28, 85, 86, 87, 88, 254, 34, 35, 36, 37, 343, 344, 345, 346, 347, 348, 349, 350, 354, 355, 351, 352] (by decide +kernel) (by decide +kernel)) (goodIn_sub (fun _ h => List.mem_cons_of_mem _ (List.mem_append_left _ (List.mem_append_right _ h))) (by decide +kernel))
set_option maxRecDepth 20000 in
theorem gL_isStep_L_restore : GoodIn wsL_isStep (va_wsS RL 142 yL_restore wsL_restore) := goodIn_app (goodIn_of _ (by decide +kernel)) ggL_isStep_L_restore
set_option maxRecDepth 20000 in
theorem ggL_isStep_L_isBack : GoodIn wsL_isStep wsL_isBack := goodIn_ca (goodIn_r _ [320, 3, 93, 94, 6, 95, 96, 97, 98, 99, 100, 101, 102, 16, 103, 104, 105, 106, 107, 108, 109, 110, 52, 111, 112] (by decide +kernel) (by decide +kernel)) (goodIn_sub (fun _ h => List.mem_cons_of_mem _ (List.mem_append_right _ h)) (by decide +kernel))
set_option maxRecDepth 20000 in
theorem gL_isStep_L_isBack : GoodIn wsL_isStep (va_wsS RL 145 yL_isBack wsL_isBack) := goodIn_app (goodIn_of _ (by decide +kernel)) ggL_isStep_L_isBack
set_option maxRecDepth 20000 in
theorem ggL_isStep_L_undo : GoodIn wsL_isStep wsL_undo := goodIn_ca (goodIn_r _ [323, 41, 3, 324, 325, 326, 16, 327, 46, 47, 67, 18, 328, 329, 330, 71, 331, 74, 332, 333, 334, 335, 73, 79, 80, 81, 27, 82, 29, 83, 84, 25, 26, 28, 85, 86, 87, 88, 343, 344, 345, 346, 347, 348, 349, 350, 354, 355, 351, 352] (by decide +kernel) (by decide +kernel)) (goodIn_sub (fun _ h => List.mem_cons_of_mem _ (List.mem_append_left _ (List.mem_append_right _ h))) (by decide +kernel))
set_option maxRecDepth 20000 in
theorem gL_isStep_L_undo : GoodIn wsL_isStep (va_wsS RL 149 yL_undo wsL_undo) := goodIn_app (goodIn_of _ (by decide +kernel)) ggL_isStep_L_undo
set_option maxRecDepth 20000 in
theorem ggL_isStep_L_set : GoodIn wsL_isStep wsL_set := goodIn_ca (goodIn_ca (goodIn_r _ [338, 12, 99, 3, 1, 339, 340, 341, 16, 342, 104, 18, 67, 19, 20, 21, 22, 23, 105, 106, 107, 108, 109, 24, 25, 26, 27, 28, 29, 68, 69, 70, 71, 72, 73, 74, 75, 76, 77, 78, 79, 80, 81, 82, 83, 84, 85, 86, 87, 88, 89, 90, 91, 92, 343, 344, 345, 346, 347, 348, 349, 350, 351, 352, 354, 355] (by decide +kernel) (by decide +kernel)) (goodIn_sub (fun _ h => List.mem_cons_of_mem _ (List.mem_append_left _ (List.mem_append_left _ (List.mem_append_right _ h)))) (by decide +kernel))) (goodIn_sub (fun _ h => List.mem_cons_of_mem _ (List.mem_append_right _ h)) (by decide +kernel))
set_option maxRecDepth 20000 in
theorem gL_isStep_L_set : GoodIn wsL_isStep (va_wsS RL 151 yL_set wsL_set) := goodIn_app (goodIn_of _ (by decide +kernel)) ggL_isStep_L_set
theorem dL_isStep_0 : decode cL_isStep 0 = .ok (.iload_n 2, 1) := by decide +kernel
theorem dL_isStep_1 : decode cL_isStep 1 = .ok (.iconst 4, 1) := by decide +kernel
theorem dL_isStep_2 : decode cL_isStep 2 = .ok (.ishr, 1) := by decide +kernel
theorem dL_isStep_3 : decode cL_isStep 3 = .ok (.istore 4, 2) := by decide +kernel
theorem dL_isStep_5 : decode cL_isStep 5 = .ok (.iload_n 3, 1) := by decide +kernel
theorem dL_isStep_6 : decode cL_isStep 6 = .ok (.bipush 8, 2) := by decide +kernel
theorem dL_isStep_8 : decode cL_isStep 8 = .ok (.invokestatic 104, 3) := by decide +kernel
theorem dL_isStep_11 : decode cL_isStep 11 = .ok (.istore 5, 2) := by decide +kernel
theorem dL_isStep_13 : decode cL_isStep 13 = .ok (.iload 4, 2) := by decide +kernel
theorem dL_isStep_15 : decode cL_isStep 15 = .ok (.bipush 8, 2) := by decide +kernel
theorem dL_isStep_17 : decode cL_isStep 17 = .ok (.invokestatic 104, 3) := by decide +kernel
theorem dL_isStep_20 : decode cL_isStep 20 = .ok (.istore 6, 2) := by decide +kernel
theorem dL_isStep_22 : decode cL_isStep 22 = .ok (.aload_n 0, 1) := by decide +kernel
theorem dL_isStep_23 : decode cL_isStep 23 = .ok (.iload 5, 2) := by decide +kernel
theorem dL_isStep_25 : decode cL_isStep 25 = .ok (.invokestatic 107, 3) := by decide +kernel
theorem dL_isStep_28 : decode cL_isStep 28 = .ok (.istore 7, 2) := by decide +kernel
theorem dL_isStep_30 : decode cL_isStep 30 = .ok (.aload_n 0, 1) := by decide +kernel
theorem dL_isStep_31 : decode cL_isStep 31 = .ok (.iload 6, 2) := by decide +kernel
theorem dL_isStep_33 : decode cL_isStep 33 = .ok (.invokestatic 107, 3) := by decide +kernel
theorem dL_isStep_36 : decode cL_isStep 36 = .ok (.istore 8, 2) := by decide +kernel
theorem dL_isStep_38 : decode cL_isStep 38 = .ok (.aload_n 0, 1) := by decide +kernel
theorem dL_isStep_39 : decode cL_isStep 39 = .ok (.invokevirtual 110, 3) := by decide +kernel
theorem dL_isStep_42 : decode cL_isStep 42 = .ok (.istore 9, 2) := by decide +kernel
theorem dL_isStep_44 : decode cL_isStep 44 = .ok (.iload_n 2, 1) := by decide +kernel
theorem dL_isStep_45 : decode cL_isStep 45 = .ok (.bipush 16, 2) := by decide +kernel
theorem dL_isStep_47 : decode cL_isStep 47 = .ok (.invokestatic 104, 3) := by decide +kernel
theorem dL_isStep_50 : decode cL_isStep 50 = .ok (.tableswitch 682 0 11 #[62, 155, 194, 194, 194, 263, 314, 376, 442, 504, 620, 665], 62) := by decide +kernel
theorem dL_isStep_112 : decode cL_isStep 112 = .ok (.aload_n 0, 1) := by decide +kernel
theorem dL_isStep_113 : decode cL_isStep 113 = .ok (.iload 5, 2) := by decide +kernel
theorem dL_isStep_115 : decode cL_isStep 115 = .ok (.invokestatic 113, 3) := by decide +kernel
theorem dL_isStep_118 : decode cL_isStep 118 = .ok (.istore 10, 2) := by decide +kernel
theorem dL_isStep_120 : decode cL_isStep 120 = .ok (.iload 10, 2) := by decide +kernel
theorem dL_isStep_122 : decode cL_isStep 122 = .ok (.ldc 20, 2) := by decide +kernel
theorem dL_isStep_124 : decode cL_isStep 124 = .ok (.if_icmp .ne 30, 3) := by decide +kernel
theorem dL_isStep_127 : decode cL_isStep 127 = .ok (.iload 7, 2) := by decide +kernel
theorem dL_isStep_129 : decode cL_isStep 129 = .ok (.ifCond .ne 21, 3) := by decide +kernel
theorem dL_isStep_132 : decode cL_isStep 132 = .ok (.aload_n 1, 1) := by decide +kernel
theorem dL_isStep_133 : decode cL_isStep 133 = .ok (.bipush 7, 2) := by decide +kernel
theorem dL_isStep_135 : decode cL_isStep 135 = .ok (.iload 5, 2) := by decide +kernel
theorem dL_isStep_137 : decode cL_isStep 137 = .ok (.isub, 1) := by decide +kernel
theorem dL_isStep_138 : decode cL_isStep 138 = .ok (.invokestatic 113, 3) := by decide +kernel
theorem dL_isStep_141 : decode cL_isStep 141 = .ok (.ldc 20, 2) := by decide +kernel
theorem dL_isStep_143 : decode cL_isStep 143 = .ok (.if_icmp .ne 7, 3) := by decide +kernel
theorem dL_isStep_146 : decode cL_isStep 146 = .ok (.iconst 1, 1) := by decide +kernel
theorem dL_isStep_147 : decode cL_isStep 147 = .ok (.goto 57, 3) := by decide +kernel
theorem dL_isStep_150 : decode cL_isStep 150 = .ok (.iconst 0, 1) := by decide +kernel
theorem dL_isStep_151 : decode cL_isStep 151 = .ok (.goto 53, 3) := by decide +kernel
theorem dL_isStep_154 : decode cL_isStep 154 = .ok (.aload_n 0, 1) := by decide +kernel
theorem dL_isStep_155 : decode cL_isStep 155 = .ok (.iload 10, 2) := by decide +kernel
theorem dL_isStep_157 : decode cL_isStep 157 = .ok (.invokestatic 115, 3) := by decide +kernel
theorem dL_isStep_160 : decode cL_isStep 160 = .ok (.aload_n 1, 1) := by decide +kernel
theorem dL_isStep_161 : decode cL_isStep 161 = .ok (.bipush 7, 2) := by decide +kernel
theorem dL_isStep_163 : decode cL_isStep 163 = .ok (.iload 5, 2) := by decide +kernel
theorem dL_isStep_165 : decode cL_isStep 165 = .ok (.isub, 1) := by decide +kernel
theorem dL_isStep_166 : decode cL_isStep 166 = .ok (.invokestatic 113, 3) := by decide +kernel
theorem dL_isStep_169 : decode cL_isStep 169 = .ok (.if_icmp .ne 34, 3) := by decide +kernel
theorem dL_isStep_172 : decode cL_isStep 172 = .ok (.aload_n 0, 1) := by decide +kernel
theorem dL_isStep_173 : decode cL_isStep 173 = .ok (.iload 7, 2) := by decide +kernel
theorem dL_isStep_175 : decode cL_isStep 175 = .ok (.iload 10, 2) := by decide +kernel
theorem dL_isStep_177 : decode cL_isStep 177 = .ok (.invokestatic 89, 3) := by decide +kernel
theorem dL_isStep_180 : decode cL_isStep 180 = .ok (.iconst 1, 1) := by decide +kernel
theorem dL_isStep_181 : decode cL_isStep 181 = .ok (.if_icmp .ne 22, 3) := by decide +kernel
theorem dL_isStep_184 : decode cL_isStep 184 = .ok (.aload_n 0, 1) := by decide +kernel
theorem dL_isStep_185 : decode cL_isStep 185 = .ok (.invokevirtual 110, 3) := by decide +kernel
theorem dL_isStep_188 : decode cL_isStep 188 = .ok (.iload 9, 2) := by decide +kernel
theorem dL_isStep_190 : decode cL_isStep 190 = .ok (.iload 7, 2) := by decide +kernel
theorem dL_isStep_192 : decode cL_isStep 192 = .ok (.ixor, 1) := by decide +kernel
theorem dL_isStep_193 : decode cL_isStep 193 = .ok (.iload 10, 2) := by decide +kernel
theorem dL_isStep_195 : decode cL_isStep 195 = .ok (.ixor, 1) := by decide +kernel
theorem dL_isStep_196 : decode cL_isStep 196 = .ok (.if_icmp .ne 7, 3) := by decide +kernel
theorem dL_isStep_199 : decode cL_isStep 199 = .ok (.iconst 1, 1) := by decide +kernel
theorem dL_isStep_200 : decode cL_isStep 200 = .ok (.goto 4, 3) := by decide +kernel
theorem dL_isStep_203 : decode cL_isStep 203 = .ok (.iconst 0, 1) := by decide +kernel
theorem dL_isStep_204 : decode cL_isStep 204 = .ok (.ireturn, 1) := by decide +kernel
theorem dL_isStep_205 : decode cL_isStep 205 = .ok (.aload_n 0, 1) := by decide +kernel
theorem dL_isStep_206 : decode cL_isStep 206 = .ok (.iload 5, 2) := by decide +kernel
theorem dL_isStep_208 : decode cL_isStep 208 = .ok (.invokestatic 118, 3) := by decide +kernel
theorem dL_isStep_211 : decode cL_isStep 211 = .ok (.istore 10, 2) := by decide +kernel
theorem dL_isStep_213 : decode cL_isStep 213 = .ok (.aload_n 1, 1) := by decide +kernel
theorem dL_isStep_214 : decode cL_isStep 214 = .ok (.bipush 7, 2) := by decide +kernel
theorem dL_isStep_216 : decode cL_isStep 216 = .ok (.iload 5, 2) := by decide +kernel
theorem dL_isStep_218 : decode cL_isStep 218 = .ok (.isub, 1) := by decide +kernel
theorem dL_isStep_219 : decode cL_isStep 219 = .ok (.invokestatic 118, 3) := by decide +kernel
theorem dL_isStep_222 : decode cL_isStep 222 = .ok (.iload 7, 2) := by decide +kernel
theorem dL_isStep_224 : decode cL_isStep 224 = .ok (.if_icmp .ne 18, 3) := by decide +kernel
theorem dL_isStep_227 : decode cL_isStep 227 = .ok (.aload_n 0, 1) := by decide +kernel
theorem dL_isStep_228 : decode cL_isStep 228 = .ok (.iload 10, 2) := by decide +kernel
theorem dL_isStep_230 : decode cL_isStep 230 = .ok (.invokestatic 115, 3) := by decide +kernel
theorem dL_isStep_233 : decode cL_isStep 233 = .ok (.iload 7, 2) := by decide +kernel
theorem dL_isStep_235 : decode cL_isStep 235 = .ok (.if_icmp .ne 7, 3) := by decide +kernel
theorem dL_isStep_238 : decode cL_isStep 238 = .ok (.iconst 1, 1) := by decide +kernel
theorem dL_isStep_239 : decode cL_isStep 239 = .ok (.goto 4, 3) := by decide +kernel
theorem dL_isStep_242 : decode cL_isStep 242 = .ok (.iconst 0, 1) := by decide +kernel
theorem dL_isStep_243 : decode cL_isStep 243 = .ok (.ireturn, 1) := by decide +kernel
theorem dL_isStep_244 : decode cL_isStep 244 = .ok (.aload_n 0, 1) := by decide +kernel
theorem dL_isStep_245 : decode cL_isStep 245 = .ok (.iload 5, 2) := by decide +kernel
theorem dL_isStep_247 : decode cL_isStep 247 = .ok (.iload 6, 2) := by decide +kernel
theorem dL_isStep_249 : decode cL_isStep 249 = .ok (.invokestatic 120, 3) := by decide +kernel
theorem dL_isStep_252 : decode cL_isStep 252 = .ok (.istore 10, 2) := by decide +kernel
theorem dL_isStep_254 : decode cL_isStep 254 = .ok (.aload_n 1, 1) := by decide +kernel
theorem dL_isStep_255 : decode cL_isStep 255 = .ok (.invokevirtual 122, 3) := by decide +kernel
theorem dL_isStep_258 : decode cL_isStep 258 = .ok (.istore 11, 2) := by decide +kernel
theorem dL_isStep_260 : decode cL_isStep 260 = .ok (.aload_n 0, 1) := by decide +kernel
theorem dL_isStep_261 : decode cL_isStep 261 = .ok (.iload 10, 2) := by decide +kernel
theorem dL_isStep_263 : decode cL_isStep 263 = .ok (.invokestatic 115, 3) := by decide +kernel
theorem dL_isStep_266 : decode cL_isStep 266 = .ok (.aload_n 1, 1) := by decide +kernel
theorem dL_isStep_267 : decode cL_isStep 267 = .ok (.bipush 7, 2) := by decide +kernel
theorem dL_isStep_269 : decode cL_isStep 269 = .ok (.iload 5, 2) := by decide +kernel
theorem dL_isStep_271 : decode cL_isStep 271 = .ok (.isub, 1) := by decide +kernel
theorem dL_isStep_272 : decode cL_isStep 272 = .ok (.bipush 7, 2) := by decide +kernel
theorem dL_isStep_274 : decode cL_isStep 274 = .ok (.iload 6, 2) := by decide +kernel
theorem dL_isStep_276 : decode cL_isStep 276 = .ok (.isub, 1) := by decide +kernel
theorem dL_isStep_277 : decode cL_isStep 277 = .ok (.invokestatic 120, 3) := by decide +kernel
theorem dL_isStep_280 : decode cL_isStep 280 = .ok (.if_icmp .ne 31, 3) := by decide +kernel
theorem dL_isStep_283 : decode cL_isStep 283 = .ok (.iload 10, 2) := by decide +kernel
theorem dL_isStep_285 : decode cL_isStep 285 = .ok (.aload_n 0, 1) := by decide +kernel
theorem dL_isStep_286 : decode cL_isStep 286 = .ok (.iload 7, 2) := by decide +kernel
theorem dL_isStep_288 : decode cL_isStep 288 = .ok (.iload 8, 2) := by decide +kernel
theorem dL_isStep_290 : decode cL_isStep 290 = .ok (.invokestatic 125, 3) := by decide +kernel
theorem dL_isStep_293 : decode cL_isStep 293 = .ok (.if_icmp .ne 18, 3) := by decide +kernel
theorem dL_isStep_296 : decode cL_isStep 296 = .ok (.aload_n 1, 1) := by decide +kernel
theorem dL_isStep_297 : decode cL_isStep 297 = .ok (.invokevirtual 122, 3) := by decide +kernel
theorem dL_isStep_300 : decode cL_isStep 300 = .ok (.iload 11, 2) := by decide +kernel
theorem dL_isStep_302 : decode cL_isStep 302 = .ok (.iconst 1, 1) := by decide +kernel
theorem dL_isStep_303 : decode cL_isStep 303 = .ok (.iadd, 1) := by decide +kernel
theorem dL_isStep_304 : decode cL_isStep 304 = .ok (.if_icmp .ne 7, 3) := by decide +kernel
theorem dL_isStep_307 : decode cL_isStep 307 = .ok (.iconst 1, 1) := by decide +kernel
theorem dL_isStep_308 : decode cL_isStep 308 = .ok (.goto 4, 3) := by decide +kernel
theorem dL_isStep_311 : decode cL_isStep 311 = .ok (.iconst 0, 1) := by decide +kernel
theorem dL_isStep_312 : decode cL_isStep 312 = .ok (.ireturn, 1) := by decide +kernel
theorem dL_isStep_313 : decode cL_isStep 313 = .ok (.aload_n 0, 1) := by decide +kernel
theorem dL_isStep_314 : decode cL_isStep 314 = .ok (.iload 5, 2) := by decide +kernel
theorem dL_isStep_316 : decode cL_isStep 316 = .ok (.iload 6, 2) := by decide +kernel
theorem dL_isStep_318 : decode cL_isStep 318 = .ok (.invokestatic 128, 3) := by decide +kernel
theorem dL_isStep_321 : decode cL_isStep 321 = .ok (.iload 8, 2) := by decide +kernel
theorem dL_isStep_323 : decode cL_isStep 323 = .ok (.if_icmp .ne 39, 3) := by decide +kernel
theorem dL_isStep_326 : decode cL_isStep 326 = .ok (.aload_n 1, 1) := by decide +kernel
theorem dL_isStep_327 : decode cL_isStep 327 = .ok (.bipush 7, 2) := by decide +kernel
theorem dL_isStep_329 : decode cL_isStep 329 = .ok (.iload 5, 2) := by decide +kernel
theorem dL_isStep_331 : decode cL_isStep 331 = .ok (.isub, 1) := by decide +kernel
theorem dL_isStep_332 : decode cL_isStep 332 = .ok (.bipush 7, 2) := by decide +kernel
theorem dL_isStep_334 : decode cL_isStep 334 = .ok (.iload 6, 2) := by decide +kernel
theorem dL_isStep_336 : decode cL_isStep 336 = .ok (.isub, 1) := by decide +kernel
theorem dL_isStep_337 : decode cL_isStep 337 = .ok (.invokestatic 128, 3) := by decide +kernel
theorem dL_isStep_340 : decode cL_isStep 340 = .ok (.aload_n 0, 1) := by decide +kernel
theorem dL_isStep_341 : decode cL_isStep 341 = .ok (.iload 8, 2) := by decide +kernel
theorem dL_isStep_343 : decode cL_isStep 343 = .ok (.invokestatic 115, 3) := by decide +kernel
theorem dL_isStep_346 : decode cL_isStep 346 = .ok (.if_icmp .ne 16, 3) := by decide +kernel
theorem dL_isStep_349 : decode cL_isStep 349 = .ok (.aload_n 0, 1) := by decide +kernel
theorem dL_isStep_350 : decode cL_isStep 350 = .ok (.invokevirtual 110, 3) := by decide +kernel
theorem dL_isStep_353 : decode cL_isStep 353 = .ok (.iload 9, 2) := by decide +kernel
theorem dL_isStep_355 : decode cL_isStep 355 = .ok (.if_icmp .ne 7, 3) := by decide +kernel
theorem dL_isStep_358 : decode cL_isStep 358 = .ok (.iconst 1, 1) := by decide +kernel
theorem dL_isStep_359 : decode cL_isStep 359 = .ok (.goto 4, 3) := by decide +kernel
theorem dL_isStep_362 : decode cL_isStep 362 = .ok (.iconst 0, 1) := by decide +kernel
theorem dL_isStep_363 : decode cL_isStep 363 = .ok (.ireturn, 1) := by decide +kernel
theorem dL_isStep_364 : decode cL_isStep 364 = .ok (.iload 4, 2) := by decide +kernel
theorem dL_isStep_366 : decode cL_isStep 366 = .ok (.iconst 3, 1) := by decide +kernel
theorem dL_isStep_367 : decode cL_isStep 367 = .ok (.iushr, 1) := by decide +kernel
theorem dL_isStep_368 : decode cL_isStep 368 = .ok (.ldc 130, 2) := by decide +kernel
theorem dL_isStep_370 : decode cL_isStep 370 = .ok (.iand, 1) := by decide +kernel
theorem dL_isStep_371 : decode cL_isStep 371 = .ok (.istore 10, 2) := by decide +kernel
theorem dL_isStep_373 : decode cL_isStep 373 = .ok (.aload_n 0, 1) := by decide +kernel
theorem dL_isStep_374 : decode cL_isStep 374 = .ok (.iload 5, 2) := by decide +kernel
theorem dL_isStep_376 : decode cL_isStep 376 = .ok (.bipush 43, 2) := by decide +kernel
theorem dL_isStep_378 : decode cL_isStep 378 = .ok (.iload 10, 2) := by decide +kernel
theorem dL_isStep_380 : decode cL_isStep 380 = .ok (.invokestatic 131, 3) := by decide +kernel
theorem dL_isStep_383 : decode cL_isStep 383 = .ok (.iload 7, 2) := by decide +kernel
theorem dL_isStep_385 : decode cL_isStep 385 = .ok (.iload 10, 2) := by decide +kernel
theorem dL_isStep_387 : decode cL_isStep 387 = .ok (.ixor, 1) := by decide +kernel
theorem dL_isStep_388 : decode cL_isStep 388 = .ok (.if_icmp .ne 36, 3) := by decide +kernel
theorem dL_isStep_391 : decode cL_isStep 391 = .ok (.aload_n 1, 1) := by decide +kernel
theorem dL_isStep_392 : decode cL_isStep 392 = .ok (.bipush 7, 2) := by decide +kernel
theorem dL_isStep_394 : decode cL_isStep 394 = .ok (.iload 5, 2) := by decide +kernel
theorem dL_isStep_396 : decode cL_isStep 396 = .ok (.isub, 1) := by decide +kernel
theorem dL_isStep_397 : decode cL_isStep 397 = .ok (.bipush 43, 2) := by decide +kernel
theorem dL_isStep_399 : decode cL_isStep 399 = .ok (.aload_n 0, 1) := by decide +kernel
theorem dL_isStep_400 : decode cL_isStep 400 = .ok (.iload 10, 2) := by decide +kernel
theorem dL_isStep_402 : decode cL_isStep 402 = .ok (.invokestatic 115, 3) := by decide +kernel
theorem dL_isStep_405 : decode cL_isStep 405 = .ok (.invokestatic 131, 3) := by decide +kernel
theorem dL_isStep_408 : decode cL_isStep 408 = .ok (.aload_n 0, 1) := by decide +kernel
theorem dL_isStep_409 : decode cL_isStep 409 = .ok (.iload 7, 2) := by decide +kernel
theorem dL_isStep_411 : decode cL_isStep 411 = .ok (.iload 10, 2) := by decide +kernel
theorem dL_isStep_413 : decode cL_isStep 413 = .ok (.ixor, 1) := by decide +kernel
theorem dL_isStep_414 : decode cL_isStep 414 = .ok (.invokestatic 115, 3) := by decide +kernel
theorem dL_isStep_417 : decode cL_isStep 417 = .ok (.if_icmp .ne 7, 3) := by decide +kernel
theorem dL_isStep_420 : decode cL_isStep 420 = .ok (.iconst 1, 1) := by decide +kernel
theorem dL_isStep_421 : decode cL_isStep 421 = .ok (.goto 4, 3) := by decide +kernel
theorem dL_isStep_424 : decode cL_isStep 424 = .ok (.iconst 0, 1) := by decide +kernel
theorem dL_isStep_425 : decode cL_isStep 425 = .ok (.ireturn, 1) := by decide +kernel
theorem dL_isStep_426 : decode cL_isStep 426 = .ok (.iload 4, 2) := by decide +kernel
theorem dL_isStep_428 : decode cL_isStep 428 = .ok (.iconst 3, 1) := by decide +kernel
theorem dL_isStep_429 : decode cL_isStep 429 = .ok (.iushr, 1) := by decide +kernel
theorem dL_isStep_430 : decode cL_isStep 430 = .ok (.ldc 130, 2) := by decide +kernel
theorem dL_isStep_432 : decode cL_isStep 432 = .ok (.iand, 1) := by decide +kernel
theorem dL_isStep_433 : decode cL_isStep 433 = .ok (.istore 10, 2) := by decide +kernel
theorem dL_isStep_435 : decode cL_isStep 435 = .ok (.aload_n 0, 1) := by decide +kernel
theorem dL_isStep_436 : decode cL_isStep 436 = .ok (.iload 5, 2) := by decide +kernel
theorem dL_isStep_438 : decode cL_isStep 438 = .ok (.bipush 42, 2) := by decide +kernel
theorem dL_isStep_440 : decode cL_isStep 440 = .ok (.iload 10, 2) := by decide +kernel
theorem dL_isStep_442 : decode cL_isStep 442 = .ok (.invokestatic 131, 3) := by decide +kernel
theorem dL_isStep_445 : decode cL_isStep 445 = .ok (.istore 11, 2) := by decide +kernel
theorem dL_isStep_447 : decode cL_isStep 447 = .ok (.iload 11, 2) := by decide +kernel
theorem dL_isStep_449 : decode cL_isStep 449 = .ok (.aload_n 0, 1) := by decide +kernel
theorem dL_isStep_450 : decode cL_isStep 450 = .ok (.iload 7, 2) := by decide +kernel
theorem dL_isStep_452 : decode cL_isStep 452 = .ok (.iload 10, 2) := by decide +kernel
theorem dL_isStep_454 : decode cL_isStep 454 = .ok (.invokestatic 89, 3) := by decide +kernel
theorem dL_isStep_457 : decode cL_isStep 457 = .ok (.if_icmp .ne 33, 3) := by decide +kernel
theorem dL_isStep_460 : decode cL_isStep 460 = .ok (.aload_n 1, 1) := by decide +kernel
theorem dL_isStep_461 : decode cL_isStep 461 = .ok (.bipush 7, 2) := by decide +kernel
theorem dL_isStep_463 : decode cL_isStep 463 = .ok (.iload 5, 2) := by decide +kernel
theorem dL_isStep_465 : decode cL_isStep 465 = .ok (.isub, 1) := by decide +kernel
theorem dL_isStep_466 : decode cL_isStep 466 = .ok (.bipush 42, 2) := by decide +kernel
theorem dL_isStep_468 : decode cL_isStep 468 = .ok (.aload_n 0, 1) := by decide +kernel
theorem dL_isStep_469 : decode cL_isStep 469 = .ok (.iload 10, 2) := by decide +kernel
theorem dL_isStep_471 : decode cL_isStep 471 = .ok (.invokestatic 115, 3) := by decide +kernel
theorem dL_isStep_474 : decode cL_isStep 474 = .ok (.invokestatic 131, 3) := by decide +kernel
theorem dL_isStep_477 : decode cL_isStep 477 = .ok (.aload_n 0, 1) := by decide +kernel
theorem dL_isStep_478 : decode cL_isStep 478 = .ok (.iload 11, 2) := by decide +kernel
theorem dL_isStep_480 : decode cL_isStep 480 = .ok (.invokestatic 115, 3) := by decide +kernel
theorem dL_isStep_483 : decode cL_isStep 483 = .ok (.if_icmp .ne 7, 3) := by decide +kernel
theorem dL_isStep_486 : decode cL_isStep 486 = .ok (.iconst 1, 1) := by decide +kernel
theorem dL_isStep_487 : decode cL_isStep 487 = .ok (.goto 4, 3) := by decide +kernel
theorem dL_isStep_490 : decode cL_isStep 490 = .ok (.iconst 0, 1) := by decide +kernel
theorem dL_isStep_491 : decode cL_isStep 491 = .ok (.ireturn, 1) := by decide +kernel
theorem dL_isStep_492 : decode cL_isStep 492 = .ok (.iload 4, 2) := by decide +kernel
theorem dL_isStep_494 : decode cL_isStep 494 = .ok (.iconst 3, 1) := by decide +kernel
theorem dL_isStep_495 : decode cL_isStep 495 = .ok (.iushr, 1) := by decide +kernel
theorem dL_isStep_496 : decode cL_isStep 496 = .ok (.ldc 130, 2) := by decide +kernel
theorem dL_isStep_498 : decode cL_isStep 498 = .ok (.iand, 1) := by decide +kernel
theorem dL_isStep_499 : decode cL_isStep 499 = .ok (.istore 10, 2) := by decide +kernel
theorem dL_isStep_501 : decode cL_isStep 501 = .ok (.aload_n 0, 1) := by decide +kernel
theorem dL_isStep_502 : decode cL_isStep 502 = .ok (.iload 5, 2) := by decide +kernel
theorem dL_isStep_504 : decode cL_isStep 504 = .ok (.bipush 94, 2) := by decide +kernel
theorem dL_isStep_506 : decode cL_isStep 506 = .ok (.iload 10, 2) := by decide +kernel
theorem dL_isStep_508 : decode cL_isStep 508 = .ok (.invokestatic 131, 3) := by decide +kernel
theorem dL_isStep_511 : decode cL_isStep 511 = .ok (.istore 11, 2) := by decide +kernel
theorem dL_isStep_513 : decode cL_isStep 513 = .ok (.iload 11, 2) := by decide +kernel
theorem dL_isStep_515 : decode cL_isStep 515 = .ok (.aload_n 0, 1) := by decide +kernel
theorem dL_isStep_516 : decode cL_isStep 516 = .ok (.iload 7, 2) := by decide +kernel
theorem dL_isStep_518 : decode cL_isStep 518 = .ok (.iload 10, 2) := by decide +kernel
theorem dL_isStep_520 : decode cL_isStep 520 = .ok (.invokestatic 135, 3) := by decide +kernel
theorem dL_isStep_523 : decode cL_isStep 523 = .ok (.if_icmp .ne 29, 3) := by decide +kernel
theorem dL_isStep_526 : decode cL_isStep 526 = .ok (.aload_n 1, 1) := by decide +kernel
theorem dL_isStep_527 : decode cL_isStep 527 = .ok (.bipush 7, 2) := by decide +kernel
theorem dL_isStep_529 : decode cL_isStep 529 = .ok (.iload 5, 2) := by decide +kernel
theorem dL_isStep_531 : decode cL_isStep 531 = .ok (.isub, 1) := by decide +kernel
theorem dL_isStep_532 : decode cL_isStep 532 = .ok (.bipush 94, 2) := by decide +kernel
theorem dL_isStep_534 : decode cL_isStep 534 = .ok (.iload 10, 2) := by decide +kernel
theorem dL_isStep_536 : decode cL_isStep 536 = .ok (.invokestatic 131, 3) := by decide +kernel
theorem dL_isStep_539 : decode cL_isStep 539 = .ok (.aload_n 0, 1) := by decide +kernel
theorem dL_isStep_540 : decode cL_isStep 540 = .ok (.iload 11, 2) := by decide +kernel
theorem dL_isStep_542 : decode cL_isStep 542 = .ok (.invokestatic 115, 3) := by decide +kernel
theorem dL_isStep_545 : decode cL_isStep 545 = .ok (.if_icmp .ne 7, 3) := by decide +kernel
theorem dL_isStep_548 : decode cL_isStep 548 = .ok (.iconst 1, 1) := by decide +kernel
theorem dL_isStep_549 : decode cL_isStep 549 = .ok (.goto 4, 3) := by decide +kernel
theorem dL_isStep_552 : decode cL_isStep 552 = .ok (.iconst 0, 1) := by decide +kernel
theorem dL_isStep_553 : decode cL_isStep 553 = .ok (.ireturn, 1) := by decide +kernel
theorem dL_isStep_554 : decode cL_isStep 554 = .ok (.iload 4, 2) := by decide +kernel
theorem dL_isStep_556 : decode cL_isStep 556 = .ok (.iconst 5, 1) := by decide +kernel
theorem dL_isStep_557 : decode cL_isStep 557 = .ok (.invokestatic 104, 3) := by decide +kernel
theorem dL_isStep_560 : decode cL_isStep 560 = .ok (.ifCond .ne 7, 3) := by decide +kernel
theorem dL_isStep_563 : decode cL_isStep 563 = .ok (.iconst 0, 1) := by decide +kernel
theorem dL_isStep_564 : decode cL_isStep 564 = .ok (.goto 10, 3) := by decide +kernel
theorem dL_isStep_567 : decode cL_isStep 567 = .ok (.iload 4, 2) := by decide +kernel
theorem dL_isStep_569 : decode cL_isStep 569 = .ok (.iconst 3, 1) := by decide +kernel
theorem dL_isStep_570 : decode cL_isStep 570 = .ok (.iushr, 1) := by decide +kernel
theorem dL_isStep_571 : decode cL_isStep 571 = .ok (.ldc 130, 2) := by decide +kernel
theorem dL_isStep_573 : decode cL_isStep 573 = .ok (.iand, 1) := by decide +kernel
theorem dL_isStep_574 : decode cL_isStep 574 = .ok (.istore 10, 2) := by decide +kernel
theorem dL_isStep_576 : decode cL_isStep 576 = .ok (.aload_n 0, 1) := by decide +kernel
theorem dL_isStep_577 : decode cL_isStep 577 = .ok (.iload 5, 2) := by decide +kernel
theorem dL_isStep_579 : decode cL_isStep 579 = .ok (.bipush 47, 2) := by decide +kernel
theorem dL_isStep_581 : decode cL_isStep 581 = .ok (.iload 10, 2) := by decide +kernel
theorem dL_isStep_583 : decode cL_isStep 583 = .ok (.invokestatic 131, 3) := by decide +kernel
theorem dL_isStep_586 : decode cL_isStep 586 = .ok (.istore 11, 2) := by decide +kernel
theorem dL_isStep_588 : decode cL_isStep 588 = .ok (.iload 10, 2) := by decide +kernel
theorem dL_isStep_590 : decode cL_isStep 590 = .ok (.ifCond .ne 35, 3) := by decide +kernel
theorem dL_isStep_593 : decode cL_isStep 593 = .ok (.iload 11, 2) := by decide +kernel
theorem dL_isStep_595 : decode cL_isStep 595 = .ok (.ldc 17, 2) := by decide +kernel
theorem dL_isStep_597 : decode cL_isStep 597 = .ok (.if_icmp .ne 24, 3) := by decide +kernel
theorem dL_isStep_600 : decode cL_isStep 600 = .ok (.aload_n 1, 1) := by decide +kernel
theorem dL_isStep_601 : decode cL_isStep 601 = .ok (.bipush 7, 2) := by decide +kernel
theorem dL_isStep_603 : decode cL_isStep 603 = .ok (.iload 5, 2) := by decide +kernel
theorem dL_isStep_605 : decode cL_isStep 605 = .ok (.isub, 1) := by decide +kernel
theorem dL_isStep_606 : decode cL_isStep 606 = .ok (.bipush 47, 2) := by decide +kernel
theorem dL_isStep_608 : decode cL_isStep 608 = .ok (.iconst 0, 1) := by decide +kernel
theorem dL_isStep_609 : decode cL_isStep 609 = .ok (.invokestatic 131, 3) := by decide +kernel
theorem dL_isStep_612 : decode cL_isStep 612 = .ok (.ldc 17, 2) := by decide +kernel
theorem dL_isStep_614 : decode cL_isStep 614 = .ok (.if_icmp .ne 7, 3) := by decide +kernel
theorem dL_isStep_617 : decode cL_isStep 617 = .ok (.iconst 1, 1) := by decide +kernel
theorem dL_isStep_618 : decode cL_isStep 618 = .ok (.goto 51, 3) := by decide +kernel
theorem dL_isStep_621 : decode cL_isStep 621 = .ok (.iconst 0, 1) := by decide +kernel
theorem dL_isStep_622 : decode cL_isStep 622 = .ok (.goto 47, 3) := by decide +kernel
theorem dL_isStep_625 : decode cL_isStep 625 = .ok (.iload 11, 2) := by decide +kernel
theorem dL_isStep_627 : decode cL_isStep 627 = .ok (.aload_n 0, 1) := by decide +kernel
theorem dL_isStep_628 : decode cL_isStep 628 = .ok (.iload 7, 2) := by decide +kernel
theorem dL_isStep_630 : decode cL_isStep 630 = .ok (.iload 10, 2) := by decide +kernel
theorem dL_isStep_632 : decode cL_isStep 632 = .ok (.invokestatic 137, 3) := by decide +kernel
theorem dL_isStep_635 : decode cL_isStep 635 = .ok (.if_icmp .ne 33, 3) := by decide +kernel
theorem dL_isStep_638 : decode cL_isStep 638 = .ok (.aload_n 1, 1) := by decide +kernel
theorem dL_isStep_639 : decode cL_isStep 639 = .ok (.bipush 7, 2) := by decide +kernel
theorem dL_isStep_641 : decode cL_isStep 641 = .ok (.iload 5, 2) := by decide +kernel
theorem dL_isStep_643 : decode cL_isStep 643 = .ok (.isub, 1) := by decide +kernel
theorem dL_isStep_644 : decode cL_isStep 644 = .ok (.bipush 47, 2) := by decide +kernel
theorem dL_isStep_646 : decode cL_isStep 646 = .ok (.aload_n 0, 1) := by decide +kernel
theorem dL_isStep_647 : decode cL_isStep 647 = .ok (.iload 10, 2) := by decide +kernel
theorem dL_isStep_649 : decode cL_isStep 649 = .ok (.invokestatic 115, 3) := by decide +kernel
theorem dL_isStep_652 : decode cL_isStep 652 = .ok (.invokestatic 131, 3) := by decide +kernel
theorem dL_isStep_655 : decode cL_isStep 655 = .ok (.aload_n 0, 1) := by decide +kernel
theorem dL_isStep_656 : decode cL_isStep 656 = .ok (.iload 11, 2) := by decide +kernel
theorem dL_isStep_658 : decode cL_isStep 658 = .ok (.invokestatic 115, 3) := by decide +kernel
theorem dL_isStep_661 : decode cL_isStep 661 = .ok (.if_icmp .ne 7, 3) := by decide +kernel
theorem dL_isStep_664 : decode cL_isStep 664 = .ok (.iconst 1, 1) := by decide +kernel
theorem dL_isStep_665 : decode cL_isStep 665 = .ok (.goto 4, 3) := by decide +kernel
theorem dL_isStep_668 : decode cL_isStep 668 = .ok (.iconst 0, 1) := by decide +kernel
theorem dL_isStep_669 : decode cL_isStep 669 = .ok (.ireturn, 1) := by decide +kernel
theorem dL_isStep_670 : decode cL_isStep 670 = .ok (.iload_n 3, 1) := by decide +kernel
theorem dL_isStep_671 : decode cL_isStep 671 = .ok (.iconst 2, 1) := by decide +kernel
theorem dL_isStep_672 : decode cL_isStep 672 = .ok (.invokestatic 104, 3) := by decide +kernel
theorem dL_isStep_675 : decode cL_isStep 675 = .ok (.ifCond .ne 26, 3) := by decide +kernel
theorem dL_isStep_678 : decode cL_isStep 678 = .ok (.aload_n 0, 1) := by decide +kernel
theorem dL_isStep_679 : decode cL_isStep 679 = .ok (.aload_n 0, 1) := by decide +kernel
theorem dL_isStep_680 : decode cL_isStep 680 = .ok (.invokevirtual 139, 3) := by decide +kernel
theorem dL_isStep_683 : decode cL_isStep 683 = .ok (.invokestatic 115, 3) := by decide +kernel
theorem dL_isStep_686 : decode cL_isStep 686 = .ok (.aload_n 1, 1) := by decide +kernel
theorem dL_isStep_687 : decode cL_isStep 687 = .ok (.invokevirtual 139, 3) := by decide +kernel
theorem dL_isStep_690 : decode cL_isStep 690 = .ok (.if_icmp .ne 7, 3) := by decide +kernel
theorem dL_isStep_693 : decode cL_isStep 693 = .ok (.iconst 1, 1) := by decide +kernel
theorem dL_isStep_694 : decode cL_isStep 694 = .ok (.goto 20, 3) := by decide +kernel
theorem dL_isStep_697 : decode cL_isStep 697 = .ok (.iconst 0, 1) := by decide +kernel
theorem dL_isStep_698 : decode cL_isStep 698 = .ok (.goto 16, 3) := by decide +kernel
theorem dL_isStep_701 : decode cL_isStep 701 = .ok (.aload_n 0, 1) := by decide +kernel
theorem dL_isStep_702 : decode cL_isStep 702 = .ok (.aload_n 1, 1) := by decide +kernel
theorem dL_isStep_703 : decode cL_isStep 703 = .ok (.aload_n 0, 1) := by decide +kernel
theorem dL_isStep_704 : decode cL_isStep 704 = .ok (.invokestatic 142, 3) := by decide +kernel
theorem dL_isStep_707 : decode cL_isStep 707 = .ok (.aload_n 1, 1) := by decide +kernel
theorem dL_isStep_708 : decode cL_isStep 708 = .ok (.invokestatic 142, 3) := by decide +kernel
theorem dL_isStep_711 : decode cL_isStep 711 = .ok (.invokestatic 145, 3) := by decide +kernel
theorem dL_isStep_714 : decode cL_isStep 714 = .ok (.ireturn, 1) := by decide +kernel
theorem dL_isStep_715 : decode cL_isStep 715 = .ok (.aload_n 0, 1) := by decide +kernel
theorem dL_isStep_716 : decode cL_isStep 716 = .ok (.invokestatic 149, 3) := by decide +kernel
theorem dL_isStep_719 : decode cL_isStep 719 = .ok (.aload_n 1, 1) := by decide +kernel
theorem dL_isStep_720 : decode cL_isStep 720 = .ok (.invokestatic 149, 3) := by decide +kernel
theorem dL_isStep_723 : decode cL_isStep 723 = .ok (.if_icmp .ne 7, 3) := by decide +kernel
theorem dL_isStep_726 : decode cL_isStep 726 = .ok (.iconst 1, 1) := by decide +kernel
theorem dL_isStep_727 : decode cL_isStep 727 = .ok (.goto 4, 3) := by decide +kernel
theorem dL_isStep_730 : decode cL_isStep 730 = .ok (.iconst 0, 1) := by decide +kernel
theorem dL_isStep_731 : decode cL_isStep 731 = .ok (.ireturn, 1) := by decide +kernel
theorem dL_isStep_732 : decode cL_isStep 732 = .ok (.iload 4, 2) := by decide +kernel
theorem dL_isStep_734 : decode cL_isStep 734 = .ok (.iconst 2, 1) := by decide +kernel
theorem dL_isStep_735 : decode cL_isStep 735 = .ok (.iushr, 1) := by decide +kernel
theorem dL_isStep_736 : decode cL_isStep 736 = .ok (.ldc 130, 2) := by decide +kernel
theorem dL_isStep_738 : decode cL_isStep 738 = .ok (.iload_n 3, 1) := by decide +kernel
theorem dL_isStep_739 : decode cL_isStep 739 = .ok (.iconst 4, 1) := by decide +kernel
theorem dL_isStep_740 : decode cL_isStep 740 = .ok (.ishr, 1) := by decide +kernel
theorem dL_isStep_741 : decode cL_isStep 741 = .ok (.bipush 16, 2) := by decide +kernel
theorem dL_isStep_743 : decode cL_isStep 743 = .ok (.invokestatic 104, 3) := by decide +kernel
theorem dL_isStep_746 : decode cL_isStep 746 = .ok (.ishr, 1) := by decide +kernel
theorem dL_isStep_747 : decode cL_isStep 747 = .ok (.iand, 1) := by decide +kernel
theorem dL_isStep_748 : decode cL_isStep 748 = .ok (.istore 10, 2) := by decide +kernel
theorem dL_isStep_750 : decode cL_isStep 750 = .ok (.aload_n 0, 1) := by decide +kernel
theorem dL_isStep_751 : decode cL_isStep 751 = .ok (.iload 5, 2) := by decide +kernel
theorem dL_isStep_753 : decode cL_isStep 753 = .ok (.iload 10, 2) := by decide +kernel
theorem dL_isStep_755 : decode cL_isStep 755 = .ok (.invokestatic 151, 3) := by decide +kernel
theorem dL_isStep_758 : decode cL_isStep 758 = .ok (.iload 7, 2) := by decide +kernel
theorem dL_isStep_760 : decode cL_isStep 760 = .ok (.if_icmp .ne 47, 3) := by decide +kernel
theorem dL_isStep_763 : decode cL_isStep 763 = .ok (.aload_n 1, 1) := by decide +kernel
theorem dL_isStep_764 : decode cL_isStep 764 = .ok (.bipush 7, 2) := by decide +kernel
theorem dL_isStep_766 : decode cL_isStep 766 = .ok (.iload 5, 2) := by decide +kernel
theorem dL_isStep_768 : decode cL_isStep 768 = .ok (.isub, 1) := by decide +kernel
theorem dL_isStep_769 : decode cL_isStep 769 = .ok (.iconst 0, 1) := by decide +kernel
theorem dL_isStep_770 : decode cL_isStep 770 = .ok (.aload_n 0, 1) := by decide +kernel
theorem dL_isStep_771 : decode cL_isStep 771 = .ok (.iload 10, 2) := by decide +kernel
theorem dL_isStep_773 : decode cL_isStep 773 = .ok (.invokestatic 115, 3) := by decide +kernel
theorem dL_isStep_776 : decode cL_isStep 776 = .ok (.invokestatic 131, 3) := by decide +kernel
theorem dL_isStep_779 : decode cL_isStep 779 = .ok (.aload_n 0, 1) := by decide +kernel
theorem dL_isStep_780 : decode cL_isStep 780 = .ok (.iload 10, 2) := by decide +kernel
theorem dL_isStep_782 : decode cL_isStep 782 = .ok (.invokestatic 115, 3) := by decide +kernel
theorem dL_isStep_785 : decode cL_isStep 785 = .ok (.if_icmp .ne 22, 3) := by decide +kernel
theorem dL_isStep_788 : decode cL_isStep 788 = .ok (.aload_n 0, 1) := by decide +kernel
theorem dL_isStep_789 : decode cL_isStep 789 = .ok (.invokevirtual 110, 3) := by decide +kernel
theorem dL_isStep_792 : decode cL_isStep 792 = .ok (.iload 9, 2) := by decide +kernel
theorem dL_isStep_794 : decode cL_isStep 794 = .ok (.iload 7, 2) := by decide +kernel
theorem dL_isStep_796 : decode cL_isStep 796 = .ok (.ixor, 1) := by decide +kernel
theorem dL_isStep_797 : decode cL_isStep 797 = .ok (.iload 10, 2) := by decide +kernel
theorem dL_isStep_799 : decode cL_isStep 799 = .ok (.ixor, 1) := by decide +kernel
theorem dL_isStep_800 : decode cL_isStep 800 = .ok (.if_icmp .ne 7, 3) := by decide +kernel
theorem dL_isStep_803 : decode cL_isStep 803 = .ok (.iconst 1, 1) := by decide +kernel
theorem dL_isStep_804 : decode cL_isStep 804 = .ok (.goto 4, 3) := by decide +kernel
theorem dL_isStep_807 : decode cL_isStep 807 = .ok (.iconst 0, 1) := by decide +kernel
theorem dL_isStep_808 : decode cL_isStep 808 = .ok (.ireturn, 1) := by decide +kernel
