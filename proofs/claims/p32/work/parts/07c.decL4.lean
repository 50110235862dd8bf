set_option maxRecDepth 20000 in
theorem gg9_L_isStep_c : GoodIn wsL_law [.code yL_isStep cL_isStep 12 (some .boolean)] := fun w h => by
  rw [List.mem_singleton] at h
  subst h
  exact ⟨List.mem_of_getElem? (i := 81) rfl, good_of_word rfl⟩
set_option maxRecDepth 20000 in
theorem gg9_wsL_isStep_r1 : GoodIn wsL_law wsL_isStep_r1 := goodIn_r _ [82, 83, 84, 85, 86, 76, 87, 88, 89, 90, 91, 92, 93, 94, 95, 2, 96, 24, 97, 98, 99, 100, 101, 102] (by decide +kernel) (by decide +kernel)
set_option maxRecDepth 20000 in
theorem gg9_wsL_isStep_r2 : GoodIn wsL_law wsL_isStep_r2 := goodIn_r _ [103, 104, 23, 105, 67, 106, 107, 108, 109, 110, 111, 112, 113, 114, 115, 116, 117, 118, 119, 120, 121, 122, 123, 12] (by decide +kernel) (by decide +kernel)
set_option maxRecDepth 20000 in
theorem gg9_wsL_isStep_r3 : GoodIn wsL_law wsL_isStep_r3 := goodIn_r _ [124, 125, 126, 11, 127, 128, 129, 130, 131, 36, 132, 133, 134, 135, 136, 137, 138, 139, 30, 140, 141, 142, 29, 143] (by decide +kernel) (by decide +kernel)
set_option maxRecDepth 20000 in
theorem gg9_wsL_isStep_r4 : GoodIn wsL_law wsL_isStep_r4 := goodIn_r _ [73, 144, 145, 146, 147, 148, 149, 150, 151, 152, 153, 154, 155, 156, 157, 158, 159, 160, 161, 162, 163, 164, 165, 166] (by decide +kernel) (by decide +kernel)
set_option maxRecDepth 20000 in
theorem gg9_wsL_isStep_r5 : GoodIn wsL_law wsL_isStep_r5 := goodIn_r _ [167, 168, 169, 170, 171, 172, 173, 174, 175, 176, 177, 178, 179, 180, 181, 182, 183, 184, 185, 186, 187, 188, 189, 190] (by decide +kernel) (by decide +kernel)
set_option maxRecDepth 20000 in
theorem gg9_wsL_isStep_r6 : GoodIn wsL_law wsL_isStep_r6 := goodIn_r _ [191, 192, 193, 194, 195, 196, 197, 198, 199, 200, 201, 202, 203, 204, 205, 206, 207, 208, 209, 210, 211, 212, 213, 214] (by decide +kernel) (by decide +kernel)
set_option maxRecDepth 20000 in
theorem gg9_wsL_isStep_r7 : GoodIn wsL_law wsL_isStep_r7 := goodIn_r _ [215, 216, 217, 218, 219, 220, 221, 222, 223, 224, 225, 226, 227, 228, 229, 230, 231, 20, 232, 233, 234, 19, 235, 236] (by decide +kernel) (by decide +kernel)
set_option maxRecDepth 20000 in
theorem gg9_wsL_isStep_r8 : GoodIn wsL_law wsL_isStep_r8 := goodIn_r _ [237, 238, 239, 240, 241, 242, 243, 244, 245, 246, 247, 248, 249, 250, 251, 56, 252, 253, 254, 255, 256, 257, 258, 25] (by decide +kernel) (by decide +kernel)
set_option maxRecDepth 20000 in
theorem gg9_wsL_isStep_r9 : GoodIn wsL_law wsL_isStep_r9 := goodIn_r _ [259, 260, 261, 262, 263, 264, 265, 266, 267, 268, 58, 269, 270, 271, 272, 273, 274, 275, 276, 277, 278, 279, 280, 281] (by decide +kernel) (by decide +kernel)
set_option maxRecDepth 20000 in
theorem gg9_wsL_isStep_r10 : GoodIn wsL_law wsL_isStep_r10 := goodIn_r _ [282, 283, 60, 284, 285, 286, 287, 288, 289, 290, 291, 292, 293, 294, 295, 296, 297, 298, 299, 300, 301, 302, 303, 304] (by decide +kernel) (by decide +kernel)
set_option maxRecDepth 20000 in
theorem gg9_wsL_isStep_r11 : GoodIn wsL_law wsL_isStep_r11 := goodIn_r _ [305, 306, 307, 308, 309, 310, 311, 312, 313, 314, 315, 316, 317, 318, 319, 320, 321, 322, 323, 324, 325, 326, 327, 328] (by decide +kernel) (by decide +kernel)
set_option maxRecDepth 20000 in
theorem gg9_wsL_isStep_r12 : GoodIn wsL_law wsL_isStep_r12 := goodIn_r _ [329, 330, 331, 332, 333, 334, 335, 336, 337, 338, 339, 340, 341, 342, 343, 344, 345, 346, 347, 348, 349, 350, 351, 352] (by decide +kernel) (by decide +kernel)
set_option maxRecDepth 20000 in
theorem gg9_wsL_isStep_r13 : GoodIn wsL_law wsL_isStep_r13 := goodIn_r _ [353, 354, 355, 356, 357, 358, 359, 360, 361, 362, 363, 364, 365, 366, 367, 368, 369, 370, 371, 372, 26, 31, 373, 374] (by decide +kernel) (by decide +kernel)
set_option maxRecDepth 20000 in
theorem gg9_wsL_isStep_r14 : GoodIn wsL_law wsL_isStep_r14 := goodIn_r _ [375, 376, 377, 378, 379, 380, 381, 382, 383, 384, 385, 386, 387, 388, 389, 390, 391, 392, 393, 394, 395, 396, 397, 398] (by decide +kernel) (by decide +kernel)
set_option maxRecDepth 20000 in
theorem gg9_wsL_isStep_r15 : GoodIn wsL_law wsL_isStep_r15 := goodIn_r _ [399, 400, 401, 402, 403, 404] (by decide +kernel) (by decide +kernel)
set_option maxRecDepth 20000 in
theorem gg9_L_isStep_X6 : GoodIn wsL_law wsX60 := goodIn_r _ [470, 471, 472, 473, 474, 475, 476, 477] (by decide +kernel) (by decide +kernel)
set_option maxRecDepth 20000 in
theorem gg9_L_isStep_X4 : GoodIn wsL_law wsX40 := goodIn_r _ [486, 487] (by decide +kernel) (by decide +kernel)
set_option maxRecDepth 20000 in
theorem gg9_L_isStep_X2 : GoodIn wsL_law wsX20 := goodIn_r _ [478] (by decide +kernel) (by decide +kernel)
set_option maxRecDepth 20000 in
theorem gg9_L_isStep_X0 : GoodIn wsL_law wsX00 := goodIn_r _ [488, 489] (by decide +kernel) (by decide +kernel)
set_option maxRecDepth 20000 in
theorem gg9_L_isStep_X3 : GoodIn wsL_law wsX30 := goodIn_r _ [481, 482, 483, 484, 485] (by decide +kernel) (by decide +kernel)
set_option maxRecDepth 20000 in
theorem gg9_L_isStep_X5 : GoodIn wsL_law wsX50 := goodIn_r _ [490, 491, 492, 493] (by decide +kernel) (by decide +kernel)
set_option maxRecDepth 20000 in
theorem ggL_law_L_isStep : GoodIn wsL_law wsL_isStep := (goodIn_ca (goodIn_ca (goodIn_ca (goodIn_ca (goodIn_ca (goodIn_ca (goodIn_ca (goodIn_ca (goodIn_ca (fun w h => (List.mem_cons.mp h).elim (fun e => gg9_L_isStep_c w (List.mem_cons.mpr (Or.inl e))) ((goodIn_app gg9_wsL_isStep_r1 (goodIn_app gg9_wsL_isStep_r2 (goodIn_app gg9_wsL_isStep_r3 (goodIn_app gg9_wsL_isStep_r4 (goodIn_app gg9_wsL_isStep_r5 (goodIn_app gg9_wsL_isStep_r6 (goodIn_app gg9_wsL_isStep_r7 (goodIn_app gg9_wsL_isStep_r8 (goodIn_app gg9_wsL_isStep_r9 (goodIn_app gg9_wsL_isStep_r10 (goodIn_app gg9_wsL_isStep_r11 (goodIn_app gg9_wsL_isStep_r12 (goodIn_app gg9_wsL_isStep_r13 (goodIn_app gg9_wsL_isStep_r14 gg9_wsL_isStep_r15)))))))))))))) w)) gg9_L_isStep_X6) gg9_L_isStep_X4) gg9_L_isStep_X2) gg9_L_isStep_X0) gg9_L_isStep_X3) gg9_L_isStep_X5) (goodIn_sub (fun _ h => List.mem_append_left _ (List.mem_append_left _ (List.mem_append_right _ h))) (by decide +kernel))) (goodIn_sub (fun _ h => List.mem_append_left _ (List.mem_append_right _ h)) (by decide +kernel))) (goodIn_sub (fun _ h => List.mem_append_right _ h) (by decide +kernel)))
