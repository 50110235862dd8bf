/-! The law's words are the tables' words. -/
set_option maxRecDepth 100000 in
set_option maxHeartbeats 4000000 in
theorem wsL_law_in0_1 : ∀ w ∈ wsL_law0_r1, w ∈ lw_tbl := fun w h => (goodIn_p wsL_law0_r1 [31, 34] (by decide +kernel) (by decide +kernel) w h).1
set_option maxRecDepth 100000 in
set_option maxHeartbeats 4000000 in
theorem wsL_law_in0_2 : ∀ w ∈ wsL_law0_r2, w ∈ lw_tbl := fun w h => (goodIn_p wsL_law0_r2 [39, 43, 46, 49] (by decide +kernel) (by decide +kernel) w h).1
set_option maxRecDepth 100000 in
set_option maxHeartbeats 4000000 in
theorem wsL_law_in0_3 : ∀ w ∈ wsL_law0_r3, w ∈ lw_tbl := fun w h => (goodIn_p wsL_law0_r3 [59, 71, 78, 114, 127] (by decide +kernel) (by decide +kernel) w h).1
def wsL_law0_r4a : List Cond := [Cond.classLink RX0 9 RX4, Cond.fieldLink RX0 11 "NimberField$History" "kept" "[LNimberField$State;", Cond.methodLink RL 175 yL_cell, Cond.static yL_cell, Cond.initialized RL, Cond.code yL_cell cL_cell 2 (some .int), Cond.constant RL 7 (2144730569), Cond.methodLink RL 179 yL_isStep, Cond.static yL_isStep]
def wsL_law0_r4b : List Cond := [Cond.constant RL 20 (900002), Cond.constant RL 130 (65535), Cond.constant RL 17 (900001), Cond.methodLink RL 104 yL_up, Cond.static yL_up, Cond.code yL_up cL_up 2 (some .int), Cond.constant RL 8 (2147483647), Cond.methodLink RL 107 yL_nimber, Cond.static yL_nimber, Cond.codeWith yL_nimber cL_nimber 3 (some .int) [(0, 5, 6, 15)], Cond.classLink RL 15 "java/lang/IndexOutOfBoundsException", Cond.methodLink RL 53 yX6_nimberOf, Cond.instanceMethod yX6_nimberOf, Cond.selects RX6 yX6_nimberOf yX6_nimberOf]
set_option maxRecDepth 100000 in
set_option maxHeartbeats 4000000 in
theorem wsL_law_in0_4a : ∀ w ∈ wsL_law0_r4a, w ∈ lw_tbl := fun w h => (goodIn_p wsL_law0_r4a [166] (by decide +kernel) (by decide +kernel) w h).1
set_option maxRecDepth 100000 in
set_option maxHeartbeats 4000000 in
theorem wsL_law_in0_4b : ∀ w ∈ wsL_law0_r4b, w ∈ lw_tbl := fun w h => (goodIn_p wsL_law0_r4b [173] (by decide +kernel) (by decide +kernel) w h).1
set_option maxRecDepth 100000 in
set_option maxHeartbeats 4000000 in
theorem wsL_law_in0_4c : Cond.code yL_isStep cL_isStep 12 (some .boolean) ∈ lw_tbl := List.mem_of_getElem? (i := 170) rfl
set_option maxRecDepth 100000 in
set_option maxHeartbeats 4000000 in
theorem wsL_law_in0_4 : ∀ w ∈ wsL_law0_r4, w ∈ lw_tbl := fun w h => by
  have h : w ∈ wsL_law0_r4a ++ (Cond.code yL_isStep cL_isStep 12 (some .boolean) :: wsL_law0_r4b) := h
  rcases List.mem_append.mp h with h | h
  · exact wsL_law_in0_4a w h
  · rcases List.mem_cons.mp h with h | h
    · rw [h]; exact wsL_law_in0_4c
    · exact wsL_law_in0_4b w h
set_option maxRecDepth 100000 in
set_option maxHeartbeats 4000000 in
theorem wsL_law_in0_5 : ∀ w ∈ wsL_law0_r5, w ∈ lw_tbl := fun w h => (goodIn_p wsL_law0_r5 [182, 185, 257, 262, 266] (by decide +kernel) (by decide +kernel) w h).1
set_option maxRecDepth 100000 in
set_option maxHeartbeats 4000000 in
theorem wsL_law_in0_6 : ∀ w ∈ wsL_law0_r6, w ∈ lw_tbl := fun w h => (goodIn_p wsL_law0_r6 [274, 294, 298, 302, 306, 310] (by decide +kernel) (by decide +kernel) w h).1
set_option maxRecDepth 100000 in
set_option maxHeartbeats 4000000 in
theorem wsL_law_in0_7 : ∀ w ∈ wsL_law0_r7, w ∈ lw_tbl := fun w h => (goodIn_p wsL_law0_r7 [322, 314, 319, 326, 330] (by decide +kernel) (by decide +kernel) w h).1
set_option maxRecDepth 100000 in
set_option maxHeartbeats 4000000 in
theorem wsL_law_in0_8 : ∀ w ∈ wsL_law0_r8, w ∈ lw_tbl := fun w h => (goodIn_p wsL_law0_r8 [338, 342, 361, 369] (by decide +kernel) (by decide +kernel) w h).1
set_option maxRecDepth 100000 in
set_option maxHeartbeats 4000000 in
theorem wsL_law_in0_9 : ∀ w ∈ wsL_law0_r9, w ∈ lw_tbl := fun w h => (goodIn_p wsL_law0_r9 [373, 380, 385, 389] (by decide +kernel) (by decide +kernel) w h).1
set_option maxRecDepth 100000 in
set_option maxHeartbeats 4000000 in
theorem wsL_law_in0_10 : ∀ w ∈ wsL_law0_r10, w ∈ lw_tbl := fun w h => (goodIn_p wsL_law0_r10 [397, 404, 408, 412, 416] (by decide +kernel) (by decide +kernel) w h).1
