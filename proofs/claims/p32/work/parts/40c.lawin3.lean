/-! The law's words, all. -/
set_option maxRecDepth 100000 in
theorem wsL_law_in0_X60 : ∀ w ∈ wsX60, w ∈ lw_tbl := fun w h => (goodIn_p wsX60 [] (by decide +kernel) (by decide +kernel) w h).1
set_option maxRecDepth 100000 in
theorem wsL_law_in0_X20 : ∀ w ∈ wsX20, w ∈ lw_tbl := fun w h => (goodIn_p wsX20 [] (by decide +kernel) (by decide +kernel) w h).1
set_option maxRecDepth 100000 in
theorem wsL_law_in0_X10 : ∀ w ∈ wsX10, w ∈ lw_tbl := fun w h => (goodIn_p wsX10 [] (by decide +kernel) (by decide +kernel) w h).1
set_option maxRecDepth 100000 in
theorem wsL_law_in0_X30 : ∀ w ∈ wsX30, w ∈ lw_tbl := fun w h => (goodIn_p wsX30 [] (by decide +kernel) (by decide +kernel) w h).1
set_option maxRecDepth 100000 in
theorem wsL_law_in0_X40 : ∀ w ∈ wsX40, w ∈ lw_tbl := fun w h => (goodIn_p wsX40 [] (by decide +kernel) (by decide +kernel) w h).1
set_option maxRecDepth 100000 in
theorem wsL_law_in0_X00 : ∀ w ∈ wsX00, w ∈ lw_tbl := fun w h => (goodIn_p wsX00 [] (by decide +kernel) (by decide +kernel) w h).1
set_option maxRecDepth 100000 in
theorem wsL_law_in0_X50 : ∀ w ∈ wsX50, w ∈ lw_tbl := fun w h => (goodIn_p wsX50 [] (by decide +kernel) (by decide +kernel) w h).1
set_option maxRecDepth 100000 in
theorem wsL_law_in0 : ∀ w ∈ wsL_law0, w ∈ lw_tbl := fun w h => by
  rcases List.mem_append.mp h with h | h
  rotate_left
  · cases h
  rcases List.mem_append.mp h with h | h
  rotate_left
  · exact wsL_law_in0_X50 w h
  rcases List.mem_append.mp h with h | h
  rotate_left
  · exact wsL_law_in0_X00 w h
  rcases List.mem_append.mp h with h | h
  rotate_left
  · exact wsL_law_in0_X40 w h
  rcases List.mem_append.mp h with h | h
  rotate_left
  · exact wsL_law_in0_X30 w h
  rcases List.mem_append.mp h with h | h
  rotate_left
  · exact wsL_law_in0_X10 w h
  rcases List.mem_append.mp h with h | h
  rotate_left
  · exact wsL_law_in0_X20 w h
  rcases List.mem_append.mp h with h | h
  rotate_left
  · exact wsL_law_in0_X60 w h
  rcases List.mem_append.mp h with h | h
  · exact wsL_law_in0_1 w h
  rcases List.mem_append.mp h with h | h
  · exact wsL_law_in0_2 w h
  rcases List.mem_append.mp h with h | h
  · exact wsL_law_in0_3 w h
  rcases List.mem_append.mp h with h | h
  · exact wsL_law_in0_4 w h
  rcases List.mem_append.mp h with h | h
  · exact wsL_law_in0_5 w h
  rcases List.mem_append.mp h with h | h
  · exact wsL_law_in0_6 w h
  rcases List.mem_append.mp h with h | h
  · exact wsL_law_in0_7 w h
  rcases List.mem_append.mp h with h | h
  · exact wsL_law_in0_8 w h
  rcases List.mem_append.mp h with h | h
  · exact wsL_law_in0_9 w h
  rcases List.mem_append.mp h with h | h
  · exact wsL_law_in0_10 w h
  rcases List.mem_append.mp h with h | h
  · exact wsL_law_in0_11 w h
  rcases List.mem_append.mp h with h | h
  · exact wsL_law_in0_12 w h
  rcases List.mem_append.mp h with h | h
  · exact wsL_law_in0_13 w h
  rcases List.mem_append.mp h with h | h
  · exact wsL_law_in0_14 w h
  rcases List.mem_append.mp h with h | h
  · exact wsL_law_in0_15 w h
  rcases List.mem_append.mp h with h | h
  · exact wsL_law_in0_16 w h
  rcases List.mem_append.mp h with h | h
  · exact wsL_law_in0_17 w h
  rcases List.mem_append.mp h with h | h
  · exact wsL_law_in0_18 w h
  rcases List.mem_append.mp h with h | h
  · exact wsL_law_in0_19 w h
  exact wsL_law_in0_20 w h
set_option maxRecDepth 100000 in
theorem wsL_law_x0 : ∀ w ∈ (vx_atS RX6 172 "java/lang/IndexOutOfBoundsException" ["java/lang/RuntimeException", "java/lang/Exception"]).filter goodWord, w ∈ lw_tbl := by decide +kernel
set_option maxRecDepth 100000 in
theorem wsL_law_x1 : ∀ w ∈ (vx_atS RX6 78 "java/lang/IllegalStateException" ["java/lang/RuntimeException", "java/lang/Exception"]).filter goodWord, w ∈ lw_tbl := by decide +kernel
set_option maxRecDepth 100000 in
theorem wsL_law_x2 : ∀ w ∈ (vx_atS RX6 177 "java/lang/IllegalArgumentException" ["java/lang/RuntimeException", "java/lang/Exception"]).filter goodWord, w ∈ lw_tbl := by decide +kernel
set_option maxRecDepth 100000 in
theorem wsL_law_in : ∀ w ∈ wsL_law, w ∈ lw_tbl := fun w h => (List.mem_append.mp h).elim (fun h => (List.mem_append.mp h).elim (fun h => (List.mem_append.mp h).elim (fun h => wsL_law_in0 w h) (fun h => wsL_law_x0 w h)) (fun h => wsL_law_x1 w h)) (fun h => wsL_law_x2 w h)
set_option maxRecDepth 100000 in
theorem inlX0 : ∀ w ∈ wsX00, w ∈ wsL_law := fun _ h => List.mem_append_left _ (List.mem_append_left _ (List.mem_append_left _ (List.mem_append_left _ (List.mem_append_left _ (List.mem_append_right _ h)))))
set_option maxRecDepth 100000 in
theorem inlX1 : ∀ w ∈ wsX10, w ∈ wsL_law := fun _ h => List.mem_append_left _ (List.mem_append_left _ (List.mem_append_left _ (List.mem_append_left _ (List.mem_append_left _ (List.mem_append_left _ (List.mem_append_left _ (List.mem_append_left _ (List.mem_append_right _ h))))))))
set_option maxRecDepth 100000 in
theorem inlX2 : ∀ w ∈ wsX20, w ∈ wsL_law := fun _ h => List.mem_append_left _ (List.mem_append_left _ (List.mem_append_left _ (List.mem_append_left _ (List.mem_append_left _ (List.mem_append_left _ (List.mem_append_left _ (List.mem_append_left _ (List.mem_append_left _ (List.mem_append_right _ h)))))))))
set_option maxRecDepth 100000 in
theorem inlX3 : ∀ w ∈ wsX30, w ∈ wsL_law := fun _ h => List.mem_append_left _ (List.mem_append_left _ (List.mem_append_left _ (List.mem_append_left _ (List.mem_append_left _ (List.mem_append_left _ (List.mem_append_left _ (List.mem_append_right _ h)))))))
set_option maxRecDepth 100000 in
theorem inlX4 : ∀ w ∈ wsX40, w ∈ wsL_law := fun _ h => List.mem_append_left _ (List.mem_append_left _ (List.mem_append_left _ (List.mem_append_left _ (List.mem_append_left _ (List.mem_append_left _ (List.mem_append_right _ h))))))
set_option maxRecDepth 100000 in
theorem inlX5 : ∀ w ∈ wsX50, w ∈ wsL_law := fun _ h => List.mem_append_left _ (List.mem_append_left _ (List.mem_append_left _ (List.mem_append_left _ (List.mem_append_right _ h))))
set_option maxRecDepth 100000 in
theorem inlX6 : ∀ w ∈ wsX60, w ∈ wsL_law := fun _ h => List.mem_append_left _ (List.mem_append_left _ (List.mem_append_left _ (List.mem_append_left _ (List.mem_append_left _ (List.mem_append_left _ (List.mem_append_left _ (List.mem_append_left _ (List.mem_append_left _ (List.mem_append_left _ (List.mem_append_right _ h))))))))))
