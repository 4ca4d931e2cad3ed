def wsL_law : List Cond := (wsL_law_r1 ++ (wsL_law_r2 ++ (wsL_law_r3 ++ (wsL_law_r4 ++ (wsL_law_r5 ++ (wsL_law_r6 ++ (wsL_law_r7 ++ (wsL_law_r8 ++ (wsL_law_r9 ++ (wsL_law_r10 ++ (wsL_law_r11 ++ (wsL_law_r12 ++ (wsL_law_r13 ++ (wsL_law_r14 ++ (wsL_law_r15 ++ (wsL_law_r16 ++ (wsL_law_r17 ++ (wsL_law_r18 ++ (wsL_law_r19 ++ (wsL_law_r20 ++ (wsL_law_r21 ++ (wsL_law_r22 ++ (wsL_law_r23 ++ (wsL_law_r24 ++ (wsL_law_r25 ++ (wsL_law_r26 ++ (wsL_law_r27 ++ (wsL_law_r28 ++ wsL_law_r29)))))))))))))))))))))))))))) ++ wsX50 ++ wsX60 ++ wsX00 ++ wsX40 ++ wsX30 ++ wsX10 ++ wsX20 ++ ([] : List Cond)
theorem inX5d : ∀ w ∈ wsX50, w ∈ lw_tbl := by decide +kernel
theorem inX6d : ∀ w ∈ wsX60, w ∈ lw_tbl := by decide +kernel
theorem inX0d : ∀ w ∈ wsX00, w ∈ lw_tbl := by decide +kernel
theorem inX4d : ∀ w ∈ wsX40, w ∈ lw_tbl := by decide +kernel
theorem inX3d : ∀ w ∈ wsX30, w ∈ lw_tbl := by decide +kernel
theorem inX1d : ∀ w ∈ wsX10, w ∈ lw_tbl := by decide +kernel
theorem inX2d : ∀ w ∈ wsX20, w ∈ lw_tbl := by decide +kernel
theorem wsL_law_in : ∀ w ∈ wsL_law, w ∈ lw_tbl := by
  intro w h
  rw [wsL_law] at h
  rcases List.mem_append.mp h with h | h
  rotate_left
  · cases h
  rcases List.mem_append.mp h with h | h
  rotate_left
  · exact inX2d w h
  rcases List.mem_append.mp h with h | h
  rotate_left
  · exact inX1d w h
  rcases List.mem_append.mp h with h | h
  rotate_left
  · exact inX3d w h
  rcases List.mem_append.mp h with h | h
  rotate_left
  · exact inX4d w h
  rcases List.mem_append.mp h with h | h
  rotate_left
  · exact inX0d w h
  rcases List.mem_append.mp h with h | h
  rotate_left
  · exact inX6d w h
  rcases List.mem_append.mp h with h | h
  rotate_left
  · exact inX5d w h
  rcases List.mem_append.mp h with h | h
  · exact rin_1 w h
  rcases List.mem_append.mp h with h | h
  · exact rin_2 w h
  rcases List.mem_append.mp h with h | h
  · exact rin_3 w h
  rcases List.mem_append.mp h with h | h
  · exact rin_4 w h
  rcases List.mem_append.mp h with h | h
  · exact rin_5 w h
  rcases List.mem_append.mp h with h | h
  · exact rin_6 w h
  rcases List.mem_append.mp h with h | h
  · exact rin_7 w h
  rcases List.mem_append.mp h with h | h
  · exact rin_8 w h
  rcases List.mem_append.mp h with h | h
  · exact rin_9 w h
  rcases List.mem_append.mp h with h | h
  · exact rin_10 w h
  rcases List.mem_append.mp h with h | h
  · exact rin_11 w h
  rcases List.mem_append.mp h with h | h
  · exact rin_12 w h
  rcases List.mem_append.mp h with h | h
  · exact rin_13 w h
  rcases List.mem_append.mp h with h | h
  · exact rin_14 w h
  rcases List.mem_append.mp h with h | h
  · exact rin_15 w h
  rcases List.mem_append.mp h with h | h
  · exact rin_16 w h
  rcases List.mem_append.mp h with h | h
  · exact rin_17 w h
  rcases List.mem_append.mp h with h | h
  · exact rin_18 w h
  rcases List.mem_append.mp h with h | h
  · exact rin_19 w h
  rcases List.mem_append.mp h with h | h
  · exact rin_20 w h
  rcases List.mem_append.mp h with h | h
  · exact rin_21 w h
  rcases List.mem_append.mp h with h | h
  · exact rin_22 w h
  rcases List.mem_append.mp h with h | h
  · exact rin_23 w h
  rcases List.mem_append.mp h with h | h
  · exact rin_24 w h
  rcases List.mem_append.mp h with h | h
  · exact rin_25 w h
  rcases List.mem_append.mp h with h | h
  · exact rin_26 w h
  rcases List.mem_append.mp h with h | h
  · exact rin_27 w h
  rcases List.mem_append.mp h with h | h
  · exact rin_28 w h
  exact rin_29 w h
theorem inlX0 : ∀ w ∈ wsX00, w ∈ wsL_law := fun _ h => List.mem_append_left _ (List.mem_append_left _ (List.mem_append_left _ (List.mem_append_left _ (List.mem_append_left _ (List.mem_append_right _ h)))))
theorem inX0 : ∀ w ∈ wsX00, w ∈ lw_tbl := fun w h => wsL_law_in w (inlX0 w h)
theorem inlX1 : ∀ w ∈ wsX10, w ∈ wsL_law := fun _ h => List.mem_append_left _ (List.mem_append_left _ (List.mem_append_right _ h))
theorem inX1 : ∀ w ∈ wsX10, w ∈ lw_tbl := fun w h => wsL_law_in w (inlX1 w h)
theorem inlX2 : ∀ w ∈ wsX20, w ∈ wsL_law := fun _ h => List.mem_append_left _ (List.mem_append_right _ h)
theorem inX2 : ∀ w ∈ wsX20, w ∈ lw_tbl := fun w h => wsL_law_in w (inlX2 w h)
theorem inlX3 : ∀ w ∈ wsX30, w ∈ wsL_law := fun _ h => List.mem_append_left _ (List.mem_append_left _ (List.mem_append_left _ (List.mem_append_right _ h)))
theorem inX3 : ∀ w ∈ wsX30, w ∈ lw_tbl := fun w h => wsL_law_in w (inlX3 w h)
theorem inlX4 : ∀ w ∈ wsX40, w ∈ wsL_law := fun _ h => List.mem_append_left _ (List.mem_append_left _ (List.mem_append_left _ (List.mem_append_left _ (List.mem_append_right _ h))))
theorem inX4 : ∀ w ∈ wsX40, w ∈ lw_tbl := fun w h => wsL_law_in w (inlX4 w h)
theorem inlX5 : ∀ w ∈ wsX50, w ∈ wsL_law := fun _ h => List.mem_append_left _ (List.mem_append_left _ (List.mem_append_left _ (List.mem_append_left _ (List.mem_append_left _ (List.mem_append_left _ (List.mem_append_left _ (List.mem_append_right _ h)))))))
theorem inX5 : ∀ w ∈ wsX50, w ∈ lw_tbl := fun w h => wsL_law_in w (inlX5 w h)
theorem inlX6 : ∀ w ∈ wsX60, w ∈ wsL_law := fun _ h => List.mem_append_left _ (List.mem_append_left _ (List.mem_append_left _ (List.mem_append_left _ (List.mem_append_left _ (List.mem_append_left _ (List.mem_append_right _ h))))))
theorem inX6 : ∀ w ∈ wsX60, w ∈ lw_tbl := fun w h => wsL_law_in w (inlX6 w h)
theorem inJ6 : ∀ w ∈ wsJ60, w ∈ lw_tbl := by decide +kernel
theorem inJ9 : ∀ w ∈ wsJ90, w ∈ lw_tbl := by decide +kernel
