theorem wsL_law_in0 : ∀ w ∈ wsL_law0, w ∈ lw_tbl := by
  intro w h
  have h : w ∈ (wsL_law0_r1 ++ (wsL_law0_r2 ++ (wsL_law0_r3 ++ (wsL_law0_r4 ++ (wsL_law0_r5 ++ (wsL_law0_r6 ++ (wsL_law0_r7 ++ (wsL_law0_r8 ++ (wsL_law0_r9 ++ (wsL_law0_r10 ++ (wsL_law0_r11 ++ (wsL_law0_r12 ++ (wsL_law0_r13 ++ (wsL_law0_r14 ++ (wsL_law0_r15 ++ (wsL_law0_r16 ++ (wsL_law0_r17 ++ (wsL_law0_r18 ++ (wsL_law0_r19 ++ (wsL_law0_r20 ++ (wsL_law0_r21 ++ (wsL_law0_r22 ++ (wsL_law0_r23 ++ (wsL_law0_r24 ++ (wsL_law0_r25 ++ (wsL_law0_r26 ++ (wsL_law0_r27 ++ (wsL_law0_r28 ++ (wsL_law0_r29 ++ (wsL_law0_r30 ++ (wsL_law0_r31 ++ wsL_law0_r32))))))))))))))))))))))))))))))) ++ wsX40 ++ wsX50 ++ wsX30 ++ wsX10 ++ wsX20 ++ wsX00 ++ ([] : List Cond) := h
  rcases List.mem_append.mp h with h | h
  case inr => exact absurd h List.not_mem_nil
  rcases List.mem_append.mp h with h | h
  case inr => exact (g_wsX00 w h).1
  rcases List.mem_append.mp h with h | h
  case inr => exact (g_wsX20 w h).1
  rcases List.mem_append.mp h with h | h
  case inr => exact (g_wsX10 w h).1
  rcases List.mem_append.mp h with h | h
  case inr => exact (g_wsX30 w h).1
  rcases List.mem_append.mp h with h | h
  case inr => exact (g_wsX50 w h).1
  rcases List.mem_append.mp h with h | h
  case inr => exact (g_wsX40 w h).1
  rcases List.mem_append.mp h with h | h
  case inl => exact (g_wsL_law0_r1 w h).1
  rcases List.mem_append.mp h with h | h
  case inl => exact (g_wsL_law0_r2 w h).1
  rcases List.mem_append.mp h with h | h
  case inl => exact (g_wsL_law0_r3 w h).1
  rcases List.mem_append.mp h with h | h
  case inl => exact (g_wsL_law0_r4 w h).1
  rcases List.mem_append.mp h with h | h
  case inl => exact (g_wsL_law0_r5 w h).1
  rcases List.mem_append.mp h with h | h
  case inl => exact (g_wsL_law0_r6 w h).1
  rcases List.mem_append.mp h with h | h
  case inl => exact (g_wsL_law0_r7 w h).1
  rcases List.mem_append.mp h with h | h
  case inl => exact (g_wsL_law0_r8 w h).1
  rcases List.mem_append.mp h with h | h
  case inl => exact (g_wsL_law0_r9 w h).1
  rcases List.mem_append.mp h with h | h
  case inl => exact (g_wsL_law0_r10 w h).1
  rcases List.mem_append.mp h with h | h
  case inl => exact (g_wsL_law0_r11 w h).1
  rcases List.mem_append.mp h with h | h
  case inl => exact (g_wsL_law0_r12 w h).1
  rcases List.mem_append.mp h with h | h
  case inl => exact (g_wsL_law0_r13 w h).1
  rcases List.mem_append.mp h with h | h
  case inl => exact (g_wsL_law0_r14 w h).1
  rcases List.mem_append.mp h with h | h
  case inl => exact (g_wsL_law0_r15 w h).1
  rcases List.mem_append.mp h with h | h
  case inl => exact (g_wsL_law0_r16 w h).1
  rcases List.mem_append.mp h with h | h
  case inl => exact (g_wsL_law0_r17 w h).1
  rcases List.mem_append.mp h with h | h
  case inl => exact (g_wsL_law0_r18 w h).1
  rcases List.mem_append.mp h with h | h
  case inl => exact (g_wsL_law0_r19 w h).1
  rcases List.mem_append.mp h with h | h
  case inl => exact (g_wsL_law0_r20 w h).1
  rcases List.mem_append.mp h with h | h
  case inl => exact (g_wsL_law0_r21 w h).1
  rcases List.mem_append.mp h with h | h
  case inl => exact (g_wsL_law0_r22 w h).1
  rcases List.mem_append.mp h with h | h
  case inl => exact (g_wsL_law0_r23 w h).1
  rcases List.mem_append.mp h with h | h
  case inl => exact (g_wsL_law0_r24 w h).1
  rcases List.mem_append.mp h with h | h
  case inl => exact (g_wsL_law0_r25 w h).1
  rcases List.mem_append.mp h with h | h
  case inl => exact (g_wsL_law0_r26 w h).1
  rcases List.mem_append.mp h with h | h
  case inl => exact (g_wsL_law0_r27 w h).1
  rcases List.mem_append.mp h with h | h
  case inl => exact (g_wsL_law0_r28 w h).1
  rcases List.mem_append.mp h with h | h
  case inl => exact (g_wsL_law0_r29 w h).1
  rcases List.mem_append.mp h with h | h
  case inl => exact (g_wsL_law0_r30 w h).1
  rcases List.mem_append.mp h with h | h
  case inl => exact (g_wsL_law0_r31 w h).1
  exact (g_wsL_law0_r32 w h).1
theorem wsL_law_x0 : ∀ w ∈ (vx_atS RX4 54 "java/lang/IllegalArgumentException" ["java/lang/RuntimeException", "java/lang/Exception"]).filter goodWord, w ∈ lw_tbl := by decide +kernel
theorem wsL_law_x1 : ∀ w ∈ (vx_atS RX4 68 "java/lang/IllegalStateException" ["java/lang/RuntimeException", "java/lang/Exception"]).filter goodWord, w ∈ lw_tbl := by decide +kernel
theorem wsL_law_x2 : ∀ w ∈ (vx_atS RX4 85 "java/lang/IndexOutOfBoundsException" ["java/lang/RuntimeException", "java/lang/Exception"]).filter goodWord, w ∈ lw_tbl := by decide +kernel
theorem wsL_law_in : ∀ w ∈ wsL_law, w ∈ lw_tbl := fun w h => (List.mem_append.mp h).elim (fun h => (List.mem_append.mp h).elim (fun h => (List.mem_append.mp h).elim (fun h => wsL_law_in0 w h) (fun h => wsL_law_x0 w h)) (fun h => wsL_law_x1 w h)) (fun h => wsL_law_x2 w h)
theorem inlX0 : ∀ w ∈ wsX00, w ∈ wsL_law := fun _ h => List.mem_append_left _ (List.mem_append_left _ (List.mem_append_left _ (List.mem_append_left _ (List.mem_append_right _ h))))
theorem inX0 : ∀ w ∈ wsX00, w ∈ lw_tbl := fun w h => wsL_law_in w (inlX0 w h)
theorem inlX1 : ∀ w ∈ wsX10, w ∈ wsL_law := fun _ h => List.mem_append_left _ (List.mem_append_left _ (List.mem_append_left _ (List.mem_append_left _ (List.mem_append_left _ (List.mem_append_left _ (List.mem_append_right _ h))))))
theorem inX1 : ∀ w ∈ wsX10, w ∈ lw_tbl := fun w h => wsL_law_in w (inlX1 w h)
theorem inlX2 : ∀ w ∈ wsX20, w ∈ wsL_law := fun _ h => List.mem_append_left _ (List.mem_append_left _ (List.mem_append_left _ (List.mem_append_left _ (List.mem_append_left _ (List.mem_append_right _ h)))))
theorem inX2 : ∀ w ∈ wsX20, w ∈ lw_tbl := fun w h => wsL_law_in w (inlX2 w h)
theorem inlX3 : ∀ w ∈ wsX30, w ∈ wsL_law := fun _ h => List.mem_append_left _ (List.mem_append_left _ (List.mem_append_left _ (List.mem_append_left _ (List.mem_append_left _ (List.mem_append_left _ (List.mem_append_left _ (List.mem_append_right _ h)))))))
theorem inX3 : ∀ w ∈ wsX30, w ∈ lw_tbl := fun w h => wsL_law_in w (inlX3 w h)
theorem inlX4 : ∀ w ∈ wsX40, w ∈ wsL_law := fun _ h => List.mem_append_left _ (List.mem_append_left _ (List.mem_append_left _ (List.mem_append_left _ (List.mem_append_left _ (List.mem_append_left _ (List.mem_append_left _ (List.mem_append_left _ (List.mem_append_left _ (List.mem_append_right _ h)))))))))
theorem inX4 : ∀ w ∈ wsX40, w ∈ lw_tbl := fun w h => wsL_law_in w (inlX4 w h)
theorem inlX5 : ∀ w ∈ wsX50, w ∈ wsL_law := fun _ h => List.mem_append_left _ (List.mem_append_left _ (List.mem_append_left _ (List.mem_append_left _ (List.mem_append_left _ (List.mem_append_left _ (List.mem_append_left _ (List.mem_append_left _ (List.mem_append_right _ h))))))))
theorem inX5 : ∀ w ∈ wsX50, w ∈ lw_tbl := fun w h => wsL_law_in w (inlX5 w h)
