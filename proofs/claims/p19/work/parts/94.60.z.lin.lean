theorem wsL_law_x0 : ∀ w ∈ (vx_atS RX5 77 "java/lang/IllegalStateException" ["java/lang/RuntimeException", "java/lang/Exception"]).filter goodWord, w ∈ lw_tbl := by decide +kernel
theorem wsL_law_x1 : ∀ w ∈ (vx_atS RX5 90 "java/lang/UnsupportedOperationException" ["java/lang/RuntimeException", "java/lang/Exception"]).filter goodWord, w ∈ lw_tbl := by decide +kernel
theorem wsL_law_x2 : ∀ w ∈ (vx_atS RX5 179 "java/lang/IllegalArgumentException" ["java/lang/RuntimeException", "java/lang/Exception"]).filter goodWord, w ∈ lw_tbl := by decide +kernel
theorem wsL_law_x3 : ∀ w ∈ (nx_atS RX5 158 "java/util/NoSuchElementException" 13 prog_21_method_4_code "java/lang/RuntimeException" ["java/lang/Exception"]).filter goodWord, w ∈ lw_tbl := by decide +kernel
theorem wsL_law_x4 : ∀ w ∈ (vx_atS RX5 202 "java/lang/IndexOutOfBoundsException" ["java/lang/RuntimeException", "java/lang/Exception"]).filter goodWord, w ∈ lw_tbl := by decide +kernel
theorem wl_r : ∀ w ∈ wsL_law0, w ∈ lw_tbl := fun w h => by
  unfold wsL_law0 at h
  rcases List.mem_append.mp h with h | h
  · rcases List.mem_append.mp h with h | h
    · rcases List.mem_append.mp h with h | h
      · rcases List.mem_append.mp h with h | h
        · rcases List.mem_append.mp h with h | h
          · rcases List.mem_append.mp h with h | h
            · rcases List.mem_append.mp h with h | h
              · rcases List.mem_append.mp h with h | h
                · exact (List.mem_append.mp h).elim (fun h => wl_r1 w h) (fun h => (List.mem_append.mp h).elim (fun h => wl_r2 w h) (fun h => (List.mem_append.mp h).elim (fun h => wl_r3 w h) (fun h => (List.mem_append.mp h).elim (fun h => wl_r4 w h) (fun h => (List.mem_append.mp h).elim (fun h => wl_r5 w h) (fun h => (List.mem_append.mp h).elim (fun h => wl_r6 w h) (fun h => (List.mem_append.mp h).elim (fun h => wl_r7 w h) (fun h => (List.mem_append.mp h).elim (fun h => wl_r8 w h) (fun h => (List.mem_append.mp h).elim (fun h => wl_r9 w h) (fun h => (List.mem_append.mp h).elim (fun h => wl_r10 w h) (fun h => (List.mem_append.mp h).elim (fun h => wl_r11 w h) (fun h => (List.mem_append.mp h).elim (fun h => wl_r12 w h) (fun h => (List.mem_append.mp h).elim (fun h => wl_r13 w h) (fun h => (List.mem_append.mp h).elim (fun h => wl_r14 w h) (fun h => (List.mem_append.mp h).elim (fun h => wl_r15 w h) (fun h => (List.mem_append.mp h).elim (fun h => wl_r16 w h) (fun h => (List.mem_append.mp h).elim (fun h => wl_r17 w h) (fun h => (List.mem_append.mp h).elim (fun h => wl_r18 w h) (fun h => (List.mem_append.mp h).elim (fun h => wl_r19 w h) (fun h => (List.mem_append.mp h).elim (fun h => wl_r20 w h) (fun h => (List.mem_append.mp h).elim (fun h => wl_r21 w h) (fun h => (List.mem_append.mp h).elim (fun h => wl_r22 w h) (fun h => (List.mem_append.mp h).elim (fun h => wl_r23 w h) (fun h => (List.mem_append.mp h).elim (fun h => wl_r24 w h) (fun h => (List.mem_append.mp h).elim (fun h => wl_r25 w h) (fun h => (List.mem_append.mp h).elim (fun h => wl_r26 w h) (fun h => (List.mem_append.mp h).elim (fun h => wl_r27 w h) (fun h => (List.mem_append.mp h).elim (fun h => wl_r28 w h) (fun h => (List.mem_append.mp h).elim (fun h => wl_r29 w h) (fun h => (List.mem_append.mp h).elim (fun h => wl_r30 w h) (fun h => wl_r31 w h))))))))))))))))))))))))))))))
                · exact inX5 w h
              · exact inX6 w h
            · exact inX4 w h
          · exact inX1 w h
        · exact inX0 w h
      · exact inX3 w h
    · exact inX2 w h
  · exact absurd h List.not_mem_nil
theorem wl_in : ∀ w ∈ wsL_law, w ∈ lw_tbl := fun w h => (List.mem_append.mp h).elim (fun h => (List.mem_append.mp h).elim (fun h => (List.mem_append.mp h).elim (fun h => (List.mem_append.mp h).elim (fun h => (List.mem_append.mp h).elim (fun h => wl_r w h) (fun h => wsL_law_x0 w h)) (fun h => wsL_law_x1 w h)) (fun h => wsL_law_x2 w h)) (fun h => wsL_law_x3 w h)) (fun h => wsL_law_x4 w h)
