set_option maxRecDepth 20000 in
theorem inX0 : ∀ w ∈ wsX00, w ∈ lw_tbl := fun w h => (goodIn_p wsX00 [] (by decide +kernel) (by decide +kernel) w h).1
set_option maxRecDepth 20000 in
theorem inX1 : ∀ w ∈ wsX10, w ∈ lw_tbl := fun w h => (goodIn_p wsX10 [] (by decide +kernel) (by decide +kernel) w h).1
set_option maxRecDepth 20000 in
theorem inX2 : ∀ w ∈ wsX20, w ∈ lw_tbl := fun w h => (goodIn_p wsX20 [] (by decide +kernel) (by decide +kernel) w h).1
set_option maxRecDepth 20000 in
theorem inX3 : ∀ w ∈ wsX30, w ∈ lw_tbl := fun w h => (goodIn_p wsX30 [] (by decide +kernel) (by decide +kernel) w h).1
theorem wsL_law_in : ∀ w ∈ wsL_law, w ∈ lw_tbl := fun w h => (List.mem_append.mp h).elim (fun h => (List.mem_append.mp h).elim (fun h => (List.mem_append.mp h).elim (fun h => (List.mem_append.mp h).elim (fun h => (List.mem_append.mp h).elim (fun h => (List.mem_append.mp h).elim (fun h => wsL_law_r1_in w h) (fun h => (List.mem_append.mp h).elim (fun h => wsL_law_r2_in w h) (fun h => (List.mem_append.mp h).elim (fun h => wsL_law_r3_in w h) (fun h => (List.mem_append.mp h).elim (fun h => wsL_law_r4_in w h) (fun h => (List.mem_append.mp h).elim (fun h => wsL_law_r5_in w h) (fun h => (List.mem_append.mp h).elim (fun h => wsL_law_r6_in w h) (fun h => (List.mem_append.mp h).elim (fun h => wsL_law_r7_in w h) (fun h => (List.mem_append.mp h).elim (fun h => wsL_law_r8_in w h) (fun h => (List.mem_append.mp h).elim (fun h => wsL_law_r9_in w h) (fun h => (List.mem_append.mp h).elim (fun h => wsL_law_r10_in w h) (fun h => (List.mem_append.mp h).elim (fun h => wsL_law_r11_in w h) (fun h => (List.mem_append.mp h).elim (fun h => wsL_law_r12_in w h) (fun h => (List.mem_append.mp h).elim (fun h => wsL_law_r13_in w h) (fun h => (List.mem_append.mp h).elim (fun h => wsL_law_r14_in w h) (fun h => (List.mem_append.mp h).elim (fun h => wsL_law_r15_in w h) (fun h => (List.mem_append.mp h).elim (fun h => wsL_law_r16_in w h) (fun h => (List.mem_append.mp h).elim (fun h => wsL_law_r17_in w h) (fun h => (List.mem_append.mp h).elim (fun h => wsL_law_r18_in w h) (fun h => (List.mem_append.mp h).elim (fun h => wsL_law_r19_in w h) (fun h => (List.mem_append.mp h).elim (fun h => wsL_law_r20_in w h) (fun h => (List.mem_append.mp h).elim (fun h => wsL_law_r21_in w h) (fun h => (List.mem_append.mp h).elim (fun h => wsL_law_r22_in w h) (fun h => (List.mem_append.mp h).elim (fun h => wsL_law_r23_in w h) (fun h => (List.mem_append.mp h).elim (fun h => wsL_law_r24_in w h) (fun h => (List.mem_append.mp h).elim (fun h => wsL_law_r25_in w h) (fun h => (List.mem_append.mp h).elim (fun h => wsL_law_r26_in w h) (fun h => (List.mem_append.mp h).elim (fun h => wsL_law_r27_in w h) (fun h => (List.mem_append.mp h).elim (fun h => wsL_law_r28_in w h) (fun h => (List.mem_append.mp h).elim (fun h => wsL_law_r29_in w h) (fun h => wsL_law_r30_in w h)))))))))))))))))))))))))))))) (fun h => inX2 w h)) (fun h => inX3 w h)) (fun h => inX0 w h)) (fun h => inX1 w h)) (fun h => absurd h List.not_mem_nil)
theorem inlX0 : ∀ w ∈ wsX00, w ∈ wsL_law := fun _ h => List.mem_append_left _ (List.mem_append_left _ (List.mem_append_right _ h))
theorem inlX1 : ∀ w ∈ wsX10, w ∈ wsL_law := fun _ h => List.mem_append_left _ (List.mem_append_right _ h)
theorem inlX2 : ∀ w ∈ wsX20, w ∈ wsL_law := fun _ h => List.mem_append_left _ (List.mem_append_left _ (List.mem_append_left _ (List.mem_append_left _ (List.mem_append_right _ h))))
theorem inlX3 : ∀ w ∈ wsX30, w ∈ wsL_law := fun _ h => List.mem_append_left _ (List.mem_append_left _ (List.mem_append_left _ (List.mem_append_right _ h)))
theorem inJ11 : ∀ w ∈ wsJ110, w ∈ lw_tbl := by decide +kernel
theorem inJ6 : ∀ w ∈ wsJ60, w ∈ lw_tbl := by decide +kernel
theorem inJ9 : ∀ w ∈ wsJ90, w ∈ lw_tbl := by decide +kernel
theorem inJ0 : ∀ w ∈ wsJ00, w ∈ lw_tbl := by decide +kernel
theorem inJ1 : ∀ w ∈ wsJ10, w ∈ lw_tbl := by decide +kernel
theorem inJ2 : ∀ w ∈ wsJ20, w ∈ lw_tbl := by decide +kernel
theorem inJ10 : ∀ w ∈ wsJ100, w ∈ lw_tbl := by decide +kernel
theorem inJ3 : ∀ w ∈ wsJ30, w ∈ lw_tbl := by decide +kernel
