/-! ===== the law: all its words stand in the tables ===== -/
theorem in_uX0 : ∀ w ∈ wsX00, w ∈ lw_tbl := by decide +kernel
theorem in_uX1 : ∀ w ∈ wsX10, w ∈ lw_tbl := by decide +kernel
theorem in_uX2 : ∀ w ∈ wsX20, w ∈ lw_tbl := by decide +kernel
theorem in_uX3 : ∀ w ∈ wsX30, w ∈ lw_tbl := by decide +kernel
theorem wsL_law_in0 : ∀ w ∈ wsL_law0, w ∈ lw_tbl := List.forall_mem_append.mpr ⟨List.forall_mem_append.mpr ⟨List.forall_mem_append.mpr ⟨List.forall_mem_append.mpr ⟨List.forall_mem_append.mpr ⟨List.forall_mem_append.mpr ⟨in_wsL_law0_r1, List.forall_mem_append.mpr ⟨in_wsL_law0_r2, List.forall_mem_append.mpr ⟨in_wsL_law0_r3, List.forall_mem_append.mpr ⟨in_wsL_law0_r4, List.forall_mem_append.mpr ⟨in_wsL_law0_r5, List.forall_mem_append.mpr ⟨in_wsL_law0_r6, List.forall_mem_append.mpr ⟨in_wsL_law0_r7, List.forall_mem_append.mpr ⟨in_wsL_law0_r8, List.forall_mem_append.mpr ⟨in_wsL_law0_r9, List.forall_mem_append.mpr ⟨in_wsL_law0_r10, List.forall_mem_append.mpr ⟨in_wsL_law0_r11, List.forall_mem_append.mpr ⟨in_wsL_law0_r12, List.forall_mem_append.mpr ⟨in_wsL_law0_r13, List.forall_mem_append.mpr ⟨in_wsL_law0_r14, List.forall_mem_append.mpr ⟨in_wsL_law0_r15, List.forall_mem_append.mpr ⟨in_wsL_law0_r16, List.forall_mem_append.mpr ⟨in_wsL_law0_r17, List.forall_mem_append.mpr ⟨in_wsL_law0_r18, List.forall_mem_append.mpr ⟨in_wsL_law0_r19, List.forall_mem_append.mpr ⟨in_wsL_law0_r20, in_wsL_law0_r21⟩⟩⟩⟩⟩⟩⟩⟩⟩⟩⟩⟩⟩⟩⟩⟩⟩⟩⟩⟩, in_uX2⟩, in_uX3⟩, in_uX1⟩, in_uX0⟩, fun _ h => absurd h List.not_mem_nil⟩
theorem wsL_law_x0 : ∀ w ∈ (vx_atS RX2 41 "java/lang/IllegalArgumentException" ["java/lang/RuntimeException", "java/lang/Exception"]).filter goodWord, w ∈ lw_tbl := by decide +kernel
theorem wsL_law_x1 : ∀ w ∈ (vx_atS RX2 136 "java/lang/IndexOutOfBoundsException" ["java/lang/RuntimeException", "java/lang/Exception"]).filter goodWord, w ∈ lw_tbl := by decide +kernel
theorem wsL_law_in : ∀ w ∈ wsL_law, w ∈ lw_tbl := fun w h => (List.mem_append.mp h).elim (fun h => (List.mem_append.mp h).elim (fun h => wsL_law_in0 w h) (fun h => wsL_law_x0 w h)) (fun h => wsL_law_x1 w h)
theorem inlX0 : ∀ w ∈ wsX00, w ∈ wsL_law := fun _ h => List.mem_append_left _ (List.mem_append_left _ (List.mem_append_left _ (List.mem_append_right _ h)))
theorem inX0 : ∀ w ∈ wsX00, w ∈ lw_tbl := fun w h => wsL_law_in w (inlX0 w h)
theorem inlX1 : ∀ w ∈ wsX10, w ∈ wsL_law := fun _ h => List.mem_append_left _ (List.mem_append_left _ (List.mem_append_left _ (List.mem_append_left _ (List.mem_append_right _ h))))
theorem inX1 : ∀ w ∈ wsX10, w ∈ lw_tbl := fun w h => wsL_law_in w (inlX1 w h)
theorem inlX2 : ∀ w ∈ wsX20, w ∈ wsL_law := fun _ h => List.mem_append_left _ (List.mem_append_left _ (List.mem_append_left _ (List.mem_append_left _ (List.mem_append_left _ (List.mem_append_left _ (List.mem_append_right _ h))))))
theorem inX2 : ∀ w ∈ wsX20, w ∈ lw_tbl := fun w h => wsL_law_in w (inlX2 w h)
theorem inlX3 : ∀ w ∈ wsX30, w ∈ wsL_law := fun _ h => List.mem_append_left _ (List.mem_append_left _ (List.mem_append_left _ (List.mem_append_left _ (List.mem_append_left _ (List.mem_append_right _ h)))))
theorem inX3 : ∀ w ∈ wsX30, w ∈ lw_tbl := fun w h => wsL_law_in w (inlX3 w h)
theorem inJ6 : ∀ w ∈ wsJ60, w ∈ lw_tbl := by decide +kernel
theorem inJ13 : ∀ w ∈ wsJ130, w ∈ lw_tbl := by decide +kernel
theorem inJ0 : ∀ w ∈ wsJ00, w ∈ lw_tbl := by decide +kernel
