/-! its words, third piece -/
set_option maxRecDepth 20000 in
theorem lw_in_r20 : ∀ w ∈ wsL_law0_r20, w ∈ lw_tbl := fun w h => (goodIn_p wsL_law0_r20 [706, 691, 695, 699, 702, 710] (by decide +kernel) (by decide +kernel) w h).1
set_option maxRecDepth 20000 in
theorem lw_in_r21 : ∀ w ∈ wsL_law0_r21, w ∈ lw_tbl := fun w h => (goodIn_p wsL_law0_r21 [717, 721, 728] (by decide +kernel) (by decide +kernel) w h).1
set_option maxRecDepth 20000 in
theorem lw_in_r22 : ∀ w ∈ wsL_law0_r22, w ∈ lw_tbl := fun w h => (goodIn_p wsL_law0_r22 [738, 748, 753, 760] (by decide +kernel) (by decide +kernel) w h).1
set_option maxRecDepth 20000 in
theorem lw_in_r23 : ∀ w ∈ wsL_law0_r23, w ∈ lw_tbl := fun w h => (goodIn_p wsL_law0_r23 [768, 776, 783] (by decide +kernel) (by decide +kernel) w h).1
set_option maxRecDepth 20000 in
theorem lw_in_r24 : ∀ w ∈ wsL_law0_r24, w ∈ lw_tbl := fun w h => (goodIn_p wsL_law0_r24 [790, 794, 801, 806] (by decide +kernel) (by decide +kernel) w h).1
set_option maxRecDepth 20000 in
theorem lw_in_r25 : ∀ w ∈ wsL_law0_r25, w ∈ lw_tbl := fun w h => (goodIn_p wsL_law0_r25 [814, 879, 856, 292, 822] (by decide +kernel) (by decide +kernel) w h).1
set_option maxRecDepth 20000 in
theorem lw_in_r26 : ∀ w ∈ wsL_law0_r26, w ∈ lw_tbl := fun w h => (goodIn_p wsL_law0_r26 [827, 833, 837, 845, 852] (by decide +kernel) (by decide +kernel) w h).1
set_option maxRecDepth 20000 in
theorem lw_in_r27 : ∀ w ∈ wsL_law0_r27, w ∈ lw_tbl := fun w h => (goodIn_p wsL_law0_r27 [882, 866, 870, 859, 862, 885, 889] (by decide +kernel) (by decide +kernel) w h).1
set_option maxRecDepth 20000 in
theorem lw_in_r28 : ∀ w ∈ wsL_law0_r28, w ∈ lw_tbl := fun w h => (goodIn_p wsL_law0_r28 [892, 895] (by decide +kernel) (by decide +kernel) w h).1
set_option maxRecDepth 20000 in
theorem lw_in_X6 : ∀ w ∈ wsX60, w ∈ lw_tbl := by decide +kernel
set_option maxRecDepth 20000 in
theorem lw_in_X4 : ∀ w ∈ wsX40, w ∈ lw_tbl := by decide +kernel
set_option maxRecDepth 20000 in
theorem lw_in_X0 : ∀ w ∈ wsX00, w ∈ lw_tbl := by decide +kernel
set_option maxRecDepth 20000 in
theorem lw_in_X5 : ∀ w ∈ wsX50, w ∈ lw_tbl := by decide +kernel
set_option maxRecDepth 20000 in
theorem lw_in_X1 : ∀ w ∈ wsX10, w ∈ lw_tbl := by decide +kernel
set_option maxRecDepth 20000 in
theorem lw_in_X3 : ∀ w ∈ wsX30, w ∈ lw_tbl := by decide +kernel
set_option maxRecDepth 20000 in
theorem lw_in_X2 : ∀ w ∈ wsX20, w ∈ lw_tbl := by decide +kernel
theorem lw_in0 : ∀ w ∈ wsL_law0, w ∈ lw_tbl := List.forall_mem_append.mpr ⟨List.forall_mem_append.mpr ⟨List.forall_mem_append.mpr ⟨List.forall_mem_append.mpr ⟨List.forall_mem_append.mpr ⟨List.forall_mem_append.mpr ⟨List.forall_mem_append.mpr ⟨List.forall_mem_append.mpr ⟨List.forall_mem_append.mpr ⟨lw_in_r1, List.forall_mem_append.mpr ⟨lw_in_r2, List.forall_mem_append.mpr ⟨lw_in_r3, List.forall_mem_append.mpr ⟨lw_in_r4, List.forall_mem_append.mpr ⟨lw_in_r5, List.forall_mem_append.mpr ⟨lw_in_r6, List.forall_mem_append.mpr ⟨lw_in_r7, List.forall_mem_append.mpr ⟨lw_in_r8, List.forall_mem_append.mpr ⟨lw_in_r9, List.forall_mem_append.mpr ⟨lw_in_r10, List.forall_mem_append.mpr ⟨lw_in_r11, List.forall_mem_append.mpr ⟨lw_in_r12, List.forall_mem_append.mpr ⟨lw_in_r13, List.forall_mem_append.mpr ⟨lw_in_r14, List.forall_mem_append.mpr ⟨lw_in_r15, List.forall_mem_append.mpr ⟨lw_in_r16, List.forall_mem_append.mpr ⟨lw_in_r17, List.forall_mem_append.mpr ⟨lw_in_r18, List.forall_mem_append.mpr ⟨lw_in_r19, List.forall_mem_append.mpr ⟨lw_in_r20, List.forall_mem_append.mpr ⟨lw_in_r21, List.forall_mem_append.mpr ⟨lw_in_r22, List.forall_mem_append.mpr ⟨lw_in_r23, List.forall_mem_append.mpr ⟨lw_in_r24, List.forall_mem_append.mpr ⟨lw_in_r25, List.forall_mem_append.mpr ⟨lw_in_r26, List.forall_mem_append.mpr ⟨lw_in_r27, lw_in_r28⟩⟩⟩⟩⟩⟩⟩⟩⟩⟩⟩⟩⟩⟩⟩⟩⟩⟩⟩⟩⟩⟩⟩⟩⟩⟩⟩, lw_in_X6⟩, lw_in_X4⟩, lw_in_X0⟩, lw_in_X5⟩, lw_in_X1⟩, lw_in_X3⟩, lw_in_X2⟩, fun _ h => absurd h List.not_mem_nil⟩
theorem lw_in : ∀ w ∈ wsL_law, w ∈ lw_tbl := List.forall_mem_append.mpr ⟨List.forall_mem_append.mpr ⟨List.forall_mem_append.mpr ⟨lw_in0, wsL_law_x0⟩, wsL_law_x1⟩, wsL_law_x2⟩
