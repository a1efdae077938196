/-! the law's words are among the tables' -/
set_option maxRecDepth 20000 in
theorem wl_r1 : ∀ w ∈ wsL_law0_r1, w ∈ lw_tbl := by decide +kernel
set_option maxRecDepth 20000 in
theorem wl_r2 : ∀ w ∈ wsL_law0_r2, w ∈ lw_tbl := by decide +kernel
set_option maxRecDepth 20000 in
theorem wl_r3 : ∀ w ∈ wsL_law0_r3, w ∈ lw_tbl := by decide +kernel
set_option maxRecDepth 20000 in
theorem wl_r4 : ∀ w ∈ wsL_law0_r4, w ∈ lw_tbl := by decide +kernel
set_option maxRecDepth 20000 in
theorem wl_r5 : ∀ w ∈ wsL_law0_r5, w ∈ lw_tbl := by decide +kernel
set_option maxRecDepth 20000 in
theorem wl_r6 : ∀ w ∈ wsL_law0_r6, w ∈ lw_tbl := by decide +kernel
set_option maxRecDepth 20000 in
theorem wl_r7 : ∀ w ∈ wsL_law0_r7, w ∈ lw_tbl := by decide +kernel
set_option maxRecDepth 20000 in
theorem wl_r8 : ∀ w ∈ wsL_law0_r8, w ∈ lw_tbl := by decide +kernel
set_option maxRecDepth 20000 in
theorem wl_r9 : ∀ w ∈ wsL_law0_r9, w ∈ lw_tbl := by decide +kernel
set_option maxRecDepth 20000 in
theorem wl_r10 : ∀ w ∈ wsL_law0_r10, w ∈ lw_tbl := by decide +kernel
set_option maxRecDepth 20000 in
theorem wl_r11 : ∀ w ∈ wsL_law0_r11, w ∈ lw_tbl := by decide +kernel
set_option maxRecDepth 20000 in
theorem wl_r12 : ∀ w ∈ wsL_law0_r12, w ∈ lw_tbl := by decide +kernel
set_option maxRecDepth 20000 in
theorem wl_r13 : ∀ w ∈ wsL_law0_r13, w ∈ lw_tbl := by decide +kernel
set_option maxRecDepth 20000 in
theorem wl_r14 : ∀ w ∈ wsL_law0_r14, w ∈ lw_tbl := by decide +kernel
set_option maxRecDepth 20000 in
theorem wl_r15 : ∀ w ∈ wsL_law0_r15, w ∈ lw_tbl := by decide +kernel
set_option maxRecDepth 20000 in
theorem wl_r16 : ∀ w ∈ wsL_law0_r16, w ∈ lw_tbl := by decide +kernel
set_option maxRecDepth 20000 in
theorem wl_r17 : ∀ w ∈ wsL_law0_r17, w ∈ lw_tbl := by decide +kernel
set_option maxRecDepth 20000 in
theorem wl_wsX00 : ∀ w ∈ wsX00, w ∈ lw_tbl := by decide +kernel
set_option maxRecDepth 20000 in
theorem wl_wsX10 : ∀ w ∈ wsX10, w ∈ lw_tbl := by decide +kernel
set_option maxRecDepth 20000 in
theorem wl_wsJ40 : ∀ w ∈ wsJ40, w ∈ lw_tbl := by decide +kernel
set_option maxRecDepth 20000 in
theorem wl_wsJx000600 : ∀ w ∈ wsJx000600, w ∈ lw_tbl := by decide +kernel
set_option maxRecDepth 20000 in
theorem wl_x0 : ∀ w ∈ (vx_atM "java/lang/ArrayIndexOutOfBoundsException" ["java/lang/IndexOutOfBoundsException", "java/lang/RuntimeException", "java/lang/Exception"]).filter goodWord, w ∈ lw_tbl := by decide +kernel
set_option maxRecDepth 20000 in
theorem wl_x1 : ∀ w ∈ (vx_atS RX0 108 "java/lang/IllegalArgumentException" ["java/lang/RuntimeException", "java/lang/Exception"]).filter goodWord, w ∈ lw_tbl := by decide +kernel
set_option maxRecDepth 20000 in
theorem wl_x2 : ∀ w ∈ (vx_atS RX0 92 "java/lang/IllegalStateException" ["java/lang/RuntimeException", "java/lang/Exception"]).filter goodWord, w ∈ lw_tbl := by decide +kernel
set_option maxRecDepth 20000 in
theorem wl_x3 : ∀ w ∈ (vx_atS RX0 146 "java/lang/IndexOutOfBoundsException" ["java/lang/RuntimeException", "java/lang/Exception"]).filter goodWord, w ∈ lw_tbl := by decide +kernel
theorem wl_law0 : ∀ w ∈ wsL_law0, w ∈ lw_tbl := List.forall_mem_append.mpr ⟨List.forall_mem_append.mpr ⟨List.forall_mem_append.mpr ⟨List.forall_mem_append.mpr ⟨List.forall_mem_append.mpr ⟨List.forall_mem_append.mpr ⟨wl_r1, List.forall_mem_append.mpr ⟨wl_r2, List.forall_mem_append.mpr ⟨wl_r3, List.forall_mem_append.mpr ⟨wl_r4, List.forall_mem_append.mpr ⟨wl_r5, List.forall_mem_append.mpr ⟨wl_r6, List.forall_mem_append.mpr ⟨wl_r7, List.forall_mem_append.mpr ⟨wl_r8, List.forall_mem_append.mpr ⟨wl_r9, List.forall_mem_append.mpr ⟨wl_r10, List.forall_mem_append.mpr ⟨wl_r11, List.forall_mem_append.mpr ⟨wl_r12, List.forall_mem_append.mpr ⟨wl_r13, List.forall_mem_append.mpr ⟨wl_r14, List.forall_mem_append.mpr ⟨wl_r15, List.forall_mem_append.mpr ⟨wl_r16, wl_r17⟩⟩⟩⟩⟩⟩⟩⟩⟩⟩⟩⟩⟩⟩⟩⟩, wl_wsX00⟩, wl_wsX10⟩, wl_wsJ40⟩, wl_wsJx000600⟩, fun _ h => absurd h List.not_mem_nil⟩
theorem wl_law : ∀ w ∈ wsL_law, w ∈ lw_tbl := List.forall_mem_append.mpr ⟨List.forall_mem_append.mpr ⟨List.forall_mem_append.mpr ⟨List.forall_mem_append.mpr ⟨wl_law0, wl_x0⟩, wl_x1⟩, wl_x2⟩, wl_x3⟩
