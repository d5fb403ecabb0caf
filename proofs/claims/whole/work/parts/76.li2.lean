set_option maxRecDepth 100000 in
theorem lin_wsL_law_r27 : ∀ w ∈ wsL_law_r27, w ∈ lw_tbl := by decide +kernel
set_option maxRecDepth 100000 in
theorem lin_wsL_law_r28 : ∀ w ∈ wsL_law_r28, w ∈ lw_tbl := by decide +kernel
set_option maxRecDepth 100000 in
theorem lin_wsL_law_r29 : ∀ w ∈ wsL_law_r29, w ∈ lw_tbl := by decide +kernel
set_option maxRecDepth 100000 in
theorem lin_wsL_law_r30 : ∀ w ∈ wsL_law_r30, w ∈ lw_tbl := by decide +kernel
set_option maxRecDepth 100000 in
theorem lin_wsX50 : ∀ w ∈ wsX50, w ∈ lw_tbl := by decide +kernel
set_option maxRecDepth 100000 in
theorem lin_wsX60 : ∀ w ∈ wsX60, w ∈ lw_tbl := by decide +kernel
set_option maxRecDepth 100000 in
theorem lin_wsX40 : ∀ w ∈ wsX40, w ∈ lw_tbl := by decide +kernel
set_option maxRecDepth 100000 in
theorem lin_wsX20 : ∀ w ∈ wsX20, w ∈ lw_tbl := by decide +kernel
set_option maxRecDepth 100000 in
theorem lin_wsX00 : ∀ w ∈ wsX00, w ∈ lw_tbl := by decide +kernel
set_option maxRecDepth 100000 in
theorem lin_wsX10 : ∀ w ∈ wsX10, w ∈ lw_tbl := by decide +kernel
set_option maxRecDepth 100000 in
theorem lin_wsX30 : ∀ w ∈ wsX30, w ∈ lw_tbl := by decide +kernel
theorem wsL_law_in : ∀ w ∈ wsL_law, w ∈ lw_tbl := (List.forall_mem_append.mpr ⟨(List.forall_mem_append.mpr ⟨(List.forall_mem_append.mpr ⟨(List.forall_mem_append.mpr ⟨(List.forall_mem_append.mpr ⟨(List.forall_mem_append.mpr ⟨(List.forall_mem_append.mpr ⟨(List.forall_mem_append.mpr ⟨(List.forall_mem_append.mpr ⟨lin_wsL_law_r1, (List.forall_mem_append.mpr ⟨lin_wsL_law_r2, (List.forall_mem_append.mpr ⟨lin_wsL_law_r3, (List.forall_mem_append.mpr ⟨lin_wsL_law_r4, (List.forall_mem_append.mpr ⟨lin_wsL_law_r5, (List.forall_mem_append.mpr ⟨lin_wsL_law_r6, (List.forall_mem_append.mpr ⟨lin_wsL_law_r7, (List.forall_mem_append.mpr ⟨lin_wsL_law_r8, (List.forall_mem_append.mpr ⟨lin_wsL_law_r9, (List.forall_mem_append.mpr ⟨lin_wsL_law_r10, (List.forall_mem_append.mpr ⟨lin_wsL_law_r11, (List.forall_mem_append.mpr ⟨lin_wsL_law_r12, (List.forall_mem_append.mpr ⟨lin_wsL_law_r13, (List.forall_mem_append.mpr ⟨lin_wsL_law_r14, (List.forall_mem_append.mpr ⟨lin_wsL_law_r15, (List.forall_mem_append.mpr ⟨lin_wsL_law_r16, (List.forall_mem_append.mpr ⟨lin_wsL_law_r17, (List.forall_mem_append.mpr ⟨lin_wsL_law_r18, (List.forall_mem_append.mpr ⟨lin_wsL_law_r19, (List.forall_mem_append.mpr ⟨lin_wsL_law_r20, (List.forall_mem_append.mpr ⟨lin_wsL_law_r21, (List.forall_mem_append.mpr ⟨lin_wsL_law_r22, (List.forall_mem_append.mpr ⟨lin_wsL_law_r23, (List.forall_mem_append.mpr ⟨lin_wsL_law_r24, (List.forall_mem_append.mpr ⟨lin_wsL_law_r25, (List.forall_mem_append.mpr ⟨lin_wsL_law_r26, (List.forall_mem_append.mpr ⟨lin_wsL_law_r27, (List.forall_mem_append.mpr ⟨lin_wsL_law_r28, (List.forall_mem_append.mpr ⟨lin_wsL_law_r29, lin_wsL_law_r30⟩)⟩)⟩)⟩)⟩)⟩)⟩)⟩)⟩)⟩)⟩)⟩)⟩)⟩)⟩)⟩)⟩)⟩)⟩)⟩)⟩)⟩)⟩)⟩)⟩)⟩)⟩)⟩)⟩), lin_wsX50⟩), lin_wsX60⟩), lin_wsX40⟩), lin_wsX20⟩), lin_wsX00⟩), lin_wsX10⟩), lin_wsX30⟩), (fun _ h => absurd h List.not_mem_nil)⟩)
