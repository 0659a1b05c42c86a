set_option maxRecDepth 100000 in
theorem inL_wsL_law_r1 : ∀ w ∈ wsL_law_r1, w ∈ lw_tbl := by decide +kernel
set_option maxRecDepth 100000 in
theorem inL_wsL_law_r2 : ∀ w ∈ wsL_law_r2, w ∈ lw_tbl := by decide +kernel
set_option maxRecDepth 100000 in
theorem inL_wsL_law_r3 : ∀ w ∈ wsL_law_r3, w ∈ lw_tbl := by decide +kernel
set_option maxRecDepth 100000 in
theorem inL_wsL_law_r4 : ∀ w ∈ wsL_law_r4, w ∈ lw_tbl := by decide +kernel
set_option maxRecDepth 100000 in
theorem inL_wsL_law_r5 : ∀ w ∈ wsL_law_r5, w ∈ lw_tbl := by decide +kernel
set_option maxRecDepth 100000 in
theorem inL_wsL_law_r6 : ∀ w ∈ wsL_law_r6, w ∈ lw_tbl := by decide +kernel
set_option maxRecDepth 100000 in
theorem inL_wsL_law_r7 : ∀ w ∈ wsL_law_r7, w ∈ lw_tbl := by decide +kernel
set_option maxRecDepth 100000 in
theorem inL_wsL_law_r8 : ∀ w ∈ wsL_law_r8, w ∈ lw_tbl := by decide +kernel
set_option maxRecDepth 100000 in
theorem inL_wsL_law_r9 : ∀ w ∈ wsL_law_r9, w ∈ lw_tbl := by decide +kernel
set_option maxRecDepth 100000 in
theorem inL_wsL_law_r10 : ∀ w ∈ wsL_law_r10, w ∈ lw_tbl := by decide +kernel
set_option maxRecDepth 100000 in
theorem inL_wsL_law_r11 : ∀ w ∈ wsL_law_r11, w ∈ lw_tbl := by decide +kernel
set_option maxRecDepth 100000 in
theorem inL_wsL_law_r12 : ∀ w ∈ wsL_law_r12, w ∈ lw_tbl := by decide +kernel
set_option maxRecDepth 100000 in
theorem inL_wsL_law_r13 : ∀ w ∈ wsL_law_r13, w ∈ lw_tbl := by decide +kernel
set_option maxRecDepth 100000 in
theorem inL_wsL_law_r14 : ∀ w ∈ wsL_law_r14, w ∈ lw_tbl := by decide +kernel
set_option maxRecDepth 100000 in
theorem inL_wsL_law_r15 : ∀ w ∈ wsL_law_r15, w ∈ lw_tbl := by decide +kernel
set_option maxRecDepth 100000 in
theorem inL_wsL_law_r16 : ∀ w ∈ wsL_law_r16, w ∈ lw_tbl := by decide +kernel
set_option maxRecDepth 100000 in
theorem inL_wsL_law_r17 : ∀ w ∈ wsL_law_r17, w ∈ lw_tbl := by decide +kernel
set_option maxRecDepth 100000 in
theorem inL_wsL_law_r18 : ∀ w ∈ wsL_law_r18, w ∈ lw_tbl := by decide +kernel
set_option maxRecDepth 100000 in
theorem inL_wsL_law_r19 : ∀ w ∈ wsL_law_r19, w ∈ lw_tbl := by decide +kernel
set_option maxRecDepth 100000 in
theorem inL_wsL_law_r20 : ∀ w ∈ wsL_law_r20, w ∈ lw_tbl := by decide +kernel
set_option maxRecDepth 100000 in
theorem inL_wsL_law_r21 : ∀ w ∈ wsL_law_r21, w ∈ lw_tbl := by decide +kernel
set_option maxRecDepth 100000 in
theorem inL_wsX40 : ∀ w ∈ wsX40, w ∈ lw_tbl := by decide +kernel
set_option maxRecDepth 100000 in
theorem inL_wsX50 : ∀ w ∈ wsX50, w ∈ lw_tbl := by decide +kernel
set_option maxRecDepth 100000 in
theorem inL_wsX30 : ∀ w ∈ wsX30, w ∈ lw_tbl := by decide +kernel
set_option maxRecDepth 100000 in
theorem inL_wsX10 : ∀ w ∈ wsX10, w ∈ lw_tbl := by decide +kernel
set_option maxRecDepth 100000 in
theorem inL_wsX20 : ∀ w ∈ wsX20, w ∈ lw_tbl := by decide +kernel
set_option maxRecDepth 100000 in
theorem inL_wsX00 : ∀ w ∈ wsX00, w ∈ lw_tbl := by decide +kernel
theorem wsL_law_in : ∀ w ∈ wsL_law, w ∈ lw_tbl := fun w => (fun h => (List.mem_append.mp h).elim (fun h => (List.mem_append.mp h).elim (fun h => (List.mem_append.mp h).elim (fun h => (List.mem_append.mp h).elim (fun h => (List.mem_append.mp h).elim (fun h => (List.mem_append.mp h).elim (fun h => (List.mem_append.mp h).elim (fun h => (List.mem_append.mp h).elim (inL_wsL_law_r1 w) (fun h => (List.mem_append.mp h).elim (inL_wsL_law_r2 w) (fun h => (List.mem_append.mp h).elim (inL_wsL_law_r3 w) (fun h => (List.mem_append.mp h).elim (inL_wsL_law_r4 w) (fun h => (List.mem_append.mp h).elim (inL_wsL_law_r5 w) (fun h => (List.mem_append.mp h).elim (inL_wsL_law_r6 w) (fun h => (List.mem_append.mp h).elim (inL_wsL_law_r7 w) (fun h => (List.mem_append.mp h).elim (inL_wsL_law_r8 w) (fun h => (List.mem_append.mp h).elim (inL_wsL_law_r9 w) (fun h => (List.mem_append.mp h).elim (inL_wsL_law_r10 w) (fun h => (List.mem_append.mp h).elim (inL_wsL_law_r11 w) (fun h => (List.mem_append.mp h).elim (inL_wsL_law_r12 w) (fun h => (List.mem_append.mp h).elim (inL_wsL_law_r13 w) (fun h => (List.mem_append.mp h).elim (inL_wsL_law_r14 w) (fun h => (List.mem_append.mp h).elim (inL_wsL_law_r15 w) (fun h => (List.mem_append.mp h).elim (inL_wsL_law_r16 w) (fun h => (List.mem_append.mp h).elim (inL_wsL_law_r17 w) (fun h => (List.mem_append.mp h).elim (inL_wsL_law_r18 w) (fun h => (List.mem_append.mp h).elim (inL_wsL_law_r19 w) (fun h => (List.mem_append.mp h).elim (inL_wsL_law_r20 w) (inL_wsL_law_r21 w))))))))))))))))))))) (inL_wsX40 w)) (inL_wsX50 w)) (inL_wsX30 w)) (inL_wsX10 w)) (inL_wsX20 w)) (inL_wsX00 w)) (fun h => absurd h List.not_mem_nil))
