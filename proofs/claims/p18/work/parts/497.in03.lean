theorem wi11 : ∀ w ∈ wsL_law0_r11, w ∈ lw_tbl := by decide +kernel
theorem wi12 : ∀ w ∈ wsL_law0_r12, w ∈ lw_tbl := by decide +kernel
theorem wi13 : ∀ w ∈ wsL_law0_r13, w ∈ lw_tbl := by decide +kernel
theorem wi14 : ∀ w ∈ wsL_law0_r14, w ∈ lw_tbl := by decide +kernel
theorem wi15 : ∀ w ∈ wsL_law0_r15, w ∈ lw_tbl := by decide +kernel
