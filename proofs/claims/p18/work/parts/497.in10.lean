theorem wi46 : ∀ w ∈ wsL_law0_r46, w ∈ lw_tbl := by decide +kernel
theorem wi47 : ∀ w ∈ wsL_law0_r47, w ∈ lw_tbl := by decide +kernel
theorem wi48 : ∀ w ∈ wsL_law0_r48, w ∈ lw_tbl := by decide +kernel
theorem wi49 : ∀ w ∈ wsL_law0_r49, w ∈ lw_tbl := by decide +kernel
theorem wi50 : ∀ w ∈ wsL_law0_r50, w ∈ lw_tbl := by decide +kernel
