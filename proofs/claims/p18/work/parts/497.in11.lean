theorem wi51 : ∀ w ∈ wsL_law0_r51, w ∈ lw_tbl := by decide +kernel
theorem wi52 : ∀ w ∈ wsL_law0_r52, w ∈ lw_tbl := by decide +kernel
theorem wi53 : ∀ w ∈ wsL_law0_r53, w ∈ lw_tbl := by decide +kernel
theorem wi54 : ∀ w ∈ wsL_law0_r54, w ∈ lw_tbl := by decide +kernel
theorem wi55 : ∀ w ∈ wsL_law0_r55, w ∈ lw_tbl := by decide +kernel
