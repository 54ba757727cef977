theorem wi36 : ∀ w ∈ wsL_law0_r36, w ∈ lw_tbl := by decide +kernel
theorem wi37 : ∀ w ∈ wsL_law0_r37, w ∈ lw_tbl := by decide +kernel
theorem wi38 : ∀ w ∈ wsL_law0_r38, w ∈ lw_tbl := by decide +kernel
theorem wi39 : ∀ w ∈ wsL_law0_r39, w ∈ lw_tbl := by decide +kernel
theorem wi40 : ∀ w ∈ wsL_law0_r40, w ∈ lw_tbl := by decide +kernel
