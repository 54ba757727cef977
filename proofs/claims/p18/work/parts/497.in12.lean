theorem wi56 : ∀ w ∈ wsL_law0_r56, w ∈ lw_tbl := by decide +kernel
theorem wi57 : ∀ w ∈ wsL_law0_r57, w ∈ lw_tbl := by decide +kernel
theorem wi58 : ∀ w ∈ wsL_law0_r58, w ∈ lw_tbl := by decide +kernel
theorem wi59 : ∀ w ∈ wsL_law0_r59, w ∈ lw_tbl := by decide +kernel
theorem wi60 : ∀ w ∈ wsL_law0_r60, w ∈ lw_tbl := by decide +kernel
