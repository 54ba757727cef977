theorem wi31 : ∀ w ∈ wsL_law0_r31, w ∈ lw_tbl := by decide +kernel
theorem wi32 : ∀ w ∈ wsL_law0_r32, w ∈ lw_tbl := by decide +kernel
theorem wi33 : ∀ w ∈ wsL_law0_r33, w ∈ lw_tbl := by decide +kernel
theorem wi34 : ∀ w ∈ wsL_law0_r34, w ∈ lw_tbl := by decide +kernel
theorem wi35 : ∀ w ∈ wsL_law0_r35, w ∈ lw_tbl := by decide +kernel
