theorem wi21 : ∀ w ∈ wsL_law0_r21, w ∈ lw_tbl := by decide +kernel
theorem wi22 : ∀ w ∈ wsL_law0_r22, w ∈ lw_tbl := by decide +kernel
theorem wi23 : ∀ w ∈ wsL_law0_r23, w ∈ lw_tbl := by decide +kernel
theorem wi24 : ∀ w ∈ wsL_law0_r24, w ∈ lw_tbl := by decide +kernel
theorem wi25 : ∀ w ∈ wsL_law0_r25, w ∈ lw_tbl := by decide +kernel
