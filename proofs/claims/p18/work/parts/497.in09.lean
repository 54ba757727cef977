theorem wi41 : ∀ w ∈ wsL_law0_r41, w ∈ lw_tbl := by decide +kernel
theorem wi42 : ∀ w ∈ wsL_law0_r42, w ∈ lw_tbl := by decide +kernel
theorem wi43 : ∀ w ∈ wsL_law0_r43, w ∈ lw_tbl := by decide +kernel
theorem wi44 : ∀ w ∈ wsL_law0_r44, w ∈ lw_tbl := by decide +kernel
theorem wi45 : ∀ w ∈ wsL_law0_r45, w ∈ lw_tbl := by decide +kernel
