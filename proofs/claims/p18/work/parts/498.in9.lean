theorem wiwsX90 : ∀ w ∈ wsX90, w ∈ lw_tbl := by decide +kernel
theorem wiwsX100 : ∀ w ∈ wsX100, w ∈ lw_tbl := by decide +kernel
theorem wiwsX30 : ∀ w ∈ wsX30, w ∈ lw_tbl := by decide +kernel
theorem wiwsX20 : ∀ w ∈ wsX20, w ∈ lw_tbl := by decide +kernel
theorem wiwsX10 : ∀ w ∈ wsX10, w ∈ lw_tbl := by decide +kernel
theorem wiwsX50 : ∀ w ∈ wsX50, w ∈ lw_tbl := by decide +kernel
theorem wiwsX40 : ∀ w ∈ wsX40, w ∈ lw_tbl := by decide +kernel
theorem wiwsX60 : ∀ w ∈ wsX60, w ∈ lw_tbl := by decide +kernel
theorem wiwsX70 : ∀ w ∈ wsX70, w ∈ lw_tbl := by decide +kernel
theorem wiwsX80 : ∀ w ∈ wsX80, w ∈ lw_tbl := by decide +kernel
theorem wix0 : ∀ w ∈ (vx_at0 RX9 90 "java/util/NoSuchElementException" ["java/lang/RuntimeException", "java/lang/Exception"]).filter goodWord, w ∈ lw_tbl := by decide +kernel
theorem wix1 : ∀ w ∈ (vx_at0 RX9 120 "java/lang/IllegalStateException" ["java/lang/RuntimeException", "java/lang/Exception"]).filter goodWord, w ∈ lw_tbl := by decide +kernel
theorem wiA {a b : List Cond} (h1 : ∀ w ∈ a, w ∈ lw_tbl) (h2 : ∀ w ∈ b, w ∈ lw_tbl) : ∀ w ∈ a ++ b, w ∈ lw_tbl := fun w hw => (List.mem_append.mp hw).elim (h1 w) (h2 w)
theorem wiN : ∀ w ∈ ([] : List Cond), w ∈ lw_tbl := fun w h => absurd h List.not_mem_nil
theorem wsL_law_in : ∀ w ∈ wsL_law, w ∈ lw_tbl := wiA (wiA (wiA (wiA (wiA (wiA (wiA (wiA (wiA (wiA (wiA (wiA (wiA (wiA wi1 (wiA wi2 (wiA wi3 (wiA wi4 (wiA wi5 (wiA wi6 (wiA wi7 (wiA wi8 (wiA wi9 (wiA wi10 (wiA wi11 (wiA wi12 (wiA wi13 (wiA wi14 (wiA wi15 (wiA wi16 (wiA wi17 (wiA wi18 (wiA wi19 (wiA wi20 (wiA wi21 (wiA wi22 (wiA wi23 (wiA wi24 (wiA wi25 (wiA wi26 (wiA wi27 (wiA wi28 (wiA wi29 (wiA wi30 (wiA wi31 (wiA wi32 (wiA wi33 (wiA wi34 (wiA wi35 (wiA wi36 (wiA wi37 (wiA wi38 (wiA wi39 (wiA wi40 (wiA wi41 (wiA wi42 (wiA wi43 (wiA wi44 (wiA wi45 (wiA wi46 (wiA wi47 (wiA wi48 (wiA wi49 (wiA wi50 (wiA wi51 (wiA wi52 (wiA wi53 (wiA wi54 (wiA wi55 (wiA wi56 (wiA wi57 (wiA wi58 (wiA wi59 wi60))))))))))))))))))))))))))))))))))))))))))))))))))))))))))) wiwsX90) wiwsX100) wiwsX30) wiwsX20) wiwsX10) wiwsX50) wiwsX40) wiwsX60) wiwsX70) wiwsX80) wiN) wix0) wix1
