set_option maxRecDepth 100000 in
theorem lwm_wsL_law0_r33 : ∀ w ∈ wsL_law0_r33, w ∈ lw_tbl := by decide +kernel
set_option maxRecDepth 100000 in
theorem lwm_wsL_law0_r34 : ∀ w ∈ wsL_law0_r34, w ∈ lw_tbl := by decide +kernel
set_option maxRecDepth 100000 in
theorem lwm_wsL_law0_r35 : ∀ w ∈ wsL_law0_r35, w ∈ lw_tbl := by decide +kernel
set_option maxRecDepth 100000 in
theorem lwm_wsL_law0_r36 : ∀ w ∈ wsL_law0_r36, w ∈ lw_tbl := by decide +kernel
set_option maxRecDepth 100000 in
theorem lwm_wsL_law0_r37 : ∀ w ∈ wsL_law0_r37, w ∈ lw_tbl := by decide +kernel
set_option maxRecDepth 100000 in
theorem lwm_wsL_law0_r38 : ∀ w ∈ wsL_law0_r38, w ∈ lw_tbl := by decide +kernel
set_option maxRecDepth 100000 in
theorem lwm_wsL_law0_r39 : ∀ w ∈ wsL_law0_r39, w ∈ lw_tbl := by decide +kernel
set_option maxRecDepth 100000 in
theorem lwm_wsL_law0_r40 : ∀ w ∈ wsL_law0_r40, w ∈ lw_tbl := by decide +kernel
