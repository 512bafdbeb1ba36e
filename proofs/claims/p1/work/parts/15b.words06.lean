set_option maxRecDepth 100000 in
theorem lwm_wsL_law0_r49 : ∀ w ∈ wsL_law0_r49, w ∈ lw_tbl := by decide +kernel
set_option maxRecDepth 100000 in
theorem lwm_wsL_law0_r50 : ∀ w ∈ wsL_law0_r50, w ∈ lw_tbl := by decide +kernel
set_option maxRecDepth 100000 in
theorem lwm_wsL_law0_r51 : ∀ w ∈ wsL_law0_r51, w ∈ lw_tbl := by decide +kernel
set_option maxRecDepth 100000 in
theorem lwm_wsL_law0_r52 : ∀ w ∈ wsL_law0_r52, w ∈ lw_tbl := by decide +kernel
set_option maxRecDepth 100000 in
theorem lwm_wsL_law0_r53 : ∀ w ∈ wsL_law0_r53, w ∈ lw_tbl := by decide +kernel
set_option maxRecDepth 100000 in
theorem lwm_wsL_law0_r54 : ∀ w ∈ wsL_law0_r54, w ∈ lw_tbl := by decide +kernel
set_option maxRecDepth 100000 in
theorem lwm_wsL_law0_r55 : ∀ w ∈ wsL_law0_r55, w ∈ lw_tbl := by decide +kernel
set_option maxRecDepth 100000 in
theorem lwm_wsL_law0_r56 : ∀ w ∈ wsL_law0_r56, w ∈ lw_tbl := by decide +kernel
