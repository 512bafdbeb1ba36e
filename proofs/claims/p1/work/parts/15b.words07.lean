set_option maxRecDepth 100000 in
theorem lwm_wsL_law0_r57 : ∀ w ∈ wsL_law0_r57, w ∈ lw_tbl := by decide +kernel
set_option maxRecDepth 100000 in
theorem lwm_wsL_law0_r58 : ∀ w ∈ wsL_law0_r58, w ∈ lw_tbl := by decide +kernel
set_option maxRecDepth 100000 in
theorem lwm_wsL_law0_r59 : ∀ w ∈ wsL_law0_r59, w ∈ lw_tbl := by decide +kernel
set_option maxRecDepth 100000 in
theorem lwm_wsL_law0_r60 : ∀ w ∈ wsL_law0_r60, w ∈ lw_tbl := by decide +kernel
set_option maxRecDepth 100000 in
theorem lwm_wsL_law0_r61 : ∀ w ∈ wsL_law0_r61, w ∈ lw_tbl := by decide +kernel
set_option maxRecDepth 100000 in
theorem lwm_wsL_law0_r62 : ∀ w ∈ wsL_law0_r62, w ∈ lw_tbl := by decide +kernel
set_option maxRecDepth 100000 in
theorem lwm_wsL_law0_r63 : ∀ w ∈ wsL_law0_r63, w ∈ lw_tbl := by decide +kernel
set_option maxRecDepth 100000 in
theorem lwm_wsL_law0_r64 : ∀ w ∈ wsL_law0_r64, w ∈ lw_tbl := by decide +kernel
