set_option maxRecDepth 100000 in
theorem lwm_wsL_law0_r65 : ∀ w ∈ wsL_law0_r65, w ∈ lw_tbl := by decide +kernel
set_option maxRecDepth 100000 in
theorem lwm_wsL_law0_r66 : ∀ w ∈ wsL_law0_r66, w ∈ lw_tbl := by decide +kernel
set_option maxRecDepth 100000 in
theorem lwm_wsL_law0_r67 : ∀ w ∈ wsL_law0_r67, w ∈ lw_tbl := by decide +kernel
set_option maxRecDepth 100000 in
theorem lwm_wsX100 : ∀ w ∈ wsX100, w ∈ lw_tbl := by decide +kernel
set_option maxRecDepth 100000 in
theorem lwm_wsX140 : ∀ w ∈ wsX140, w ∈ lw_tbl := by decide +kernel
set_option maxRecDepth 100000 in
theorem lwm_wsJx4a65c0 : ∀ w ∈ wsJx4a65c0, w ∈ lw_tbl := by decide +kernel
set_option maxRecDepth 100000 in
theorem lwm_wsX20 : ∀ w ∈ wsX20, w ∈ lw_tbl := by decide +kernel
set_option maxRecDepth 100000 in
theorem lwm_wsX50 : ∀ w ∈ wsX50, w ∈ lw_tbl := by decide +kernel
