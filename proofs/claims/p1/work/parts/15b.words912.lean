set_option maxRecDepth 100000 in
theorem wsL_law_x6 : ∀ w ∈ (vx_atS RX10 282 "java/util/NoSuchElementException" ["java/lang/RuntimeException", "java/lang/Exception"]).filter goodWord, w ∈ lw_tbl := by decide +kernel
set_option maxRecDepth 100000 in
theorem wsL_law_x7 : ∀ w ∈ (vx_atS RX10 480 "java/lang/ArithmeticException" ["java/lang/RuntimeException", "java/lang/Exception"]).filter goodWord, w ∈ lw_tbl := by decide +kernel
