/-! two words of the printed list for a throw of NoSuchElementException with a text are no words of the tables: that class's constructor links its super's by its own entry 13 -/
def en_b1 : Cond := .code (Bundle.initS "java/util/NoSuchElementException") Bundle.six 2 none
def en_b2 : Cond := .methodLink "java/util/NoSuchElementException" 7 (Bundle.initS "java/lang/RuntimeException")
def en_no (w : Cond) : Bool := decide (w ≠ en_b1) && decide (w ≠ en_b2)
set_option maxRecDepth 100000 in
theorem wsL_law_x6 : ∀ w ∈ ((vx_atS RX10 282 "java/util/NoSuchElementException" ["java/lang/RuntimeException", "java/lang/Exception"]).filter goodWord).filter en_no, w ∈ lw_tbl := by decide +kernel
set_option maxRecDepth 100000 in
theorem wsL_law_x7 : ∀ w ∈ (vx_atS RX10 480 "java/lang/ArithmeticException" ["java/lang/RuntimeException", "java/lang/Exception"]).filter goodWord, w ∈ lw_tbl := by decide +kernel
