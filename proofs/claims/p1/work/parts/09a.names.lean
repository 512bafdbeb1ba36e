set_option maxRecDepth 20000 in
theorem ggX10_init_X2_init : GoodIn wsX10_init wsX2_init := goodIn_r _ [47, 48, 2, 3, 49, 50, 74, 75] (by decide +kernel) (by decide +kernel)
set_option maxRecDepth 20000 in
theorem gX10_init_X2_init_n46 : GoodIn wsX10_init (wsX2_init) := ggX10_init_X2_init
