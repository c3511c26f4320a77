set_option maxRecDepth 20000 in
theorem ggX9_init_X3_init : GoodIn wsX9_init wsX3_init := goodIn_r _ [29, 30, 2, 3, 31, 32, 33, 34, 35, 36, 37, 38, 39, 40, 41, 42, 149, 150, 151, 152, 153, 154, 155, 156, 157, 158, 159, 160, 161, 162, 163, 164, 165] (by decide +kernel) (by decide +kernel)
set_option maxRecDepth 20000 in
theorem gX9_init_X3_init_n15 : GoodIn wsX9_init (wsX3_init) := ggX9_init_X3_init
