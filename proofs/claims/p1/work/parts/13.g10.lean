set_option maxRecDepth 20000 in
theorem ggX9_init_X4_init : GoodIn wsX9_init wsX4_init := goodIn_r _ [45, 46, 2, 3, 47, 48, 49, 50, 51, 52, 53, 54, 55, 56, 32, 57, 58, 34, 59, 202, 203, 204, 205, 166, 167, 168, 169, 170, 171, 172, 173, 174] (by decide +kernel) (by decide +kernel)
set_option maxRecDepth 20000 in
theorem gX9_init_X4_init : GoodIn wsX9_init (wsX4_init) := ggX9_init_X4_init
