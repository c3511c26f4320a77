set_option maxRecDepth 20000 in
theorem ggX9_init_X0_init : GoodIn wsX9_init wsX0_init := goodIn_r _ [62, 63, 2, 3, 64, 65, 66, 67, 32, 68, 69, 70, 71, 72, 73, 74, 75, 76, 206, 207, 208, 175, 176, 177, 178, 179, 180, 181, 182, 183, 184, 185, 186, 187, 188, 189, 190, 191, 192, 193, 194] (by decide +kernel) (by decide +kernel)
set_option maxRecDepth 20000 in
theorem gX9_init_X0_init : GoodIn wsX9_init (wsX0_init) := ggX9_init_X0_init
