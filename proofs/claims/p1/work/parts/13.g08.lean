set_option maxRecDepth 20000 in
theorem ggX9_init_X1_init : GoodIn wsX9_init wsX1_init := goodIn_r _ [79, 80, 2, 3, 81, 82, 16, 17, 83, 61, 62, 63, 64, 65, 66, 67, 32, 68, 69, 70, 71, 72, 73, 74, 75, 76, 195, 196, 197, 175, 176, 177, 178, 179, 180, 181, 182, 183, 184, 185, 186, 187, 188, 189, 190, 191, 192, 193, 194, 206, 207, 208] (by decide +kernel) (by decide +kernel)
set_option maxRecDepth 20000 in
theorem gX9_init_X1_init : GoodIn wsX9_init (wsX1_init) := ggX9_init_X1_init
