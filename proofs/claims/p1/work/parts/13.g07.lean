set_option maxRecDepth 20000 in
theorem ggX9_init_X0_openWith : GoodIn wsX9_init wsX0_openWith := goodIn_r _ [107, 72, 67, 68, 69, 70, 71, 108, 109, 110, 111, 112, 113, 114, 115, 116, 117, 118, 119, 120, 121, 122, 123, 124, 66, 125, 126, 127, 128, 129, 130, 17, 131, 132, 133, 134, 135, 76, 136, 137, 138, 139, 175, 176, 177, 178, 179, 180, 181, 182, 183, 184, 185, 186, 187, 188, 189, 190, 191, 192, 193, 194, 149, 150, 151, 152, 153, 154, 155, 156, 157, 158, 159, 160, 161, 162, 163, 164, 165, 206, 207, 208] (by decide +kernel) (by decide +kernel)
set_option maxRecDepth 20000 in
theorem gX9_init_X0_openWith : GoodIn wsX9_init (wsV RX9 56 RX0 yX0_openWith wsX0_openWith) := goodIn_app (goodIn_of _ (by decide +kernel)) ggX9_init_X0_openWith
