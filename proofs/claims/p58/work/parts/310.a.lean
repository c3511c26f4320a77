set_option maxRecDepth 20000 in
theorem ggX1_restore_X0_copyFrom : GoodIn wsX1_restore wsX0_copyFrom := goodIn_r _ [8, 9, 10, 11, 12, 13, 14, 15, 16, 17, 18, 19, 20, 21, 22, 23, 24, 25, 26, 27, 28, 29, 30, 31, 32, 33, 34, 35, 36, 37, 38, 39, 40, 41, 45, 46, 47, 48, 49, 50, 51, 52, 53, 54, 55, 56, 57, 58, 59, 60, 61, 62, 63, 64, 65, 66, 67] rfl (by decide +kernel)
set_option maxRecDepth 20000 in
theorem gX1_restore_X0_copyFrom : GoodIn wsX1_restore (wsV RX1 24 RX0 yX0_copyFrom wsX0_copyFrom) := goodIn_app (goodIn_r _ [4, 5, 6, 7] rfl (by decide +kernel)) ggX1_restore_X0_copyFrom
