set_option maxRecDepth 20000 in
theorem ggX0_openWith_X2_clear : GoodIn wsX0_openWith wsX2_clear := goodIn_r _ [25, 26, 27, 79, 80, 81] (by decide +kernel) (by decide +kernel)
set_option maxRecDepth 20000 in
theorem gX0_openWith_X2_clear : GoodIn wsX0_openWith (wsV RX0 35 RX2 yX2_clear wsX2_clear) := goodIn_app (goodIn_of _ (by decide +kernel)) ggX0_openWith_X2_clear
