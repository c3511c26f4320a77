set_option maxRecDepth 20000 in
theorem ggJ4_init_da8c8_J5_init_d00df : GoodIn wsJ4_init_da8c8 wsJ5_init_d00df := goodIn_r _ [4, 5, 6, 7, 8, 9, 10, 11, 12, 13, 14, 15, 16, 17, 18, 19, 20, 21, 22, 23] (by decide +kernel) (by decide +kernel)
set_option maxRecDepth 20000 in
theorem gJ4_init_da8c8_J5_init_d00df : GoodIn wsJ4_init_da8c8 (wsJ5_init_d00df) := ggJ4_init_da8c8_J5_init_d00df
