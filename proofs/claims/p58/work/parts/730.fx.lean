theorem fx_0 : ∀ w ∈ (vx_atS RX9 214 "java/lang/IndexOutOfBoundsException" ["java/lang/RuntimeException", "java/lang/Exception"]).filter goodWord, w ∈ lw_tbl2 := by decide +kernel
theorem fx_1 : ∀ w ∈ (vx_atS RX9 373 "java/lang/IllegalStateException" ["java/lang/RuntimeException", "java/lang/Exception"]).filter goodWord, w ∈ lw_tbl2 := by decide +kernel
theorem fx_2 : ∀ w ∈ (vx_atS RX9 283 "java/lang/IllegalArgumentException" ["java/lang/RuntimeException", "java/lang/Exception"]).filter goodWord, w ∈ lw_tbl2 := by decide +kernel
