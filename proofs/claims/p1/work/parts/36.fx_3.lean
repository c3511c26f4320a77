theorem fx_3 : ∀ w ∈ (vx_atS RX9 283 "java/lang/IllegalArgumentException" ["java/lang/RuntimeException", "java/lang/Exception"]).filter goodWord, w ∈ lw_tbl := by decide +kernel
