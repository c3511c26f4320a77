theorem fx_2 : ∀ w ∈ (vx_atS RX9 373 "java/lang/IllegalStateException" ["java/lang/RuntimeException", "java/lang/Exception"]).filter goodWord, w ∈ lw_tbl := by decide +kernel
