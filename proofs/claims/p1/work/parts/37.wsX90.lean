theorem il_wsX90 : ∀ w ∈ wsX90, w ∈ lw_tbl := by decide +kernel
