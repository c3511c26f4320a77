theorem il_wsX50 : ∀ w ∈ wsX50, w ∈ lw_tbl := by decide +kernel
