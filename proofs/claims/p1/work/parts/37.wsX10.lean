theorem il_wsX10 : ∀ w ∈ wsX10, w ∈ lw_tbl := by decide +kernel
