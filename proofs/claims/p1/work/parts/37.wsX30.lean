theorem il_wsX30 : ∀ w ∈ wsX30, w ∈ lw_tbl := by decide +kernel
