theorem il_wsX00 : ∀ w ∈ wsX00, w ∈ lw_tbl := by decide +kernel
