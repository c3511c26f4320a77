theorem il_wsX40 : ∀ w ∈ wsX40, w ∈ lw_tbl := by decide +kernel
