theorem il_wsX20 : ∀ w ∈ wsX20, w ∈ lw_tbl := by decide +kernel
