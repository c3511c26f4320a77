theorem il_wsX100 : ∀ w ∈ wsX100, w ∈ lw_tbl := by decide +kernel
