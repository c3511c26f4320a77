theorem il_wsJ40 : ∀ w ∈ wsJ40, w ∈ lw_tbl := by decide +kernel
