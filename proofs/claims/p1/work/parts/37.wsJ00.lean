theorem il_wsJ00 : ∀ w ∈ wsJ00, w ∈ lw_tbl := by decide +kernel
