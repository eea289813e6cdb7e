theorem iwsX50 : ∀ w ∈ wsX50, w ∈ lw_tbl := by decide +kernel
theorem iwsX00 : ∀ w ∈ wsX00, w ∈ lw_tbl := by decide +kernel
theorem iwsX10 : ∀ w ∈ wsX10, w ∈ lw_tbl := by decide +kernel
theorem iwsX20 : ∀ w ∈ wsX20, w ∈ lw_tbl := by decide +kernel
theorem iwsX30 : ∀ w ∈ wsX30, w ∈ lw_tbl := by decide +kernel
theorem iwsX40 : ∀ w ∈ wsX40, w ∈ lw_tbl := by decide +kernel
