theorem k18 : ∀ a ∈ [0, 1, 2], chk_18 a = true := by decide +kernel
theorem k19 : ∀ a ∈ [0, 1], chk_19 a = true := by decide +kernel
theorem k20 : ∀ a ∈ [0, 1, 2, 3], chk_20 a = true := by decide +kernel
theorem k24 : ∀ a ∈ [0, 1], chk_24 a = true := by decide +kernel
theorem k25 : ∀ a ∈ [0, 1], chk_25 a = true := by decide +kernel
theorem k23 : ∀ a ∈ [0, 1], ∀ b ∈ [0, 1, 2], chk_23 a b = true := by decide +kernel
