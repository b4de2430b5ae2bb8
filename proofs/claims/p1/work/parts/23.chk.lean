theorem k22b : ∀ b ∈ [0, 1], ∀ c ∈ [0, 1], chk_22 3 b c = true := by decide +kernel
