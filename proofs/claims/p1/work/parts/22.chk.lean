theorem k1 : ∀ a ∈ [0], chk_1 a = true := by decide +kernel
theorem k5 : chk_5 0 0 = true := by decide +kernel
theorem k7 : ∀ a ∈ [0, 1, 2, 3], ∀ b ∈ [0, 1, 2, 3], chk_7 a b = true := by decide +kernel
theorem k8 : ∀ a ∈ [0, 1, 2, 3], ∀ b ∈ [0, 1, 2, 3], ∀ c ∈ [0, 1], chk_8 a b c = true := by decide +kernel
theorem k9 : ∀ a ∈ [0, 1, 2, 3], ∀ b ∈ [0, 1, 2, 3], ∀ c ∈ [0, 1], chk_9 a b c = true := by decide +kernel
theorem k10 : ∀ a ∈ [0, 1, 2], ∀ b ∈ [0, 1, 2, 3, 4, 5, 6], chk_10 a b = true := by decide +kernel
def l16 : List Int32 := [0, 1, 2, 3, 4, 5, 6, 7, 8, 9, 10, 11, 12, 13, 14, 15]
theorem k11 : ∀ a ∈ l16, ∀ b ∈ l16, chk_11 a b = true := by decide +kernel
theorem k26 : ∀ a ∈ [0, 1, 2, 3, 4, 5, 6, 7], chk_26 a = true := by decide +kernel
theorem k27 : ∀ a ∈ [0, 1, 2, 3], ∀ b ∈ [1, 2, 3, 4], ∀ c ∈ [0, 1, 2, 3], ∀ d ∈ [1, 2, 3, 4], chk_27 a b c d = true := by decide +kernel
theorem k28 : ∀ a ∈ [0, 1], ∀ b ∈ [0, 1], chk_28 a b = true := by decide +kernel
theorem k29 : ∀ a ∈ [0, 1], chk_29 a = true := by decide +kernel
theorem k30 : ∀ a ∈ [0, 1], chk_30 a = true := by decide +kernel
theorem k31 : ∀ a ∈ [0, 1], chk_31 a = true := by decide +kernel
theorem k32 : ∀ a ∈ [0, 1], chk_32 a = true := by decide +kernel
theorem k37 : ∀ a ∈ [0, 1, 2, 3, 4, 5, 6, 7, 8, 9, 10], chk_37 a = true := by decide +kernel
theorem k22a : ∀ a ∈ [1, 2], ∀ b ∈ [0, 1], ∀ c ∈ [0, 1], chk_22 a b c = true := by decide +kernel
