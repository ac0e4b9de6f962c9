theorem mpB_1_0 : ∀ b, b < 8 → ∀ a, a < 257 → mpB a (b + 33) = true := by decide +kernel
theorem mpB_1_1 : ∀ b, b < 8 → ∀ a, a < 257 → mpB a (b + 41) = true := by decide +kernel
theorem mpB_1_2 : ∀ b, b < 8 → ∀ a, a < 257 → mpB a (b + 49) = true := by decide +kernel
theorem mpB_1_3 : ∀ b, b < 8 → ∀ a, a < 257 → mpB a (b + 57) = true := by decide +kernel
