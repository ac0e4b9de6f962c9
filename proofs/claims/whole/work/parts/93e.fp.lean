theorem mpB_3_0 : ∀ b, b < 8 → ∀ a, a < 257 → mpB a (b + 97) = true := by decide +kernel
theorem mpB_3_1 : ∀ b, b < 8 → ∀ a, a < 257 → mpB a (b + 105) = true := by decide +kernel
theorem mpB_3_2 : ∀ b, b < 8 → ∀ a, a < 257 → mpB a (b + 113) = true := by decide +kernel
theorem mpB_3_3 : ∀ b, b < 8 → ∀ a, a < 257 → mpB a (b + 121) = true := by decide +kernel
