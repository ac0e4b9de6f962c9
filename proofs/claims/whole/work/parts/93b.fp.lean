theorem mpB_0_0 : ∀ b, b < 8 → ∀ a, a < 257 → mpB a (b + 1) = true := by decide +kernel
theorem mpB_0_1 : ∀ b, b < 8 → ∀ a, a < 257 → mpB a (b + 9) = true := by decide +kernel
theorem mpB_0_2 : ∀ b, b < 8 → ∀ a, a < 257 → mpB a (b + 17) = true := by decide +kernel
theorem mpB_0_3 : ∀ b, b < 8 → ∀ a, a < 257 → mpB a (b + 25) = true := by decide +kernel
