theorem mpB_2_0 : ∀ b, b < 8 → ∀ a, a < 257 → mpB a (b + 65) = true := by decide +kernel
theorem mpB_2_1 : ∀ b, b < 8 → ∀ a, a < 257 → mpB a (b + 73) = true := by decide +kernel
theorem mpB_2_2 : ∀ b, b < 8 → ∀ a, a < 257 → mpB a (b + 81) = true := by decide +kernel
theorem mpB_2_3 : ∀ b, b < 8 → ∀ a, a < 257 → mpB a (b + 89) = true := by decide +kernel
