theorem mpB_6_0 : ∀ b, b < 8 → ∀ a, a < 257 → mpB a (b + 193) = true := by decide +kernel
theorem mpB_6_1 : ∀ b, b < 8 → ∀ a, a < 257 → mpB a (b + 201) = true := by decide +kernel
theorem mpB_6_2 : ∀ b, b < 8 → ∀ a, a < 257 → mpB a (b + 209) = true := by decide +kernel
theorem mpB_6_3 : ∀ b, b < 8 → ∀ a, a < 257 → mpB a (b + 217) = true := by decide +kernel
