theorem mpB_5_0 : ∀ b, b < 8 → ∀ a, a < 257 → mpB a (b + 161) = true := by decide +kernel
theorem mpB_5_1 : ∀ b, b < 8 → ∀ a, a < 257 → mpB a (b + 169) = true := by decide +kernel
theorem mpB_5_2 : ∀ b, b < 8 → ∀ a, a < 257 → mpB a (b + 177) = true := by decide +kernel
theorem mpB_5_3 : ∀ b, b < 8 → ∀ a, a < 257 → mpB a (b + 185) = true := by decide +kernel
