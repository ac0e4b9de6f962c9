theorem mpB_7_0 : ∀ b, b < 8 → ∀ a, a < 257 → mpB a (b + 225) = true := by decide +kernel
theorem mpB_7_1 : ∀ b, b < 8 → ∀ a, a < 257 → mpB a (b + 233) = true := by decide +kernel
theorem mpB_7_2 : ∀ b, b < 8 → ∀ a, a < 257 → mpB a (b + 241) = true := by decide +kernel
theorem mpB_7_3 : ∀ b, b < 8 → ∀ a, a < 257 → mpB a (b + 249) = true := by decide +kernel
