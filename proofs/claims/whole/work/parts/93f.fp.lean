theorem mpB_4_0 : ∀ b, b < 8 → ∀ a, a < 257 → mpB a (b + 129) = true := by decide +kernel
theorem mpB_4_1 : ∀ b, b < 8 → ∀ a, a < 257 → mpB a (b + 137) = true := by decide +kernel
theorem mpB_4_2 : ∀ b, b < 8 → ∀ a, a < 257 → mpB a (b + 145) = true := by decide +kernel
theorem mpB_4_3 : ∀ b, b < 8 → ∀ a, a < 257 → mpB a (b + 153) = true := by decide +kernel
