/-! rows, on -/
theorem tb_ok_156 : ∀ k, k < 13 → tb_good (k + 156) := by decide +kernel
theorem tb_ok_169 : ∀ k, k < 13 → tb_good (k + 169) := by decide +kernel
theorem tb_ok_182 : ∀ k, k < 13 → tb_good (k + 182) := by decide +kernel
theorem tb_ok_195 : ∀ k, k < 13 → tb_good (k + 195) := by decide +kernel
theorem tb_ok_208 : ∀ k, k < 13 → tb_good (k + 208) := by decide +kernel
theorem tb_ok_221 : ∀ k, k < 12 → tb_good (k + 221) := by decide +kernel
