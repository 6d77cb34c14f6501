/-! rows, on -/
theorem tb_ok_78 : ∀ k, k < 13 → tb_good (k + 78) := by decide +kernel
theorem tb_ok_91 : ∀ k, k < 13 → tb_good (k + 91) := by decide +kernel
theorem tb_ok_104 : ∀ k, k < 13 → tb_good (k + 104) := by decide +kernel
theorem tb_ok_117 : ∀ k, k < 13 → tb_good (k + 117) := by decide +kernel
theorem tb_ok_130 : ∀ k, k < 13 → tb_good (k + 130) := by decide +kernel
theorem tb_ok_143 : ∀ k, k < 13 → tb_good (k + 143) := by decide +kernel
