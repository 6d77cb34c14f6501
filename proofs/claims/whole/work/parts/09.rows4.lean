/-! the law's rows -/
theorem tg_tb_L_law_0 : tb_rows 233 tb_L_law_0 := by decide +kernel
theorem tg_tb_L_law_1 : tb_rows 233 tb_L_law_1 := by decide +kernel
theorem tg_tb_L_law_2 : tb_rows 233 tb_L_law_2 := by decide +kernel
theorem tg_tb_L_law_3 : tb_rows 233 tb_L_law_3 := by decide +kernel
theorem tg_tb_L_law_4 : tb_rows 233 tb_L_law_4 := by decide +kernel
theorem tg_tb_L_law_5 : tb_rows 233 tb_L_law_5 := by decide +kernel
theorem tg_tb_L_law_6 : tb_rows 233 tb_L_law_6 := by decide +kernel
theorem tg_tb_L_law_7 : tb_rows 233 tb_L_law_7 := by decide +kernel
theorem tg_tb_L_law_8 : tb_rows 233 tb_L_law_8 := by decide +kernel
theorem tg_tb_L_law_9 : tb_rows 233 tb_L_law_9 := by decide +kernel
theorem tg_tb_L_law_10 : tb_rows 233 tb_L_law_10 := by decide +kernel
theorem tg_tb_L_law_11 : tb_rows 233 tb_L_law_11 := by decide +kernel
theorem tg_tb_L_law_12 : tb_rows 233 tb_L_law_12 := by decide +kernel
theorem tg_tb_L_law_13 : tb_rows 233 tb_L_law_13 := by decide +kernel
theorem tg_tb_L_law_14 : tb_rows 233 tb_L_law_14 := by decide +kernel
theorem tg_tb_L_law_15 : tb_rows 233 tb_L_law_15 := by decide +kernel
theorem tg_tb_L_law_16 : tb_rows 233 tb_L_law_16 := by decide +kernel
theorem tg_tb_L_law_17 : tb_rows 233 tb_L_law_17 := by decide +kernel
theorem tg_tb_L_law_18 : tb_rows 233 tb_L_law_18 := by decide +kernel
theorem tg_tb_L_law_19 : tb_rows 233 tb_L_law_19 := by decide +kernel
theorem tg_tb_L_law_20 : tb_rows 233 tb_L_law_20 := by decide +kernel
theorem tg_tb_L_law_21 : tb_rows 233 tb_L_law_21 := by decide +kernel
theorem tb_law : tb_good 233 := by
  show tb_rows 233 (tb_L_law_0 ++ (tb_L_law_1 ++ (tb_L_law_2 ++ (tb_L_law_3 ++ (tb_L_law_4 ++ (tb_L_law_5 ++ (tb_L_law_6 ++ (tb_L_law_7 ++ (tb_L_law_8 ++ (tb_L_law_9 ++ (tb_L_law_10 ++ (tb_L_law_11 ++ (tb_L_law_12 ++ (tb_L_law_13 ++ (tb_L_law_14 ++ (tb_L_law_15 ++ (tb_L_law_16 ++ (tb_L_law_17 ++ (tb_L_law_18 ++ (tb_L_law_19 ++ (tb_L_law_20 ++ (tb_L_law_21))))))))))))))))))))))
  exact List.forall_mem_append.mpr ⟨tg_tb_L_law_0, List.forall_mem_append.mpr ⟨tg_tb_L_law_1, List.forall_mem_append.mpr ⟨tg_tb_L_law_2, List.forall_mem_append.mpr ⟨tg_tb_L_law_3, List.forall_mem_append.mpr ⟨tg_tb_L_law_4, List.forall_mem_append.mpr ⟨tg_tb_L_law_5, List.forall_mem_append.mpr ⟨tg_tb_L_law_6, List.forall_mem_append.mpr ⟨tg_tb_L_law_7, List.forall_mem_append.mpr ⟨tg_tb_L_law_8, List.forall_mem_append.mpr ⟨tg_tb_L_law_9, List.forall_mem_append.mpr ⟨tg_tb_L_law_10, List.forall_mem_append.mpr ⟨tg_tb_L_law_11, List.forall_mem_append.mpr ⟨tg_tb_L_law_12, List.forall_mem_append.mpr ⟨tg_tb_L_law_13, List.forall_mem_append.mpr ⟨tg_tb_L_law_14, List.forall_mem_append.mpr ⟨tg_tb_L_law_15, List.forall_mem_append.mpr ⟨tg_tb_L_law_16, List.forall_mem_append.mpr ⟨tg_tb_L_law_17, List.forall_mem_append.mpr ⟨tg_tb_L_law_18, List.forall_mem_append.mpr ⟨tg_tb_L_law_19, List.forall_mem_append.mpr ⟨tg_tb_L_law_20, tg_tb_L_law_21⟩⟩⟩⟩⟩⟩⟩⟩⟩⟩⟩⟩⟩⟩⟩⟩⟩⟩⟩⟩⟩
theorem tb_ok : ∀ k, k < 234 → tb_good k := by
  intro k hk
  rcases Nat.lt_or_ge k 13 with h | h
  · have := tb_ok_0 (k - 0) (by omega); rwa [show k - 0 + 0 = k by omega] at this
  rcases Nat.lt_or_ge k 26 with h | h
  · have := tb_ok_13 (k - 13) (by omega); rwa [show k - 13 + 13 = k by omega] at this
  rcases Nat.lt_or_ge k 39 with h | h
  · have := tb_ok_26 (k - 26) (by omega); rwa [show k - 26 + 26 = k by omega] at this
  rcases Nat.lt_or_ge k 52 with h | h
  · have := tb_ok_39 (k - 39) (by omega); rwa [show k - 39 + 39 = k by omega] at this
  rcases Nat.lt_or_ge k 65 with h | h
  · have := tb_ok_52 (k - 52) (by omega); rwa [show k - 52 + 52 = k by omega] at this
  rcases Nat.lt_or_ge k 78 with h | h
  · have := tb_ok_65 (k - 65) (by omega); rwa [show k - 65 + 65 = k by omega] at this
  rcases Nat.lt_or_ge k 91 with h | h
  · have := tb_ok_78 (k - 78) (by omega); rwa [show k - 78 + 78 = k by omega] at this
  rcases Nat.lt_or_ge k 104 with h | h
  · have := tb_ok_91 (k - 91) (by omega); rwa [show k - 91 + 91 = k by omega] at this
  rcases Nat.lt_or_ge k 117 with h | h
  · have := tb_ok_104 (k - 104) (by omega); rwa [show k - 104 + 104 = k by omega] at this
  rcases Nat.lt_or_ge k 130 with h | h
  · have := tb_ok_117 (k - 117) (by omega); rwa [show k - 117 + 117 = k by omega] at this
  rcases Nat.lt_or_ge k 143 with h | h
  · have := tb_ok_130 (k - 130) (by omega); rwa [show k - 130 + 130 = k by omega] at this
  rcases Nat.lt_or_ge k 156 with h | h
  · have := tb_ok_143 (k - 143) (by omega); rwa [show k - 143 + 143 = k by omega] at this
  rcases Nat.lt_or_ge k 169 with h | h
  · have := tb_ok_156 (k - 156) (by omega); rwa [show k - 156 + 156 = k by omega] at this
  rcases Nat.lt_or_ge k 182 with h | h
  · have := tb_ok_169 (k - 169) (by omega); rwa [show k - 169 + 169 = k by omega] at this
  rcases Nat.lt_or_ge k 195 with h | h
  · have := tb_ok_182 (k - 182) (by omega); rwa [show k - 182 + 182 = k by omega] at this
  rcases Nat.lt_or_ge k 208 with h | h
  · have := tb_ok_195 (k - 195) (by omega); rwa [show k - 195 + 195 = k by omega] at this
  rcases Nat.lt_or_ge k 221 with h | h
  · have := tb_ok_208 (k - 208) (by omega); rwa [show k - 208 + 208 = k by omega] at this
  rcases Nat.lt_or_ge k 233 with h | h
  · have := tb_ok_221 (k - 221) (by omega); rwa [show k - 221 + 221 = k by omega] at this
  have hk3 : k = 233 := by omega
  subst hk3
  exact tb_law
theorem tb_len : cds.length = 234 := by decide +kernel
