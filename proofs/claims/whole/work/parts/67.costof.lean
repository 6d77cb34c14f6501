/-! the cost on both sides -/
theorem pd_s {dr he : Nat → Int} {i j : Nat} : pd dr he (i + 1) (j + 1) = min (pd dr he i j + (if 0 ≤ dr i - he j then dr i - he j else -(dr i - he j))) (min (pd dr he i (j + 1)) (pd dr he (i + 1) j) + 20) := by rw [pd]
theorem pd_0 {dr he : Nat → Int} {j : Nat} : pd dr he 0 j = 20 * (j : Int) := by unfold pd; rfl
theorem pd_c {dr he : Nat → Int} {i : Nat} : pd dr he (i + 1) 0 = 20 * ((i : Int) + 1) := by unfold pd; rfl
theorem c9 (X : mX) {g s : mF} {c : Nat} (hc : c < 4) (hb : 0 ≤ g 43 0 ∧ g 43 0 ≤ 12) (hB : ∀ j : Nat, (j : Int) < g 43 0 → 0 ≤ g 44 j ∧ g 44 j ≤ 3 ∧ 0 ≤ g 45 j ∧ g 45 j ≤ 35) (hh : 0 ≤ g 43 1 ∧ g 43 1 ≤ 24) (hH : ∀ j : Nat, (j : Int) < g 43 1 → 0 ≤ g 46 j ∧ g 46 j ≤ 20000) (hS : CS g s) (hsb : ∀ i, i < 36 → -1 ≤ s (3 + c) i ∧ s (3 + c) i ≤ 20000) : Rel X 2 9 [(2, 44), (0, (c : Int)), (2, 12), (3, 0), (3, 0), (3, 0), (3, 0), (3, 0)] g (fun ro h => ro = some (0, CV g s c) ∧ ∀ o i, o ≠ 47 → o ≠ 48 → h o i = g o i) := by
  intro d Q hd hQ
  unfold CV at hQ
  have hsr := srtF_b (bc := g 44) (bl := g 45) (s := s) (c := c) (M := 20000) (by omega) (g 43 0).toNat (fun i hi => by have := hB i (by omega); omega) hsb
  have c10' := c10 X hc hb hB hS hsb
  generalize hm : (srtF (g 44) (g 45) s c (g 43 0).toNat).1 = m at c10' hsr hQ
  generalize hdr : (srtF (g 44) (g 45) s c (g 43 0).toNat).2 = dr at c10' hsr hQ
  obtain ⟨H, hHn⟩ : ∃ H : Nat, g 43 1 = (H : Int) := ⟨(g 43 1).toNat, by omega⟩
  rw [hHn, show ((H : Int)).toNat = H by omega] at hQ
  have loop2 := lup (P := fun i => ∀ h : mF, (∀ o k, o ≠ 47 → o ≠ 48 → h o k = g o k) → (∀ k, k < m → h 47 k = dr k) → (∀ j, j ≤ H → h 48 j = pd dr (g 46) i j) → ∀ v1 v2 v5 v6 v7, Wp X d SH 9 40 [(2, 44), v1, v2, (0, (m : Int)), (0, (i : Int)), v5, v6, v7] [] SH (fl h) Q) m ?_ ?_ 0 (by omega)
  · have loop1 := lup (P := fun j => ∀ h : mF, (∀ o k, o ≠ 47 → o ≠ 48 → h o k = g o k) → (∀ k, k < m → h 47 k = dr k) → (∀ i, i < j → h 48 i = 20 * (i : Int)) → ∀ v1 v2 v5 v6 v7, Wp X d SH 9 10 [(2, 44), v1, v2, (0, (m : Int)), (0, (j : Int)), v5, v6, v7] [] SH (fl h) Q) (H + 1) ?_ ?_ 0 (by omega)
    · skip
      apply s_9_0
      try simp only [mi_44, fl_44_1, up_44_1, fl_44_6, mi_49, ml_49, fl_49, up_49, fl_44_5, mi_48, ml_48, fl_48, up_48, fl_44_4, mi_47, ml_47, fl_47, up_47, true_and, and_true, true_or, or_true, implies_true, b10_0, b10_1]
      repeat' (first | refine And.intro ?_ ?_ | intro _)
      all_goals (try (first | omega | (unfold r32; omega) | exact hQ | exact qe hQ (by omega) | exact qe hQ (by (repeat' split) <;> omega) | exact b01 | exact n01 | exact n21 | exact n31 | exact absurd trivial (by assumption)))
      refine c10' _ _ (by omega) ?_
      rintro _ h ⟨rfl, hF, hr⟩
      refine s_9_6 (by first | exact n01 | exact n21 | exact n31 | assumption) ?_
      try simp only [mi_44, fl_44_1, up_44_1, fl_44_6, mi_49, ml_49, fl_49, up_49, fl_44_5, mi_48, ml_48, fl_48, up_48, fl_44_4, mi_47, ml_47, fl_47, up_47, true_and, and_true, true_or, or_true, implies_true, b10_0, b10_1]
      repeat' (first | refine And.intro ?_ ?_ | intro _)
      all_goals (try (first | omega | (unfold r32; omega) | exact hQ | exact qe hQ (by omega) | exact qe hQ (by (repeat' split) <;> omega) | exact b01 | exact n01 | exact n21 | exact n31 | exact absurd trivial (by assumption)))
      exact loop1 h (fun o k h1 h2 => hF o k h1) hr (fun i hi => absurd hi (by omega)) _ _ _ _ _
    · intro h hF hr hv v1 v2 v5 v6 v7
      have f1 : h 43 1 = (H : Int) := by rw [hF _ _ (by omega) (by omega)]; exact hHn
      have l2 := loop2 h hF hr (fun j hj => by rw [pd_0]; exact hv j (by omega))
      apply s_9_10
      try simp only [mi_44, fl_44_1, up_44_1, fl_44_6, mi_49, ml_49, fl_49, up_49, fl_44_5, mi_48, ml_48, fl_48, up_48, fl_44_4, mi_47, ml_47, fl_47, up_47, f1, true_and, and_true, true_or, or_true, implies_true, b10_0, b10_1]
      repeat' (first | refine And.intro ?_ ?_ | intro _)
      all_goals (try (first | omega | (unfold r32; omega) | exact hQ | exact qe hQ (by omega) | exact qe hQ (by (repeat' split) <;> omega) | exact b01 | exact n01 | exact n21 | exact n31 | exact absurd trivial (by assumption)))
      all_goals (try exact l2 _ _ _ _ _)
    · intro j hj ih h hF hr hv v1 v2 v5 v6 v7
      have e2 : ((j : Int)).toNat = j := by omega
      have e10 : ((j + 1 : Nat) : Int) = (j : Int) + 1 := by omega
      have f1 : h 43 1 = (H : Int) := by rw [hF _ _ (by omega) (by omega)]; exact hHn
      rw [e10] at ih
      have hi := ih (mup h 48 j ((j : Int) * 20)) (fun o k h1 h2 => by rw [mup_n (by omega)]; exact hF o k h1 h2) (fun k hk => by rw [mup_n (by omega)]; exact hr k hk) (fun i hi => by
        by_cases hij : i = j
        · subst hij; rw [mup_e]; omega
        · rw [mup_n (by omega)]; exact hv i (by omega))
      apply s_9_10
      try simp only [mi_44, fl_44_1, up_44_1, fl_44_6, mi_49, ml_49, fl_49, up_49, fl_44_5, mi_48, ml_48, fl_48, up_48, fl_44_4, mi_47, ml_47, fl_47, up_47, f1, e2, true_and, and_true, true_or, or_true, implies_true, b10_0, b10_1]
      repeat' (first | refine And.intro ?_ ?_ | intro _)
      all_goals (try (first | omega | (unfold r32; omega) | exact hQ | exact qe hQ (by omega) | exact qe hQ (by (repeat' split) <;> omega) | exact b01 | exact n01 | exact n21 | exact n31 | exact absurd trivial (by assumption)))
      apply s_9_31
      try simp only [mi_44, fl_44_1, up_44_1, fl_44_6, mi_49, ml_49, fl_49, up_49, fl_44_5, mi_48, ml_48, fl_48, up_48, fl_44_4, mi_47, ml_47, fl_47, up_47, true_and, and_true, true_or, or_true, implies_true, b10_0, b10_1]
      repeat' (first | refine And.intro ?_ ?_ | intro _)
      all_goals (try (first | omega | (unfold r32; omega) | exact hQ | exact qe hQ (by omega) | exact qe hQ (by (repeat' split) <;> omega) | exact b01 | exact n01 | exact n21 | exact n31 | exact absurd trivial (by assumption)))
      all_goals (try exact hi _ _ _ _ _)
  · intro h hF hr hv v1 v2 v5 v6 v7
    have f1 : h 43 1 = (H : Int) := by rw [hF _ _ (by omega) (by omega)]; exact hHn
    have e2 : ((H : Int)).toNat = H := by omega
    have f2 := hv H (Nat.le_refl _)
    have hq := hQ _ h ⟨rfl, hF⟩
    apply s_9_40
    try simp only [mi_44, fl_44_1, up_44_1, fl_44_6, mi_49, ml_49, fl_49, up_49, fl_44_5, mi_48, ml_48, fl_48, up_48, fl_44_4, mi_47, ml_47, fl_47, up_47, f1, e2, f2, true_and, and_true, true_or, or_true, implies_true, b10_0, b10_1]
    repeat' (first | refine And.intro ?_ ?_ | intro _)
    all_goals (try (first | omega | (unfold r32; omega) | exact hQ | exact qe hQ (by omega) | exact qe hQ (by (repeat' split) <;> omega) | exact b01 | exact n01 | exact n21 | exact n31 | exact absurd trivial (by assumption)))
    all_goals (try exact hq)
  · intro i hi ih h hF hr hv v1 v2 v5 v6 v7
    have e10 : ((i + 1 : Nat) : Int) = (i : Int) + 1 := by omega
    have ei : ((i : Int)).toNat = i := by omega
    rw [e10] at ih
    have f0 := hv 0 (by omega)
    have b0 := pd_b dr (g 46) i 0
    have drb := hsr.2 i
    have loop3 := lup (P := fun j => ∀ h : mF, (∀ o k, o ≠ 47 → o ≠ 48 → h o k = g o k) → (∀ k, k < m → h 47 k = dr k) → (∀ q, q ≤ j → h 48 q = pd dr (g 46) (i + 1) q) → (∀ q, j < q → q ≤ H → h 48 q = pd dr (g 46) i q) → ∀ v1 v2 v7, Wp X d SH 9 68 [(2, 44), v1, v2, (0, (m : Int)), (0, (i : Int)), (0, pd dr (g 46) i j), (0, (j : Int) + 1), v7] [] SH (fl h) Q) H ?_ ?_ 0 (by omega)
    · have l3 := loop3 (mup h 48 0 (pd dr (g 46) i 0 + 20)) (fun o k h1 h2 => by rw [mup_n (by omega)]; exact hF o k h1 h2) (fun k hk => by rw [mup_n (by omega)]; exact hr k hk) (fun q hq => by
        have : q = 0 := by omega
        subst this
        rw [mup_e, pd_c]
        cases i with
        | zero => rw [pd_0]; omega
        | succ i => rw [pd_c]; omega) (fun q h1 h2 => by rw [mup_n (by omega)]; exact hv q h2)
      apply s_9_40
      try simp only [mi_44, fl_44_1, up_44_1, fl_44_6, mi_49, ml_49, fl_49, up_49, fl_44_5, mi_48, ml_48, fl_48, up_48, fl_44_4, mi_47, ml_47, fl_47, up_47, Int.toNat_zero, f0, true_and, and_true, true_or, or_true, implies_true, b10_0, b10_1]
      repeat' (first | refine And.intro ?_ ?_ | intro _)
      all_goals (try (first | omega | (unfold r32; omega) | exact hQ | exact qe hQ (by omega) | exact qe hQ (by (repeat' split) <;> omega) | exact b01 | exact n01 | exact n21 | exact n31 | exact absurd trivial (by assumption)))
      apply s_9_54
      try simp only [mi_44, fl_44_1, up_44_1, fl_44_6, mi_49, ml_49, fl_49, up_49, fl_44_5, mi_48, ml_48, fl_48, up_48, fl_44_4, mi_47, ml_47, fl_47, up_47, Int.toNat_zero, f0, true_and, and_true, true_or, or_true, implies_true, b10_0, b10_1]
      repeat' (first | refine And.intro ?_ ?_ | intro _)
      all_goals (try (first | omega | (unfold r32; omega) | exact hQ | exact qe hQ (by omega) | exact qe hQ (by (repeat' split) <;> omega) | exact b01 | exact n01 | exact n21 | exact n31 | exact absurd trivial (by assumption)))
      apply s_9_65
      try simp only [mi_44, fl_44_1, up_44_1, fl_44_6, mi_49, ml_49, fl_49, up_49, fl_44_5, mi_48, ml_48, fl_48, up_48, fl_44_4, mi_47, ml_47, fl_47, up_47, true_and, and_true, true_or, or_true, implies_true, b10_0, b10_1]
      repeat' (first | refine And.intro ?_ ?_ | intro _)
      all_goals (try (first | omega | (unfold r32; omega) | exact hQ | exact qe hQ (by omega) | exact qe hQ (by (repeat' split) <;> omega) | exact b01 | exact n01 | exact n21 | exact n31 | exact absurd trivial (by assumption)))
      all_goals (try exact l3 _ _ _)
    · intro h hF hr hv1 hv2 v1 v2 v7
      have f1 : h 43 1 = (H : Int) := by rw [hF _ _ (by omega) (by omega)]; exact hHn
      have hi2 := ih h hF hr hv1
      apply s_9_68
      try simp only [mi_44, fl_44_1, up_44_1, fl_44_6, mi_49, ml_49, fl_49, up_49, fl_44_5, mi_48, ml_48, fl_48, up_48, fl_44_4, mi_47, ml_47, fl_47, up_47, f1, true_and, and_true, true_or, or_true, implies_true, b10_0, b10_1]
      repeat' (first | refine And.intro ?_ ?_ | intro _)
      all_goals (try (first | omega | (unfold r32; omega) | exact hQ | exact qe hQ (by omega) | exact qe hQ (by (repeat' split) <;> omega) | exact b01 | exact n01 | exact n21 | exact n31 | exact absurd trivial (by assumption)))
      all_goals (try exact hi2 _ _ _ _ _)
    · intro j hj ihj h hF hr hv1 hv2 v1 v2 v7
      have f1 : h 43 1 = (H : Int) := by rw [hF _ _ (by omega) (by omega)]; exact hHn
      have e3 : ((j : Int) + 1).toNat = j + 1 := by omega
      have e4 : ((j : Int) + 1 - 1).toNat = j := by omega
      have e5 : ((j + 1 : Nat) : Int) = (j : Int) + 1 := by omega
      have g47 := hr i hi
      have g46 : h 46 j = g 46 j := hF _ _ (by omega) (by omega)
      have g48a := hv1 j (Nat.le_refl _)
      have g48b := hv2 (j + 1) (by omega) (by omega)
      have hhb := hH j (by omega)
      have b1 := pd_b dr (g 46) i j
      have b2 := pd_b dr (g 46) i (j + 1)
      have b3 := pd_b dr (g 46) (i + 1) j
      have ps := pd_s (dr := dr) (he := g 46) (i := i) (j := j)
      rw [e5] at ihj
      have nx := ihj (mup h 48 (j + 1) (pd dr (g 46) (i + 1) (j + 1))) (fun o k h1 h2 => by rw [mup_n (by omega)]; exact hF o k h1 h2) (fun k hk => by rw [mup_n (by omega)]; exact hr k hk) (fun q hq => by
        by_cases hqj : q = j + 1
        · subst hqj; rw [mup_e]
        · rw [mup_n (by omega)]; exact hv1 q (by omega)) (fun q h1 h2 => by rw [mup_n (by omega)]; exact hv2 q (by omega) h2)
      rw [ps] at nx
      generalize hab : (if 0 ≤ dr i - g 46 j then dr i - g 46 j else -(dr i - g 46 j)) = ab at nx
      have habb : -20000 ≤ ab ∧ ab ≤ 20000 := by rw [← hab]; split <;> omega
      apply s_9_68
      try simp only [mi_44, fl_44_1, up_44_1, fl_44_6, mi_49, ml_49, fl_49, up_49, fl_44_5, mi_48, ml_48, fl_48, up_48, fl_44_4, mi_47, ml_47, fl_47, up_47, f1, ei, g47, e4, g46, e3, g48b, hab, true_and, and_true, true_or, or_true, implies_true, b10_0, b10_1]
      repeat' (first | refine And.intro ?_ ?_ | intro _)
      all_goals (try (first | omega | (unfold r32; omega) | exact hQ | exact qe hQ (by omega) | exact qe hQ (by (repeat' split) <;> omega) | exact b01 | exact n01 | exact n21 | exact n31 | exact absurd trivial (by assumption)))
      apply s_9_111
      try simp only [mi_44, fl_44_1, up_44_1, fl_44_6, mi_49, ml_49, fl_49, up_49, fl_44_5, mi_48, ml_48, fl_48, up_48, fl_44_4, mi_47, ml_47, fl_47, up_47, e4, g48a, e3, true_and, and_true, true_or, or_true, implies_true, b10_0, b10_1]
      repeat' (first | refine And.intro ?_ ?_ | intro _)
      all_goals (try (first | omega | (unfold r32; omega) | exact hQ | exact qe hQ (by omega) | exact qe hQ (by (repeat' split) <;> omega) | exact b01 | exact n01 | exact n21 | exact n31 | exact absurd trivial (by assumption)))
      apply s_9_140
      try simp only [mi_44, fl_44_1, up_44_1, fl_44_6, mi_49, ml_49, fl_49, up_49, fl_44_5, mi_48, ml_48, fl_48, up_48, fl_44_4, mi_47, ml_47, fl_47, up_47, true_and, and_true, true_or, or_true, implies_true, b10_0, b10_1]
      repeat' (first | refine And.intro ?_ ?_ | intro _)
      all_goals (try (first | omega | (unfold r32; omega) | exact hQ | exact qe hQ (by omega) | exact qe hQ (by (repeat' split) <;> omega) | exact b01 | exact n01 | exact n21 | exact n31 | exact absurd trivial (by assumption)))
      all_goals (try exact nx _ _ _)
set_option maxHeartbeats 16000000 in
theorem c207 (X : mX) {g s : mF} {c : Nat} (hc : c < 4) {bc bl he : Nat → Int} {nb nh : Int} (f24 : g 86 24 = nb) (f38 : g 86 38 = nh) (hb : 0 ≤ nb ∧ nb ≤ 12) (hB : ∀ j : Nat, (j : Int) < nb → g 107 j = bc j ∧ g 108 j = bl j ∧ 0 ≤ bc j ∧ bc j ≤ 3 ∧ 0 ≤ bl j ∧ bl j ≤ 35) (hh : 0 ≤ nh ∧ nh ≤ 24) (hH : ∀ j : Nat, (j : Int) < nh → g 117 j = he j ∧ 0 ≤ he j ∧ he j ≤ 20000) (hS : MS g s) (hsb : ∀ i, i < 36 → -1 ≤ s (3 + c) i ∧ s (3 + c) i ≤ 20000) : Rel X 1 207 [(2, 87), (0, (c : Int)), (3, 0), (3, 0), (3, 0), (3, 0)] g (fun ro h => ro = some (0, pd (srtF bc bl s c nb.toNat).2 he (srtF bc bl s c nb.toNat).1 nh.toNat) ∧ ∀ o i, o ≠ 118 → o ≠ 119 → h o i = g o i) := by
  intro d Q hd hQ
  obtain ⟨H, hHn⟩ : ∃ H : Nat, nh = (H : Int) := ⟨nh.toNat, by omega⟩
  rw [hHn, show ((H : Int)).toNat = H by omega] at hQ
  have hsr0 := srtF_b (bc := bc) (bl := bl) (s := s) (c := c) (M := 20000) (by omega) nb.toNat (fun i hi => by have := hB i (by omega); omega) hsb
  -- the table
  have tab : ∀ h : mF, (∀ o k, o ≠ 118 → o ≠ 119 → h o k = g o k) → (∀ i, i < (srtF bc bl s c nb.toNat).1 → h 118 i = (srtF bc bl s c nb.toNat).2 i) → ∀ v4 v5, Wp X d SH 207 113 [(2, 87), (0, (c : Int)), (0, ((srtF bc bl s c nb.toNat).1 : Int)), (0, 0), v4, v5] [] SH (fl h) Q := by
    generalize hm : (srtF bc bl s c nb.toNat).1 = m at hsr0 hQ
    generalize hdr : (srtF bc bl s c nb.toNat).2 = dr at hsr0 hQ
    intro h hF hr
    have loop := lup (P := fun i => ∀ h : mF, (∀ o k, o ≠ 118 → o ≠ 119 → h o k = g o k) → (∀ k, k < m → h 118 k = dr k) → (∀ i' j, i' < i → j ≤ H → h 119 (25 * i' + j) = pd dr he i' j) → ∀ v4 v5, Wp X d SH 207 113 [(2, 87), (0, (c : Int)), (0, (m : Int)), (0, (i : Int)), v4, v5] [] SH (fl h) Q) (m + 1) ?_ ?_ 0 (by omega)
    · exact loop h hF hr (fun i' j hi' => absurd hi' (by omega))
    · intro h hF hr hv v4 v5
      have f1 : h 86 38 = (H : Int) := by rw [hF _ _ (by omega) (by omega), f38]; exact hHn
      have e2 : (25 * (m : Int) + (H : Int)).toNat = 25 * m + H := by omega
      have f2 := hv m H (by omega) (Nat.le_refl _)
      have hq := hQ _ h ⟨rfl, hF⟩
      apply s_207_113
      try simp only [mi_87, fl_87_24, up_87_24, fl_87_25, mi_108, ml_108, fl_108, up_108, fl_87_33, mi_115, ml_115, fl_115, up_115, fl_87_26, mi_109, ml_109, fl_109, up_109, fl_87_40, mi_119, ml_119, fl_119, up_119, fl_87_38, up_87_38, fl_87_41, mi_120, ml_120, fl_120, up_120, fl_87_39, mi_118, ml_118, fl_118, up_118, f1, e2, f2, true_and, and_true, true_or, or_true, implies_true, b10_0, b10_1]
      repeat' (first | refine And.intro ?_ ?_ | intro _)
      all_goals (try (first | omega | (unfold r32; omega) | exact hQ | exact qe hQ (by omega) | exact qe hQ (by (repeat' split) <;> omega) | exact b01 | exact n01 | exact n21 | exact n31 | exact absurd trivial (by assumption)))
      all_goals (try exact hq)
    · intro i hi ih h hF hr hv v4 v5
      have e10 : ((i + 1 : Nat) : Int) = (i : Int) + 1 := by omega
      rw [e10] at ih
      have inner := lup (P := fun j => ∀ h : mF, (∀ o k, o ≠ 118 → o ≠ 119 → h o k = g o k) → (∀ k, k < m → h 118 k = dr k) → (∀ i' j, i' < i → j ≤ H → h 119 (25 * i' + j) = pd dr he i' j) → (∀ q, q < j → h 119 (25 * i + q) = pd dr he i q) → ∀ v5, Wp X d SH 207 121 [(2, 87), (0, (c : Int)), (0, (m : Int)), (0, (i : Int)), (0, (j : Int)), v5] [] SH (fl h) Q) (H + 1) ?_ ?_ 0 (by omega)
      · have i0 := inner h hF hr hv (fun q hq => absurd hq (by omega))
        apply s_207_113
        try simp only [mi_87, fl_87_24, up_87_24, fl_87_25, mi_108, ml_108, fl_108, up_108, fl_87_33, mi_115, ml_115, fl_115, up_115, fl_87_26, mi_109, ml_109, fl_109, up_109, fl_87_40, mi_119, ml_119, fl_119, up_119, fl_87_38, up_87_38, fl_87_41, mi_120, ml_120, fl_120, up_120, fl_87_39, mi_118, ml_118, fl_118, up_118, true_and, and_true, true_or, or_true, implies_true, b10_0, b10_1]
        repeat' (first | refine And.intro ?_ ?_ | intro _)
        all_goals (try (first | omega | (unfold r32; omega) | exact hQ | exact qe hQ (by omega) | exact qe hQ (by (repeat' split) <;> omega) | exact b01 | exact n01 | exact n21 | exact n31 | exact absurd trivial (by assumption)))
        all_goals (try exact i0 _)
      · intro h hF hr hv hv2 v5
        have f1 : h 86 38 = (H : Int) := by rw [hF _ _ (by omega) (by omega), f38]; exact hHn
        have nx := ih h hF hr (fun i' j hi' hj => by
          by_cases hii : i' = i
          · subst hii; exact hv2 j (by omega)
          · exact hv i' j (by omega) hj)
        apply s_207_121
        try simp only [mi_87, fl_87_24, up_87_24, fl_87_25, mi_108, ml_108, fl_108, up_108, fl_87_33, mi_115, ml_115, fl_115, up_115, fl_87_26, mi_109, ml_109, fl_109, up_109, fl_87_40, mi_119, ml_119, fl_119, up_119, fl_87_38, up_87_38, fl_87_41, mi_120, ml_120, fl_120, up_120, fl_87_39, mi_118, ml_118, fl_118, up_118, f1, true_and, and_true, true_or, or_true, implies_true, b10_0, b10_1]
        repeat' (first | refine And.intro ?_ ?_ | intro _)
        all_goals (try (first | omega | (unfold r32; omega) | exact hQ | exact qe hQ (by omega) | exact qe hQ (by (repeat' split) <;> omega) | exact b01 | exact n01 | exact n21 | exact n31 | exact absurd trivial (by assumption)))
        all_goals (try exact nx _ _)
      · intro j hj ihj h hF hr hv hv2 v5
        have f1 : h 86 38 = (H : Int) := by rw [hF _ _ (by omega) (by omega), f38]; exact hHn
        have e11 : ((j + 1 : Nat) : Int) = (j : Int) + 1 := by omega
        have eij : (25 * (i : Int) + (j : Int)).toNat = 25 * i + j := by omega
        rw [e11] at ihj
        have hb0 := pd_b dr he i j
        clear ih hsb
        -- what is written
        have fin : Wp X d SH 207 285 [(2, 87), (0, (c : Int)), (0, (m : Int)), (0, (i : Int)), (0, (j : Int)), (0, pd dr he i j)] [] SH (fl (mup h 119 (25 * i + j) (pd dr he i j))) Q := by
          have nx := ihj (mup h 119 (25 * i + j) (pd dr he i j)) (fun o k h1 h2 => by rw [mup_n (by omega)]; exact hF o k h1 h2) (fun k hk => by rw [mup_n (by omega)]; exact hr k hk) (fun i' j' hi' hj' => by rw [mup_n (by omega)]; exact hv i' j' hi' hj') (fun q hq => by
            by_cases hqj : q = j
            · subst hqj; rw [mup_e]
            · rw [mup_n (by omega)]; exact hv2 q (by omega))
          apply s_207_285
          try simp only [mi_87, fl_87_24, up_87_24, fl_87_25, mi_108, ml_108, fl_108, up_108, fl_87_33, mi_115, ml_115, fl_115, up_115, fl_87_26, mi_109, ml_109, fl_109, up_109, fl_87_40, mi_119, ml_119, fl_119, up_119, fl_87_38, up_87_38, fl_87_41, mi_120, ml_120, fl_120, up_120, fl_87_39, mi_118, ml_118, fl_118, up_118, true_and, and_true, true_or, or_true, implies_true, b10_0, b10_1]
          repeat' (first | refine And.intro ?_ ?_ | intro _)
          all_goals (try (first | omega | (unfold r32; omega) | exact hQ | exact qe hQ (by omega) | exact qe hQ (by (repeat' split) <;> omega) | exact b01 | exact n01 | exact n21 | exact n31 | exact absurd trivial (by assumption)))
          all_goals (try exact nx _)
        have wr : ∀ y v5, y = pd dr he i j → Wp X d SH 207 269 [(2, 87), (0, (c : Int)), (0, (m : Int)), (0, (i : Int)), (0, (j : Int)), v5] [(0, y)] SH (fl h) Q := by
          intro y v5 hy
          subst hy
          apply s_207_269
          try simp only [mi_87, fl_87_24, up_87_24, fl_87_25, mi_108, ml_108, fl_108, up_108, fl_87_33, mi_115, ml_115, fl_115, up_115, fl_87_26, mi_109, ml_109, fl_109, up_109, fl_87_40, mi_119, ml_119, fl_119, up_119, fl_87_38, up_87_38, fl_87_41, mi_120, ml_120, fl_120, up_120, fl_87_39, mi_118, ml_118, fl_118, up_118, eij, true_and, and_true, true_or, or_true, implies_true, b10_0, b10_1]
          repeat' (first | refine And.intro ?_ ?_ | intro _)
          all_goals (try (first | omega | (unfold r32; omega) | exact hQ | exact qe hQ (by omega) | exact qe hQ (by (repeat' split) <;> omega) | exact b01 | exact n01 | exact n21 | exact n31 | exact absurd trivial (by assumption)))
          all_goals (try exact fin)
        cases i with
        | zero =>
          rw [pd_0] at wr
          cases j with
          | zero =>
            apply s_207_121
            try simp only [mi_87, fl_87_24, up_87_24, fl_87_25, mi_108, ml_108, fl_108, up_108, fl_87_33, mi_115, ml_115, fl_115, up_115, fl_87_26, mi_109, ml_109, fl_109, up_109, fl_87_40, mi_119, ml_119, fl_119, up_119, fl_87_38, up_87_38, fl_87_41, mi_120, ml_120, fl_120, up_120, fl_87_39, mi_118, ml_118, fl_118, up_118, f1, true_and, and_true, true_or, or_true, implies_true, b10_0, b10_1]
            repeat' (first | refine And.intro ?_ ?_ | intro _)
            all_goals (try (first | omega | (unfold r32; omega) | exact hQ | exact qe hQ (by omega) | exact qe hQ (by (repeat' split) <;> omega) | exact b01 | exact n01 | exact n21 | exact n31 | exact absurd trivial (by assumption)))
            all_goals
              apply s_207_143
              try simp only [mi_87, fl_87_24, up_87_24, fl_87_25, mi_108, ml_108, fl_108, up_108, fl_87_33, mi_115, ml_115, fl_115, up_115, fl_87_26, mi_109, ml_109, fl_109, up_109, fl_87_40, mi_119, ml_119, fl_119, up_119, fl_87_38, up_87_38, fl_87_41, mi_120, ml_120, fl_120, up_120, fl_87_39, mi_118, ml_118, fl_118, up_118, true_and, and_true, true_or, or_true, implies_true, b10_0, b10_1]
              repeat' (first | refine And.intro ?_ ?_ | intro _)
              all_goals (try (first | omega | (unfold r32; omega) | exact hQ | exact qe hQ (by omega) | exact qe hQ (by (repeat' split) <;> omega) | exact b01 | exact n01 | exact n21 | exact n31 | exact absurd trivial (by assumption)))
              apply s_207_176
              try simp only [mi_87, fl_87_24, up_87_24, fl_87_25, mi_108, ml_108, fl_108, up_108, fl_87_33, mi_115, ml_115, fl_115, up_115, fl_87_26, mi_109, ml_109, fl_109, up_109, fl_87_40, mi_119, ml_119, fl_119, up_119, fl_87_38, up_87_38, fl_87_41, mi_120, ml_120, fl_120, up_120, fl_87_39, mi_118, ml_118, fl_118, up_118, true_and, and_true, true_or, or_true, implies_true, b10_0, b10_1]
              repeat' (first | refine And.intro ?_ ?_ | intro _)
              all_goals (try (first | omega | (unfold r32; omega) | exact hQ | exact qe hQ (by omega) | exact qe hQ (by (repeat' split) <;> omega) | exact b01 | exact n01 | exact n21 | exact n31 | exact absurd trivial (by assumption)))
              apply s_207_210
              try simp only [mi_87, fl_87_24, up_87_24, fl_87_25, mi_108, ml_108, fl_108, up_108, fl_87_33, mi_115, ml_115, fl_115, up_115, fl_87_26, mi_109, ml_109, fl_109, up_109, fl_87_40, mi_119, ml_119, fl_119, up_119, fl_87_38, up_87_38, fl_87_41, mi_120, ml_120, fl_120, up_120, fl_87_39, mi_118, ml_118, fl_118, up_118, true_and, and_true, true_or, or_true, implies_true, b10_0, b10_1]
              repeat' (first | refine And.intro ?_ ?_ | intro _)
              all_goals (try (first | omega | (unfold r32; omega) | exact hQ | exact qe hQ (by omega) | exact qe hQ (by (repeat' split) <;> omega) | exact b01 | exact n01 | exact n21 | exact n31 | exact absurd trivial (by assumption)))
              apply s_207_267
              try simp only [mi_87, fl_87_24, up_87_24, fl_87_25, mi_108, ml_108, fl_108, up_108, fl_87_33, mi_115, ml_115, fl_115, up_115, fl_87_26, mi_109, ml_109, fl_109, up_109, fl_87_40, mi_119, ml_119, fl_119, up_119, fl_87_38, up_87_38, fl_87_41, mi_120, ml_120, fl_120, up_120, fl_87_39, mi_118, ml_118, fl_118, up_118, true_and, and_true, true_or, or_true, implies_true, b10_0, b10_1]
              repeat' (first | refine And.intro ?_ ?_ | intro _)
              all_goals (try (first | omega | (unfold r32; omega) | exact hQ | exact qe hQ (by omega) | exact qe hQ (by (repeat' split) <;> omega) | exact b01 | exact n01 | exact n21 | exact n31 | exact absurd trivial (by assumption)))
              exact wr _ _ (by omega)
          | succ j =>
            have e4 : (25 * ((0 : Nat) : Int) + ((j + 1 : Nat) : Int) - 1).toNat = 25 * 0 + j := by omega
            have f3 := hv2 j (by omega)
            rw [pd_0] at f3
            apply s_207_121
            try simp only [mi_87, fl_87_24, up_87_24, fl_87_25, mi_108, ml_108, fl_108, up_108, fl_87_33, mi_115, ml_115, fl_115, up_115, fl_87_26, mi_109, ml_109, fl_109, up_109, fl_87_40, mi_119, ml_119, fl_119, up_119, fl_87_38, up_87_38, fl_87_41, mi_120, ml_120, fl_120, up_120, fl_87_39, mi_118, ml_118, fl_118, up_118, f1, true_and, and_true, true_or, or_true, implies_true, b10_0, b10_1]
            repeat' (first | refine And.intro ?_ ?_ | intro _)
            all_goals (try (first | omega | (unfold r32; omega) | exact hQ | exact qe hQ (by omega) | exact qe hQ (by (repeat' split) <;> omega) | exact b01 | exact n01 | exact n21 | exact n31 | exact absurd trivial (by assumption)))
            all_goals
              apply s_207_143
              try simp only [mi_87, fl_87_24, up_87_24, fl_87_25, mi_108, ml_108, fl_108, up_108, fl_87_33, mi_115, ml_115, fl_115, up_115, fl_87_26, mi_109, ml_109, fl_109, up_109, fl_87_40, mi_119, ml_119, fl_119, up_119, fl_87_38, up_87_38, fl_87_41, mi_120, ml_120, fl_120, up_120, fl_87_39, mi_118, ml_118, fl_118, up_118, true_and, and_true, true_or, or_true, implies_true, b10_0, b10_1]
              repeat' (first | refine And.intro ?_ ?_ | intro _)
              all_goals (try (first | omega | (unfold r32; omega) | exact hQ | exact qe hQ (by omega) | exact qe hQ (by (repeat' split) <;> omega) | exact b01 | exact n01 | exact n21 | exact n31 | exact absurd trivial (by assumption)))
              apply s_207_176
              try simp only [mi_87, fl_87_24, up_87_24, fl_87_25, mi_108, ml_108, fl_108, up_108, fl_87_33, mi_115, ml_115, fl_115, up_115, fl_87_26, mi_109, ml_109, fl_109, up_109, fl_87_40, mi_119, ml_119, fl_119, up_119, fl_87_38, up_87_38, fl_87_41, mi_120, ml_120, fl_120, up_120, fl_87_39, mi_118, ml_118, fl_118, up_118, e4, f3, true_and, and_true, true_or, or_true, implies_true, b10_0, b10_1]
              repeat' (first | refine And.intro ?_ ?_ | intro _)
              all_goals (try (first | omega | (unfold r32; omega) | exact hQ | exact qe hQ (by omega) | exact qe hQ (by (repeat' split) <;> omega) | exact b01 | exact n01 | exact n21 | exact n31 | exact absurd trivial (by assumption)))
              refine c146 X h _ _ _ _ (by omega) ?_
              apply s_207_205
              try simp only [mi_87, fl_87_24, up_87_24, fl_87_25, mi_108, ml_108, fl_108, up_108, fl_87_33, mi_115, ml_115, fl_115, up_115, fl_87_26, mi_109, ml_109, fl_109, up_109, fl_87_40, mi_119, ml_119, fl_119, up_119, fl_87_38, up_87_38, fl_87_41, mi_120, ml_120, fl_120, up_120, fl_87_39, mi_118, ml_118, fl_118, up_118, true_and, and_true, true_or, or_true, implies_true, b10_0, b10_1]
              repeat' (first | refine And.intro ?_ ?_ | intro _)
              all_goals (try (first | omega | (unfold r32; omega) | exact hQ | exact qe hQ (by omega) | exact qe hQ (by (repeat' split) <;> omega) | exact b01 | exact n01 | exact n21 | exact n31 | exact absurd trivial (by assumption)))
              apply s_207_210
              try simp only [mi_87, fl_87_24, up_87_24, fl_87_25, mi_108, ml_108, fl_108, up_108, fl_87_33, mi_115, ml_115, fl_115, up_115, fl_87_26, mi_109, ml_109, fl_109, up_109, fl_87_40, mi_119, ml_119, fl_119, up_119, fl_87_38, up_87_38, fl_87_41, mi_120, ml_120, fl_120, up_120, fl_87_39, mi_118, ml_118, fl_118, up_118, true_and, and_true, true_or, or_true, implies_true, b10_0, b10_1]
              repeat' (first | refine And.intro ?_ ?_ | intro _)
              all_goals (try (first | omega | (unfold r32; omega) | exact hQ | exact qe hQ (by omega) | exact qe hQ (by (repeat' split) <;> omega) | exact b01 | exact n01 | exact n21 | exact n31 | exact absurd trivial (by assumption)))
              apply s_207_267
              try simp only [mi_87, fl_87_24, up_87_24, fl_87_25, mi_108, ml_108, fl_108, up_108, fl_87_33, mi_115, ml_115, fl_115, up_115, fl_87_26, mi_109, ml_109, fl_109, up_109, fl_87_40, mi_119, ml_119, fl_119, up_119, fl_87_38, up_87_38, fl_87_41, mi_120, ml_120, fl_120, up_120, fl_87_39, mi_118, ml_118, fl_118, up_118, true_and, and_true, true_or, or_true, implies_true, b10_0, b10_1]
              repeat' (first | refine And.intro ?_ ?_ | intro _)
              all_goals (try (first | omega | (unfold r32; omega) | exact hQ | exact qe hQ (by omega) | exact qe hQ (by (repeat' split) <;> omega) | exact b01 | exact n01 | exact n21 | exact n31 | exact absurd trivial (by assumption)))
              exact wr _ _ (by split <;> omega)
        | succ i =>
          have e3 : (25 * (((i + 1 : Nat) : Int) - 1) + (j : Int)).toNat = 25 * i + j := by omega
          have f4 := hv i j (by omega) (by omega)
          have b4 := pd_b dr he i j
          cases j with
          | zero =>
            rw [pd_c] at wr
            have hc0 : pd dr he i 0 = 20 * (i : Int) := by
              cases i with
              | zero => rw [pd_0]
              | succ i => rw [pd_c]; omega
            rw [hc0] at f4
            apply s_207_121
            try simp only [mi_87, fl_87_24, up_87_24, fl_87_25, mi_108, ml_108, fl_108, up_108, fl_87_33, mi_115, ml_115, fl_115, up_115, fl_87_26, mi_109, ml_109, fl_109, up_109, fl_87_40, mi_119, ml_119, fl_119, up_119, fl_87_38, up_87_38, fl_87_41, mi_120, ml_120, fl_120, up_120, fl_87_39, mi_118, ml_118, fl_118, up_118, f1, true_and, and_true, true_or, or_true, implies_true, b10_0, b10_1]
            repeat' (first | refine And.intro ?_ ?_ | intro _)
            all_goals (try (first | omega | (unfold r32; omega) | exact hQ | exact qe hQ (by omega) | exact qe hQ (by (repeat' split) <;> omega) | exact b01 | exact n01 | exact n21 | exact n31 | exact absurd trivial (by assumption)))
            all_goals
              apply s_207_143
              try simp only [mi_87, fl_87_24, up_87_24, fl_87_25, mi_108, ml_108, fl_108, up_108, fl_87_33, mi_115, ml_115, fl_115, up_115, fl_87_26, mi_109, ml_109, fl_109, up_109, fl_87_40, mi_119, ml_119, fl_119, up_119, fl_87_38, up_87_38, fl_87_41, mi_120, ml_120, fl_120, up_120, fl_87_39, mi_118, ml_118, fl_118, up_118, e3, f4, true_and, and_true, true_or, or_true, implies_true, b10_0, b10_1]
              repeat' (first | refine And.intro ?_ ?_ | intro _)
              all_goals (try (first | omega | (unfold r32; omega) | exact hQ | exact qe hQ (by omega) | exact qe hQ (by (repeat' split) <;> omega) | exact b01 | exact n01 | exact n21 | exact n31 | exact absurd trivial (by assumption)))
              refine c146 X h _ _ _ _ (by omega) ?_
              apply s_207_171
              try simp only [mi_87, fl_87_24, up_87_24, fl_87_25, mi_108, ml_108, fl_108, up_108, fl_87_33, mi_115, ml_115, fl_115, up_115, fl_87_26, mi_109, ml_109, fl_109, up_109, fl_87_40, mi_119, ml_119, fl_119, up_119, fl_87_38, up_87_38, fl_87_41, mi_120, ml_120, fl_120, up_120, fl_87_39, mi_118, ml_118, fl_118, up_118, true_and, and_true, true_or, or_true, implies_true, b10_0, b10_1]
              repeat' (first | refine And.intro ?_ ?_ | intro _)
              all_goals (try (first | omega | (unfold r32; omega) | exact hQ | exact qe hQ (by omega) | exact qe hQ (by (repeat' split) <;> omega) | exact b01 | exact n01 | exact n21 | exact n31 | exact absurd trivial (by assumption)))
              apply s_207_176
              try simp only [mi_87, fl_87_24, up_87_24, fl_87_25, mi_108, ml_108, fl_108, up_108, fl_87_33, mi_115, ml_115, fl_115, up_115, fl_87_26, mi_109, ml_109, fl_109, up_109, fl_87_40, mi_119, ml_119, fl_119, up_119, fl_87_38, up_87_38, fl_87_41, mi_120, ml_120, fl_120, up_120, fl_87_39, mi_118, ml_118, fl_118, up_118, true_and, and_true, true_or, or_true, implies_true, b10_0, b10_1]
              repeat' (first | refine And.intro ?_ ?_ | intro _)
              all_goals (try (first | omega | (unfold r32; omega) | exact hQ | exact qe hQ (by omega) | exact qe hQ (by (repeat' split) <;> omega) | exact b01 | exact n01 | exact n21 | exact n31 | exact absurd trivial (by assumption)))
              apply s_207_210
              try simp only [mi_87, fl_87_24, up_87_24, fl_87_25, mi_108, ml_108, fl_108, up_108, fl_87_33, mi_115, ml_115, fl_115, up_115, fl_87_26, mi_109, ml_109, fl_109, up_109, fl_87_40, mi_119, ml_119, fl_119, up_119, fl_87_38, up_87_38, fl_87_41, mi_120, ml_120, fl_120, up_120, fl_87_39, mi_118, ml_118, fl_118, up_118, true_and, and_true, true_or, or_true, implies_true, b10_0, b10_1]
              repeat' (first | refine And.intro ?_ ?_ | intro _)
              all_goals (try (first | omega | (unfold r32; omega) | exact hQ | exact qe hQ (by omega) | exact qe hQ (by (repeat' split) <;> omega) | exact b01 | exact n01 | exact n21 | exact n31 | exact absurd trivial (by assumption)))
              apply s_207_267
              try simp only [mi_87, fl_87_24, up_87_24, fl_87_25, mi_108, ml_108, fl_108, up_108, fl_87_33, mi_115, ml_115, fl_115, up_115, fl_87_26, mi_109, ml_109, fl_109, up_109, fl_87_40, mi_119, ml_119, fl_119, up_119, fl_87_38, up_87_38, fl_87_41, mi_120, ml_120, fl_120, up_120, fl_87_39, mi_118, ml_118, fl_118, up_118, true_and, and_true, true_or, or_true, implies_true, b10_0, b10_1]
              repeat' (first | refine And.intro ?_ ?_ | intro _)
              all_goals (try (first | omega | (unfold r32; omega) | exact hQ | exact qe hQ (by omega) | exact qe hQ (by (repeat' split) <;> omega) | exact b01 | exact n01 | exact n21 | exact n31 | exact absurd trivial (by assumption)))
              exact wr _ _ (by split <;> omega)
          | succ j =>
            rw [pd_s] at wr
            have e5 : (25 * ((i + 1 : Nat) : Int) + ((j + 1 : Nat) : Int) - 1).toNat = 25 * (i + 1) + j := by omega
            have e6 : (25 * (((i + 1 : Nat) : Int) - 1) + ((j + 1 : Nat) : Int) - 1).toNat = 25 * i + j := by omega
            have e7 : (((i + 1 : Nat) : Int) - 1).toNat = i := by omega
            have e8 : (((j + 1 : Nat) : Int) - 1).toNat = j := by omega
            have f5 := hv2 j (by omega)
            have f6 := hv i j (by omega) (by omega)
            have f7 := hr i (by omega)
            have f8 : h 117 j = he j := by rw [hF _ _ (by omega) (by omega)]; exact (hH j (by omega)).1
            have b5 := pd_b dr he (i + 1) j
            have b6 := pd_b dr he i j
            have b7 := hsr0.2 i
            have b8 := (hH j (by omega)).2
            have abq : (if dr i - he j < 0 then -(dr i - he j) else dr i - he j) = (if 0 ≤ dr i - he j then dr i - he j else -(dr i - he j)) := by split <;> split <;> omega
            have c145' := c145 X h (dr i - he j) (by omega)
            rw [abq] at c145'
            generalize hab : (if 0 ≤ dr i - he j then dr i - he j else -(dr i - he j)) = ab at wr c145'
            have habb : 0 ≤ ab ∧ ab ≤ 20000 := by rw [← hab]; split <;> omega
            apply s_207_121
            try simp only [mi_87, fl_87_24, up_87_24, fl_87_25, mi_108, ml_108, fl_108, up_108, fl_87_33, mi_115, ml_115, fl_115, up_115, fl_87_26, mi_109, ml_109, fl_109, up_109, fl_87_40, mi_119, ml_119, fl_119, up_119, fl_87_38, up_87_38, fl_87_41, mi_120, ml_120, fl_120, up_120, fl_87_39, mi_118, ml_118, fl_118, up_118, f1, true_and, and_true, true_or, or_true, implies_true, b10_0, b10_1]
            repeat' (first | refine And.intro ?_ ?_ | intro _)
            all_goals (try (first | omega | (unfold r32; omega) | exact hQ | exact qe hQ (by omega) | exact qe hQ (by (repeat' split) <;> omega) | exact b01 | exact n01 | exact n21 | exact n31 | exact absurd trivial (by assumption)))
            all_goals
              apply s_207_143
              try simp only [mi_87, fl_87_24, up_87_24, fl_87_25, mi_108, ml_108, fl_108, up_108, fl_87_33, mi_115, ml_115, fl_115, up_115, fl_87_26, mi_109, ml_109, fl_109, up_109, fl_87_40, mi_119, ml_119, fl_119, up_119, fl_87_38, up_87_38, fl_87_41, mi_120, ml_120, fl_120, up_120, fl_87_39, mi_118, ml_118, fl_118, up_118, e3, f4, true_and, and_true, true_or, or_true, implies_true, b10_0, b10_1]
              repeat' (first | refine And.intro ?_ ?_ | intro _)
              all_goals (try (first | omega | (unfold r32; omega) | exact hQ | exact qe hQ (by omega) | exact qe hQ (by (repeat' split) <;> omega) | exact b01 | exact n01 | exact n21 | exact n31 | exact absurd trivial (by assumption)))
              refine c146 X h _ _ _ _ (by omega) ?_
              apply s_207_171
              try simp only [mi_87, fl_87_24, up_87_24, fl_87_25, mi_108, ml_108, fl_108, up_108, fl_87_33, mi_115, ml_115, fl_115, up_115, fl_87_26, mi_109, ml_109, fl_109, up_109, fl_87_40, mi_119, ml_119, fl_119, up_119, fl_87_38, up_87_38, fl_87_41, mi_120, ml_120, fl_120, up_120, fl_87_39, mi_118, ml_118, fl_118, up_118, true_and, and_true, true_or, or_true, implies_true, b10_0, b10_1]
              repeat' (first | refine And.intro ?_ ?_ | intro _)
              all_goals (try (first | omega | (unfold r32; omega) | exact hQ | exact qe hQ (by omega) | exact qe hQ (by (repeat' split) <;> omega) | exact b01 | exact n01 | exact n21 | exact n31 | exact absurd trivial (by assumption)))
              apply s_207_176
              try simp only [mi_87, fl_87_24, up_87_24, fl_87_25, mi_108, ml_108, fl_108, up_108, fl_87_33, mi_115, ml_115, fl_115, up_115, fl_87_26, mi_109, ml_109, fl_109, up_109, fl_87_40, mi_119, ml_119, fl_119, up_119, fl_87_38, up_87_38, fl_87_41, mi_120, ml_120, fl_120, up_120, fl_87_39, mi_118, ml_118, fl_118, up_118, e5, f5, true_and, and_true, true_or, or_true, implies_true, b10_0, b10_1]
              repeat' (first | refine And.intro ?_ ?_ | intro _)
              all_goals (try (first | omega | (unfold r32; omega) | exact hQ | exact qe hQ (by omega) | exact qe hQ (by (repeat' split) <;> omega) | exact b01 | exact n01 | exact n21 | exact n31 | exact absurd trivial (by assumption)))
              refine c146 X h _ _ _ _ (by omega) ?_
              apply s_207_205
              try simp only [mi_87, fl_87_24, up_87_24, fl_87_25, mi_108, ml_108, fl_108, up_108, fl_87_33, mi_115, ml_115, fl_115, up_115, fl_87_26, mi_109, ml_109, fl_109, up_109, fl_87_40, mi_119, ml_119, fl_119, up_119, fl_87_38, up_87_38, fl_87_41, mi_120, ml_120, fl_120, up_120, fl_87_39, mi_118, ml_118, fl_118, up_118, true_and, and_true, true_or, or_true, implies_true, b10_0, b10_1]
              repeat' (first | refine And.intro ?_ ?_ | intro _)
              all_goals (try (first | omega | (unfold r32; omega) | exact hQ | exact qe hQ (by omega) | exact qe hQ (by (repeat' split) <;> omega) | exact b01 | exact n01 | exact n21 | exact n31 | exact absurd trivial (by assumption)))
              apply s_207_210
              try simp only [mi_87, fl_87_24, up_87_24, fl_87_25, mi_108, ml_108, fl_108, up_108, fl_87_33, mi_115, ml_115, fl_115, up_115, fl_87_26, mi_109, ml_109, fl_109, up_109, fl_87_40, mi_119, ml_119, fl_119, up_119, fl_87_38, up_87_38, fl_87_41, mi_120, ml_120, fl_120, up_120, fl_87_39, mi_118, ml_118, fl_118, up_118, e6, f6, e7, f7, e8, f8, true_and, and_true, true_or, or_true, implies_true, b10_0, b10_1]
              repeat' (first | refine And.intro ?_ ?_ | intro _)
              all_goals (try (first | omega | (unfold r32; omega) | exact hQ | exact qe hQ (by omega) | exact qe hQ (by (repeat' split) <;> omega) | exact b01 | exact n01 | exact n21 | exact n31 | exact absurd trivial (by assumption)))
              refine c145' _ _ (by omega) ?_
              apply s_207_260
              try simp only [mi_87, fl_87_24, up_87_24, fl_87_25, mi_108, ml_108, fl_108, up_108, fl_87_33, mi_115, ml_115, fl_115, up_115, fl_87_26, mi_109, ml_109, fl_109, up_109, fl_87_40, mi_119, ml_119, fl_119, up_119, fl_87_38, up_87_38, fl_87_41, mi_120, ml_120, fl_120, up_120, fl_87_39, mi_118, ml_118, fl_118, up_118, true_and, and_true, true_or, or_true, implies_true, b10_0, b10_1]
              repeat' (first | refine And.intro ?_ ?_ | intro _)
              all_goals (try (first | omega | (unfold r32; omega) | exact hQ | exact qe hQ (by omega) | exact qe hQ (by (repeat' split) <;> omega) | exact b01 | exact n01 | exact n21 | exact n31 | exact absurd trivial (by assumption)))
              refine c146 X h _ _ _ _ (by omega) ?_
              apply s_207_264
              try simp only [mi_87, fl_87_24, up_87_24, fl_87_25, mi_108, ml_108, fl_108, up_108, fl_87_33, mi_115, ml_115, fl_115, up_115, fl_87_26, mi_109, ml_109, fl_109, up_109, fl_87_40, mi_119, ml_119, fl_119, up_119, fl_87_38, up_87_38, fl_87_41, mi_120, ml_120, fl_120, up_120, fl_87_39, mi_118, ml_118, fl_118, up_118, true_and, and_true, true_or, or_true, implies_true, b10_0, b10_1]
              repeat' (first | refine And.intro ?_ ?_ | intro _)
              all_goals (try (first | omega | (unfold r32; omega) | exact hQ | exact qe hQ (by omega) | exact qe hQ (by (repeat' split) <;> omega) | exact b01 | exact n01 | exact n21 | exact n31 | exact absurd trivial (by assumption)))
              exact wr _ _ (by (repeat' split) <;> omega)
  -- the drops
  have key := lup (P := fun k => ∀ h : mF, (∀ o i, o ≠ 118 → o ≠ 119 → h o i = g o i) → (∀ i, i < (srtF bc bl s c k).1 → h 118 i = (srtF bc bl s c k).2 i) → ∀ v4 v5, Wp X d SH 207 4 [(2, 87), (0, (c : Int)), (0, ((srtF bc bl s c k).1 : Int)), (0, (k : Int)), v4, v5] [] SH (fl h) Q) nb.toNat ?_ ?_ 0 (by omega)
  · skip
    apply s_207_0
    try simp only [mi_87, fl_87_24, up_87_24, fl_87_25, mi_108, ml_108, fl_108, up_108, fl_87_33, mi_115, ml_115, fl_115, up_115, fl_87_26, mi_109, ml_109, fl_109, up_109, fl_87_40, mi_119, ml_119, fl_119, up_119, fl_87_38, up_87_38, fl_87_41, mi_120, ml_120, fl_120, up_120, fl_87_39, mi_118, ml_118, fl_118, up_118, true_and, and_true, true_or, or_true, implies_true, b10_0, b10_1]
    repeat' (first | refine And.intro ?_ ?_ | intro _)
    all_goals (try (first | omega | (unfold r32; omega) | exact hQ | exact qe hQ (by omega) | exact qe hQ (by (repeat' split) <;> omega) | exact b01 | exact n01 | exact n21 | exact n31 | exact absurd trivial (by assumption)))
    exact key g (fun _ _ _ _ => rfl) (fun i hi => absurd hi (by show ¬ i < 0; omega)) _ _
  · intro h hF hr v4 v5
    have f1 : h 86 24 = nb := by rw [hF _ _ (by omega) (by omega)]; exact f24
    have t := tab h hF hr
    apply s_207_4
    try simp only [mi_87, fl_87_24, up_87_24, fl_87_25, mi_108, ml_108, fl_108, up_108, fl_87_33, mi_115, ml_115, fl_115, up_115, fl_87_26, mi_109, ml_109, fl_109, up_109, fl_87_40, mi_119, ml_119, fl_119, up_119, fl_87_38, up_87_38, fl_87_41, mi_120, ml_120, fl_120, up_120, fl_87_39, mi_118, ml_118, fl_118, up_118, f1, true_and, and_true, true_or, or_true, implies_true, b10_0, b10_1]
    repeat' (first | refine And.intro ?_ ?_ | intro _)
    all_goals (try (first | omega | (unfold r32; omega) | exact hQ | exact qe hQ (by omega) | exact qe hQ (by (repeat' split) <;> omega) | exact b01 | exact n01 | exact n21 | exact n31 | exact absurd trivial (by assumption)))
    all_goals (try exact t _ _)
  · intro k hk ih h hF hr v4 v5
    have e2 : ((k : Int)).toNat = k := by omega
    have e10 : ((k + 1 : Nat) : Int) = (k : Int) + 1 := by omega
    obtain ⟨q0, q1, q2, q3, q4, q5⟩ := hB k (by omega)
    have f1 : h 86 24 = nb := by rw [hF _ _ (by omega) (by omega)]; exact f24
    have f44 : h 107 k = bc k := by rw [hF _ _ (by omega) (by omega)]; exact q0
    obtain ⟨x, hx⟩ : ∃ x : Nat, bl k = (x : Int) := ⟨(bl k).toNat, by omega⟩
    have f45 : h 108 k = (x : Int) := by rw [hF _ _ (by omega) (by omega), q1]; exact hx
    have hx36 : x < 36 := by omega
    have ex : ((x : Int)).toNat = x := by omega
    have ecx : (36 * (c : Int) + (x : Int)).toNat = 36 * c + x := by omega
    have f114 : h 114 (36 * c + x) = s (3 + c) x := by rw [hF _ _ (by omega) (by omega)]; exact ((hS c hc).2.2.2 x hx36).1
    have hsr := srtF_b (bc := bc) (bl := bl) (s := s) (c := c) (M := 20000) (by omega) k (fun i hi => by have := hB i (by omega); omega) hsb
    clear tab
    unfold srtF at ih
    rw [hx, ex, e10] at ih
    generalize hm : (srtF bc bl s c k).1 = m at ih hr hsr
    generalize hdr : (srtF bc bl s c k).2 = dr at ih hr hsr
    have htb := hsb x hx36
    by_cases hcl : bc k = (c : Int) ∧ s (3 + c) x ≠ -1
    · obtain ⟨hcl, hne⟩ := hcl
      rw [if_pos ⟨hcl, hne⟩] at ih
      simp only [] at ih
      generalize ht : s (3 + c) x = t at ih hne htb f114
      have wl : ∀ p : Nat, ∀ (h : mF) (dd : Nat → Int), p ≤ m → (∀ o i, o ≠ 118 → o ≠ 119 → h o i = g o i) → (∀ i, i < p → h 118 i = dd i) → (∀ i, p < i → i ≤ m → h 118 i = dd i) → insL t p dd = insL t m dr → Wp X d SH 207 52 [(2, 87), (0, (c : Int)), (0, (m : Int)), (0, (k : Int)), (0, t), (0, (p : Int))] [] SH (fl h) Q := by
        have fin : ∀ p : Nat, ∀ (h : mF) (dd : Nat → Int), p ≤ m → (∀ o i, o ≠ 118 → o ≠ 119 → h o i = g o i) → (∀ i, i < p → h 118 i = dd i) → (∀ i, p < i → i ≤ m → h 118 i = dd i) → fup dd p t = insL t m dr → Wp X d SH 207 93 [(2, 87), (0, (c : Int)), (0, (m : Int)), (0, (k : Int)), (0, t), (0, (p : Int))] [] SH (fl h) Q := by
          intro p h dd hp hF h1 h2 heq
          have e3 : ((p : Int)).toNat = p := by omega
          have hi := ih (mup h 118 p t) (fun o i ho ho2 => by rw [mup_n (by omega)]; exact hF o i ho ho2) (fun i hi => by
            rw [← heq]
            unfold fup
            by_cases hip : i = p
            · subst hip; rw [mup_e, if_pos rfl]
            · rw [mup_n (by omega), if_neg hip]
              by_cases hlt : i < p
              · exact h1 i hlt
              · exact h2 i (by omega) (by omega))
          rw [show ((m + 1 : Nat) : Int) = (m : Int) + 1 by omega] at hi
          apply s_207_93
          try simp only [mi_87, fl_87_24, up_87_24, fl_87_25, mi_108, ml_108, fl_108, up_108, fl_87_33, mi_115, ml_115, fl_115, up_115, fl_87_26, mi_109, ml_109, fl_109, up_109, fl_87_40, mi_119, ml_119, fl_119, up_119, fl_87_38, up_87_38, fl_87_41, mi_120, ml_120, fl_120, up_120, fl_87_39, mi_118, ml_118, fl_118, up_118, e3, true_and, and_true, true_or, or_true, implies_true, b10_0, b10_1]
          repeat' (first | refine And.intro ?_ ?_ | intro _)
          all_goals (try (first | omega | (unfold r32; omega) | exact hQ | exact qe hQ (by omega) | exact qe hQ (by (repeat' split) <;> omega) | exact b01 | exact n01 | exact n21 | exact n31 | exact absurd trivial (by assumption)))
          apply s_207_102
          try simp only [mi_87, fl_87_24, up_87_24, fl_87_25, mi_108, ml_108, fl_108, up_108, fl_87_33, mi_115, ml_115, fl_115, up_115, fl_87_26, mi_109, ml_109, fl_109, up_109, fl_87_40, mi_119, ml_119, fl_119, up_119, fl_87_38, up_87_38, fl_87_41, mi_120, ml_120, fl_120, up_120, fl_87_39, mi_118, ml_118, fl_118, up_118, true_and, and_true, true_or, or_true, implies_true, b10_0, b10_1]
          repeat' (first | refine And.intro ?_ ?_ | intro _)
          all_goals (try (first | omega | (unfold r32; omega) | exact hQ | exact qe hQ (by omega) | exact qe hQ (by (repeat' split) <;> omega) | exact b01 | exact n01 | exact n21 | exact n31 | exact absurd trivial (by assumption)))
          apply s_207_105
          try simp only [mi_87, fl_87_24, up_87_24, fl_87_25, mi_108, ml_108, fl_108, up_108, fl_87_33, mi_115, ml_115, fl_115, up_115, fl_87_26, mi_109, ml_109, fl_109, up_109, fl_87_40, mi_119, ml_119, fl_119, up_119, fl_87_38, up_87_38, fl_87_41, mi_120, ml_120, fl_120, up_120, fl_87_39, mi_118, ml_118, fl_118, up_118, true_and, and_true, true_or, or_true, implies_true, b10_0, b10_1]
          repeat' (first | refine And.intro ?_ ?_ | intro _)
          all_goals (try (first | omega | (unfold r32; omega) | exact hQ | exact qe hQ (by omega) | exact qe hQ (by (repeat' split) <;> omega) | exact b01 | exact n01 | exact n21 | exact n31 | exact absurd trivial (by assumption)))
          exact hi _ _
        intro p
        induction p with
        | zero =>
          intro h dd hp hF h1 h2 heq
          apply s_207_52
          try simp only [mi_87, fl_87_24, up_87_24, fl_87_25, mi_108, ml_108, fl_108, up_108, fl_87_33, mi_115, ml_115, fl_115, up_115, fl_87_26, mi_109, ml_109, fl_109, up_109, fl_87_40, mi_119, ml_119, fl_119, up_119, fl_87_38, up_87_38, fl_87_41, mi_120, ml_120, fl_120, up_120, fl_87_39, mi_118, ml_118, fl_118, up_118, true_and, and_true, true_or, or_true, implies_true, b10_0, b10_1]
          repeat' (first | refine And.intro ?_ ?_ | intro _)
          all_goals (try (first | omega | (unfold r32; omega) | exact hQ | exact qe hQ (by omega) | exact qe hQ (by (repeat' split) <;> omega) | exact b01 | exact n01 | exact n21 | exact n31 | exact absurd trivial (by assumption)))
          all_goals (try exact fin 0 h dd hp hF h1 h2 heq)
        | succ p ihp =>
          intro h dd hp hF h1 h2 heq
          have e3 : (((p + 1 : Nat) : Int) - 1).toNat = p := by omega
          have e4 : (((p + 1 : Nat) : Int)).toNat = p + 1 := by omega
          have hp1 := h1 p (by omega)
          rw [insL_s] at heq
          by_cases hlt : t < dd p
          · rw [if_pos hlt] at heq
            have nx := ihp (mup h 118 (p + 1) (dd p)) (fup dd (p + 1) (dd p)) (by omega) (fun o i ho ho2 => by rw [mup_n (by omega)]; exact hF o i ho ho2) (fun i hi => by
              rw [mup_n (by omega)]
              unfold fup
              rw [if_neg (by omega)]
              exact h1 i (by omega)) (fun i hi hi2 => by
              unfold fup
              by_cases hip : i = p + 1
              · subst hip; rw [mup_e, if_pos rfl]
              · rw [mup_n (by omega), if_neg hip]
                exact h2 i (by omega) hi2) heq
            apply s_207_52
            try simp only [mi_87, fl_87_24, up_87_24, fl_87_25, mi_108, ml_108, fl_108, up_108, fl_87_33, mi_115, ml_115, fl_115, up_115, fl_87_26, mi_109, ml_109, fl_109, up_109, fl_87_40, mi_119, ml_119, fl_119, up_119, fl_87_38, up_87_38, fl_87_41, mi_120, ml_120, fl_120, up_120, fl_87_39, mi_118, ml_118, fl_118, up_118, e3, e4, hp1, true_and, and_true, true_or, or_true, implies_true, b10_0, b10_1]
            repeat' (first | refine And.intro ?_ ?_ | intro _)
            all_goals (try (first | omega | (unfold r32; omega) | exact hQ | exact qe hQ (by omega) | exact qe hQ (by (repeat' split) <;> omega) | exact b01 | exact n01 | exact n21 | exact n31 | exact absurd trivial (by assumption)))
            apply s_207_87
            try simp only [mi_87, fl_87_24, up_87_24, fl_87_25, mi_108, ml_108, fl_108, up_108, fl_87_33, mi_115, ml_115, fl_115, up_115, fl_87_26, mi_109, ml_109, fl_109, up_109, fl_87_40, mi_119, ml_119, fl_119, up_119, fl_87_38, up_87_38, fl_87_41, mi_120, ml_120, fl_120, up_120, fl_87_39, mi_118, ml_118, fl_118, up_118, true_and, and_true, true_or, or_true, implies_true, b10_0, b10_1]
            repeat' (first | refine And.intro ?_ ?_ | intro _)
            all_goals (try (first | omega | (unfold r32; omega) | exact hQ | exact qe hQ (by omega) | exact qe hQ (by (repeat' split) <;> omega) | exact b01 | exact n01 | exact n21 | exact n31 | exact absurd trivial (by assumption)))
            all_goals (try (rw [show ((p + 1 : Nat) : Int) + -1 = (p : Int) by omega]; exact nx))
          · rw [if_neg hlt] at heq
            have fi := fin (p + 1) h dd hp hF h1 h2 heq
            apply s_207_52
            try simp only [mi_87, fl_87_24, up_87_24, fl_87_25, mi_108, ml_108, fl_108, up_108, fl_87_33, mi_115, ml_115, fl_115, up_115, fl_87_26, mi_109, ml_109, fl_109, up_109, fl_87_40, mi_119, ml_119, fl_119, up_119, fl_87_38, up_87_38, fl_87_41, mi_120, ml_120, fl_120, up_120, fl_87_39, mi_118, ml_118, fl_118, up_118, e3, e4, hp1, true_and, and_true, true_or, or_true, implies_true, b10_0, b10_1]
            repeat' (first | refine And.intro ?_ ?_ | intro _)
            all_goals (try (first | omega | (unfold r32; omega) | exact hQ | exact qe hQ (by omega) | exact qe hQ (by (repeat' split) <;> omega) | exact b01 | exact n01 | exact n21 | exact n31 | exact absurd trivial (by assumption)))
            all_goals (try exact fi)
      have w0 := wl m h dr (Nat.le_refl _) hF hr (fun i h1 h2 => absurd h1 (by omega)) rfl
      apply s_207_4
      try simp only [mi_87, fl_87_24, up_87_24, fl_87_25, mi_108, ml_108, fl_108, up_108, fl_87_33, mi_115, ml_115, fl_115, up_115, fl_87_26, mi_109, ml_109, fl_109, up_109, fl_87_40, mi_119, ml_119, fl_119, up_119, fl_87_38, up_87_38, fl_87_41, mi_120, ml_120, fl_120, up_120, fl_87_39, mi_118, ml_118, fl_118, up_118, f1, e2, f44, f45, ecx, f114, true_and, and_true, true_or, or_true, implies_true, b10_0, b10_1]
      repeat' (first | refine And.intro ?_ ?_ | intro _)
      all_goals (try (first | omega | (unfold r32; omega) | exact hQ | exact qe hQ (by omega) | exact qe hQ (by (repeat' split) <;> omega) | exact b01 | exact n01 | exact n21 | exact n31 | exact absurd trivial (by assumption)))
      apply s_207_42
      try simp only [mi_87, fl_87_24, up_87_24, fl_87_25, mi_108, ml_108, fl_108, up_108, fl_87_33, mi_115, ml_115, fl_115, up_115, fl_87_26, mi_109, ml_109, fl_109, up_109, fl_87_40, mi_119, ml_119, fl_119, up_119, fl_87_38, up_87_38, fl_87_41, mi_120, ml_120, fl_120, up_120, fl_87_39, mi_118, ml_118, fl_118, up_118, true_and, and_true, true_or, or_true, implies_true, b10_0, b10_1]
      repeat' (first | refine And.intro ?_ ?_ | intro _)
      all_goals (try (first | omega | (unfold r32; omega) | exact hQ | exact qe hQ (by omega) | exact qe hQ (by (repeat' split) <;> omega) | exact b01 | exact n01 | exact n21 | exact n31 | exact absurd trivial (by assumption)))
      all_goals (try exact w0)
    · rw [if_neg hcl, hm, hdr] at ih
      have fi : ∀ y v4 v5, y < 0 → Wp X d SH 207 42 [(2, 87), (0, (c : Int)), (0, (m : Int)), (0, (k : Int)), v4, v5] [(0, y)] SH (fl h) Q := by
        intro y v4 v5 hy
        apply s_207_42
        try simp only [mi_87, fl_87_24, up_87_24, fl_87_25, mi_108, ml_108, fl_108, up_108, fl_87_33, mi_115, ml_115, fl_115, up_115, fl_87_26, mi_109, ml_109, fl_109, up_109, fl_87_40, mi_119, ml_119, fl_119, up_119, fl_87_38, up_87_38, fl_87_41, mi_120, ml_120, fl_120, up_120, fl_87_39, mi_118, ml_118, fl_118, up_118, true_and, and_true, true_or, or_true, implies_true, b10_0, b10_1]
        repeat' (first | refine And.intro ?_ ?_ | intro _)
        all_goals (try (first | omega | (unfold r32; omega) | exact hQ | exact qe hQ (by omega) | exact qe hQ (by (repeat' split) <;> omega) | exact b01 | exact n01 | exact n21 | exact n31 | exact absurd trivial (by assumption)))
        apply s_207_105
        try simp only [mi_87, fl_87_24, up_87_24, fl_87_25, mi_108, ml_108, fl_108, up_108, fl_87_33, mi_115, ml_115, fl_115, up_115, fl_87_26, mi_109, ml_109, fl_109, up_109, fl_87_40, mi_119, ml_119, fl_119, up_119, fl_87_38, up_87_38, fl_87_41, mi_120, ml_120, fl_120, up_120, fl_87_39, mi_118, ml_118, fl_118, up_118, true_and, and_true, true_or, or_true, implies_true, b10_0, b10_1]
        repeat' (first | refine And.intro ?_ ?_ | intro _)
        all_goals (try (first | omega | (unfold r32; omega) | exact hQ | exact qe hQ (by omega) | exact qe hQ (by (repeat' split) <;> omega) | exact b01 | exact n01 | exact n21 | exact n31 | exact absurd trivial (by assumption)))
        exact ih h hF hr _ _
      apply s_207_4
      try simp only [mi_87, fl_87_24, up_87_24, fl_87_25, mi_108, ml_108, fl_108, up_108, fl_87_33, mi_115, ml_115, fl_115, up_115, fl_87_26, mi_109, ml_109, fl_109, up_109, fl_87_40, mi_119, ml_119, fl_119, up_119, fl_87_38, up_87_38, fl_87_41, mi_120, ml_120, fl_120, up_120, fl_87_39, mi_118, ml_118, fl_118, up_118, f1, e2, f44, f45, ecx, f114, true_and, and_true, true_or, or_true, implies_true, b10_0, b10_1]
      repeat' (first | refine And.intro ?_ ?_ | intro _)
      all_goals (try (first | omega | (unfold r32; omega) | exact hQ | exact qe hQ (by omega) | exact qe hQ (by (repeat' split) <;> omega) | exact b01 | exact n01 | exact n21 | exact n31 | exact absurd trivial (by assumption)))
      all_goals (exact fi _ _ _ (by omega))
