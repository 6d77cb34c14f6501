/-! calls that tell of the night -/
theorem SI_b {G s : mF} {M : Int} {c i : Nat} (h : SI G M s) (hc : c < 4) (hi : i < 36) : -1 ≤ s (3 + c) i ∧ s (3 + c) i ≤ M ∧ -1 ≤ s (7 + c) i ∧ s (7 + c) i ≤ M := by
  have z := h c hc
  have y := (z.2.2.2 i hi).1
  omega
theorem T_night (X : mX) (g : mF) (a w : Int) (h : NI g) : PR X 111 199 [(2, 1), (0, a), (0, w), (3, 0)] [(2, 87), (0, a), (0, w)] g (fun g2 => NC g g2 ∧ Iknow g2) := by
  have kn' := kn X h
  intro d Q hd hQ
  by_cases ha : 0 ≤ a ∧ a ≤ 3
  · obtain ⟨c, rfl⟩ : ∃ c : Nat, a = (c : Int) := ⟨a.toNat, by omega⟩
    have hc : c < 4 := by omega
    have e0 : ((c : Int)).toNat = c := by omega
    obtain ⟨k1, k2, k3, -⟩ := h.2.1 c hc
    have fin : ∀ g1 v, FK (mup g 11 3 1) g1 → CS g1 (NN g) → SI (inp g) 18959 (NN g) → (v = if w = 0 then NN g 0 c else if w = 1 then NN g 2 c else if w = 2 then sumN (g (19 + 6 * c) 0).toNat (fun i => if NN g (3 + c) i = -1 then 0 else 1) else if w = 3 then NN g 1 c else -1002) → Q (some (0, v)) (fl g1) := by
      intro g1 v hK hS hI hv
      refine hQ _ g1 ⟨v, rfl, ?_⟩
      clear hQ
      intro d Q hd hQ
      have fn' := fn X h hK
      have f99 : g1 99 c = g (19 + 6 * c) 0 := by rw [hK _ _ (by omega), mup_n (by omega)]; exact k1
      have fin2 : ∀ g2, FM g1 g2 → ∀ u, u = v → Q (some (0, u)) (fl g2) := by
        intro g2 hM u hu
        rw [hu]
        exact hQ _ g2 ⟨rfl, NC_fin hK hS hI hM⟩
      refine s_199_0 ⟨by omega, ?_⟩
      refine c174 X g1 _ _ _ (by omega) ?_
      apply s_199_4
      try simp only [mi_87, fl_87_30, mi_112, ml_112, fl_112, up_112, fl_87_32, mi_114, ml_114, fl_114, up_114, fl_87_31, mi_113, ml_113, fl_113, up_113, true_and, and_true, true_or, or_true, implies_true, b10_0, b10_1]
      repeat' (first | refine And.intro ?_ ?_ | intro _)
      all_goals (try (first | omega | (unfold r32; omega) | exact hQ | exact qe hQ (by omega) | exact qe hQ (by (repeat' split) <;> omega) | exact b01 | exact n01 | exact n21 | exact n31 | exact absurd trivial (by assumption)))
      refine fn' _ _ (by omega) ?_
      rintro _ g2 ⟨rfl, hM, hS2⟩
      have z := hS2 c hc
      have c198' := c198 X (n := g (19 + 6 * c) 0) hc ⟨k2, k3⟩ (by rw [hM _ _ (by omega)]; exact f99) hS2 (fun i hi => (SI_b hI hc hi).1)
      have hw : w = 0 ∨ w = 1 ∨ w = 2 ∨ w = 3 ∨ (w < 0 ∨ 3 < w) := by omega
      rcases hw with rfl | rfl | rfl | rfl | hw
      · exact s_199_15 ⟨fun q => by omega, fun _ => ⟨mi_87, by simp only [fl_87_30]; exact mi_112, by omega, by simp only [fl_87_30, ml_112]; omega, by simp only [fl_87_30, fl_112, e0]; exact fin2 g2 hM _ (by rw [hv, if_pos rfl]; exact z.1)⟩, fun q => by omega, fun q => by omega, fun q => by omega⟩
      · exact s_199_15 ⟨fun q => by omega, fun q => by omega, fun _ => ⟨mi_87, by simp only [fl_87_32]; exact mi_114, by omega, by simp only [fl_87_32, ml_114]; omega, by simp only [fl_87_32, fl_114, e0]; exact fin2 g2 hM _ (by rw [hv, if_neg (by omega), if_pos rfl]; exact z.2.2.1)⟩, fun q => by omega, fun q => by omega⟩
      · refine s_199_15 ⟨fun q => by omega, fun q => by omega, fun q => by omega, fun _ => ⟨by omega, mi_87, ?_⟩, fun q => by omega⟩
        refine c198' _ _ (by omega) ?_
        refine s_199_67 ?_
        exact fin2 g2 hM _ (by rw [hv, if_neg (by omega), if_neg (by omega), if_pos rfl])
      · exact s_199_15 ⟨fun q => by omega, fun q => by omega, fun q => by omega, fun q => by omega, fun _ => ⟨mi_87, by simp only [fl_87_31]; exact mi_113, by omega, by simp only [fl_87_31, ml_113]; omega, by simp only [fl_87_31, fl_113, e0]; exact fin2 g2 hM _ (by rw [hv, if_neg (by omega), if_neg (by omega), if_neg (by omega), if_pos rfl]; exact z.2.1)⟩⟩
      · exact s_199_15 ⟨fun _ => fin2 g2 hM _ (by rw [hv, if_neg (by omega), if_neg (by omega), if_neg (by omega), if_neg (by omega)]), fun q => by omega, fun q => by omega, fun q => by omega, fun q => by omega⟩
    apply s_111_0
    try simp only [mi_1, fl_1_4, mi_12, fl_1_2, mi_6, cm_o, cl_4, cu_4, cl_6, cu_6, cl_5, cu_5, true_and, and_true, true_or, or_true, implies_true, b10_0, b10_1]
    repeat' (first | refine And.intro ?_ ?_ | intro _)
    all_goals (try (first | omega | (unfold r32; omega) | exact hQ | exact qe hQ (by omega) | exact qe hQ (by (repeat' split) <;> omega) | exact b01 | exact n01 | exact n21 | exact n31 | exact absurd trivial (by assumption)))
    refine c32 X g hc _ _ (by omega) ?_
    apply s_111_8
    try simp only [mi_1, fl_1_4, mi_12, fl_1_2, mi_6, cm_o, cl_4, cu_4, cl_6, cu_6, cl_5, cu_5, true_and, and_true, true_or, or_true, implies_true, b10_0, b10_1]
    repeat' (first | refine And.intro ?_ ?_ | intro _)
    all_goals (try (first | omega | (unfold r32; omega) | exact hQ | exact qe hQ (by omega) | exact qe hQ (by (repeat' split) <;> omega) | exact b01 | exact n01 | exact n21 | exact n31 | exact absurd trivial (by assumption)))
    refine kn' _ _ (by omega) ?_
    rintro _ g1 ⟨rfl, hK, hS, hI⟩
    have z := hS c hc
    have f0 : g1 (19 + 6 * c) 0 = g (19 + 6 * c) 0 := by rw [hK _ _ (by omega), mup_n (by omega)]
    have c26' := c26 X (g := g1) hc (by rw [f0]; exact ⟨k2, k3⟩) hS
    rw [f0] at c26'
    have hw : w = 0 ∨ w = 1 ∨ w = 2 ∨ w = 3 ∨ (w < 0 ∨ 3 < w) := by omega
    rcases hw with rfl | rfl | rfl | rfl | hw
    · refine s_111_28 ⟨fun q => by omega, fun _ => ⟨cm_o hc, ?_⟩, fun q => by omega, fun q => by omega, fun q => by omega⟩
      rw [cl_4 g1 hc]
      exact fin g1 _ hK hS hI (by rw [if_pos rfl]; exact z.1)
    · refine s_111_28 ⟨fun q => by omega, fun q => by omega, fun _ => ⟨cm_o hc, ?_⟩, fun q => by omega, fun q => by omega⟩
      rw [cl_6 g1 hc]
      exact fin g1 _ hK hS hI (by rw [if_neg (by omega), if_pos rfl]; exact z.2.2.1)
    · refine s_111_28 ⟨fun q => by omega, fun q => by omega, fun q => by omega, fun _ => ⟨by omega, cm_o hc, ?_⟩, fun q => by omega⟩
      refine c26' _ _ (by omega) ?_
      refine s_111_74 ?_
      exact fin g1 _ hK hS hI (by rw [if_neg (by omega), if_neg (by omega), if_pos rfl])
    · refine s_111_28 ⟨fun q => by omega, fun q => by omega, fun q => by omega, fun q => by omega, fun _ => ⟨cm_o hc, ?_⟩⟩
      rw [cl_5 g1 hc]
      exact fin g1 _ hK hS hI (by rw [if_neg (by omega), if_neg (by omega), if_neg (by omega), if_pos rfl]; exact z.2.1)
    · exact s_111_28 ⟨fun _ => fin g1 _ hK hS hI (by rw [if_neg (by omega), if_neg (by omega), if_neg (by omega), if_neg (by omega)]), fun q => by omega, fun q => by omega, fun q => by omega, fun q => by omega⟩
  · have r1 : Ret X 60 111 [(2, 1), (0, a), (0, w), (3, 0)] g (some (0, -1001)) g := by
      intro d Q hd hQ
      repeat' (first
        | (exfalso; omega)
        | (exact absurd trivial (by assumption))
        | (apply s_111_0; try simp only [mi_1, fl_1_4, mi_12, fl_1_2, mi_6, cm_o, cl_4, cu_4, cl_6, cu_6, cl_5, cu_5, true_and, and_true, true_or, or_true, implies_true, b10_0, b10_1])
        | (apply s_111_8; try simp only [mi_1, fl_1_4, mi_12, fl_1_2, mi_6, cm_o, cl_4, cu_4, cl_6, cu_6, cl_5, cu_5, true_and, and_true, true_or, or_true, implies_true, b10_0, b10_1])
        | (apply s_111_28; try simp only [mi_1, fl_1_4, mi_12, fl_1_2, mi_6, cm_o, cl_4, cu_4, cl_6, cu_6, cl_5, cu_5, true_and, and_true, true_or, or_true, implies_true, b10_0, b10_1])
        | (apply s_111_74; try simp only [mi_1, fl_1_4, mi_12, fl_1_2, mi_6, cm_o, cl_4, cu_4, cl_6, cu_6, cl_5, cu_5, true_and, and_true, true_or, or_true, implies_true, b10_0, b10_1])
        | (refine c32n X g _ ha _ _ (by omega) ?_)
        | (refine And.intro ?_ ?_)
        | (intro _)
        | omega
        | (unfold r32; omega)
        | (exact hQ)
        | (exact qe hQ (by omega))
        | (exact qe hQ (by (repeat' split) <;> omega))
        | (exact b01)
        | (exact n01)
        | (exact n21)
        | (exact n31))
    have r2 : Ret X 60 199 [(2, 87), (0, a), (0, w)] g (some (0, -1001)) g := by
      intro d Q hd hQ
      repeat' (first
        | (exfalso; omega)
        | (exact absurd trivial (by assumption))
        | (apply s_199_0; try simp only [mi_87, fl_87_30, mi_112, ml_112, fl_112, up_112, fl_87_32, mi_114, ml_114, fl_114, up_114, fl_87_31, mi_113, ml_113, fl_113, up_113, true_and, and_true, true_or, or_true, implies_true, b10_0, b10_1])
        | (apply s_199_4; try simp only [mi_87, fl_87_30, mi_112, ml_112, fl_112, up_112, fl_87_32, mi_114, ml_114, fl_114, up_114, fl_87_31, mi_113, ml_113, fl_113, up_113, true_and, and_true, true_or, or_true, implies_true, b10_0, b10_1])
        | (apply s_199_15; try simp only [mi_87, fl_87_30, mi_112, ml_112, fl_112, up_112, fl_87_32, mi_114, ml_114, fl_114, up_114, fl_87_31, mi_113, ml_113, fl_113, up_113, true_and, and_true, true_or, or_true, implies_true, b10_0, b10_1])
        | (apply s_199_67; try simp only [mi_87, fl_87_30, mi_112, ml_112, fl_112, up_112, fl_87_32, mi_114, ml_114, fl_114, up_114, fl_87_31, mi_113, ml_113, fl_113, up_113, true_and, and_true, true_or, or_true, implies_true, b10_0, b10_1])
        | (refine c174 X _ _ _ _ (by omega) ?_)
        | (refine And.intro ?_ ?_)
        | (intro _)
        | omega
        | (unfold r32; omega)
        | (exact hQ)
        | (exact qe hQ (by omega))
        | (exact qe hQ (by (repeat' split) <;> omega))
        | (exact b01)
        | (exact n01)
        | (exact n21)
        | (exact n31))
    exact PR_of r1 r2 (NC_r h) d Q hd hQ
theorem T_burns (X : mX) (g : mF) (a i w : Int) (h : NI g) : PR X 112 200 [(2, 1), (0, a), (0, i), (0, w), (3, 0)] [(2, 87), (0, a), (0, i), (0, w)] g (fun g2 => NC g g2 ∧ Iknow g2) := by
  have kn' := kn X h
  intro d Q hd hQ
  by_cases ha : 0 ≤ a ∧ a ≤ 3
  · obtain ⟨c, rfl⟩ : ∃ c : Nat, a = (c : Int) := ⟨a.toNat, by omega⟩
    have hc : c < 4 := by omega
    have e0 : ((c : Int)).toNat = c := by omega
    obtain ⟨k1, k2, k3, -⟩ := h.2.1 c hc
    have hb : 0 ≤ g 99 c ∧ g 99 c ≤ 36 := by omega
    by_cases hi : 0 ≤ i ∧ i < g (19 + 6 * c) 0
    · obtain ⟨x, rfl⟩ : ∃ x : Nat, i = (x : Int) := ⟨i.toNat, by omega⟩
      have hx36 : x < 36 := by omega
      have ex : ((x : Int)).toNat = x := by omega
      have ecx : (36 * (c : Int) + (x : Int)).toNat = 36 * c + x := by omega
      by_cases hw : 0 ≤ w ∧ w ≤ 1
      · have fin : ∀ g1, FK (mup g 11 3 1) g1 → CS g1 (NN g) → SI (inp g) 18959 (NN g) → ∀ v, (v = if w = 0 then NN g (3 + c) x else NN g (7 + c) x) → Q (some (0, v)) (fl g1) := by
          intro g1 hK hS hI v hv
          refine hQ _ g1 ⟨v, rfl, ?_⟩
          clear hQ
          intro d Q hd hQ
          have fn' := fn X h hK
          have f99 : g1 99 c = g (19 + 6 * c) 0 := by rw [hK _ _ (by omega), mup_n (by omega)]; exact k1
          have fin2 : ∀ g2, FM g1 g2 → ∀ u, u = v → Q (some (0, u)) (fl g2) := by
            intro g2 hM u hu
            rw [hu]
            exact hQ _ g2 ⟨rfl, NC_fin hK hS hI hM⟩
          have c175' := c175 X g1 hc (x : Int) (by omega)
          rw [f99] at c175'
          apply s_200_0
          try simp only [mi_87, fl_87_33, mi_115, ml_115, fl_115, up_115, fl_87_34, mi_116, ml_116, fl_116, up_116, true_and, and_true, true_or, or_true, implies_true, b10_0, b10_1]
          repeat' (first | refine And.intro ?_ ?_ | intro _)
          all_goals (try (first | omega | (unfold r32; omega) | exact hQ | exact qe hQ (by omega) | exact qe hQ (by (repeat' split) <;> omega) | exact b01 | exact n01 | exact n21 | exact n31 | exact absurd trivial (by assumption)))
          refine c175' _ _ (by omega) ?_
          apply s_200_6
          try simp only [mi_87, fl_87_33, mi_115, ml_115, fl_115, up_115, fl_87_34, mi_116, ml_116, fl_116, up_116, true_and, and_true, true_or, or_true, implies_true, b10_0, b10_1]
          repeat' (first | refine And.intro ?_ ?_ | intro _)
          all_goals (try (first | omega | (unfold r32; omega) | exact hQ | exact qe hQ (by omega) | exact qe hQ (by (repeat' split) <;> omega) | exact b01 | exact n01 | exact n21 | exact n31 | exact absurd trivial (by assumption)))
          refine c144 X g1 _ _ _ _ _ (by omega) ?_
          apply s_200_20
          try simp only [mi_87, fl_87_33, mi_115, ml_115, fl_115, up_115, fl_87_34, mi_116, ml_116, fl_116, up_116, true_and, and_true, true_or, or_true, implies_true, b10_0, b10_1]
          repeat' (first | refine And.intro ?_ ?_ | intro _)
          all_goals (try (first | omega | (unfold r32; omega) | exact hQ | exact qe hQ (by omega) | exact qe hQ (by (repeat' split) <;> omega) | exact b01 | exact n01 | exact n21 | exact n31 | exact absurd trivial (by assumption)))
          refine fn' _ _ (by omega) ?_
          rintro _ g2 ⟨rfl, hM, hS2⟩
          have z := (hS2 c hc).2.2.2 x hx36
          apply s_200_31
          try simp only [mi_87, fl_87_33, mi_115, ml_115, fl_115, up_115, fl_87_34, mi_116, ml_116, fl_116, up_116, ecx, true_and, and_true, true_or, or_true, implies_true, b10_0, b10_1]
          repeat' (first | refine And.intro ?_ ?_ | intro _)
          all_goals (try (first | omega | (unfold r32; omega) | exact hQ | exact qe hQ (by omega) | exact qe hQ (by (repeat' split) <;> omega) | exact b01 | exact n01 | exact n21 | exact n31 | exact absurd trivial (by assumption)))
          · exact fin2 g2 hM _ (by rw [hv, if_neg (by assumption)]; exact z.2)
          · exact fin2 g2 hM _ (by rw [hv, if_pos (by omega)]; exact z.1)
        apply s_112_0
        try simp only [mi_1, fl_1_4, mi_12, cm_o, fl_1_2, mi_6, cl_7, cm_7, cn_7, ca_7, cz_7, cl_8, cm_8, cn_8, ca_8, cz_8, true_and, and_true, true_or, or_true, implies_true, b10_0, b10_1]
        repeat' (first | refine And.intro ?_ ?_ | intro _)
        all_goals (try (first | omega | (unfold r32; omega) | exact hQ | exact qe hQ (by omega) | exact qe hQ (by (repeat' split) <;> omega) | exact b01 | exact n01 | exact n21 | exact n31 | exact absurd trivial (by assumption)))
        refine c32 X g hc _ _ (by omega) ?_
        apply s_112_8
        try simp only [mi_1, fl_1_4, mi_12, cm_o, fl_1_2, mi_6, cl_7, cm_7, cn_7, ca_7, cz_7, cl_8, cm_8, cn_8, ca_8, cz_8, hc, true_and, and_true, true_or, or_true, implies_true, b10_0, b10_1]
        repeat' (first | refine And.intro ?_ ?_ | intro _)
        all_goals (try (first | omega | (unfold r32; omega) | exact hQ | exact qe hQ (by omega) | exact qe hQ (by (repeat' split) <;> omega) | exact b01 | exact n01 | exact n21 | exact n31 | exact absurd trivial (by assumption)))
        refine c14 X g hc _ _ _ (by omega) ?_
        apply s_112_21
        try simp only [mi_1, fl_1_4, mi_12, cm_o, fl_1_2, mi_6, cl_7, cm_7, cn_7, ca_7, cz_7, cl_8, cm_8, cn_8, ca_8, cz_8, true_and, and_true, true_or, or_true, implies_true, b10_0, b10_1]
        repeat' (first | refine And.intro ?_ ?_ | intro _)
        all_goals (try (first | omega | (unfold r32; omega) | exact hQ | exact qe hQ (by omega) | exact qe hQ (by (repeat' split) <;> omega) | exact b01 | exact n01 | exact n21 | exact n31 | exact absurd trivial (by assumption)))
        refine c130 X g _ _ _ _ _ (by omega) ?_
        apply s_112_34
        try simp only [mi_1, fl_1_4, mi_12, cm_o, fl_1_2, mi_6, cl_7, cm_7, cn_7, ca_7, cz_7, cl_8, cm_8, cn_8, ca_8, cz_8, true_and, and_true, true_or, or_true, implies_true, b10_0, b10_1]
        repeat' (first | refine And.intro ?_ ?_ | intro _)
        all_goals (try (first | omega | (unfold r32; omega) | exact hQ | exact qe hQ (by omega) | exact qe hQ (by (repeat' split) <;> omega) | exact b01 | exact n01 | exact n21 | exact n31 | exact absurd trivial (by assumption)))
        refine kn' _ _ (by omega) ?_
        rintro _ g1 ⟨rfl, hK, hS, hI⟩
        have z := (hS c hc).2.2.2 x hx36
        apply s_112_52
        try simp only [mi_1, fl_1_4, mi_12, cm_o, fl_1_2, mi_6, cl_7, cm_7, cn_7, ca_7, cz_7, cl_8, cm_8, cn_8, ca_8, cz_8, hc, ex, true_and, and_true, true_or, or_true, implies_true, b10_0, b10_1]
        repeat' (first | refine And.intro ?_ ?_ | intro _)
        all_goals (try (first | omega | (unfold r32; omega) | exact hQ | exact qe hQ (by omega) | exact qe hQ (by (repeat' split) <;> omega) | exact b01 | exact n01 | exact n21 | exact n31 | exact absurd trivial (by assumption)))
        · exact fin g1 hK hS hI _ (by rw [if_neg (by assumption)]; exact z.2)
        · exact fin g1 hK hS hI _ (by rw [if_pos (by omega)]; exact z.1)
      · have r1 : Ret X 60 112 [(2, 1), (0, (c : Int)), (0, (x : Int)), (0, w), (3, 0)] g (some (0, -1002)) g := by
          intro d Q hd hQ
          repeat' (first
            | (exfalso; omega)
            | (exact absurd trivial (by assumption))
            | (apply s_112_0; try simp only [mi_1, fl_1_4, mi_12, cm_o, fl_1_2, mi_6, cl_7, cm_7, cn_7, ca_7, cz_7, cl_8, cm_8, cn_8, ca_8, cz_8, hc, true_and, and_true, true_or, or_true, implies_true, b10_0, b10_1])
            | (apply s_112_8; try simp only [mi_1, fl_1_4, mi_12, cm_o, fl_1_2, mi_6, cl_7, cm_7, cn_7, ca_7, cz_7, cl_8, cm_8, cn_8, ca_8, cz_8, hc, true_and, and_true, true_or, or_true, implies_true, b10_0, b10_1])
            | (apply s_112_21; try simp only [mi_1, fl_1_4, mi_12, cm_o, fl_1_2, mi_6, cl_7, cm_7, cn_7, ca_7, cz_7, cl_8, cm_8, cn_8, ca_8, cz_8, hc, true_and, and_true, true_or, or_true, implies_true, b10_0, b10_1])
            | (apply s_112_34; try simp only [mi_1, fl_1_4, mi_12, cm_o, fl_1_2, mi_6, cl_7, cm_7, cn_7, ca_7, cz_7, cl_8, cm_8, cn_8, ca_8, cz_8, hc, true_and, and_true, true_or, or_true, implies_true, b10_0, b10_1])
            | (apply s_112_52; try simp only [mi_1, fl_1_4, mi_12, cm_o, fl_1_2, mi_6, cl_7, cm_7, cn_7, ca_7, cz_7, cl_8, cm_8, cn_8, ca_8, cz_8, hc, true_and, and_true, true_or, or_true, implies_true, b10_0, b10_1])
            | (refine c130 X _ _ _ _ _ _ (by omega) ?_)
            | (refine c32 X g hc _ _ (by omega) ?_)
            | (refine c14 X g hc _ _ _ (by omega) ?_)
            | (refine And.intro ?_ ?_)
            | (intro _)
            | omega
            | (unfold r32; omega)
            | (exact hQ)
            | (exact qe hQ (by omega))
            | (exact qe hQ (by (repeat' split) <;> omega))
            | (exact b01)
            | (exact n01)
            | (exact n21)
            | (exact n31))
        have r2 : Ret X 60 200 [(2, 87), (0, (c : Int)), (0, (x : Int)), (0, w)] g (some (0, -1002)) g := by
          intro d Q hd hQ
          repeat' (first
            | (exfalso; omega)
            | (exact absurd trivial (by assumption))
            | (apply s_200_0; try simp only [mi_87, fl_87_33, mi_115, ml_115, fl_115, up_115, fl_87_34, mi_116, ml_116, fl_116, up_116, true_and, and_true, true_or, or_true, implies_true, b10_0, b10_1])
            | (apply s_200_6; try simp only [mi_87, fl_87_33, mi_115, ml_115, fl_115, up_115, fl_87_34, mi_116, ml_116, fl_116, up_116, true_and, and_true, true_or, or_true, implies_true, b10_0, b10_1])
            | (apply s_200_20; try simp only [mi_87, fl_87_33, mi_115, ml_115, fl_115, up_115, fl_87_34, mi_116, ml_116, fl_116, up_116, true_and, and_true, true_or, or_true, implies_true, b10_0, b10_1])
            | (apply s_200_31; try simp only [mi_87, fl_87_33, mi_115, ml_115, fl_115, up_115, fl_87_34, mi_116, ml_116, fl_116, up_116, true_and, and_true, true_or, or_true, implies_true, b10_0, b10_1])
            | (refine c144 X _ _ _ _ _ _ (by omega) ?_)
            | (refine c175 X g hc _ hb _ _ (by omega) ?_)
            | (refine And.intro ?_ ?_)
            | (intro _)
            | omega
            | (unfold r32; omega)
            | (exact hQ)
            | (exact qe hQ (by omega))
            | (exact qe hQ (by (repeat' split) <;> omega))
            | (exact b01)
            | (exact n01)
            | (exact n21)
            | (exact n31))
        exact PR_of r1 r2 (NC_r h) d Q hd hQ
    · have r1 : Ret X 60 112 [(2, 1), (0, (c : Int)), (0, i), (0, w), (3, 0)] g (some (0, -1001)) g := by
        intro d Q hd hQ
        repeat' (first
          | (exfalso; omega)
          | (exact absurd trivial (by assumption))
          | (apply s_112_0; try simp only [mi_1, fl_1_4, mi_12, cm_o, fl_1_2, mi_6, cl_7, cm_7, cn_7, ca_7, cz_7, cl_8, cm_8, cn_8, ca_8, cz_8, hc, true_and, and_true, true_or, or_true, implies_true, b10_0, b10_1])
          | (apply s_112_8; try simp only [mi_1, fl_1_4, mi_12, cm_o, fl_1_2, mi_6, cl_7, cm_7, cn_7, ca_7, cz_7, cl_8, cm_8, cn_8, ca_8, cz_8, hc, true_and, and_true, true_or, or_true, implies_true, b10_0, b10_1])
          | (apply s_112_21; try simp only [mi_1, fl_1_4, mi_12, cm_o, fl_1_2, mi_6, cl_7, cm_7, cn_7, ca_7, cz_7, cl_8, cm_8, cn_8, ca_8, cz_8, hc, true_and, and_true, true_or, or_true, implies_true, b10_0, b10_1])
          | (apply s_112_34; try simp only [mi_1, fl_1_4, mi_12, cm_o, fl_1_2, mi_6, cl_7, cm_7, cn_7, ca_7, cz_7, cl_8, cm_8, cn_8, ca_8, cz_8, hc, true_and, and_true, true_or, or_true, implies_true, b10_0, b10_1])
          | (apply s_112_52; try simp only [mi_1, fl_1_4, mi_12, cm_o, fl_1_2, mi_6, cl_7, cm_7, cn_7, ca_7, cz_7, cl_8, cm_8, cn_8, ca_8, cz_8, hc, true_and, and_true, true_or, or_true, implies_true, b10_0, b10_1])
          | (refine c130 X _ _ _ _ _ _ (by omega) ?_)
          | (refine c32 X g hc _ _ (by omega) ?_)
          | (refine c14 X g hc _ _ _ (by omega) ?_)
          | (refine And.intro ?_ ?_)
          | (intro _)
          | omega
          | (unfold r32; omega)
          | (exact hQ)
          | (exact qe hQ (by omega))
          | (exact qe hQ (by (repeat' split) <;> omega))
          | (exact b01)
          | (exact n01)
          | (exact n21)
          | (exact n31))
      have r2 : Ret X 60 200 [(2, 87), (0, (c : Int)), (0, i), (0, w)] g (some (0, -1001)) g := by
        intro d Q hd hQ
        repeat' (first
          | (exfalso; omega)
          | (exact absurd trivial (by assumption))
          | (apply s_200_0; try simp only [mi_87, fl_87_33, mi_115, ml_115, fl_115, up_115, fl_87_34, mi_116, ml_116, fl_116, up_116, true_and, and_true, true_or, or_true, implies_true, b10_0, b10_1])
          | (apply s_200_6; try simp only [mi_87, fl_87_33, mi_115, ml_115, fl_115, up_115, fl_87_34, mi_116, ml_116, fl_116, up_116, true_and, and_true, true_or, or_true, implies_true, b10_0, b10_1])
          | (apply s_200_20; try simp only [mi_87, fl_87_33, mi_115, ml_115, fl_115, up_115, fl_87_34, mi_116, ml_116, fl_116, up_116, true_and, and_true, true_or, or_true, implies_true, b10_0, b10_1])
          | (apply s_200_31; try simp only [mi_87, fl_87_33, mi_115, ml_115, fl_115, up_115, fl_87_34, mi_116, ml_116, fl_116, up_116, true_and, and_true, true_or, or_true, implies_true, b10_0, b10_1])
          | (refine c144 X _ _ _ _ _ _ (by omega) ?_)
          | (refine c175 X g hc _ hb _ _ (by omega) ?_)
          | (refine And.intro ?_ ?_)
          | (intro _)
          | omega
          | (unfold r32; omega)
          | (exact hQ)
          | (exact qe hQ (by omega))
          | (exact qe hQ (by (repeat' split) <;> omega))
          | (exact b01)
          | (exact n01)
          | (exact n21)
          | (exact n31))
      exact PR_of r1 r2 (NC_r h) d Q hd hQ
  · have r1 : Ret X 60 112 [(2, 1), (0, a), (0, i), (0, w), (3, 0)] g (some (0, -1001)) g := by
      intro d Q hd hQ
      repeat' (first
        | (exfalso; omega)
        | (exact absurd trivial (by assumption))
        | (apply s_112_0; try simp only [mi_1, fl_1_4, mi_12, cm_o, fl_1_2, mi_6, cl_7, cm_7, cn_7, ca_7, cz_7, cl_8, cm_8, cn_8, ca_8, cz_8, true_and, and_true, true_or, or_true, implies_true, b10_0, b10_1])
        | (apply s_112_8; try simp only [mi_1, fl_1_4, mi_12, cm_o, fl_1_2, mi_6, cl_7, cm_7, cn_7, ca_7, cz_7, cl_8, cm_8, cn_8, ca_8, cz_8, true_and, and_true, true_or, or_true, implies_true, b10_0, b10_1])
        | (apply s_112_21; try simp only [mi_1, fl_1_4, mi_12, cm_o, fl_1_2, mi_6, cl_7, cm_7, cn_7, ca_7, cz_7, cl_8, cm_8, cn_8, ca_8, cz_8, true_and, and_true, true_or, or_true, implies_true, b10_0, b10_1])
        | (apply s_112_34; try simp only [mi_1, fl_1_4, mi_12, cm_o, fl_1_2, mi_6, cl_7, cm_7, cn_7, ca_7, cz_7, cl_8, cm_8, cn_8, ca_8, cz_8, true_and, and_true, true_or, or_true, implies_true, b10_0, b10_1])
        | (apply s_112_52; try simp only [mi_1, fl_1_4, mi_12, cm_o, fl_1_2, mi_6, cl_7, cm_7, cn_7, ca_7, cz_7, cl_8, cm_8, cn_8, ca_8, cz_8, true_and, and_true, true_or, or_true, implies_true, b10_0, b10_1])
        | (refine c130 X _ _ _ _ _ _ (by omega) ?_)
        | (refine c32n X g _ ha _ _ (by omega) ?_)
        | (refine And.intro ?_ ?_)
        | (intro _)
        | omega
        | (unfold r32; omega)
        | (exact hQ)
        | (exact qe hQ (by omega))
        | (exact qe hQ (by (repeat' split) <;> omega))
        | (exact b01)
        | (exact n01)
        | (exact n21)
        | (exact n31))
    have r2 : Ret X 60 200 [(2, 87), (0, a), (0, i), (0, w)] g (some (0, -1001)) g := by
      intro d Q hd hQ
      repeat' (first
        | (exfalso; omega)
        | (exact absurd trivial (by assumption))
        | (apply s_200_0; try simp only [mi_87, fl_87_33, mi_115, ml_115, fl_115, up_115, fl_87_34, mi_116, ml_116, fl_116, up_116, true_and, and_true, true_or, or_true, implies_true, b10_0, b10_1])
        | (apply s_200_6; try simp only [mi_87, fl_87_33, mi_115, ml_115, fl_115, up_115, fl_87_34, mi_116, ml_116, fl_116, up_116, true_and, and_true, true_or, or_true, implies_true, b10_0, b10_1])
        | (apply s_200_20; try simp only [mi_87, fl_87_33, mi_115, ml_115, fl_115, up_115, fl_87_34, mi_116, ml_116, fl_116, up_116, true_and, and_true, true_or, or_true, implies_true, b10_0, b10_1])
        | (apply s_200_31; try simp only [mi_87, fl_87_33, mi_115, ml_115, fl_115, up_115, fl_87_34, mi_116, ml_116, fl_116, up_116, true_and, and_true, true_or, or_true, implies_true, b10_0, b10_1])
        | (refine c144 X _ _ _ _ _ _ (by omega) ?_)
        | (refine c175n X g _ _ ha _ _ (by omega) ?_)
        | (refine And.intro ?_ ?_)
        | (intro _)
        | omega
        | (unfold r32; omega)
        | (exact hQ)
        | (exact qe hQ (by omega))
        | (exact qe hQ (by (repeat' split) <;> omega))
        | (exact b01)
        | (exact n01)
        | (exact n21)
        | (exact n31))
    exact PR_of r1 r2 (NC_r h) d Q hd hQ
theorem T_drops (X : mX) (g : mF) (a : Int) (h : NI g) (hB : Ibell g) : PR X 116 204 [(2, 1), (0, a)] [(2, 87), (0, a)] g (fun g2 => NC g g2 ∧ Iknow g2) := by
  have kn' := kn X h
  obtain ⟨b1, b2, b3, b4⟩ := id hB
  intro d Q hd hQ
  by_cases ha : 0 ≤ a ∧ a < g 43 0
  · obtain ⟨k, rfl⟩ : ∃ k : Nat, a = (k : Int) := ⟨a.toNat, by omega⟩
    have ek : ((k : Int)).toNat = k := by omega
    obtain ⟨q1, q2, q3, q4, q5, q6⟩ := b4 k (by omega)
    obtain ⟨c, hcc⟩ : ∃ c : Nat, g 44 k = (c : Int) := ⟨(g 44 k).toNat, by omega⟩
    have hc : c < 4 := by omega
    have e0 : ((c : Int)).toNat = c := by omega
    obtain ⟨x, hx⟩ : ∃ x : Nat, g 45 k = (x : Int) := ⟨(g 45 k).toNat, by omega⟩
    have hx36 : x < 36 := by omega
    have ex : ((x : Int)).toNat = x := by omega
    have ecx : (36 * (c : Int) + (x : Int)).toNat = 36 * c + x := by omega
    have fin : ∀ g1, FK (mup g 11 3 1) g1 → CS g1 (NN g) → SI (inp g) 18959 (NN g) → Q (some (0, NN g (3 + c) x)) (fl g1) := by
      intro g1 hK hS hI
      refine hQ _ g1 ⟨_, rfl, ?_⟩
      clear hQ
      intro d Q hd hQ
      have fn' := fn X h hK
      have f24 : g1 86 24 = g 43 0 := by rw [hK _ _ (by omega), mup_n (by omega)]; exact b1
      apply s_204_0
      try simp only [mi_87, fl_87_24, up_87_24, fl_87_33, mi_115, ml_115, fl_115, up_115, fl_87_25, mi_108, ml_108, fl_108, up_108, fl_87_26, mi_109, ml_109, fl_109, up_109, f24, true_and, and_true, true_or, or_true, implies_true, b10_0, b10_1]
      repeat' (first | refine And.intro ?_ ?_ | intro _)
      all_goals (try (first | omega | (unfold r32; omega) | exact hQ | exact qe hQ (by omega) | exact qe hQ (by (repeat' split) <;> omega) | exact b01 | exact n01 | exact n21 | exact n31 | exact absurd trivial (by assumption)))
      refine c144 X g1 _ _ _ _ _ (by omega) ?_
      apply s_204_13
      try simp only [mi_87, fl_87_24, up_87_24, fl_87_33, mi_115, ml_115, fl_115, up_115, fl_87_25, mi_108, ml_108, fl_108, up_108, fl_87_26, mi_109, ml_109, fl_109, up_109, true_and, and_true, true_or, or_true, implies_true, b10_0, b10_1]
      repeat' (first | refine And.intro ?_ ?_ | intro _)
      all_goals (try (first | omega | (unfold r32; omega) | exact hQ | exact qe hQ (by omega) | exact qe hQ (by (repeat' split) <;> omega) | exact b01 | exact n01 | exact n21 | exact n31 | exact absurd trivial (by assumption)))
      refine fn' _ _ (by omega) ?_
      rintro _ g2 ⟨rfl, hM, hS2⟩
      have z := ((hS2 c hc).2.2.2 x hx36).1
      have f107 : g2 107 k = (c : Int) := by rw [hM _ _ (by omega), hK _ _ (by omega), mup_n (by omega), q1, hcc]
      have f108 : g2 108 k = (x : Int) := by rw [hM _ _ (by omega), hK _ _ (by omega), mup_n (by omega), q2, hx]
      have hq := hQ (some (0, NN g (3 + c) x)) g2 ⟨rfl, NC_fin hK hS hI hM⟩
      apply s_204_24
      try simp only [mi_87, fl_87_24, up_87_24, fl_87_33, mi_115, ml_115, fl_115, up_115, fl_87_25, mi_108, ml_108, fl_108, up_108, fl_87_26, mi_109, ml_109, fl_109, up_109, ek, f107, f108, ecx, z, true_and, and_true, true_or, or_true, implies_true, b10_0, b10_1]
      repeat' (first | refine And.intro ?_ ?_ | intro _)
      all_goals (try (first | omega | (unfold r32; omega) | exact hQ | exact qe hQ (by omega) | exact qe hQ (by (repeat' split) <;> omega) | exact b01 | exact n01 | exact n21 | exact n31 | exact absurd trivial (by assumption)))
      all_goals (try exact hq)
    apply s_116_0
    try simp only [mi_1, fl_1_5, mi_44, fl_44_0, up_44_0, fl_1_4, mi_12, fl_1_2, mi_6, true_and, and_true, true_or, or_true, implies_true, b10_0, b10_1]
    repeat' (first | refine And.intro ?_ ?_ | intro _)
    all_goals (try (first | omega | (unfold r32; omega) | exact hQ | exact qe hQ (by omega) | exact qe hQ (by (repeat' split) <;> omega) | exact b01 | exact n01 | exact n21 | exact n31 | exact absurd trivial (by assumption)))
    refine kn' _ _ (by omega) ?_
    rintro _ g1 ⟨rfl, hK, hS, hI⟩
    have z := ((hS c hc).2.2.2 x hx36).1
    have f44 : g1 44 k = (c : Int) := by rw [hK _ _ (by omega), mup_n (by omega), hcc]
    have f45 : g1 45 k = (x : Int) := by rw [hK _ _ (by omega), mup_n (by omega), hx]
    have hq := fin g1 hK hS hI
    apply s_116_30
    try simp only [mi_1, fl_1_5, mi_44, fl_44_0, up_44_0, fl_1_4, mi_12, fl_1_2, mi_6, true_and, and_true, true_or, or_true, implies_true, b10_0, b10_1]
    repeat' (first | refine And.intro ?_ ?_ | intro _)
    all_goals (try (first | omega | (unfold r32; omega) | exact hQ | exact qe hQ (by omega) | exact qe hQ (by (repeat' split) <;> omega) | exact b01 | exact n01 | exact n21 | exact n31 | exact absurd trivial (by assumption)))
    apply s_6_0
    try simp only [mi_12, fl_12_0, mi_13, ml_13, fl_13, mi_44, fl_44_2, mi_45, ml_45, fl_45, up_45, cm_o, cl_7, cm_7, cn_7, ca_7, cz_7, fl_44_3, mi_46, ml_46, fl_46, up_46, ek, f44, e0, hc, f45, ex, z, true_and, and_true, true_or, or_true, implies_true, b10_0, b10_1]
    repeat' (first | refine And.intro ?_ ?_ | intro _)
    all_goals (try (first | omega | (unfold r32; omega) | exact hQ | exact qe hQ (by omega) | exact qe hQ (by (repeat' split) <;> omega) | exact b01 | exact n01 | exact n21 | exact n31 | exact absurd trivial (by assumption)))
    all_goals (try (refine s_116_42 ?_; exact hq))
  · have r1 : Ret X 60 116 [(2, 1), (0, a)] g (some (0, -1001)) g := by
      intro d Q hd hQ
      repeat' (first
        | (exfalso; omega)
        | (exact absurd trivial (by assumption))
        | (apply s_116_0; try simp only [mi_1, fl_1_5, mi_44, fl_44_0, up_44_0, fl_1_4, mi_12, fl_1_2, mi_6, true_and, and_true, true_or, or_true, implies_true, b10_0, b10_1])
        | (apply s_116_30; try simp only [mi_1, fl_1_5, mi_44, fl_44_0, up_44_0, fl_1_4, mi_12, fl_1_2, mi_6, true_and, and_true, true_or, or_true, implies_true, b10_0, b10_1])
        | (apply s_116_42; try simp only [mi_1, fl_1_5, mi_44, fl_44_0, up_44_0, fl_1_4, mi_12, fl_1_2, mi_6, true_and, and_true, true_or, or_true, implies_true, b10_0, b10_1])
        | (refine And.intro ?_ ?_)
        | (intro _)
        | omega
        | (unfold r32; omega)
        | (exact hQ)
        | (exact qe hQ (by omega))
        | (exact qe hQ (by (repeat' split) <;> omega))
        | (exact b01)
        | (exact n01)
        | (exact n21)
        | (exact n31))
    have r2 : Ret X 60 204 [(2, 87), (0, a)] g (some (0, -1001)) g := by
      intro d Q hd hQ
      repeat' (first
        | (exfalso; omega)
        | (exact absurd trivial (by assumption))
        | (apply s_204_0; try simp only [mi_87, fl_87_24, up_87_24, fl_87_33, mi_115, ml_115, fl_115, up_115, fl_87_25, mi_108, ml_108, fl_108, up_108, fl_87_26, mi_109, ml_109, fl_109, up_109, b1, true_and, and_true, true_or, or_true, implies_true, b10_0, b10_1])
        | (apply s_204_13; try simp only [mi_87, fl_87_24, up_87_24, fl_87_33, mi_115, ml_115, fl_115, up_115, fl_87_25, mi_108, ml_108, fl_108, up_108, fl_87_26, mi_109, ml_109, fl_109, up_109, b1, true_and, and_true, true_or, or_true, implies_true, b10_0, b10_1])
        | (apply s_204_24; try simp only [mi_87, fl_87_24, up_87_24, fl_87_33, mi_115, ml_115, fl_115, up_115, fl_87_25, mi_108, ml_108, fl_108, up_108, fl_87_26, mi_109, ml_109, fl_109, up_109, b1, true_and, and_true, true_or, or_true, implies_true, b10_0, b10_1])
        | (refine c144 X _ _ _ _ _ _ (by omega) ?_)
        | (refine And.intro ?_ ?_)
        | (intro _)
        | omega
        | (unfold r32; omega)
        | (exact hQ)
        | (exact qe hQ (by omega))
        | (exact qe hQ (by (repeat' split) <;> omega))
        | (exact b01)
        | (exact n01)
        | (exact n21)
        | (exact n31))
    exact PR_of r1 r2 (NC_r h) d Q hd hQ
