/-! methods without loops -/
theorem c165 (X : mX) (g : mF) (v : Int) : Ret X 1 165 [(0, v)] g (some (0, if 0 ≤ v ∧ v ≤ 7 then 1 else 0)) g := by
  intro d Q hd hQ
  repeat' (first
    | (exfalso; omega)
    | (exact absurd trivial (by assumption))
    | (apply s_165_0; try simp only [mi_87, true_and, and_true, true_or, or_true, implies_true, b10_0, b10_1])
    | (apply s_165_9; try simp only [mi_87, true_and, and_true, true_or, or_true, implies_true, b10_0, b10_1])
    | (refine c144 X _ _ _ _ _ _ (by omega) ?_)
    | (refine And.intro ?_ ?_)
    | (intro _)
    | omega
    | (unfold r32; omega)
    | (exact hQ)
    | (exact qe hQ (by omega))
    | (exact qe hQ (by (repeat' split) <;> omega))
    | (exact b01))
theorem c166 (X : mX) (g : mF) (v : Int) : Ret X 1 166 [(0, v)] g (some (0, if 0 ≤ v ∧ v ≤ 3 then 1 else 0)) g := by
  intro d Q hd hQ
  repeat' (first
    | (exfalso; omega)
    | (exact absurd trivial (by assumption))
    | (apply s_166_0; try simp only [mi_87, true_and, and_true, true_or, or_true, implies_true, b10_0, b10_1])
    | (apply s_166_9; try simp only [mi_87, true_and, and_true, true_or, or_true, implies_true, b10_0, b10_1])
    | (refine c144 X _ _ _ _ _ _ (by omega) ?_)
    | (refine And.intro ?_ ?_)
    | (intro _)
    | omega
    | (unfold r32; omega)
    | (exact hQ)
    | (exact qe hQ (by omega))
    | (exact qe hQ (by (repeat' split) <;> omega))
    | (exact b01))
theorem c174 (X : mX) (g : mF) (v : Int) : Ret X 1 174 [(0, v)] g (some (0, if 0 ≤ v ∧ v ≤ 3 then 1 else 0)) g := by
  intro d Q hd hQ
  repeat' (first
    | (exfalso; omega)
    | (exact absurd trivial (by assumption))
    | (apply s_174_0; try simp only [mi_87, true_and, and_true, true_or, or_true, implies_true, b10_0, b10_1])
    | (apply s_174_9; try simp only [mi_87, true_and, and_true, true_or, or_true, implies_true, b10_0, b10_1])
    | (refine c144 X _ _ _ _ _ _ (by omega) ?_)
    | (refine And.intro ?_ ?_)
    | (intro _)
    | omega
    | (unfold r32; omega)
    | (exact hQ)
    | (exact qe hQ (by omega))
    | (exact qe hQ (by (repeat' split) <;> omega))
    | (exact b01))
theorem c147 (X : mX) (g : mF) (v : Int) : Ret X 1 147 [(0, v)] g (some (0, if 0 ≤ v ∧ v ≤ 5 then 1 else 0)) g := by
  intro d Q hd hQ
  repeat' (first
    | (exfalso; omega)
    | (exact absurd trivial (by assumption))
    | (apply s_147_0; try simp only [mi_87, true_and, and_true, true_or, or_true, implies_true, b10_0, b10_1])
    | (apply s_147_9; try simp only [mi_87, true_and, and_true, true_or, or_true, implies_true, b10_0, b10_1])
    | (refine c144 X _ _ _ _ _ _ (by omega) ?_)
    | (refine And.intro ?_ ?_)
    | (intro _)
    | omega
    | (unfold r32; omega)
    | (exact hQ)
    | (exact qe hQ (by omega))
    | (exact qe hQ (by (repeat' split) <;> omega))
    | (exact b01))
/-- looks -/
theorem T_looks (X : mX) (g : mF) (hI : Ibound g) : ∃ r, Ret X 60 90 [(2, 1)] g (some (0, r)) g ∧ Ret X 60 160 [(2, 87)] g (some (0, r)) g := by
  obtain ⟨h1, h2, h3, h4, h5, h6⟩ := hI
  refine ⟨g 2 1, ?_, ?_⟩
  · intro d Q hd hQ
    repeat' (first
      | (exfalso; omega)
      | (exact absurd trivial (by assumption))
      | (apply s_90_0; try simp only [mi_1, fl_1_1, mi_3, fl_3_1, up_3_1, true_and, and_true, true_or, or_true, implies_true, b10_0, b10_1])
      | (refine And.intro ?_ ?_)
      | (intro _)
      | omega
      | (unfold r32; omega)
      | (exact hQ)
      | (exact qe hQ (by omega))
      | (exact qe hQ (by (repeat' split) <;> omega))
      | (exact b01))
  · intro d Q hd hQ
    repeat' (first
      | (exfalso; omega)
      | (exact absurd trivial (by assumption))
      | (apply s_160_0; try simp only [mi_87, fl_87_6, up_87_6, true_and, and_true, true_or, or_true, implies_true, b10_0, b10_1])
      | (refine And.intro ?_ ?_)
      | (intro _)
      | omega
      | (unfold r32; omega)
      | (exact hQ)
      | (exact qe hQ (by omega))
      | (exact qe hQ (by (repeat' split) <;> omega))
      | (exact b01))
theorem T_bound (X : mX) (g : mF) (v : Int) (hI : Ibound g) : ∃ r g1 g2, Ret X 60 91 [(2, 1), (0, v), (3, 0)] g (some (0, r)) g1 ∧ Ret X 60 161 [(2, 87), (0, v), (3, 0)] g1 (some (0, r)) g2 ∧ Ibound g2 ∧ Chg (fun o k => o = 2 ∧ k = 0 ∨ o = 86 ∧ k = 5) g g2 := by
  obtain ⟨h1, h2, h3, h4, h5, h6⟩ := hI
  by_cases h : 100 ≤ v ∧ v ≤ 20000
  · refine ⟨g 2 0, mup g 2 0 v, mup (mup g 2 0 v) 86 5 v, ?_, ?_, ?_, Chg_t Chg_1 Chg_1⟩
    · intro d Q hd hQ
      repeat' (first
        | (exfalso; omega)
        | (exact absurd trivial (by assumption))
        | (apply s_91_0; try simp only [mi_1, fl_1_1, mi_3, fl_3_0, up_3_0, true_and, and_true, true_or, or_true, implies_true, b10_0, b10_1])
        | (apply s_91_9; try simp only [mi_1, fl_1_1, mi_3, fl_3_0, up_3_0, true_and, and_true, true_or, or_true, implies_true, b10_0, b10_1])
        | (apply s_91_24; try simp only [mi_1, fl_1_1, mi_3, fl_3_0, up_3_0, true_and, and_true, true_or, or_true, implies_true, b10_0, b10_1])
        | (refine c130 X _ _ _ _ _ _ (by omega) ?_)
        | (refine And.intro ?_ ?_)
        | (intro _)
        | omega
        | (unfold r32; omega)
        | (exact hQ)
        | (exact qe hQ (by omega))
        | (exact qe hQ (by (repeat' split) <;> omega))
        | (exact b01))
    · intro d Q hd hQ
      have e : mup g 2 0 v 86 5 = g 2 0 := by rw [mup_n (by omega), h1]
      rw [← e] at hQ
      repeat' (first
        | (exfalso; omega)
        | (exact absurd trivial (by assumption))
        | (apply s_161_0; try simp only [mi_87, fl_87_5, up_87_5, true_and, and_true, true_or, or_true, implies_true, b10_0, b10_1])
        | (apply s_161_11; try simp only [mi_87, fl_87_5, up_87_5, true_and, and_true, true_or, or_true, implies_true, b10_0, b10_1])
        | (apply s_161_23; try simp only [mi_87, fl_87_5, up_87_5, true_and, and_true, true_or, or_true, implies_true, b10_0, b10_1])
        | (refine c144 X _ _ _ _ _ _ (by omega) ?_)
        | (refine And.intro ?_ ?_)
        | (intro _)
        | omega
        | (unfold r32; omega)
        | (exact hQ)
        | (exact qe hQ (by omega))
        | (exact qe hQ (by (repeat' split) <;> omega))
        | (exact b01))
    · refine ⟨?_, ?_, ?_, ?_, ?_, ?_⟩ <;> simp [mup] <;> omega
  · refine ⟨-1002, g, g, ?_, ?_, ⟨h1, h2, h3, h4, h5, h6⟩, Chg_w Chg_r (fun _ _ z => z.elim)⟩
    · intro d Q hd hQ
      repeat' (first
        | (exfalso; omega)
        | (exact absurd trivial (by assumption))
        | (apply s_91_0; try simp only [mi_1, fl_1_1, mi_3, fl_3_0, up_3_0, true_and, and_true, true_or, or_true, implies_true, b10_0, b10_1])
        | (apply s_91_9; try simp only [mi_1, fl_1_1, mi_3, fl_3_0, up_3_0, true_and, and_true, true_or, or_true, implies_true, b10_0, b10_1])
        | (apply s_91_24; try simp only [mi_1, fl_1_1, mi_3, fl_3_0, up_3_0, true_and, and_true, true_or, or_true, implies_true, b10_0, b10_1])
        | (refine c130 X _ _ _ _ _ _ (by omega) ?_)
        | (refine And.intro ?_ ?_)
        | (intro _)
        | omega
        | (unfold r32; omega)
        | (exact hQ)
        | (exact qe hQ (by omega))
        | (exact qe hQ (by (repeat' split) <;> omega))
        | (exact b01))
    · intro d Q hd hQ
      repeat' (first
        | (exfalso; omega)
        | (exact absurd trivial (by assumption))
        | (apply s_161_0; try simp only [mi_87, fl_87_5, up_87_5, true_and, and_true, true_or, or_true, implies_true, b10_0, b10_1])
        | (apply s_161_11; try simp only [mi_87, fl_87_5, up_87_5, true_and, and_true, true_or, or_true, implies_true, b10_0, b10_1])
        | (apply s_161_23; try simp only [mi_87, fl_87_5, up_87_5, true_and, and_true, true_or, or_true, implies_true, b10_0, b10_1])
        | (refine c144 X _ _ _ _ _ _ (by omega) ?_)
        | (refine And.intro ?_ ?_)
        | (intro _)
        | omega
        | (unfold r32; omega)
        | (exact hQ)
        | (exact qe hQ (by omega))
        | (exact qe hQ (by (repeat' split) <;> omega))
        | (exact b01))
/-- rate -/
theorem T_rate (X : mX) (g : mF) (p v : Int) (hI : Iair g) : ∃ r g1 g2, Ret X 60 94 [(2, 1), (0, p), (0, v), (3, 0)] g (some (0, r)) g1 ∧ Ret X 60 167 [(2, 87), (0, p), (0, v), (3, 0)] g1 (some (0, r)) g2 ∧ Iair g2 ∧ Chg (fun o k => o = 6 ∨ o = 94 ∨ o = 11 ∧ k = 3) g g2 ∧ (g2 = g ∨ g2 11 3 = 0) := by
  obtain ⟨h1, h2, h3, h4⟩ := hI
  by_cases hp : 0 ≤ p ∧ p ≤ 7
  · by_cases hv : 1 ≤ v ∧ v ≤ 60
    · have hp8 : p.toNat < 8 := by omega
      refine ⟨g 6 p.toNat, mup (mup g 6 p.toNat v) 11 3 0, mup (mup (mup g 6 p.toNat v) 11 3 0) 94 p.toNat v, ?_, ?_, ?_, Chg_w (Chg_t (Chg_t Chg_1 Chg_1) Chg_1) (fun a b z => by omega), Or.inr ?_⟩
      · intro d Q hd hQ
        repeat' (first
          | (exfalso; omega)
          | (exact absurd trivial (by assumption))
          | (apply s_94_0; try simp only [mi_1, fl_1_2, mi_6, fl_6_0, mi_7, ml_7, fl_7, up_7, fl_1_4, mi_12, fl_12_3, up_12_3, true_and, and_true, true_or, or_true, implies_true, b10_0, b10_1])
          | (apply s_94_4; try simp only [mi_1, fl_1_2, mi_6, fl_6_0, mi_7, ml_7, fl_7, up_7, fl_1_4, mi_12, fl_12_3, up_12_3, true_and, and_true, true_or, or_true, implies_true, b10_0, b10_1])
          | (apply s_94_18; try simp only [mi_1, fl_1_2, mi_6, fl_6_0, mi_7, ml_7, fl_7, up_7, fl_1_4, mi_12, fl_12_3, up_12_3, true_and, and_true, true_or, or_true, implies_true, b10_0, b10_1])
          | (apply s_94_35; try simp only [mi_1, fl_1_2, mi_6, fl_6_0, mi_7, ml_7, fl_7, up_7, fl_1_4, mi_12, fl_12_3, up_12_3, true_and, and_true, true_or, or_true, implies_true, b10_0, b10_1])
          | (apply s_94_45; try simp only [mi_1, fl_1_2, mi_6, fl_6_0, mi_7, ml_7, fl_7, up_7, fl_1_4, mi_12, fl_12_3, up_12_3, true_and, and_true, true_or, or_true, implies_true, b10_0, b10_1])
          | (refine c131 X _ _ _ _ (by omega) ?_)
          | (refine c130 X _ _ _ _ _ _ (by omega) ?_)
          | (refine And.intro ?_ ?_)
          | (intro _)
          | omega
          | (unfold r32; omega)
          | (exact hQ)
          | (exact qe hQ (by omega))
          | (exact qe hQ (by (repeat' split) <;> omega))
          | (exact b01))
      · intro d Q hd hQ
        have e : mup (mup g 6 p.toNat v) 11 3 0 94 p.toNat = g 6 p.toNat := by rw [mup_n (by omega), mup_n (by omega), (h1 _ hp8).1]
        rw [← e] at hQ
        repeat' (first
          | (exfalso; omega)
          | (exact absurd trivial (by assumption))
          | (apply s_167_0; try simp only [mi_87, fl_87_9, mi_95, ml_95, fl_95, up_95, true_and, and_true, true_or, or_true, implies_true, b10_0, b10_1])
          | (apply s_167_4; try simp only [mi_87, fl_87_9, mi_95, ml_95, fl_95, up_95, true_and, and_true, true_or, or_true, implies_true, b10_0, b10_1])
          | (apply s_167_20; try simp only [mi_87, fl_87_9, mi_95, ml_95, fl_95, up_95, true_and, and_true, true_or, or_true, implies_true, b10_0, b10_1])
          | (apply s_167_34; try simp only [mi_87, fl_87_9, mi_95, ml_95, fl_95, up_95, true_and, and_true, true_or, or_true, implies_true, b10_0, b10_1])
          | (refine c165 X _ _ _ _ (by omega) ?_)
          | (refine c144 X _ _ _ _ _ _ (by omega) ?_)
          | (refine And.intro ?_ ?_)
          | (intro _)
          | omega
          | (unfold r32; omega)
          | (exact hQ)
          | (exact qe hQ (by omega))
          | (exact qe hQ (by (repeat' split) <;> omega))
          | (exact b01))
      · refine ⟨fun q hq => ?_, fun q hq => ?_, ?_, ?_⟩
        · have z := h1 q hq
          by_cases hqp : q = p.toNat
          · subst hqp; simp [mup]; omega
          · simp [mup, hqp]; omega
        · have z := h2 q hq
          simp [mup]; omega
        · simp [mup]; omega
        · simp [mup]; omega
      · simp [mup]
    · refine ⟨-1002, g, g, ?_, ?_, ⟨h1, h2, h3, h4⟩, Chg_w Chg_r (fun _ _ z => z.elim), Or.inl rfl⟩
      · intro d Q hd hQ
        repeat' (first
          | (exfalso; omega)
          | (exact absurd trivial (by assumption))
          | (apply s_94_0; try simp only [mi_1, fl_1_2, mi_6, fl_6_0, mi_7, ml_7, fl_7, up_7, fl_1_4, mi_12, fl_12_3, up_12_3, true_and, and_true, true_or, or_true, implies_true, b10_0, b10_1])
          | (apply s_94_4; try simp only [mi_1, fl_1_2, mi_6, fl_6_0, mi_7, ml_7, fl_7, up_7, fl_1_4, mi_12, fl_12_3, up_12_3, true_and, and_true, true_or, or_true, implies_true, b10_0, b10_1])
          | (apply s_94_18; try simp only [mi_1, fl_1_2, mi_6, fl_6_0, mi_7, ml_7, fl_7, up_7, fl_1_4, mi_12, fl_12_3, up_12_3, true_and, and_true, true_or, or_true, implies_true, b10_0, b10_1])
          | (apply s_94_35; try simp only [mi_1, fl_1_2, mi_6, fl_6_0, mi_7, ml_7, fl_7, up_7, fl_1_4, mi_12, fl_12_3, up_12_3, true_and, and_true, true_or, or_true, implies_true, b10_0, b10_1])
          | (apply s_94_45; try simp only [mi_1, fl_1_2, mi_6, fl_6_0, mi_7, ml_7, fl_7, up_7, fl_1_4, mi_12, fl_12_3, up_12_3, true_and, and_true, true_or, or_true, implies_true, b10_0, b10_1])
          | (refine c131 X _ _ _ _ (by omega) ?_)
          | (refine c130 X _ _ _ _ _ _ (by omega) ?_)
          | (refine And.intro ?_ ?_)
          | (intro _)
          | omega
          | (unfold r32; omega)
          | (exact hQ)
          | (exact qe hQ (by omega))
          | (exact qe hQ (by (repeat' split) <;> omega))
          | (exact b01))
      · intro d Q hd hQ
        repeat' (first
          | (exfalso; omega)
          | (exact absurd trivial (by assumption))
          | (apply s_167_0; try simp only [mi_87, fl_87_9, mi_95, ml_95, fl_95, up_95, true_and, and_true, true_or, or_true, implies_true, b10_0, b10_1])
          | (apply s_167_4; try simp only [mi_87, fl_87_9, mi_95, ml_95, fl_95, up_95, true_and, and_true, true_or, or_true, implies_true, b10_0, b10_1])
          | (apply s_167_20; try simp only [mi_87, fl_87_9, mi_95, ml_95, fl_95, up_95, true_and, and_true, true_or, or_true, implies_true, b10_0, b10_1])
          | (apply s_167_34; try simp only [mi_87, fl_87_9, mi_95, ml_95, fl_95, up_95, true_and, and_true, true_or, or_true, implies_true, b10_0, b10_1])
          | (refine c165 X _ _ _ _ (by omega) ?_)
          | (refine c144 X _ _ _ _ _ _ (by omega) ?_)
          | (refine And.intro ?_ ?_)
          | (intro _)
          | omega
          | (unfold r32; omega)
          | (exact hQ)
          | (exact qe hQ (by omega))
          | (exact qe hQ (by (repeat' split) <;> omega))
          | (exact b01))
  · refine ⟨-1001, g, g, ?_, ?_, ⟨h1, h2, h3, h4⟩, Chg_w Chg_r (fun _ _ z => z.elim), Or.inl rfl⟩
    · intro d Q hd hQ
      repeat' (first
        | (exfalso; omega)
        | (exact absurd trivial (by assumption))
        | (apply s_94_0; try simp only [mi_1, fl_1_2, mi_6, fl_6_0, mi_7, ml_7, fl_7, up_7, fl_1_4, mi_12, fl_12_3, up_12_3, true_and, and_true, true_or, or_true, implies_true, b10_0, b10_1])
        | (apply s_94_4; try simp only [mi_1, fl_1_2, mi_6, fl_6_0, mi_7, ml_7, fl_7, up_7, fl_1_4, mi_12, fl_12_3, up_12_3, true_and, and_true, true_or, or_true, implies_true, b10_0, b10_1])
        | (apply s_94_18; try simp only [mi_1, fl_1_2, mi_6, fl_6_0, mi_7, ml_7, fl_7, up_7, fl_1_4, mi_12, fl_12_3, up_12_3, true_and, and_true, true_or, or_true, implies_true, b10_0, b10_1])
        | (apply s_94_35; try simp only [mi_1, fl_1_2, mi_6, fl_6_0, mi_7, ml_7, fl_7, up_7, fl_1_4, mi_12, fl_12_3, up_12_3, true_and, and_true, true_or, or_true, implies_true, b10_0, b10_1])
        | (apply s_94_45; try simp only [mi_1, fl_1_2, mi_6, fl_6_0, mi_7, ml_7, fl_7, up_7, fl_1_4, mi_12, fl_12_3, up_12_3, true_and, and_true, true_or, or_true, implies_true, b10_0, b10_1])
        | (refine c131 X _ _ _ _ (by omega) ?_)
        | (refine c130 X _ _ _ _ _ _ (by omega) ?_)
        | (refine And.intro ?_ ?_)
        | (intro _)
        | omega
        | (unfold r32; omega)
        | (exact hQ)
        | (exact qe hQ (by omega))
        | (exact qe hQ (by (repeat' split) <;> omega))
        | (exact b01))
    · intro d Q hd hQ
      repeat' (first
        | (exfalso; omega)
        | (exact absurd trivial (by assumption))
        | (apply s_167_0; try simp only [mi_87, fl_87_9, mi_95, ml_95, fl_95, up_95, true_and, and_true, true_or, or_true, implies_true, b10_0, b10_1])
        | (apply s_167_4; try simp only [mi_87, fl_87_9, mi_95, ml_95, fl_95, up_95, true_and, and_true, true_or, or_true, implies_true, b10_0, b10_1])
        | (apply s_167_20; try simp only [mi_87, fl_87_9, mi_95, ml_95, fl_95, up_95, true_and, and_true, true_or, or_true, implies_true, b10_0, b10_1])
        | (apply s_167_34; try simp only [mi_87, fl_87_9, mi_95, ml_95, fl_95, up_95, true_and, and_true, true_or, or_true, implies_true, b10_0, b10_1])
        | (refine c165 X _ _ _ _ (by omega) ?_)
        | (refine c144 X _ _ _ _ _ _ (by omega) ?_)
        | (refine And.intro ?_ ?_)
        | (intro _)
        | omega
        | (unfold r32; omega)
        | (exact hQ)
        | (exact qe hQ (by omega))
        | (exact qe hQ (by (repeat' split) <;> omega))
        | (exact b01))
