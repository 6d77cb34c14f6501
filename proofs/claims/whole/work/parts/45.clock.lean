/-! clocks: what is mounted, laid, lit by hand -/
def Iclk (g : mF) (c : Nat) : Prop := g 99 c = g (19 + 6 * c) 0 ∧ 0 ≤ g (19 + 6 * c) 0 ∧ g (19 + 6 * c) 0 ≤ 36 ∧ (∀ i : Nat, (i : Int) < g (19 + 6 * c) 0 → g 102 (36 * c + i) = g (20 + 6 * c) i) ∧ (∀ i, i < 36 → -1 ≤ g (20 + 6 * c) i ∧ g (20 + 6 * c) i ≤ 7) ∧ (∀ i : Nat, i < 36 → g (19 + 6 * c) 0 ≤ (i : Int) → g (20 + 6 * c) i = -1) ∧ g 103 c = g (19 + 6 * c) 2 ∧ -1 ≤ g (19 + 6 * c) 2 ∧ g (19 + 6 * c) 2 ≤ 5999 ∧ g 104 c = g (19 + 6 * c) 3 ∧ 0 ≤ g (19 + 6 * c) 3 ∧ g (19 + 6 * c) 3 ≤ 35
def Ibell (g : mF) : Prop := g 86 24 = g 43 0 ∧ 0 ≤ g 43 0 ∧ g 43 0 ≤ 12 ∧ ∀ j : Nat, (j : Int) < g 43 0 → g 107 j = g 44 j ∧ g 108 j = g 45 j ∧ 0 ≤ g 44 j ∧ g 44 j ≤ 3 ∧ 0 ≤ g 45 j ∧ g 45 j ≤ 35
theorem c32 (X : mX) (g : mF) {c : Nat} (hc : c < 4) : Ret X 0 32 [(2, 12), (0, (c : Int))] g (some (2, 20 + 6 * (c : Int))) g := by
  intro d Q hd hQ
  have e : ((c : Int)).toNat = c := by omega
  apply s_32_0
  try simp only [mi_12, fl_12_0, mi_13, ml_13, fl_13, e, hc, true_and, and_true, true_or, or_true, implies_true, b10_0, b10_1]
  repeat' (first | refine And.intro ?_ ?_ | intro _)
  all_goals (try (first | omega | (unfold r32; omega) | exact hQ | exact qe hQ (by omega) | exact qe hQ (by (repeat' split) <;> omega) | exact b01))
theorem c32n (X : mX) (g : mF) (a : Int) (h : ¬ (0 ≤ a ∧ a ≤ 3)) : Ret X 0 32 [(2, 12), (0, a)] g (some (2, 0)) g := by
  intro d Q hd hQ
  apply s_32_0
  try simp only [mi_12, fl_12_0, mi_13, ml_13, fl_13, true_and, and_true, true_or, or_true, implies_true, b10_0, b10_1]
  repeat' (first | refine And.intro ?_ ?_ | intro _)
  all_goals (try (first | omega | (unfold r32; omega) | exact hQ | exact qe hQ (by omega) | exact qe hQ (by (repeat' split) <;> omega) | exact b01))
theorem c14 (X : mX) (g : mF) {c : Nat} (hc : c < 4) (i : Int) : Ret X 0 14 [(2, 20 + 6 * (c : Int)), (0, i)] g (some (0, if 0 ≤ i ∧ i < g (19 + 6 * c) 0 then 1 else 0)) g := by
  intro d Q hd hQ
  apply s_14_0
  try simp only [cm_o, cl_0, cu_0, hc, true_and, and_true, true_or, or_true, implies_true, b10_0, b10_1]
  repeat' (first | refine And.intro ?_ ?_ | intro _)
  all_goals (try (first | omega | (unfold r32; omega) | exact hQ | exact qe hQ (by omega) | exact qe hQ (by (repeat' split) <;> omega) | exact b01))
theorem c175 (X : mX) (g : mF) {c : Nat} (hc : c < 4) (i : Int) (hb : 0 ≤ g 99 c ∧ g 99 c ≤ 36) : Ret X 2 175 [(2, 87), (0, (c : Int)), (0, i)] g (some (0, if 0 ≤ i ∧ i < g 99 c then 1 else 0)) g := by
  intro d Q hd hQ
  have e : ((c : Int)).toNat = c := by omega
  repeat' (first
    | (exfalso; omega)
    | (exact absurd trivial (by assumption))
    | (apply s_175_0; try simp only [mi_87, fl_87_14, mi_100, ml_100, fl_100, up_100, e, true_and, and_true, true_or, or_true, implies_true, b10_0, b10_1])
    | (apply s_175_4; try simp only [mi_87, fl_87_14, mi_100, ml_100, fl_100, up_100, e, true_and, and_true, true_or, or_true, implies_true, b10_0, b10_1])
    | (apply s_175_22; try simp only [mi_87, fl_87_14, mi_100, ml_100, fl_100, up_100, e, true_and, and_true, true_or, or_true, implies_true, b10_0, b10_1])
    | (refine c174 X _ _ _ _ (by omega) ?_)
    | (refine c144 X _ _ _ _ _ _ (by omega) ?_)
    | (refine And.intro ?_ ?_)
    | (intro _)
    | omega
    | (unfold r32; omega)
    | (exact hQ)
    | (exact qe hQ (by omega))
    | (exact qe hQ (by (repeat' split) <;> omega))
    | (exact b01))
theorem c175n (X : mX) (g : mF) (a i : Int) (h : ¬ (0 ≤ a ∧ a ≤ 3)) : Ret X 2 175 [(2, 87), (0, a), (0, i)] g (some (0, 0)) g := by
  intro d Q hd hQ
  repeat' (first
    | (exfalso; omega)
    | (exact absurd trivial (by assumption))
    | (apply s_175_0; try simp only [mi_87, fl_87_14, mi_100, ml_100, fl_100, up_100, true_and, and_true, true_or, or_true, implies_true, b10_0, b10_1])
    | (apply s_175_4; try simp only [mi_87, fl_87_14, mi_100, ml_100, fl_100, up_100, true_and, and_true, true_or, or_true, implies_true, b10_0, b10_1])
    | (apply s_175_22; try simp only [mi_87, fl_87_14, mi_100, ml_100, fl_100, up_100, true_and, and_true, true_or, or_true, implies_true, b10_0, b10_1])
    | (refine c174 X _ _ _ _ (by omega) ?_)
    | (refine c144 X _ _ _ _ _ _ (by omega) ?_)
    | (refine And.intro ?_ ?_)
    | (intro _)
    | omega
    | (unfold r32; omega)
    | (exact hQ)
    | (exact qe hQ (by omega))
    | (exact qe hQ (by (repeat' split) <;> omega))
    | (exact b01))
/-- grain -/
theorem T_grain (X : mX) (g : mF) (a i : Int) (hI : ∀ c, c < 4 → Iclk g c) : ∃ r, Ret X 60 102 [(2, 1), (0, a), (0, i), (3, 0)] g (some (0, r)) g ∧ Ret X 60 180 [(2, 87), (0, a), (0, i)] g (some (0, r)) g := by
  by_cases ha : 0 ≤ a ∧ a ≤ 3
  · obtain ⟨c, rfl⟩ : ∃ c : Nat, a = (c : Int) := ⟨a.toNat, by omega⟩
    have hc : c < 4 := by omega
    obtain ⟨k1, k2, k3, k4, -⟩ := hI c hc
    have e : ((c : Int)).toNat = c := by omega
    have hb : 0 ≤ g 99 c ∧ g 99 c ≤ 36 := by omega
    by_cases hi : 0 ≤ i ∧ i < g (19 + 6 * c) 0
    · have e2 : (36 * (c : Int) + i).toNat = 36 * c + i.toNat := by omega
      have e3 := k4 i.toNat (by omega)
      refine ⟨g (20 + 6 * c) i.toNat, ?_, ?_⟩
      · intro d Q hd hQ
        repeat' (first
          | (exfalso; omega)
          | (exact absurd trivial (by assumption))
          | (apply s_102_0; try simp only [mi_1, fl_1_4, mi_12, cm_o, cl_1, cm_1, cn_1, ca_1, cz_1, hc, true_and, and_true, true_or, or_true, implies_true, b10_0, b10_1])
          | (apply s_102_8; try simp only [mi_1, fl_1_4, mi_12, cm_o, cl_1, cm_1, cn_1, ca_1, cz_1, hc, true_and, and_true, true_or, or_true, implies_true, b10_0, b10_1])
          | (apply s_102_18; try simp only [mi_1, fl_1_4, mi_12, cm_o, cl_1, cm_1, cn_1, ca_1, cz_1, hc, true_and, and_true, true_or, or_true, implies_true, b10_0, b10_1])
          | (refine c32 X g hc _ _ (by omega) ?_)
          | (refine c14 X g hc _ _ _ (by omega) ?_)
          | (refine And.intro ?_ ?_)
          | (intro _)
          | omega
          | (unfold r32; omega)
          | (exact hQ)
          | (exact qe hQ (by omega))
          | (exact qe hQ (by (repeat' split) <;> omega))
          | (exact b01))
      · intro d Q hd hQ
        repeat' (first
          | (exfalso; omega)
          | (exact absurd trivial (by assumption))
          | (apply s_180_0; try simp only [mi_87, fl_87_17, mi_103, ml_103, fl_103, up_103, e2, e3, true_and, and_true, true_or, or_true, implies_true, b10_0, b10_1])
          | (apply s_180_6; try simp only [mi_87, fl_87_17, mi_103, ml_103, fl_103, up_103, e2, e3, true_and, and_true, true_or, or_true, implies_true, b10_0, b10_1])
          | (refine c175 X g hc _ hb _ _ (by omega) ?_)
          | (refine And.intro ?_ ?_)
          | (intro _)
          | omega
          | (unfold r32; omega)
          | (exact hQ)
          | (exact qe hQ (by omega))
          | (exact qe hQ (by (repeat' split) <;> omega))
          | (exact b01))
    · refine ⟨-1001, ?_, ?_⟩
      · intro d Q hd hQ
        repeat' (first
          | (exfalso; omega)
          | (exact absurd trivial (by assumption))
          | (apply s_102_0; try simp only [mi_1, fl_1_4, mi_12, cm_o, cl_1, cm_1, cn_1, ca_1, cz_1, hc, true_and, and_true, true_or, or_true, implies_true, b10_0, b10_1])
          | (apply s_102_8; try simp only [mi_1, fl_1_4, mi_12, cm_o, cl_1, cm_1, cn_1, ca_1, cz_1, hc, true_and, and_true, true_or, or_true, implies_true, b10_0, b10_1])
          | (apply s_102_18; try simp only [mi_1, fl_1_4, mi_12, cm_o, cl_1, cm_1, cn_1, ca_1, cz_1, hc, true_and, and_true, true_or, or_true, implies_true, b10_0, b10_1])
          | (refine c32 X g hc _ _ (by omega) ?_)
          | (refine c14 X g hc _ _ _ (by omega) ?_)
          | (refine And.intro ?_ ?_)
          | (intro _)
          | omega
          | (unfold r32; omega)
          | (exact hQ)
          | (exact qe hQ (by omega))
          | (exact qe hQ (by (repeat' split) <;> omega))
          | (exact b01))
      · intro d Q hd hQ
        repeat' (first
          | (exfalso; omega)
          | (exact absurd trivial (by assumption))
          | (apply s_180_0; try simp only [mi_87, fl_87_17, mi_103, ml_103, fl_103, up_103, true_and, and_true, true_or, or_true, implies_true, b10_0, b10_1])
          | (apply s_180_6; try simp only [mi_87, fl_87_17, mi_103, ml_103, fl_103, up_103, true_and, and_true, true_or, or_true, implies_true, b10_0, b10_1])
          | (refine c175 X g hc _ hb _ _ (by omega) ?_)
          | (refine And.intro ?_ ?_)
          | (intro _)
          | omega
          | (unfold r32; omega)
          | (exact hQ)
          | (exact qe hQ (by omega))
          | (exact qe hQ (by (repeat' split) <;> omega))
          | (exact b01))
  · refine ⟨-1001, ?_, ?_⟩
    · intro d Q hd hQ
      repeat' (first
        | (exfalso; omega)
        | (exact absurd trivial (by assumption))
        | (apply s_102_0; try simp only [mi_1, fl_1_4, mi_12, cm_o, cl_1, cm_1, cn_1, ca_1, cz_1, true_and, and_true, true_or, or_true, implies_true, b10_0, b10_1])
        | (apply s_102_8; try simp only [mi_1, fl_1_4, mi_12, cm_o, cl_1, cm_1, cn_1, ca_1, cz_1, true_and, and_true, true_or, or_true, implies_true, b10_0, b10_1])
        | (apply s_102_18; try simp only [mi_1, fl_1_4, mi_12, cm_o, cl_1, cm_1, cn_1, ca_1, cz_1, true_and, and_true, true_or, or_true, implies_true, b10_0, b10_1])
        | (refine c32n X g _ ha _ _ (by omega) ?_)
        | (refine And.intro ?_ ?_)
        | (intro _)
        | omega
        | (unfold r32; omega)
        | (exact hQ)
        | (exact qe hQ (by omega))
        | (exact qe hQ (by (repeat' split) <;> omega))
        | (exact b01))
    · intro d Q hd hQ
      repeat' (first
        | (exfalso; omega)
        | (exact absurd trivial (by assumption))
        | (apply s_180_0; try simp only [mi_87, fl_87_17, mi_103, ml_103, fl_103, up_103, true_and, and_true, true_or, or_true, implies_true, b10_0, b10_1])
        | (apply s_180_6; try simp only [mi_87, fl_87_17, mi_103, ml_103, fl_103, up_103, true_and, and_true, true_or, or_true, implies_true, b10_0, b10_1])
        | (refine c175n X g _ _ ha _ _ (by omega) ?_)
        | (refine And.intro ?_ ?_)
        | (intro _)
        | omega
        | (unfold r32; omega)
        | (exact hQ)
        | (exact qe hQ (by omega))
        | (exact qe hQ (by (repeat' split) <;> omega))
        | (exact b01))
theorem c4 (X : mX) (g : mF) (a i : Int) (h : 0 ≤ g 43 0 ∧ g 43 0 < 12) : Ret X 0 4 [(2, 44), (0, a), (0, i)] g none (mup (mup (mup g 44 (g 43 0).toNat a) 45 (g 43 0).toNat i) 43 0 (g 43 0 + 1)) := by
  intro d Q hd hQ
  have e1 : mup g 44 (g 43 0).toNat a 43 0 = g 43 0 := mup_n (by omega)
  have e2 : mup (mup g 44 (g 43 0).toNat a) 45 (g 43 0).toNat i 43 0 = g 43 0 := by rw [mup_n (by omega), e1]
  repeat' (first
    | (exfalso; omega)
    | (exact absurd trivial (by assumption))
    | (apply s_4_0; try simp only [mi_44, fl_44_2, mi_45, ml_45, fl_45, up_45, fl_44_0, up_44_0, fl_44_3, mi_46, ml_46, fl_46, up_46, e1, e2, true_and, and_true, true_or, or_true, implies_true, b10_0, b10_1])
    | (apply s_4_10; try simp only [mi_44, fl_44_2, mi_45, ml_45, fl_45, up_45, fl_44_0, up_44_0, fl_44_3, mi_46, ml_46, fl_46, up_46, e1, e2, true_and, and_true, true_or, or_true, implies_true, b10_0, b10_1])
    | (apply s_4_20; try simp only [mi_44, fl_44_2, mi_45, ml_45, fl_45, up_45, fl_44_0, up_44_0, fl_44_3, mi_46, ml_46, fl_46, up_46, e1, e2, true_and, and_true, true_or, or_true, implies_true, b10_0, b10_1])
    | (refine And.intro ?_ ?_)
    | (intro _)
    | omega
    | (unfold r32; omega)
    | (exact hQ)
    | (exact qe hQ (by omega))
    | (exact qe hQ (by (repeat' split) <;> omega))
    | (exact b01))
/-- hang -/
theorem T_hang (X : mX) (g : mF) (a i : Int) (hI : ∀ c, c < 4 → Iclk g c) (hB : Ibell g) : ∃ r g1 g2, Ret X 60 115 [(2, 1), (0, a), (0, i), (3, 0)] g (some (0, r)) g1 ∧ Ret X 60 203 [(2, 87), (0, a), (0, i)] g1 (some (0, r)) g2 ∧ Ibell g2 ∧ Chg (fun o k => o = 44 ∨ o = 45 ∨ o = 43 ∧ k = 0 ∨ o = 107 ∨ o = 108 ∨ o = 86 ∧ k = 24) g g2 := by
  obtain ⟨b1, b2, b3, b4⟩ := id hB
  by_cases ha : 0 ≤ a ∧ a ≤ 3
  · obtain ⟨c, rfl⟩ : ∃ c : Nat, a = (c : Int) := ⟨a.toNat, by omega⟩
    have hc : c < 4 := by omega
    obtain ⟨k1, k2, k3, -⟩ := hI c hc
    have hb : 0 ≤ g 99 c ∧ g 99 c ≤ 36 := by omega
    by_cases hi : 0 ≤ i ∧ i < g (19 + 6 * c) 0
    · by_cases hf : g 43 0 < 12
      · generalize hg1 : mup (mup (mup g 44 (g 43 0).toNat (c : Int)) 45 (g 43 0).toNat i) 43 0 (g 43 0 + 1) = g1
        have q1 : g1 43 0 = g 43 0 + 1 := by rw [← hg1, mup_e]
        have q2 : g1 86 24 = g 43 0 := by rw [← hg1, mup_n (by omega), mup_n (by omega), mup_n (by omega), b1]
        have q3 : g1 99 c = g 99 c := by rw [← hg1, mup_n (by omega), mup_n (by omega), mup_n (by omega)]
        refine ⟨g 43 0, g1, mup (mup (mup g1 107 (g 43 0).toNat (c : Int)) 108 (g 43 0).toNat i) 86 24 (g 43 0 + 1), ?_, ?_, ?_, ?_⟩
        · intro d Q hd hQ
          have cc := c4 X g (c : Int) i ⟨b2, hf⟩
          rw [hg1] at cc
          repeat' (first
            | (exfalso; omega)
            | (exact absurd trivial (by assumption))
            | (apply s_115_0; try simp only [mi_1, fl_1_4, mi_12, cm_o, fl_1_5, mi_44, fl_44_0, up_44_0, hc, q1, true_and, and_true, true_or, or_true, implies_true, b10_0, b10_1])
            | (apply s_115_8; try simp only [mi_1, fl_1_4, mi_12, cm_o, fl_1_5, mi_44, fl_44_0, up_44_0, hc, q1, true_and, and_true, true_or, or_true, implies_true, b10_0, b10_1])
            | (apply s_115_18; try simp only [mi_1, fl_1_4, mi_12, cm_o, fl_1_5, mi_44, fl_44_0, up_44_0, hc, q1, true_and, and_true, true_or, or_true, implies_true, b10_0, b10_1])
            | (apply s_115_50; try simp only [mi_1, fl_1_4, mi_12, cm_o, fl_1_5, mi_44, fl_44_0, up_44_0, hc, q1, true_and, and_true, true_or, or_true, implies_true, b10_0, b10_1])
            | (refine c32 X g hc _ _ (by omega) ?_)
            | (refine c14 X g hc _ _ _ (by omega) ?_)
            | (refine cc _ _ (by omega) ?_)
            | (refine And.intro ?_ ?_)
            | (intro _)
            | omega
            | (unfold r32; omega)
            | (exact hQ)
            | (exact qe hQ (by omega))
            | (exact qe hQ (by (repeat' split) <;> omega))
            | (exact b01))
        · intro d Q hd hQ
          have e1 : mup g1 107 (g 43 0).toNat (c : Int) 86 24 = g 43 0 := by rw [mup_n (by omega), q2]
          have e2 : mup (mup g1 107 (g 43 0).toNat (c : Int)) 108 (g 43 0).toNat i 86 24 = g 43 0 := by rw [mup_n (by omega), e1]
          have hb' : 0 ≤ g1 99 c ∧ g1 99 c ≤ 36 := by omega
          repeat' (first
            | (exfalso; omega)
            | (exact absurd trivial (by assumption))
            | (apply s_203_0; try simp only [mi_87, fl_87_24, up_87_24, fl_87_25, mi_108, ml_108, fl_108, up_108, fl_87_26, mi_109, ml_109, fl_109, up_109, e1, e2, q2, mup_e, true_and, and_true, true_or, or_true, implies_true, b10_0, b10_1])
            | (apply s_203_6; try simp only [mi_87, fl_87_24, up_87_24, fl_87_25, mi_108, ml_108, fl_108, up_108, fl_87_26, mi_109, ml_109, fl_109, up_109, e1, e2, q2, mup_e, true_and, and_true, true_or, or_true, implies_true, b10_0, b10_1])
            | (apply s_203_36; try simp only [mi_87, fl_87_24, up_87_24, fl_87_25, mi_108, ml_108, fl_108, up_108, fl_87_26, mi_109, ml_109, fl_109, up_109, e1, e2, q2, mup_e, true_and, and_true, true_or, or_true, implies_true, b10_0, b10_1])
            | (apply s_203_46; try simp only [mi_87, fl_87_24, up_87_24, fl_87_25, mi_108, ml_108, fl_108, up_108, fl_87_26, mi_109, ml_109, fl_109, up_109, e1, e2, q2, mup_e, true_and, and_true, true_or, or_true, implies_true, b10_0, b10_1])
            | (refine c175 X g1 hc _ hb' _ _ (by omega) ?_)
            | (refine And.intro ?_ ?_)
            | (intro _)
            | omega
            | (unfold r32; omega)
            | (exact hQ)
            | (exact qe hQ (by omega))
            | (exact qe hQ (by (repeat' split) <;> omega))
            | (exact b01))
        · subst hg1
          refine ⟨by simp [mup], by simp [mup]; omega, by simp [mup]; omega, fun j hj => ?_⟩
          have e : mup (mup (mup (mup (mup (mup g 44 (g 43 0).toNat (c : Int)) 45 (g 43 0).toNat i) 43 0 (g 43 0 + 1)) 107 (g 43 0).toNat (c : Int)) 108 (g 43 0).toNat i) 86 24 (g 43 0 + 1) 43 0 = g 43 0 + 1 := by simp [mup]
          rw [e] at hj
          by_cases hjl : j = (g 43 0).toNat
          · subst hjl; simp [mup]; omega
          · have z := b4 j (by omega)
            simp [mup, hjl]; omega
        · subst hg1
          exact Chg_w (Chg_t (Chg_t (Chg_t (Chg_t (Chg_t Chg_1 Chg_1) Chg_1) Chg_1) Chg_1) Chg_1) (fun a b z => by omega)
      · refine ⟨-1004, g, g, ?_, ?_, hB, Chg_w Chg_r (fun _ _ z => z.elim)⟩
        · intro d Q hd hQ
          repeat' (first
            | (exfalso; omega)
            | (exact absurd trivial (by assumption))
            | (apply s_115_0; try simp only [mi_1, fl_1_4, mi_12, cm_o, fl_1_5, mi_44, fl_44_0, up_44_0, hc, true_and, and_true, true_or, or_true, implies_true, b10_0, b10_1])
            | (apply s_115_8; try simp only [mi_1, fl_1_4, mi_12, cm_o, fl_1_5, mi_44, fl_44_0, up_44_0, hc, true_and, and_true, true_or, or_true, implies_true, b10_0, b10_1])
            | (apply s_115_18; try simp only [mi_1, fl_1_4, mi_12, cm_o, fl_1_5, mi_44, fl_44_0, up_44_0, hc, true_and, and_true, true_or, or_true, implies_true, b10_0, b10_1])
            | (apply s_115_50; try simp only [mi_1, fl_1_4, mi_12, cm_o, fl_1_5, mi_44, fl_44_0, up_44_0, hc, true_and, and_true, true_or, or_true, implies_true, b10_0, b10_1])
            | (refine c32 X g hc _ _ (by omega) ?_)
            | (refine c14 X g hc _ _ _ (by omega) ?_)
            | (refine And.intro ?_ ?_)
            | (intro _)
            | omega
            | (unfold r32; omega)
            | (exact hQ)
            | (exact qe hQ (by omega))
            | (exact qe hQ (by (repeat' split) <;> omega))
            | (exact b01))
        · intro d Q hd hQ
          repeat' (first
            | (exfalso; omega)
            | (exact absurd trivial (by assumption))
            | (apply s_203_0; try simp only [mi_87, fl_87_24, up_87_24, fl_87_25, mi_108, ml_108, fl_108, up_108, fl_87_26, mi_109, ml_109, fl_109, up_109, b1, true_and, and_true, true_or, or_true, implies_true, b10_0, b10_1])
            | (apply s_203_6; try simp only [mi_87, fl_87_24, up_87_24, fl_87_25, mi_108, ml_108, fl_108, up_108, fl_87_26, mi_109, ml_109, fl_109, up_109, b1, true_and, and_true, true_or, or_true, implies_true, b10_0, b10_1])
            | (apply s_203_36; try simp only [mi_87, fl_87_24, up_87_24, fl_87_25, mi_108, ml_108, fl_108, up_108, fl_87_26, mi_109, ml_109, fl_109, up_109, b1, true_and, and_true, true_or, or_true, implies_true, b10_0, b10_1])
            | (apply s_203_46; try simp only [mi_87, fl_87_24, up_87_24, fl_87_25, mi_108, ml_108, fl_108, up_108, fl_87_26, mi_109, ml_109, fl_109, up_109, b1, true_and, and_true, true_or, or_true, implies_true, b10_0, b10_1])
            | (refine c175 X g hc _ hb _ _ (by omega) ?_)
            | (refine And.intro ?_ ?_)
            | (intro _)
            | omega
            | (unfold r32; omega)
            | (exact hQ)
            | (exact qe hQ (by omega))
            | (exact qe hQ (by (repeat' split) <;> omega))
            | (exact b01))
    · refine ⟨-1001, g, g, ?_, ?_, hB, Chg_w Chg_r (fun _ _ z => z.elim)⟩
      · intro d Q hd hQ
        repeat' (first
          | (exfalso; omega)
          | (exact absurd trivial (by assumption))
          | (apply s_115_0; try simp only [mi_1, fl_1_4, mi_12, cm_o, fl_1_5, mi_44, fl_44_0, up_44_0, hc, true_and, and_true, true_or, or_true, implies_true, b10_0, b10_1])
          | (apply s_115_8; try simp only [mi_1, fl_1_4, mi_12, cm_o, fl_1_5, mi_44, fl_44_0, up_44_0, hc, true_and, and_true, true_or, or_true, implies_true, b10_0, b10_1])
          | (apply s_115_18; try simp only [mi_1, fl_1_4, mi_12, cm_o, fl_1_5, mi_44, fl_44_0, up_44_0, hc, true_and, and_true, true_or, or_true, implies_true, b10_0, b10_1])
          | (apply s_115_50; try simp only [mi_1, fl_1_4, mi_12, cm_o, fl_1_5, mi_44, fl_44_0, up_44_0, hc, true_and, and_true, true_or, or_true, implies_true, b10_0, b10_1])
          | (refine c32 X g hc _ _ (by omega) ?_)
          | (refine c14 X g hc _ _ _ (by omega) ?_)
          | (refine And.intro ?_ ?_)
          | (intro _)
          | omega
          | (unfold r32; omega)
          | (exact hQ)
          | (exact qe hQ (by omega))
          | (exact qe hQ (by (repeat' split) <;> omega))
          | (exact b01))
      · intro d Q hd hQ
        repeat' (first
          | (exfalso; omega)
          | (exact absurd trivial (by assumption))
          | (apply s_203_0; try simp only [mi_87, fl_87_24, up_87_24, fl_87_25, mi_108, ml_108, fl_108, up_108, fl_87_26, mi_109, ml_109, fl_109, up_109, true_and, and_true, true_or, or_true, implies_true, b10_0, b10_1])
          | (apply s_203_6; try simp only [mi_87, fl_87_24, up_87_24, fl_87_25, mi_108, ml_108, fl_108, up_108, fl_87_26, mi_109, ml_109, fl_109, up_109, true_and, and_true, true_or, or_true, implies_true, b10_0, b10_1])
          | (apply s_203_36; try simp only [mi_87, fl_87_24, up_87_24, fl_87_25, mi_108, ml_108, fl_108, up_108, fl_87_26, mi_109, ml_109, fl_109, up_109, true_and, and_true, true_or, or_true, implies_true, b10_0, b10_1])
          | (apply s_203_46; try simp only [mi_87, fl_87_24, up_87_24, fl_87_25, mi_108, ml_108, fl_108, up_108, fl_87_26, mi_109, ml_109, fl_109, up_109, true_and, and_true, true_or, or_true, implies_true, b10_0, b10_1])
          | (refine c175 X g hc _ hb _ _ (by omega) ?_)
          | (refine And.intro ?_ ?_)
          | (intro _)
          | omega
          | (unfold r32; omega)
          | (exact hQ)
          | (exact qe hQ (by omega))
          | (exact qe hQ (by (repeat' split) <;> omega))
          | (exact b01))
  · refine ⟨-1001, g, g, ?_, ?_, hB, Chg_w Chg_r (fun _ _ z => z.elim)⟩
    · intro d Q hd hQ
      repeat' (first
        | (exfalso; omega)
        | (exact absurd trivial (by assumption))
        | (apply s_115_0; try simp only [mi_1, fl_1_4, mi_12, cm_o, fl_1_5, mi_44, fl_44_0, up_44_0, true_and, and_true, true_or, or_true, implies_true, b10_0, b10_1])
        | (apply s_115_8; try simp only [mi_1, fl_1_4, mi_12, cm_o, fl_1_5, mi_44, fl_44_0, up_44_0, true_and, and_true, true_or, or_true, implies_true, b10_0, b10_1])
        | (apply s_115_18; try simp only [mi_1, fl_1_4, mi_12, cm_o, fl_1_5, mi_44, fl_44_0, up_44_0, true_and, and_true, true_or, or_true, implies_true, b10_0, b10_1])
        | (apply s_115_50; try simp only [mi_1, fl_1_4, mi_12, cm_o, fl_1_5, mi_44, fl_44_0, up_44_0, true_and, and_true, true_or, or_true, implies_true, b10_0, b10_1])
        | (refine c32n X g _ ha _ _ (by omega) ?_)
        | (refine And.intro ?_ ?_)
        | (intro _)
        | omega
        | (unfold r32; omega)
        | (exact hQ)
        | (exact qe hQ (by omega))
        | (exact qe hQ (by (repeat' split) <;> omega))
        | (exact b01))
    · intro d Q hd hQ
      repeat' (first
        | (exfalso; omega)
        | (exact absurd trivial (by assumption))
        | (apply s_203_0; try simp only [mi_87, fl_87_24, up_87_24, fl_87_25, mi_108, ml_108, fl_108, up_108, fl_87_26, mi_109, ml_109, fl_109, up_109, true_and, and_true, true_or, or_true, implies_true, b10_0, b10_1])
        | (apply s_203_6; try simp only [mi_87, fl_87_24, up_87_24, fl_87_25, mi_108, ml_108, fl_108, up_108, fl_87_26, mi_109, ml_109, fl_109, up_109, true_and, and_true, true_or, or_true, implies_true, b10_0, b10_1])
        | (apply s_203_36; try simp only [mi_87, fl_87_24, up_87_24, fl_87_25, mi_108, ml_108, fl_108, up_108, fl_87_26, mi_109, ml_109, fl_109, up_109, true_and, and_true, true_or, or_true, implies_true, b10_0, b10_1])
        | (apply s_203_46; try simp only [mi_87, fl_87_24, up_87_24, fl_87_25, mi_108, ml_108, fl_108, up_108, fl_87_26, mi_109, ml_109, fl_109, up_109, true_and, and_true, true_or, or_true, implies_true, b10_0, b10_1])
        | (refine c175n X g _ _ ha _ _ (by omega) ?_)
        | (refine And.intro ?_ ?_)
        | (intro _)
        | omega
        | (unfold r32; omega)
        | (exact hQ)
        | (exact qe hQ (by omega))
        | (exact qe hQ (by (repeat' split) <;> omega))
        | (exact b01))
