/-! more methods without loops -/
theorem c7 (X : mX) (g : mF) (h : 0 ≤ g 43 1 ∧ g 43 1 ≤ 24) : Ret X 0 7 [(2, 44)] g (some (0, if g 43 1 = 0 then 0 else g 46 (g 43 1 - 1).toNat)) g := by
  intro d Q hd hQ
  by_cases h0 : g 43 1 = 0
  · rw [if_pos h0] at hQ
    repeat' (first
      | (exfalso; omega)
      | (exact absurd trivial (by assumption))
      | (apply s_7_0; try simp only [mi_44, fl_44_1, up_44_1, fl_44_4, mi_47, ml_47, fl_47, up_47, true_and, and_true, true_or, or_true, implies_true, b10_0, b10_1])
      | (refine And.intro ?_ ?_)
      | (intro _)
      | omega
      | (unfold r32; omega)
      | (exact hQ)
      | (exact qe hQ (by omega))
      | (exact qe hQ (by (repeat' split) <;> omega))
      | (exact b01))
  · rw [if_neg h0] at hQ
    repeat' (first
      | (exfalso; omega)
      | (exact absurd trivial (by assumption))
      | (apply s_7_0; try simp only [mi_44, fl_44_1, up_44_1, fl_44_4, mi_47, ml_47, fl_47, up_47, true_and, and_true, true_or, or_true, implies_true, b10_0, b10_1])
      | (refine And.intro ?_ ?_)
      | (intro _)
      | omega
      | (unfold r32; omega)
      | (exact hQ)
      | (exact qe hQ (by omega))
      | (exact qe hQ (by (repeat' split) <;> omega))
      | (exact b01))
theorem c8 (X : mX) (g : mF) (t : Int) (h : 0 ≤ g 43 1 ∧ g 43 1 < 24) : Ret X 0 8 [(2, 44), (0, t)] g none (mup (mup g 46 (g 43 1).toNat t) 43 1 (g 43 1 + 1)) := by
  intro d Q hd hQ
  have e : mup g 46 (g 43 1).toNat t 43 1 = g 43 1 := mup_n (by omega)
  repeat' (first
    | (exfalso; omega)
    | (exact absurd trivial (by assumption))
    | (apply s_8_0; try simp only [mi_44, fl_44_4, mi_47, ml_47, fl_47, up_47, fl_44_1, up_44_1, e, true_and, and_true, true_or, or_true, implies_true, b10_0, b10_1])
    | (apply s_8_10; try simp only [mi_44, fl_44_4, mi_47, ml_47, fl_47, up_47, fl_44_1, up_44_1, e, true_and, and_true, true_or, or_true, implies_true, b10_0, b10_1])
    | (refine And.intro ?_ ?_)
    | (intro _)
    | omega
    | (unfold r32; omega)
    | (exact hQ)
    | (exact qe hQ (by omega))
    | (exact qe hQ (by (repeat' split) <;> omega))
    | (exact b01))
theorem T_hear (X : mX) (g : mF) (t : Int) (hI : Ihear g) : ∃ r g1 g2, Ret X 60 117 [(2, 1), (0, t)] g (some (0, r)) g1 ∧ Ret X 60 205 [(2, 87), (0, t)] g1 (some (0, r)) g2 ∧ Ihear g2 ∧ Chg (fun o k => o = 46 ∨ o = 117 ∨ o = 43 ∧ k = 1 ∨ o = 86 ∧ k = 38) g g2 := by
  obtain ⟨h1, h2, h3, h4⟩ := id hI
  have hL : (if g 43 1 = 0 then 0 else g 46 (g 43 1 - 1).toNat) = (if g 86 38 ≤ 0 then 0 else g 117 (g 86 38 - 1).toNat) := by
    rw [h1]
    by_cases h0 : g 43 1 = 0
    · rw [if_pos h0, if_pos (by omega)]
    · rw [if_neg h0, if_neg (by omega), (h4 _ (by omega)).1]
  have hLb : 0 ≤ (if g 43 1 = 0 then 0 else g 46 (g 43 1 - 1).toNat) := by
    split
    · omega
    · exact (h4 _ (by omega)).2.1
  generalize hl : (if g 43 1 = 0 then 0 else g 46 (g 43 1 - 1).toNat) = L at hL hLb
  have hz : g 43 1 = 0 → L = 0 := fun h0 => by rw [← hl, if_pos h0]
  have hp : 0 < g 43 1 → L = g 46 (g 43 1 - 1).toNat ∧ g 117 (g 43 1 - 1).toNat = g 46 (g 43 1 - 1).toNat := fun h0 => ⟨by rw [← hl, if_neg (by omega)], (h4 _ (by omega)).1⟩
  by_cases ht : L ≤ t ∧ t ≤ 20000
  · by_cases hf : g 43 1 < 24
    · refine ⟨g 43 1 + 1, mup (mup g 46 (g 43 1).toNat t) 43 1 (g 43 1 + 1), mup (mup (mup (mup g 46 (g 43 1).toNat t) 43 1 (g 43 1 + 1)) 117 (g 43 1).toNat t) 86 38 (g 43 1 + 1), ?_, ?_, ?_, Chg_w (Chg_t (Chg_t (Chg_t Chg_1 Chg_1) Chg_1) Chg_1) (fun a b z => by omega)⟩
      · intro d Q hd hQ
        have c := c7 X g ⟨h2, h3⟩
        rw [hl] at c
        have e : mup (mup g 46 (g 43 1).toNat t) 43 1 (g 43 1 + 1) 43 1 = g 43 1 + 1 := mup_e
        repeat' (first
          | (exfalso; omega)
          | (exact absurd trivial (by assumption))
          | (apply s_117_0; try simp only [mi_1, fl_1_5, mi_44, fl_44_1, up_44_1, e, true_and, and_true, true_or, or_true, implies_true, b10_0, b10_1])
          | (apply s_117_8; try simp only [mi_1, fl_1_5, mi_44, fl_44_1, up_44_1, e, true_and, and_true, true_or, or_true, implies_true, b10_0, b10_1])
          | (apply s_117_14; try simp only [mi_1, fl_1_5, mi_44, fl_44_1, up_44_1, e, true_and, and_true, true_or, or_true, implies_true, b10_0, b10_1])
          | (apply s_117_45; try simp only [mi_1, fl_1_5, mi_44, fl_44_1, up_44_1, e, true_and, and_true, true_or, or_true, implies_true, b10_0, b10_1])
          | (refine c130 X _ _ _ _ _ _ (by omega) ?_)
          | (refine c _ _ (by omega) ?_)
          | (refine c8 X g _ ⟨h2, hf⟩ _ _ (by omega) ?_)
          | (refine And.intro ?_ ?_)
          | (intro _)
          | omega
          | (unfold r32; omega)
          | (exact hQ)
          | (exact qe hQ (by omega))
          | (exact qe hQ (by (repeat' split) <;> omega))
          | (exact b01))
      · intro d Q hd hQ
        have e1 : mup (mup g 46 (g 43 1).toNat t) 43 1 (g 43 1 + 1) 86 38 = g 43 1 := by rw [mup_n (by omega), mup_n (by omega), h1]
        have e2 : ∀ k, mup (mup g 46 (g 43 1).toNat t) 43 1 (g 43 1 + 1) 117 k = g 117 k := fun k => by rw [mup_n (by omega), mup_n (by omega)]
        have e3 : mup (mup (mup g 46 (g 43 1).toNat t) 43 1 (g 43 1 + 1)) 117 (g 43 1).toNat t 86 38 = g 43 1 := by rw [mup_n (by omega), e1]
        rw [h1] at hL
        repeat' (first
          | (exfalso; omega)
          | (exact absurd trivial (by assumption))
          | (apply s_205_0; try simp only [mi_87, fl_87_38, up_87_38, fl_87_39, mi_118, ml_118, fl_118, up_118, e1, e2, e3, mup_e, true_and, and_true, true_or, or_true, implies_true, b10_0, b10_1])
          | (apply s_205_25; try simp only [mi_87, fl_87_38, up_87_38, fl_87_39, mi_118, ml_118, fl_118, up_118, e1, e2, e3, mup_e, true_and, and_true, true_or, or_true, implies_true, b10_0, b10_1])
          | (apply s_205_31; try simp only [mi_87, fl_87_38, up_87_38, fl_87_39, mi_118, ml_118, fl_118, up_118, e1, e2, e3, mup_e, true_and, and_true, true_or, or_true, implies_true, b10_0, b10_1])
          | (apply s_205_61; try simp only [mi_87, fl_87_38, up_87_38, fl_87_39, mi_118, ml_118, fl_118, up_118, e1, e2, e3, mup_e, true_and, and_true, true_or, or_true, implies_true, b10_0, b10_1])
          | (refine c144 X _ _ _ _ _ _ (by omega) ?_)
          | (refine And.intro ?_ ?_)
          | (intro _)
          | omega
          | (unfold r32; omega)
          | (exact hQ)
          | (exact qe hQ (by omega))
          | (exact qe hQ (by (repeat' split) <;> omega))
          | (exact b01))
      · refine ⟨?_, ?_, ?_, fun j hj => ?_⟩
        · simp [mup]
        · simp [mup]; omega
        · simp [mup]; omega
        · have e : mup (mup (mup (mup g 46 (g 43 1).toNat t) 43 1 (g 43 1 + 1)) 117 (g 43 1).toNat t) 86 38 (g 43 1 + 1) 43 1 = g 43 1 + 1 := by simp [mup]
          rw [e] at hj
          by_cases hjl : j = (g 43 1).toNat
          · subst hjl; simp [mup]; omega
          · have z := h4 j (by omega)
            simp [mup, hjl]; omega
    · refine ⟨-1004, g, g, ?_, ?_, hI, Chg_w Chg_r (fun _ _ z => z.elim)⟩
      · intro d Q hd hQ
        have c := c7 X g ⟨h2, h3⟩
        rw [hl] at c
        repeat' (first
          | (exfalso; omega)
          | (exact absurd trivial (by assumption))
          | (apply s_117_0; try simp only [mi_1, fl_1_5, mi_44, fl_44_1, up_44_1, true_and, and_true, true_or, or_true, implies_true, b10_0, b10_1])
          | (apply s_117_8; try simp only [mi_1, fl_1_5, mi_44, fl_44_1, up_44_1, true_and, and_true, true_or, or_true, implies_true, b10_0, b10_1])
          | (apply s_117_14; try simp only [mi_1, fl_1_5, mi_44, fl_44_1, up_44_1, true_and, and_true, true_or, or_true, implies_true, b10_0, b10_1])
          | (apply s_117_45; try simp only [mi_1, fl_1_5, mi_44, fl_44_1, up_44_1, true_and, and_true, true_or, or_true, implies_true, b10_0, b10_1])
          | (refine c130 X _ _ _ _ _ _ (by omega) ?_)
          | (refine c _ _ (by omega) ?_)
          | (refine And.intro ?_ ?_)
          | (intro _)
          | omega
          | (unfold r32; omega)
          | (exact hQ)
          | (exact qe hQ (by omega))
          | (exact qe hQ (by (repeat' split) <;> omega))
          | (exact b01))
      · intro d Q hd hQ
        repeat' (first
          | (exfalso; omega)
          | (exact absurd trivial (by assumption))
          | (apply s_205_0; try simp only [mi_87, fl_87_38, up_87_38, fl_87_39, mi_118, ml_118, fl_118, up_118, h1, true_and, and_true, true_or, or_true, implies_true, b10_0, b10_1])
          | (apply s_205_25; try simp only [mi_87, fl_87_38, up_87_38, fl_87_39, mi_118, ml_118, fl_118, up_118, h1, true_and, and_true, true_or, or_true, implies_true, b10_0, b10_1])
          | (apply s_205_31; try simp only [mi_87, fl_87_38, up_87_38, fl_87_39, mi_118, ml_118, fl_118, up_118, h1, true_and, and_true, true_or, or_true, implies_true, b10_0, b10_1])
          | (apply s_205_61; try simp only [mi_87, fl_87_38, up_87_38, fl_87_39, mi_118, ml_118, fl_118, up_118, h1, true_and, and_true, true_or, or_true, implies_true, b10_0, b10_1])
          | (refine c144 X _ _ _ _ _ _ (by omega) ?_)
          | (refine And.intro ?_ ?_)
          | (intro _)
          | omega
          | (unfold r32; omega)
          | (exact hQ)
          | (exact qe hQ (by omega))
          | (exact qe hQ (by (repeat' split) <;> omega))
          | (exact b01))
  · refine ⟨-1002, g, g, ?_, ?_, hI, Chg_w Chg_r (fun _ _ z => z.elim)⟩
    · intro d Q hd hQ
      have c := c7 X g ⟨h2, h3⟩
      rw [hl] at c
      repeat' (first
        | (exfalso; omega)
        | (exact absurd trivial (by assumption))
        | (apply s_117_0; try simp only [mi_1, fl_1_5, mi_44, fl_44_1, up_44_1, true_and, and_true, true_or, or_true, implies_true, b10_0, b10_1])
        | (apply s_117_8; try simp only [mi_1, fl_1_5, mi_44, fl_44_1, up_44_1, true_and, and_true, true_or, or_true, implies_true, b10_0, b10_1])
        | (apply s_117_14; try simp only [mi_1, fl_1_5, mi_44, fl_44_1, up_44_1, true_and, and_true, true_or, or_true, implies_true, b10_0, b10_1])
        | (apply s_117_45; try simp only [mi_1, fl_1_5, mi_44, fl_44_1, up_44_1, true_and, and_true, true_or, or_true, implies_true, b10_0, b10_1])
        | (refine c130 X _ _ _ _ _ _ (by omega) ?_)
        | (refine c _ _ (by omega) ?_)
        | (refine And.intro ?_ ?_)
        | (intro _)
        | omega
        | (unfold r32; omega)
        | (exact hQ)
        | (exact qe hQ (by omega))
        | (exact qe hQ (by (repeat' split) <;> omega))
        | (exact b01))
    · intro d Q hd hQ
      repeat' (first
        | (exfalso; omega)
        | (exact absurd trivial (by assumption))
        | (apply s_205_0; try simp only [mi_87, fl_87_38, up_87_38, fl_87_39, mi_118, ml_118, fl_118, up_118, h1, true_and, and_true, true_or, or_true, implies_true, b10_0, b10_1])
        | (apply s_205_25; try simp only [mi_87, fl_87_38, up_87_38, fl_87_39, mi_118, ml_118, fl_118, up_118, h1, true_and, and_true, true_or, or_true, implies_true, b10_0, b10_1])
        | (apply s_205_31; try simp only [mi_87, fl_87_38, up_87_38, fl_87_39, mi_118, ml_118, fl_118, up_118, h1, true_and, and_true, true_or, or_true, implies_true, b10_0, b10_1])
        | (apply s_205_61; try simp only [mi_87, fl_87_38, up_87_38, fl_87_39, mi_118, ml_118, fl_118, up_118, h1, true_and, and_true, true_or, or_true, implies_true, b10_0, b10_1])
        | (refine c144 X _ _ _ _ _ _ (by omega) ?_)
        | (refine And.intro ?_ ?_)
        | (intro _)
        | omega
        | (unfold r32; omega)
        | (exact hQ)
        | (exact qe hQ (by omega))
        | (exact qe hQ (by (repeat' split) <;> omega))
        | (exact b01))
theorem T_hush (X : mX) (g : mF) (hI : Ihear g) : ∃ r g1 g2, Ret X 60 118 [(2, 1), (3, 0)] g (some (0, r)) g1 ∧ Ret X 60 206 [(2, 87), (3, 0)] g1 (some (0, r)) g2 ∧ Ihear g2 ∧ Chg (fun o k => o = 43 ∧ k = 1 ∨ o = 86 ∧ k = 38) g g2 := by
  obtain ⟨h1, h2, h3, h4⟩ := hI
  refine ⟨g 43 1, mup g 43 1 0, mup (mup g 43 1 0) 86 38 0, ?_, ?_, ?_, Chg_t Chg_1 Chg_1⟩
  · intro d Q hd hQ
    repeat' (first
      | (exfalso; omega)
      | (exact absurd trivial (by assumption))
      | (apply s_118_0; try simp only [mi_1, fl_1_5, mi_44, fl_44_1, up_44_1, true_and, and_true, true_or, or_true, implies_true, b10_0, b10_1])
      | (apply s_118_8; try simp only [mi_1, fl_1_5, mi_44, fl_44_1, up_44_1, true_and, and_true, true_or, or_true, implies_true, b10_0, b10_1])
      | (refine And.intro ?_ ?_)
      | (intro _)
      | omega
      | (unfold r32; omega)
      | (exact hQ)
      | (exact qe hQ (by omega))
      | (exact qe hQ (by (repeat' split) <;> omega))
      | (exact b01))
  · intro d Q hd hQ
    have e1 : mup g 43 1 0 86 38 = g 43 1 := by rw [mup_n (by omega), h1]
    repeat' (first
      | (exfalso; omega)
      | (exact absurd trivial (by assumption))
      | (apply s_206_0; try simp only [mi_87, fl_87_38, up_87_38, e1, true_and, and_true, true_or, or_true, implies_true, b10_0, b10_1])
      | (apply s_206_5; try simp only [mi_87, fl_87_38, up_87_38, e1, true_and, and_true, true_or, or_true, implies_true, b10_0, b10_1])
      | (refine And.intro ?_ ?_)
      | (intro _)
      | omega
      | (unfold r32; omega)
      | (exact hQ)
      | (exact qe hQ (by omega))
      | (exact qe hQ (by (repeat' split) <;> omega))
      | (exact b01))
  · refine ⟨by simp [mup], by simp [mup], by simp [mup], fun j hj => ?_⟩
    have e : mup (mup g 43 1 0) 86 38 0 43 1 = 0 := by simp [mup]
    rw [e] at hj
    omega
theorem T_row (X : mX) (g : mF) (k p : Int) (hI : Iscent g) : ∃ r g1 g2, Ret X 60 104 [(2, 1), (0, k), (0, p), (3, 0)] g (some (0, r)) g1 ∧ Ret X 60 182 [(2, 87), (0, k), (0, p), (3, 0)] g1 (some (0, r)) g2 ∧ Iscent g2 ∧ Chg (fun o _ => o = 53 ∨ o = 109) g g2 := by
  by_cases hp : 0 ≤ p ∧ p ≤ 7
  · by_cases hk : 0 ≤ k ∧ k ≤ 11
    · have hk12 : k.toNat < 12 := by omega
      refine ⟨g 53 k.toNat, mup g 53 k.toNat p, mup (mup g 53 k.toNat p) 109 k.toNat p, ?_, ?_, ?_, Chg_w (Chg_t Chg_1 Chg_1) (fun a b z => by omega)⟩
      · intro d Q hd hQ
        repeat' (first
          | (exfalso; omega)
          | (exact absurd trivial (by assumption))
          | (apply s_104_0; try simp only [mi_1, fl_1_7, mi_54, ml_54, fl_54, up_54, true_and, and_true, true_or, or_true, implies_true, b10_0, b10_1])
          | (apply s_104_4; try simp only [mi_1, fl_1_7, mi_54, ml_54, fl_54, up_54, true_and, and_true, true_or, or_true, implies_true, b10_0, b10_1])
          | (apply s_104_18; try simp only [mi_1, fl_1_7, mi_54, ml_54, fl_54, up_54, true_and, and_true, true_or, or_true, implies_true, b10_0, b10_1])
          | (apply s_104_32; try simp only [mi_1, fl_1_7, mi_54, ml_54, fl_54, up_54, true_and, and_true, true_or, or_true, implies_true, b10_0, b10_1])
          | (refine c131 X _ _ _ _ (by omega) ?_)
          | (refine c130 X _ _ _ _ _ _ (by omega) ?_)
          | (refine And.intro ?_ ?_)
          | (intro _)
          | omega
          | (unfold r32; omega)
          | (exact hQ)
          | (exact qe hQ (by omega))
          | (exact qe hQ (by (repeat' split) <;> omega))
          | (exact b01))
      · intro d Q hd hQ
        have e : mup g 53 k.toNat p 109 k.toNat = g 53 k.toNat := by rw [mup_n (by omega), (hI _ hk12).1]
        repeat' (first
          | (exfalso; omega)
          | (exact absurd trivial (by assumption))
          | (apply s_182_0; try simp only [mi_87, fl_87_27, mi_110, ml_110, fl_110, up_110, e, true_and, and_true, true_or, or_true, implies_true, b10_0, b10_1])
          | (apply s_182_4; try simp only [mi_87, fl_87_27, mi_110, ml_110, fl_110, up_110, e, true_and, and_true, true_or, or_true, implies_true, b10_0, b10_1])
          | (apply s_182_20; try simp only [mi_87, fl_87_27, mi_110, ml_110, fl_110, up_110, e, true_and, and_true, true_or, or_true, implies_true, b10_0, b10_1])
          | (apply s_182_34; try simp only [mi_87, fl_87_27, mi_110, ml_110, fl_110, up_110, e, true_and, and_true, true_or, or_true, implies_true, b10_0, b10_1])
          | (refine c165 X _ _ _ _ (by omega) ?_)
          | (refine c144 X _ _ _ _ _ _ (by omega) ?_)
          | (refine And.intro ?_ ?_)
          | (intro _)
          | omega
          | (unfold r32; omega)
          | (exact hQ)
          | (exact qe hQ (by omega))
          | (exact qe hQ (by (repeat' split) <;> omega))
          | (exact b01))
      · intro j hj
        have z := hI j hj
        by_cases hjk : j = k.toNat
        · subst hjk; simp [mup]; omega
        · simp [mup, hjk]; omega
    · refine ⟨-1002, g, g, ?_, ?_, hI, Chg_w Chg_r (fun _ _ z => z.elim)⟩
      · intro d Q hd hQ
        repeat' (first
          | (exfalso; omega)
          | (exact absurd trivial (by assumption))
          | (apply s_104_0; try simp only [mi_1, fl_1_7, mi_54, ml_54, fl_54, up_54, true_and, and_true, true_or, or_true, implies_true, b10_0, b10_1])
          | (apply s_104_4; try simp only [mi_1, fl_1_7, mi_54, ml_54, fl_54, up_54, true_and, and_true, true_or, or_true, implies_true, b10_0, b10_1])
          | (apply s_104_18; try simp only [mi_1, fl_1_7, mi_54, ml_54, fl_54, up_54, true_and, and_true, true_or, or_true, implies_true, b10_0, b10_1])
          | (apply s_104_32; try simp only [mi_1, fl_1_7, mi_54, ml_54, fl_54, up_54, true_and, and_true, true_or, or_true, implies_true, b10_0, b10_1])
          | (refine c131 X _ _ _ _ (by omega) ?_)
          | (refine c130 X _ _ _ _ _ _ (by omega) ?_)
          | (refine And.intro ?_ ?_)
          | (intro _)
          | omega
          | (unfold r32; omega)
          | (exact hQ)
          | (exact qe hQ (by omega))
          | (exact qe hQ (by (repeat' split) <;> omega))
          | (exact b01))
      · intro d Q hd hQ
        repeat' (first
          | (exfalso; omega)
          | (exact absurd trivial (by assumption))
          | (apply s_182_0; try simp only [mi_87, fl_87_27, mi_110, ml_110, fl_110, up_110, true_and, and_true, true_or, or_true, implies_true, b10_0, b10_1])
          | (apply s_182_4; try simp only [mi_87, fl_87_27, mi_110, ml_110, fl_110, up_110, true_and, and_true, true_or, or_true, implies_true, b10_0, b10_1])
          | (apply s_182_20; try simp only [mi_87, fl_87_27, mi_110, ml_110, fl_110, up_110, true_and, and_true, true_or, or_true, implies_true, b10_0, b10_1])
          | (apply s_182_34; try simp only [mi_87, fl_87_27, mi_110, ml_110, fl_110, up_110, true_and, and_true, true_or, or_true, implies_true, b10_0, b10_1])
          | (refine c165 X _ _ _ _ (by omega) ?_)
          | (refine c144 X _ _ _ _ _ _ (by omega) ?_)
          | (refine And.intro ?_ ?_)
          | (intro _)
          | omega
          | (unfold r32; omega)
          | (exact hQ)
          | (exact qe hQ (by omega))
          | (exact qe hQ (by (repeat' split) <;> omega))
          | (exact b01))
  · refine ⟨-1001, g, g, ?_, ?_, hI, Chg_w Chg_r (fun _ _ z => z.elim)⟩
    · intro d Q hd hQ
      repeat' (first
        | (exfalso; omega)
        | (exact absurd trivial (by assumption))
        | (apply s_104_0; try simp only [mi_1, fl_1_7, mi_54, ml_54, fl_54, up_54, true_and, and_true, true_or, or_true, implies_true, b10_0, b10_1])
        | (apply s_104_4; try simp only [mi_1, fl_1_7, mi_54, ml_54, fl_54, up_54, true_and, and_true, true_or, or_true, implies_true, b10_0, b10_1])
        | (apply s_104_18; try simp only [mi_1, fl_1_7, mi_54, ml_54, fl_54, up_54, true_and, and_true, true_or, or_true, implies_true, b10_0, b10_1])
        | (apply s_104_32; try simp only [mi_1, fl_1_7, mi_54, ml_54, fl_54, up_54, true_and, and_true, true_or, or_true, implies_true, b10_0, b10_1])
        | (refine c131 X _ _ _ _ (by omega) ?_)
        | (refine c130 X _ _ _ _ _ _ (by omega) ?_)
        | (refine And.intro ?_ ?_)
        | (intro _)
        | omega
        | (unfold r32; omega)
        | (exact hQ)
        | (exact qe hQ (by omega))
        | (exact qe hQ (by (repeat' split) <;> omega))
        | (exact b01))
    · intro d Q hd hQ
      repeat' (first
        | (exfalso; omega)
        | (exact absurd trivial (by assumption))
        | (apply s_182_0; try simp only [mi_87, fl_87_27, mi_110, ml_110, fl_110, up_110, true_and, and_true, true_or, or_true, implies_true, b10_0, b10_1])
        | (apply s_182_4; try simp only [mi_87, fl_87_27, mi_110, ml_110, fl_110, up_110, true_and, and_true, true_or, or_true, implies_true, b10_0, b10_1])
        | (apply s_182_20; try simp only [mi_87, fl_87_27, mi_110, ml_110, fl_110, up_110, true_and, and_true, true_or, or_true, implies_true, b10_0, b10_1])
        | (apply s_182_34; try simp only [mi_87, fl_87_27, mi_110, ml_110, fl_110, up_110, true_and, and_true, true_or, or_true, implies_true, b10_0, b10_1])
        | (refine c165 X _ _ _ _ (by omega) ?_)
        | (refine c144 X _ _ _ _ _ _ (by omega) ?_)
        | (refine And.intro ?_ ?_)
        | (intro _)
        | omega
        | (unfold r32; omega)
        | (exact hQ)
        | (exact qe hQ (by omega))
        | (exact qe hQ (by (repeat' split) <;> omega))
        | (exact b01))
theorem T_words (X : mX) (g : mF) (k : Int) (hI : Irule g) : ∃ r, Ret X 60 127 [(2, 1), (0, k)] g (some (0, r)) g ∧ Ret X 60 226 [(2, 87), (0, k)] g (some (0, r)) g := by
  obtain ⟨h1, -⟩ := hI
  by_cases hk : 0 ≤ k ∧ k ≤ 11
  · have e := (h1 k.toNat (by omega)).1
    refine ⟨g 50 k.toNat, ?_, ?_⟩
    · intro d Q hd hQ
      repeat' (first
        | (exfalso; omega)
        | (exact absurd trivial (by assumption))
        | (apply s_127_0; try simp only [mi_1, fl_1_6, mi_50, fl_50_0, mi_51, ml_51, fl_51, up_51, true_and, and_true, true_or, or_true, implies_true, b10_0, b10_1])
        | (apply s_127_7; try simp only [mi_1, fl_1_6, mi_50, fl_50_0, mi_51, ml_51, fl_51, up_51, true_and, and_true, true_or, or_true, implies_true, b10_0, b10_1])
        | (refine c130 X _ _ _ _ _ _ (by omega) ?_)
        | (refine And.intro ?_ ?_)
        | (intro _)
        | omega
        | (unfold r32; omega)
        | (exact hQ)
        | (exact qe hQ (by omega))
        | (exact qe hQ (by (repeat' split) <;> omega))
        | (exact b01))
    · intro d Q hd hQ
      repeat' (first
        | (exfalso; omega)
        | (exact absurd trivial (by assumption))
        | (apply s_226_0; try simp only [mi_87, fl_87_46, mi_122, ml_122, fl_122, up_122, e, true_and, and_true, true_or, or_true, implies_true, b10_0, b10_1])
        | (apply s_226_9; try simp only [mi_87, fl_87_46, mi_122, ml_122, fl_122, up_122, e, true_and, and_true, true_or, or_true, implies_true, b10_0, b10_1])
        | (refine c144 X _ _ _ _ _ _ (by omega) ?_)
        | (refine And.intro ?_ ?_)
        | (intro _)
        | omega
        | (unfold r32; omega)
        | (exact hQ)
        | (exact qe hQ (by omega))
        | (exact qe hQ (by (repeat' split) <;> omega))
        | (exact b01))
  · refine ⟨-1002, ?_, ?_⟩
    · intro d Q hd hQ
      repeat' (first
        | (exfalso; omega)
        | (exact absurd trivial (by assumption))
        | (apply s_127_0; try simp only [mi_1, fl_1_6, mi_50, fl_50_0, mi_51, ml_51, fl_51, up_51, true_and, and_true, true_or, or_true, implies_true, b10_0, b10_1])
        | (apply s_127_7; try simp only [mi_1, fl_1_6, mi_50, fl_50_0, mi_51, ml_51, fl_51, up_51, true_and, and_true, true_or, or_true, implies_true, b10_0, b10_1])
        | (refine c130 X _ _ _ _ _ _ (by omega) ?_)
        | (refine And.intro ?_ ?_)
        | (intro _)
        | omega
        | (unfold r32; omega)
        | (exact hQ)
        | (exact qe hQ (by omega))
        | (exact qe hQ (by (repeat' split) <;> omega))
        | (exact b01))
    · intro d Q hd hQ
      repeat' (first
        | (exfalso; omega)
        | (exact absurd trivial (by assumption))
        | (apply s_226_0; try simp only [mi_87, fl_87_46, mi_122, ml_122, fl_122, up_122, true_and, and_true, true_or, or_true, implies_true, b10_0, b10_1])
        | (apply s_226_9; try simp only [mi_87, fl_87_46, mi_122, ml_122, fl_122, up_122, true_and, and_true, true_or, or_true, implies_true, b10_0, b10_1])
        | (refine c144 X _ _ _ _ _ _ (by omega) ?_)
        | (refine And.intro ?_ ?_)
        | (intro _)
        | omega
        | (unfold r32; omega)
        | (exact hQ)
        | (exact qe hQ (by omega))
        | (exact qe hQ (by (repeat' split) <;> omega))
        | (exact b01))
theorem T_due (X : mX) (g : mF) (t : Int) (hI : Irule g) (hS : Iseason g) : ∃ r, Ret X 60 128 [(2, 1), (0, t)] g (some (0, r)) g ∧ Ret X 60 227 [(2, 87), (0, t)] g (some (0, r)) g := by
  obtain ⟨h1, -⟩ := hI
  have hN := hS.2
  have hM : 30 ≤ g 86 42 ∧ g 86 42 ≤ 90 := by rw [hS.1]; exact hN
  have hk := wdn_le (g 0 10) (t % 720) 11
  by_cases ht : 0 ≤ t ∧ t ≤ 20000
  · have e := (h1 (wdn (g 0 10) (t % 720) 11).toNat (by omega)).1
    have e2 := hS.1
    have m1 := mi_51
    have m2 := ml_51
    have m3 := fl_51
    have m4 := mi_122
    have m5 := ml_122
    have m6 := fl_122
    refine ⟨g 50 (wdn (g 0 10) (t % 720) 11).toNat, ?_, ?_⟩
    · intro d Q hd hQ
      repeat' (first
        | (exfalso; omega)
        | (exact absurd trivial (by assumption))
        | (apply s_128_0; try simp only [mi_1, fl_1_6, mi_50, fl_50_0, mi_51, ml_51, fl_51, up_51, m1, m2, m3, true_and, and_true, true_or, or_true, implies_true, b10_0, b10_1])
        | (apply s_128_8; try simp only [mi_1, fl_1_6, mi_50, fl_50_0, mi_51, ml_51, fl_51, up_51, m1, m2, m3, true_and, and_true, true_or, or_true, implies_true, b10_0, b10_1])
        | (apply s_128_27; try simp only [mi_1, fl_1_6, mi_50, fl_50_0, mi_51, ml_51, fl_51, up_51, m1, m2, m3, true_and, and_true, true_or, or_true, implies_true, b10_0, b10_1])
        | (refine c130 X _ _ _ _ _ _ (by omega) ?_)
        | (refine c142 X _ _ hN ht _ _ (by omega) ?_)
        | (refine And.intro ?_ ?_)
        | (intro _)
        | omega
        | (unfold r32; omega)
        | (exact hQ)
        | (exact qe hQ (by omega))
        | (exact qe hQ (by (repeat' split) <;> omega))
        | (exact b01))
    · intro d Q hd hQ
      have c := c215 X g t hM ht
      rw [e2] at c
      repeat' (first
        | (exfalso; omega)
        | (exact absurd trivial (by assumption))
        | (apply s_227_0; try simp only [mi_87, fl_87_46, mi_122, ml_122, fl_122, up_122, m4, m5, m6, e, true_and, and_true, true_or, or_true, implies_true, b10_0, b10_1])
        | (apply s_227_9; try simp only [mi_87, fl_87_46, mi_122, ml_122, fl_122, up_122, m4, m5, m6, e, true_and, and_true, true_or, or_true, implies_true, b10_0, b10_1])
        | (apply s_227_21; try simp only [mi_87, fl_87_46, mi_122, ml_122, fl_122, up_122, m4, m5, m6, e, true_and, and_true, true_or, or_true, implies_true, b10_0, b10_1])
        | (refine c144 X _ _ _ _ _ _ (by omega) ?_)
        | (refine c _ _ (by omega) ?_)
        | (refine And.intro ?_ ?_)
        | (intro _)
        | omega
        | (unfold r32; omega)
        | (exact hQ)
        | (exact qe hQ (by omega))
        | (exact qe hQ (by (repeat' split) <;> omega))
        | (exact b01))
  · refine ⟨-1002, ?_, ?_⟩
    · intro d Q hd hQ
      repeat' (first
        | (exfalso; omega)
        | (exact absurd trivial (by assumption))
        | (apply s_128_0; try simp only [mi_1, fl_1_6, mi_50, fl_50_0, mi_51, ml_51, fl_51, up_51, true_and, and_true, true_or, or_true, implies_true, b10_0, b10_1])
        | (apply s_128_8; try simp only [mi_1, fl_1_6, mi_50, fl_50_0, mi_51, ml_51, fl_51, up_51, true_and, and_true, true_or, or_true, implies_true, b10_0, b10_1])
        | (apply s_128_27; try simp only [mi_1, fl_1_6, mi_50, fl_50_0, mi_51, ml_51, fl_51, up_51, true_and, and_true, true_or, or_true, implies_true, b10_0, b10_1])
        | (refine c130 X _ _ _ _ _ _ (by omega) ?_)
        | (refine And.intro ?_ ?_)
        | (intro _)
        | omega
        | (unfold r32; omega)
        | (exact hQ)
        | (exact qe hQ (by omega))
        | (exact qe hQ (by (repeat' split) <;> omega))
        | (exact b01))
    · intro d Q hd hQ
      repeat' (first
        | (exfalso; omega)
        | (exact absurd trivial (by assumption))
        | (apply s_227_0; try simp only [mi_87, fl_87_46, mi_122, ml_122, fl_122, up_122, true_and, and_true, true_or, or_true, implies_true, b10_0, b10_1])
        | (apply s_227_9; try simp only [mi_87, fl_87_46, mi_122, ml_122, fl_122, up_122, true_and, and_true, true_or, or_true, implies_true, b10_0, b10_1])
        | (apply s_227_21; try simp only [mi_87, fl_87_46, mi_122, ml_122, fl_122, up_122, true_and, and_true, true_or, or_true, implies_true, b10_0, b10_1])
        | (refine c144 X _ _ _ _ _ _ (by omega) ?_)
        | (refine And.intro ?_ ?_)
        | (intro _)
        | omega
        | (unfold r32; omega)
        | (exact hQ)
        | (exact qe hQ (by omega))
        | (exact qe hQ (by (repeat' split) <;> omega))
        | (exact b01))
theorem T_fault (X : mX) (g : mF) (hI : Irule g) : ∃ r, Ret X 60 126 [(2, 1)] g (some (0, r)) g ∧ Ret X 60 225 [(2, 87)] g (some (0, r)) g := by
  obtain ⟨-, -, -, -, -, e, -⟩ := hI
  refine ⟨g 49 2, ?_, ?_⟩
  · intro d Q hd hQ
    repeat' (first
      | (exfalso; omega)
      | (exact absurd trivial (by assumption))
      | (apply s_126_0; try simp only [mi_1, fl_1_6, mi_50, fl_50_2, up_50_2, true_and, and_true, true_or, or_true, implies_true, b10_0, b10_1])
      | (refine And.intro ?_ ?_)
      | (intro _)
      | omega
      | (unfold r32; omega)
      | (exact hQ)
      | (exact qe hQ (by omega))
      | (exact qe hQ (by (repeat' split) <;> omega))
      | (exact b01))
  · intro d Q hd hQ
    repeat' (first
      | (exfalso; omega)
      | (exact absurd trivial (by assumption))
      | (apply s_225_0; try simp only [mi_87, fl_87_45, up_87_45, e, true_and, and_true, true_or, or_true, implies_true, b10_0, b10_1])
      | (refine And.intro ?_ ?_)
      | (intro _)
      | omega
      | (unfold r32; omega)
      | (exact hQ)
      | (exact qe hQ (by omega))
      | (exact qe hQ (by (repeat' split) <;> omega))
      | (exact b01))
