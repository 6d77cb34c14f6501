/-! pouring; a square of a path -/
theorem T_pour (X : mX) (g : mF) (a b p v : Int) {n : Nat} (hI : Istore n g) : ∃ r g1 g2, Ret X 60 98 [(2, 1), (0, a), (0, b), (0, p), (0, v)] g (some (0, r)) g1 ∧ Ret X 60 171 [(2, 87), (0, a), (0, b), (0, p), (0, v)] g1 (some (0, r)) g2 ∧ Istore (n + 1) g2 ∧ Chg (fun o _ => o = 9 ∨ o = 96) g g2 := by
  by_cases h : (0 ≤ a ∧ a ≤ 3) ∧ (0 ≤ b ∧ b ≤ 3) ∧ (0 ≤ p ∧ p ≤ 7)
  · obtain ⟨ha, hb, hp⟩ := h
    by_cases hv : (1 ≤ v ∧ v ≤ 99) ∧ a ≠ b
    · have za := hI.1 (8 * a + p).toNat (by omega)
      have zb := hI.1 (8 * b + p).toNat (by omega)
      have ea := za.1
      have eb := zb.1
      by_cases hl : v ≤ g 9 (8 * a + p).toNat
      · by_cases hf : g 9 (8 * b + p).toNat + v ≤ 999
        · generalize hga : mup g 9 (8 * a + p).toNat (g 9 (8 * a + p).toNat - v) = ga
          have sa : ga 9 (8 * b + p).toNat = g 9 (8 * b + p).toNat := by rw [← hga, mup_n (by omega)]
          generalize hg1 : mup ga 9 (8 * b + p).toNat (g 9 (8 * b + p).toNat + v) = g1
          have s1 : ∀ k, g1 96 k = g 96 k := fun k => by rw [← hg1, mup_n (by omega), ← hga, mup_n (by omega)]
          generalize hgb : mup g1 96 (8 * a + p).toNat (g 9 (8 * a + p).toNat - v) = gb
          have sb : gb 96 (8 * b + p).toNat = g 9 (8 * b + p).toNat := by rw [← hgb, mup_n (by omega), s1, eb]
          generalize hg2 : mup gb 96 (8 * b + p).toNat (g 9 (8 * b + p).toNat + v) = g2
          have fo : ∀ o k, ¬ (o = 9 ∨ o = 96) → g2 o k = g o k := by
            intro o k ho
            rw [← hg2, mup_n (by omega), ← hgb, mup_n (by omega), ← hg1, mup_n (by omega), ← hga, mup_n (by omega)]
          have f9 : ∀ k, g2 9 k = if k = (8 * b + p).toNat then g 9 (8 * b + p).toNat + v else if k = (8 * a + p).toNat then g 9 (8 * a + p).toNat - v else g 9 k := by
            intro k
            rw [← hg2, mup_n (by omega), ← hgb, mup_n (by omega), ← hg1, ← hga]
            simp [mup]
          have f96 : ∀ k, g2 96 k = if k = (8 * b + p).toNat then g 9 (8 * b + p).toNat + v else if k = (8 * a + p).toNat then g 9 (8 * a + p).toNat - v else g 96 k := by
            intro k
            rw [← hg2, ← hgb, ← hg1, ← hga]
            simp [mup]
          have fc : ∀ c q, c < 4 → celp g2 c q = celp g c q := fun c q hc => celp_congr (fo _ _ (by omega)) (fun k => fo _ _ (by omega))
          refine ⟨1, g1, g2, ?_, ?_, ?_, fun o k ho => fo o k ho⟩
          · intro d Q hd hQ
            have c1 := c79 X g a p (-v) ha hp (by unfold r32; omega)
            rw [show g 9 (8 * a + p).toNat + -v = g 9 (8 * a + p).toNat - v by omega, hga] at c1
            have c2 := c79 X ga b p v hb hp (by unfold r32; omega)
            rw [sa, hg1] at c2
            repeat' (first
              | (exfalso; omega)
              | (exact absurd trivial (by assumption))
              | (apply s_98_0; try simp only [mi_1, fl_1_3, mi_9, true_and, and_true, true_or, or_true, implies_true, b10_0, b10_1])
              | (apply s_98_4; try simp only [mi_1, fl_1_3, mi_9, true_and, and_true, true_or, or_true, implies_true, b10_0, b10_1])
              | (apply s_98_11; try simp only [mi_1, fl_1_3, mi_9, true_and, and_true, true_or, or_true, implies_true, b10_0, b10_1])
              | (apply s_98_18; try simp only [mi_1, fl_1_3, mi_9, true_and, and_true, true_or, or_true, implies_true, b10_0, b10_1])
              | (apply s_98_33; try simp only [mi_1, fl_1_3, mi_9, true_and, and_true, true_or, or_true, implies_true, b10_0, b10_1])
              | (apply s_98_54; try simp only [mi_1, fl_1_3, mi_9, true_and, and_true, true_or, or_true, implies_true, b10_0, b10_1])
              | (apply s_98_72; try simp only [mi_1, fl_1_3, mi_9, true_and, and_true, true_or, or_true, implies_true, b10_0, b10_1])
              | (apply s_98_97; try simp only [mi_1, fl_1_3, mi_9, true_and, and_true, true_or, or_true, implies_true, b10_0, b10_1])
              | (apply s_98_108; try simp only [mi_1, fl_1_3, mi_9, true_and, and_true, true_or, or_true, implies_true, b10_0, b10_1])
              | (refine c132 X _ _ _ _ (by omega) ?_)
              | (refine c131 X _ _ _ _ (by omega) ?_)
              | (refine c130 X _ _ _ _ _ _ (by omega) ?_)
              | (refine c1 _ _ (by omega) ?_)
              | (refine c2 _ _ (by omega) ?_)
              | (refine c78 X g _ _ (by omega) (by omega) _ _ (by omega) ?_)
              | (refine And.intro ?_ ?_)
              | (intro _)
              | omega
              | (unfold r32; omega)
              | (exact hQ)
              | (exact qe hQ (by omega))
              | (exact qe hQ (by (repeat' split) <;> omega))
              | (exact b01))
          · intro d Q hd hQ
            repeat' (first
              | (exfalso; omega)
              | (exact absurd trivial (by assumption))
              | (apply s_171_0; try simp only [mi_87, fl_87_11, mi_97, ml_97, fl_97, up_97, s1, ea, eb, hgb, sb, hg2, true_and, and_true, true_or, or_true, implies_true, b10_0, b10_1])
              | (apply s_171_4; try simp only [mi_87, fl_87_11, mi_97, ml_97, fl_97, up_97, s1, ea, eb, hgb, sb, hg2, true_and, and_true, true_or, or_true, implies_true, b10_0, b10_1])
              | (apply s_171_11; try simp only [mi_87, fl_87_11, mi_97, ml_97, fl_97, up_97, s1, ea, eb, hgb, sb, hg2, true_and, and_true, true_or, or_true, implies_true, b10_0, b10_1])
              | (apply s_171_18; try simp only [mi_87, fl_87_11, mi_97, ml_97, fl_97, up_97, s1, ea, eb, hgb, sb, hg2, true_and, and_true, true_or, or_true, implies_true, b10_0, b10_1])
              | (apply s_171_40; try simp only [mi_87, fl_87_11, mi_97, ml_97, fl_97, up_97, s1, ea, eb, hgb, sb, hg2, true_and, and_true, true_or, or_true, implies_true, b10_0, b10_1])
              | (apply s_171_107; try simp only [mi_87, fl_87_11, mi_97, ml_97, fl_97, up_97, s1, ea, eb, hgb, sb, hg2, true_and, and_true, true_or, or_true, implies_true, b10_0, b10_1])
              | (refine c166 X _ _ _ _ (by omega) ?_)
              | (refine c165 X _ _ _ _ (by omega) ?_)
              | (refine c144 X _ _ _ _ _ _ (by omega) ?_)
              | (refine And.intro ?_ ?_)
              | (intro _)
              | omega
              | (unfold r32; omega)
              | (exact hQ)
              | (exact qe hQ (by omega))
              | (exact qe hQ (by (repeat' split) <;> omega))
              | (exact b01))
          · refine ⟨fun j hj => ?_, fun q hq => ?_, fun q hq => ?_⟩
            · have u := hI.1 j hj
              rw [f9, f96]
              (repeat' split) <;> omega
            · rw [fo 98 q (by omega), fo 10 q (by omega)]
              exact hI.2.1 q hq
            · have u := hI.2.2 q hq
              rw [fc 0 _ (by omega), fc 1 _ (by omega), fc 2 _ (by omega), fc 3 _ (by omega), fo 10 q (by omega), fo 97 q (by omega), f9, f9, f9, f9]
              by_cases hqp : q = p.toNat
              · subst hqp
                have i0 : a = 0 ∨ a = 1 ∨ a = 2 ∨ a = 3 := by omega
                have i1 : b = 0 ∨ b = 1 ∨ b = 2 ∨ b = 3 := by omega
                have r0 : (8 * 0 + p).toNat = p.toNat := by omega
                have r1 : (8 * 1 + p).toNat = 8 + p.toNat := by omega
                have r2 : (8 * 2 + p).toNat = 16 + p.toNat := by omega
                have r3 : (8 * 3 + p).toNat = 24 + p.toNat := by omega
                rcases i0 with i0 | i0 | i0 | i0 <;> rcases i1 with i1 | i1 | i1 | i1 <;> subst i0 <;> subst i1 <;> simp only [r0, r1, r2, r3] <;> (repeat' split) <;> omega
              · rw [if_neg (by omega), if_neg (by omega), if_neg (by omega), if_neg (by omega), if_neg (by omega), if_neg (by omega), if_neg (by omega), if_neg (by omega)]
                omega
        · refine ⟨-1004, g, g, ?_, ?_, Istore_le hI, Chg_w Chg_r (fun _ _ z => z.elim)⟩
          · intro d Q hd hQ
            repeat' (first
              | (exfalso; omega)
              | (exact absurd trivial (by assumption))
              | (apply s_98_0; try simp only [mi_1, fl_1_3, mi_9, true_and, and_true, true_or, or_true, implies_true, b10_0, b10_1])
              | (apply s_98_4; try simp only [mi_1, fl_1_3, mi_9, true_and, and_true, true_or, or_true, implies_true, b10_0, b10_1])
              | (apply s_98_11; try simp only [mi_1, fl_1_3, mi_9, true_and, and_true, true_or, or_true, implies_true, b10_0, b10_1])
              | (apply s_98_18; try simp only [mi_1, fl_1_3, mi_9, true_and, and_true, true_or, or_true, implies_true, b10_0, b10_1])
              | (apply s_98_33; try simp only [mi_1, fl_1_3, mi_9, true_and, and_true, true_or, or_true, implies_true, b10_0, b10_1])
              | (apply s_98_54; try simp only [mi_1, fl_1_3, mi_9, true_and, and_true, true_or, or_true, implies_true, b10_0, b10_1])
              | (apply s_98_72; try simp only [mi_1, fl_1_3, mi_9, true_and, and_true, true_or, or_true, implies_true, b10_0, b10_1])
              | (apply s_98_97; try simp only [mi_1, fl_1_3, mi_9, true_and, and_true, true_or, or_true, implies_true, b10_0, b10_1])
              | (apply s_98_108; try simp only [mi_1, fl_1_3, mi_9, true_and, and_true, true_or, or_true, implies_true, b10_0, b10_1])
              | (refine c132 X _ _ _ _ (by omega) ?_)
              | (refine c131 X _ _ _ _ (by omega) ?_)
              | (refine c130 X _ _ _ _ _ _ (by omega) ?_)
              | (refine c78 X g _ _ (by omega) (by omega) _ _ (by omega) ?_)
              | (refine And.intro ?_ ?_)
              | (intro _)
              | omega
              | (unfold r32; omega)
              | (exact hQ)
              | (exact qe hQ (by omega))
              | (exact qe hQ (by (repeat' split) <;> omega))
              | (exact b01))
          · intro d Q hd hQ
            repeat' (first
              | (exfalso; omega)
              | (exact absurd trivial (by assumption))
              | (apply s_171_0; try simp only [mi_87, fl_87_11, mi_97, ml_97, fl_97, up_97, ea, eb, true_and, and_true, true_or, or_true, implies_true, b10_0, b10_1])
              | (apply s_171_4; try simp only [mi_87, fl_87_11, mi_97, ml_97, fl_97, up_97, ea, eb, true_and, and_true, true_or, or_true, implies_true, b10_0, b10_1])
              | (apply s_171_11; try simp only [mi_87, fl_87_11, mi_97, ml_97, fl_97, up_97, ea, eb, true_and, and_true, true_or, or_true, implies_true, b10_0, b10_1])
              | (apply s_171_18; try simp only [mi_87, fl_87_11, mi_97, ml_97, fl_97, up_97, ea, eb, true_and, and_true, true_or, or_true, implies_true, b10_0, b10_1])
              | (apply s_171_40; try simp only [mi_87, fl_87_11, mi_97, ml_97, fl_97, up_97, ea, eb, true_and, and_true, true_or, or_true, implies_true, b10_0, b10_1])
              | (apply s_171_107; try simp only [mi_87, fl_87_11, mi_97, ml_97, fl_97, up_97, ea, eb, true_and, and_true, true_or, or_true, implies_true, b10_0, b10_1])
              | (refine c166 X _ _ _ _ (by omega) ?_)
              | (refine c165 X _ _ _ _ (by omega) ?_)
              | (refine c144 X _ _ _ _ _ _ (by omega) ?_)
              | (refine And.intro ?_ ?_)
              | (intro _)
              | omega
              | (unfold r32; omega)
              | (exact hQ)
              | (exact qe hQ (by omega))
              | (exact qe hQ (by (repeat' split) <;> omega))
              | (exact b01))
      · refine ⟨-1003, g, g, ?_, ?_, Istore_le hI, Chg_w Chg_r (fun _ _ z => z.elim)⟩
        · intro d Q hd hQ
          repeat' (first
            | (exfalso; omega)
            | (exact absurd trivial (by assumption))
            | (apply s_98_0; try simp only [mi_1, fl_1_3, mi_9, true_and, and_true, true_or, or_true, implies_true, b10_0, b10_1])
            | (apply s_98_4; try simp only [mi_1, fl_1_3, mi_9, true_and, and_true, true_or, or_true, implies_true, b10_0, b10_1])
            | (apply s_98_11; try simp only [mi_1, fl_1_3, mi_9, true_and, and_true, true_or, or_true, implies_true, b10_0, b10_1])
            | (apply s_98_18; try simp only [mi_1, fl_1_3, mi_9, true_and, and_true, true_or, or_true, implies_true, b10_0, b10_1])
            | (apply s_98_33; try simp only [mi_1, fl_1_3, mi_9, true_and, and_true, true_or, or_true, implies_true, b10_0, b10_1])
            | (apply s_98_54; try simp only [mi_1, fl_1_3, mi_9, true_and, and_true, true_or, or_true, implies_true, b10_0, b10_1])
            | (apply s_98_72; try simp only [mi_1, fl_1_3, mi_9, true_and, and_true, true_or, or_true, implies_true, b10_0, b10_1])
            | (apply s_98_97; try simp only [mi_1, fl_1_3, mi_9, true_and, and_true, true_or, or_true, implies_true, b10_0, b10_1])
            | (apply s_98_108; try simp only [mi_1, fl_1_3, mi_9, true_and, and_true, true_or, or_true, implies_true, b10_0, b10_1])
            | (refine c132 X _ _ _ _ (by omega) ?_)
            | (refine c131 X _ _ _ _ (by omega) ?_)
            | (refine c130 X _ _ _ _ _ _ (by omega) ?_)
            | (refine c78 X g _ _ (by omega) (by omega) _ _ (by omega) ?_)
            | (refine And.intro ?_ ?_)
            | (intro _)
            | omega
            | (unfold r32; omega)
            | (exact hQ)
            | (exact qe hQ (by omega))
            | (exact qe hQ (by (repeat' split) <;> omega))
            | (exact b01))
        · intro d Q hd hQ
          repeat' (first
            | (exfalso; omega)
            | (exact absurd trivial (by assumption))
            | (apply s_171_0; try simp only [mi_87, fl_87_11, mi_97, ml_97, fl_97, up_97, ea, eb, true_and, and_true, true_or, or_true, implies_true, b10_0, b10_1])
            | (apply s_171_4; try simp only [mi_87, fl_87_11, mi_97, ml_97, fl_97, up_97, ea, eb, true_and, and_true, true_or, or_true, implies_true, b10_0, b10_1])
            | (apply s_171_11; try simp only [mi_87, fl_87_11, mi_97, ml_97, fl_97, up_97, ea, eb, true_and, and_true, true_or, or_true, implies_true, b10_0, b10_1])
            | (apply s_171_18; try simp only [mi_87, fl_87_11, mi_97, ml_97, fl_97, up_97, ea, eb, true_and, and_true, true_or, or_true, implies_true, b10_0, b10_1])
            | (apply s_171_40; try simp only [mi_87, fl_87_11, mi_97, ml_97, fl_97, up_97, ea, eb, true_and, and_true, true_or, or_true, implies_true, b10_0, b10_1])
            | (apply s_171_107; try simp only [mi_87, fl_87_11, mi_97, ml_97, fl_97, up_97, ea, eb, true_and, and_true, true_or, or_true, implies_true, b10_0, b10_1])
            | (refine c166 X _ _ _ _ (by omega) ?_)
            | (refine c165 X _ _ _ _ (by omega) ?_)
            | (refine c144 X _ _ _ _ _ _ (by omega) ?_)
            | (refine And.intro ?_ ?_)
            | (intro _)
            | omega
            | (unfold r32; omega)
            | (exact hQ)
            | (exact qe hQ (by omega))
            | (exact qe hQ (by (repeat' split) <;> omega))
            | (exact b01))
    · refine ⟨-1002, g, g, ?_, ?_, Istore_le hI, Chg_w Chg_r (fun _ _ z => z.elim)⟩
      · intro d Q hd hQ
        repeat' (first
          | (exfalso; omega)
          | (exact absurd trivial (by assumption))
          | (apply s_98_0; try simp only [mi_1, fl_1_3, mi_9, true_and, and_true, true_or, or_true, implies_true, b10_0, b10_1])
          | (apply s_98_4; try simp only [mi_1, fl_1_3, mi_9, true_and, and_true, true_or, or_true, implies_true, b10_0, b10_1])
          | (apply s_98_11; try simp only [mi_1, fl_1_3, mi_9, true_and, and_true, true_or, or_true, implies_true, b10_0, b10_1])
          | (apply s_98_18; try simp only [mi_1, fl_1_3, mi_9, true_and, and_true, true_or, or_true, implies_true, b10_0, b10_1])
          | (apply s_98_33; try simp only [mi_1, fl_1_3, mi_9, true_and, and_true, true_or, or_true, implies_true, b10_0, b10_1])
          | (apply s_98_54; try simp only [mi_1, fl_1_3, mi_9, true_and, and_true, true_or, or_true, implies_true, b10_0, b10_1])
          | (apply s_98_72; try simp only [mi_1, fl_1_3, mi_9, true_and, and_true, true_or, or_true, implies_true, b10_0, b10_1])
          | (apply s_98_97; try simp only [mi_1, fl_1_3, mi_9, true_and, and_true, true_or, or_true, implies_true, b10_0, b10_1])
          | (apply s_98_108; try simp only [mi_1, fl_1_3, mi_9, true_and, and_true, true_or, or_true, implies_true, b10_0, b10_1])
          | (refine c132 X _ _ _ _ (by omega) ?_)
          | (refine c131 X _ _ _ _ (by omega) ?_)
          | (refine c130 X _ _ _ _ _ _ (by omega) ?_)
          | (refine And.intro ?_ ?_)
          | (intro _)
          | omega
          | (unfold r32; omega)
          | (exact hQ)
          | (exact qe hQ (by omega))
          | (exact qe hQ (by (repeat' split) <;> omega))
          | (exact b01))
      · intro d Q hd hQ
        repeat' (first
          | (exfalso; omega)
          | (exact absurd trivial (by assumption))
          | (apply s_171_0; try simp only [mi_87, fl_87_11, mi_97, ml_97, fl_97, up_97, true_and, and_true, true_or, or_true, implies_true, b10_0, b10_1])
          | (apply s_171_4; try simp only [mi_87, fl_87_11, mi_97, ml_97, fl_97, up_97, true_and, and_true, true_or, or_true, implies_true, b10_0, b10_1])
          | (apply s_171_11; try simp only [mi_87, fl_87_11, mi_97, ml_97, fl_97, up_97, true_and, and_true, true_or, or_true, implies_true, b10_0, b10_1])
          | (apply s_171_18; try simp only [mi_87, fl_87_11, mi_97, ml_97, fl_97, up_97, true_and, and_true, true_or, or_true, implies_true, b10_0, b10_1])
          | (apply s_171_40; try simp only [mi_87, fl_87_11, mi_97, ml_97, fl_97, up_97, true_and, and_true, true_or, or_true, implies_true, b10_0, b10_1])
          | (apply s_171_107; try simp only [mi_87, fl_87_11, mi_97, ml_97, fl_97, up_97, true_and, and_true, true_or, or_true, implies_true, b10_0, b10_1])
          | (refine c166 X _ _ _ _ (by omega) ?_)
          | (refine c165 X _ _ _ _ (by omega) ?_)
          | (refine c144 X _ _ _ _ _ _ (by omega) ?_)
          | (refine And.intro ?_ ?_)
          | (intro _)
          | omega
          | (unfold r32; omega)
          | (exact hQ)
          | (exact qe hQ (by omega))
          | (exact qe hQ (by (repeat' split) <;> omega))
          | (exact b01))
  · refine ⟨-1001, g, g, ?_, ?_, Istore_le hI, Chg_w Chg_r (fun _ _ z => z.elim)⟩
    · intro d Q hd hQ
      repeat' (first
        | (exfalso; omega)
        | (exact absurd trivial (by assumption))
        | (apply s_98_0; try simp only [mi_1, fl_1_3, mi_9, true_and, and_true, true_or, or_true, implies_true, b10_0, b10_1])
        | (apply s_98_4; try simp only [mi_1, fl_1_3, mi_9, true_and, and_true, true_or, or_true, implies_true, b10_0, b10_1])
        | (apply s_98_11; try simp only [mi_1, fl_1_3, mi_9, true_and, and_true, true_or, or_true, implies_true, b10_0, b10_1])
        | (apply s_98_18; try simp only [mi_1, fl_1_3, mi_9, true_and, and_true, true_or, or_true, implies_true, b10_0, b10_1])
        | (apply s_98_33; try simp only [mi_1, fl_1_3, mi_9, true_and, and_true, true_or, or_true, implies_true, b10_0, b10_1])
        | (apply s_98_54; try simp only [mi_1, fl_1_3, mi_9, true_and, and_true, true_or, or_true, implies_true, b10_0, b10_1])
        | (apply s_98_72; try simp only [mi_1, fl_1_3, mi_9, true_and, and_true, true_or, or_true, implies_true, b10_0, b10_1])
        | (apply s_98_97; try simp only [mi_1, fl_1_3, mi_9, true_and, and_true, true_or, or_true, implies_true, b10_0, b10_1])
        | (apply s_98_108; try simp only [mi_1, fl_1_3, mi_9, true_and, and_true, true_or, or_true, implies_true, b10_0, b10_1])
        | (refine c132 X _ _ _ _ (by omega) ?_)
        | (refine c131 X _ _ _ _ (by omega) ?_)
        | (refine c130 X _ _ _ _ _ _ (by omega) ?_)
        | (refine And.intro ?_ ?_)
        | (intro _)
        | omega
        | (unfold r32; omega)
        | (exact hQ)
        | (exact qe hQ (by omega))
        | (exact qe hQ (by (repeat' split) <;> omega))
        | (exact b01))
    · intro d Q hd hQ
      repeat' (first
        | (exfalso; omega)
        | (exact absurd trivial (by assumption))
        | (apply s_171_0; try simp only [mi_87, fl_87_11, mi_97, ml_97, fl_97, up_97, true_and, and_true, true_or, or_true, implies_true, b10_0, b10_1])
        | (apply s_171_4; try simp only [mi_87, fl_87_11, mi_97, ml_97, fl_97, up_97, true_and, and_true, true_or, or_true, implies_true, b10_0, b10_1])
        | (apply s_171_11; try simp only [mi_87, fl_87_11, mi_97, ml_97, fl_97, up_97, true_and, and_true, true_or, or_true, implies_true, b10_0, b10_1])
        | (apply s_171_18; try simp only [mi_87, fl_87_11, mi_97, ml_97, fl_97, up_97, true_and, and_true, true_or, or_true, implies_true, b10_0, b10_1])
        | (apply s_171_40; try simp only [mi_87, fl_87_11, mi_97, ml_97, fl_97, up_97, true_and, and_true, true_or, or_true, implies_true, b10_0, b10_1])
        | (apply s_171_107; try simp only [mi_87, fl_87_11, mi_97, ml_97, fl_97, up_97, true_and, and_true, true_or, or_true, implies_true, b10_0, b10_1])
        | (refine c166 X _ _ _ _ (by omega) ?_)
        | (refine c165 X _ _ _ _ (by omega) ?_)
        | (refine c144 X _ _ _ _ _ _ (by omega) ?_)
        | (refine And.intro ?_ ?_)
        | (intro _)
        | omega
        | (unfold r32; omega)
        | (exact hQ)
        | (exact qe hQ (by omega))
        | (exact qe hQ (by (repeat' split) <;> omega))
        | (exact b01))
/-- the part of what holds of a seal that speaks of sides and path -/
def Ipath (g : mF) (s : Nat) : Prop := (g 87 s = g (56 + 5 * s) 0 ∧ 1 ≤ g (56 + 5 * s) 0 ∧ g (56 + 5 * s) 0 ≤ 6) ∧ (g 88 s = g (56 + 5 * s) 1 ∧ 1 ≤ g (56 + 5 * s) 1 ∧ g (56 + 5 * s) 1 ≤ 6) ∧ (g 91 s = g (56 + 5 * s) 2 ∧ 0 ≤ g (56 + 5 * s) 2 ∧ g (56 + 5 * s) 2 ≤ 36) ∧ ∀ i : Nat, (i : Int) < g (56 + 5 * s) 2 → g 90 (36 * s + i) = g (57 + 5 * s) i ∧ 0 ≤ g (57 + 5 * s) i ∧ g (57 + 5 * s) i ≤ 35
theorem c135 (X : mX) (g : mF) {s : Nat} (hs : s < 6) : Ret X 0 135 [(2, 1), (0, (s : Int))] g (some (2, 57 + 5 * (s : Int))) g := by
  intro d Q hd hQ
  have e : ((s : Int)).toNat = s := by omega
  apply s_135_0
  try simp only [mi_1, fl_1_0, mi_2, ml_2, fl_2, e, hs, true_and, and_true, true_or, or_true, implies_true, b10_0, b10_1]
  repeat' (first | refine And.intro ?_ ?_ | intro _)
  all_goals (try (first | omega | (unfold r32; omega) | exact hQ | exact qe hQ (by omega) | exact qe hQ (by (repeat' split) <;> omega) | exact b01))
theorem c135n (X : mX) (g : mF) (a : Int) (h : ¬ (0 ≤ a ∧ a ≤ 5)) : Ret X 0 135 [(2, 1), (0, a)] g (some (2, 0)) g := by
  intro d Q hd hQ
  apply s_135_0
  try simp only [mi_1, fl_1_0, mi_2, ml_2, fl_2, true_and, and_true, true_or, or_true, implies_true, b10_0, b10_1]
  repeat' (first | refine And.intro ?_ ?_ | intro _)
  all_goals (try (first | omega | (unfold r32; omega) | exact hQ | exact qe hQ (by omega) | exact qe hQ (by (repeat' split) <;> omega) | exact b01))
/-- at -/
theorem T_at (X : mX) (g : mF) (a i : Int) (hI : ∀ s, s < 6 → Ipath g s) : ∃ r, Ret X 60 93 [(2, 1), (0, a), (0, i), (3, 0)] g (some (0, r)) g ∧ Ret X 60 164 [(2, 87), (0, a), (0, i)] g (some (0, r)) g := by
  by_cases ha : 0 ≤ a ∧ a ≤ 5
  · obtain ⟨s, rfl⟩ : ∃ s : Nat, a = (s : Int) := ⟨a.toNat, by omega⟩
    have hs : s < 6 := by omega
    obtain ⟨-, -, ⟨k1, k2, k3⟩, k4⟩ := hI s hs
    have e : ((s : Int)).toNat = s := by omega
    by_cases hi : 0 ≤ i ∧ i < g (56 + 5 * s) 2
    · have e2 : (36 * (s : Int) + i).toNat = 36 * s + i.toNat := by omega
      have e3 := (k4 i.toNat (by omega)).1
      refine ⟨g (57 + 5 * s) i.toNat, ?_, ?_⟩
      · intro d Q hd hQ
        repeat' (first
          | (exfalso; omega)
          | (exact absurd trivial (by assumption))
          | (apply s_93_0; try simp only [mi_1, sm_o, sl_2, su_2, sl_3, sm_3, sn_3, sa_3, sz_3, hs, true_and, and_true, true_or, or_true, implies_true, b10_0, b10_1])
          | (apply s_93_5; try simp only [mi_1, sm_o, sl_2, su_2, sl_3, sm_3, sn_3, sa_3, sz_3, hs, true_and, and_true, true_or, or_true, implies_true, b10_0, b10_1])
          | (refine c135 X g hs _ _ (by omega) ?_)
          | (refine And.intro ?_ ?_)
          | (intro _)
          | omega
          | (unfold r32; omega)
          | (exact hQ)
          | (exact qe hQ (by omega))
          | (exact qe hQ (by (repeat' split) <;> omega))
          | (exact b01))
      · intro d Q hd hQ
        repeat' (first
          | (exfalso; omega)
          | (exact absurd trivial (by assumption))
          | (apply s_164_0; try simp only [mi_87, fl_87_4, mi_92, ml_92, fl_92, up_92, fl_87_3, mi_91, ml_91, fl_91, up_91, e, k1, e2, e3, true_and, and_true, true_or, or_true, implies_true, b10_0, b10_1])
          | (apply s_164_4; try simp only [mi_87, fl_87_4, mi_92, ml_92, fl_92, up_92, fl_87_3, mi_91, ml_91, fl_91, up_91, e, k1, e2, e3, true_and, and_true, true_or, or_true, implies_true, b10_0, b10_1])
          | (apply s_164_26; try simp only [mi_87, fl_87_4, mi_92, ml_92, fl_92, up_92, fl_87_3, mi_91, ml_91, fl_91, up_91, e, k1, e2, e3, true_and, and_true, true_or, or_true, implies_true, b10_0, b10_1])
          | (refine c147 X _ _ _ _ (by omega) ?_)
          | (refine c144 X _ _ _ _ _ _ (by omega) ?_)
          | (refine And.intro ?_ ?_)
          | (intro _)
          | omega
          | (unfold r32; omega)
          | (exact hQ)
          | (exact qe hQ (by omega))
          | (exact qe hQ (by (repeat' split) <;> omega))
          | (exact b01))
    · refine ⟨-1, ?_, ?_⟩
      · intro d Q hd hQ
        repeat' (first
          | (exfalso; omega)
          | (exact absurd trivial (by assumption))
          | (apply s_93_0; try simp only [mi_1, sm_o, sl_2, su_2, sl_3, sm_3, sn_3, sa_3, sz_3, hs, true_and, and_true, true_or, or_true, implies_true, b10_0, b10_1])
          | (apply s_93_5; try simp only [mi_1, sm_o, sl_2, su_2, sl_3, sm_3, sn_3, sa_3, sz_3, hs, true_and, and_true, true_or, or_true, implies_true, b10_0, b10_1])
          | (refine c135 X g hs _ _ (by omega) ?_)
          | (refine And.intro ?_ ?_)
          | (intro _)
          | omega
          | (unfold r32; omega)
          | (exact hQ)
          | (exact qe hQ (by omega))
          | (exact qe hQ (by (repeat' split) <;> omega))
          | (exact b01))
      · intro d Q hd hQ
        repeat' (first
          | (exfalso; omega)
          | (exact absurd trivial (by assumption))
          | (apply s_164_0; try simp only [mi_87, fl_87_4, mi_92, ml_92, fl_92, up_92, fl_87_3, mi_91, ml_91, fl_91, up_91, e, k1, true_and, and_true, true_or, or_true, implies_true, b10_0, b10_1])
          | (apply s_164_4; try simp only [mi_87, fl_87_4, mi_92, ml_92, fl_92, up_92, fl_87_3, mi_91, ml_91, fl_91, up_91, e, k1, true_and, and_true, true_or, or_true, implies_true, b10_0, b10_1])
          | (apply s_164_26; try simp only [mi_87, fl_87_4, mi_92, ml_92, fl_92, up_92, fl_87_3, mi_91, ml_91, fl_91, up_91, e, k1, true_and, and_true, true_or, or_true, implies_true, b10_0, b10_1])
          | (refine c147 X _ _ _ _ (by omega) ?_)
          | (refine c144 X _ _ _ _ _ _ (by omega) ?_)
          | (refine And.intro ?_ ?_)
          | (intro _)
          | omega
          | (unfold r32; omega)
          | (exact hQ)
          | (exact qe hQ (by omega))
          | (exact qe hQ (by (repeat' split) <;> omega))
          | (exact b01))
  · refine ⟨-1001, ?_, ?_⟩
    · intro d Q hd hQ
      repeat' (first
        | (exfalso; omega)
        | (exact absurd trivial (by assumption))
        | (apply s_93_0; try simp only [mi_1, sm_o, sl_2, su_2, sl_3, sm_3, sn_3, sa_3, sz_3, true_and, and_true, true_or, or_true, implies_true, b10_0, b10_1])
        | (apply s_93_5; try simp only [mi_1, sm_o, sl_2, su_2, sl_3, sm_3, sn_3, sa_3, sz_3, true_and, and_true, true_or, or_true, implies_true, b10_0, b10_1])
        | (refine c135n X g _ ha _ _ (by omega) ?_)
        | (refine And.intro ?_ ?_)
        | (intro _)
        | omega
        | (unfold r32; omega)
        | (exact hQ)
        | (exact qe hQ (by omega))
        | (exact qe hQ (by (repeat' split) <;> omega))
        | (exact b01))
    · intro d Q hd hQ
      repeat' (first
        | (exfalso; omega)
        | (exact absurd trivial (by assumption))
        | (apply s_164_0; try simp only [mi_87, fl_87_4, mi_92, ml_92, fl_92, up_92, fl_87_3, mi_91, ml_91, fl_91, up_91, true_and, and_true, true_or, or_true, implies_true, b10_0, b10_1])
        | (apply s_164_4; try simp only [mi_87, fl_87_4, mi_92, ml_92, fl_92, up_92, fl_87_3, mi_91, ml_91, fl_91, up_91, true_and, and_true, true_or, or_true, implies_true, b10_0, b10_1])
        | (apply s_164_26; try simp only [mi_87, fl_87_4, mi_92, ml_92, fl_92, up_92, fl_87_3, mi_91, ml_91, fl_91, up_91, true_and, and_true, true_or, or_true, implies_true, b10_0, b10_1])
        | (refine c147 X _ _ _ _ (by omega) ?_)
        | (refine c144 X _ _ _ _ _ _ (by omega) ?_)
        | (refine And.intro ?_ ?_)
        | (intro _)
        | omega
        | (unfold r32; omega)
        | (exact hQ)
        | (exact qe hQ (by omega))
        | (exact qe hQ (by (repeat' split) <;> omega))
        | (exact b01))
