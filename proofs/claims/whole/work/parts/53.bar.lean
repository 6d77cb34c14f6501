/-! bar -/
theorem c148 (X : mX) (g : mF) {s : Nat} (hs : s < 6) (i : Int) (hI : Ipath g s) : Ret X 1 148 [(2, 87), (0, (s : Int)), (0, i)] g (some (0, if 0 ≤ i ∧ i < g (56 + 5 * s) 0 * g (56 + 5 * s) 1 then 1 else 0)) g := by
  intro d Q hd hQ
  have hb := mul_b hI.1.2 hI.2.1.2
  have e : ((s : Int)).toNat = s := by omega
  have p1 := hI.1.1
  have p2 := hI.2.1.1
  repeat' (first
    | (exfalso; omega)
    | (exact absurd trivial (by assumption))
    | (apply s_148_0; try simp only [mi_87, fl_87_0, mi_88, ml_88, fl_88, up_88, fl_87_1, mi_89, ml_89, fl_89, up_89, e, p1, p2, true_and, and_true, true_or, or_true, implies_true, b10_0, b10_1])
    | (apply s_148_22; try simp only [mi_87, fl_87_0, mi_88, ml_88, fl_88, up_88, fl_87_1, mi_89, ml_89, fl_89, up_89, e, p1, p2, true_and, and_true, true_or, or_true, implies_true, b10_0, b10_1])
    | (refine c144 X _ _ _ _ _ _ (by omega) ?_)
    | (refine And.intro ?_ ?_)
    | (intro _)
    | omega
    | (unfold r32; omega)
    | (exact hQ)
    | (exact qe hQ (by omega))
    | (exact qe hQ (by (repeat' split) <;> omega))
    | (exact b01))
theorem T_bar (X : mX) (g : mF) (a i z : Int) (hz : z = 0 ∨ z = 1) (hI : ∀ s, s < 6 → Iseal g s) : ∃ r g1 g2, Ret X 60 86 [(2, 1), (0, a), (0, i), (0, z), (3, 0), (3, 0)] g (some (0, r)) g1 ∧ Ret X 60 152 [(2, 87), (0, a), (0, i), (0, z), (3, 0)] g1 (some (0, r)) g2 ∧ (∀ s, s < 6 → Iseal g2 s) ∧ Chg (fun o _ => 56 ≤ o ∧ o < 86 ∨ o = 89) g g2 := by
  by_cases ha : 0 ≤ a ∧ a ≤ 5
  · obtain ⟨s, rfl⟩ : ∃ s : Nat, a = (s : Int) := ⟨a.toNat, by omega⟩
    have hs : s < 6 := by omega
    have e : ((s : Int)).toNat = s := by omega
    have hP := (hI s hs).1
    have hb := mul_b hP.1.2 hP.2.1.2
    by_cases hi : 0 ≤ i ∧ i < g (56 + 5 * s) 0 * g (56 + 5 * s) 1
    · obtain ⟨q, rfl⟩ : ∃ q : Nat, i = (q : Int) := ⟨i.toNat, by omega⟩
      have hq : q < 36 := by omega
      have eq : ((q : Int)).toNat = q := by omega
      have e2 : (36 * (s : Int) + (q : Int)).toNat = 36 * s + q := by omega
      have hB := (hI s hs).2.1 q hq
      have eB := hB.1
      have h4 := (hI s hs).2.2.2.1 q hq
      by_cases hp : g (58 + 5 * s) q = -1
      · generalize hg1 : mup g (59 + 5 * s) q z = g1
        generalize hg2 : mup g1 89 (36 * s + q) z = g2
        have fo1 : ∀ o k, ¬ (o = 59 + 5 * s ∧ k = q) → g1 o k = g o k := by
          intro o k ho
          rw [← hg1, mup_n (by omega)]
        have fo2 : ∀ o k, ¬ (o = 89 ∧ k = 36 * s + q) → g2 o k = g1 o k := by
          intro o k ho
          rw [← hg2, mup_n (by omega)]
        have v1 : g2 (59 + 5 * s) q = z := by rw [fo2 _ _ (by omega), ← hg1, mup_e]
        have v2 : g2 89 (36 * s + q) = z := by rw [← hg2, mup_e]
        have s0 : g1 89 (36 * s + q) = g (59 + 5 * s) q := by rw [fo1 _ _ (by omega), eB]
        have fo : ∀ o k, ¬ (o = 59 + 5 * s ∧ k = q ∨ o = 89 ∧ k = 36 * s + q) → g2 o k = g o k := by
          intro o k ho
          rw [fo2 o k (by omega), fo1 o k (by omega)]
        have hB2 : ∀ s', s' < 6 → Iseal g2 s' := by
          intro s' hs'
          by_cases hss : s' = s
          · subst hss
            obtain ⟨⟨p1, p2, p3, p4⟩, h2, h3, h4, h5, h6, h7⟩ := hI s' hs'
            have a0 : ∀ k, g2 (56 + 5 * s') k = g (56 + 5 * s') k := fun k => fo _ _ (by omega)
            have a1 : ∀ k, g2 (57 + 5 * s') k = g (57 + 5 * s') k := fun k => fo _ _ (by omega)
            have a2 : ∀ k, g2 (58 + 5 * s') k = g (58 + 5 * s') k := fun k => fo _ _ (by omega)
            have a4 : ∀ k, g2 (60 + 5 * s') k = g (60 + 5 * s') k := fun k => fo _ _ (by omega)
            have a5 : ∀ k, g2 90 k = g 90 k := fun k => fo _ _ (by omega)
            unfold Iseal Ipath
            simp only [a0, a1, a2, a4, a5, fo 87 s' (by omega), fo 88 s' (by omega), fo 91 s' (by omega)]
            refine ⟨⟨p1, p2, p3, p4⟩, fun k hk => ?_, fun k hk hl => ?_, h4, h5, h6, h7⟩
            · by_cases hkq : k = q
              · subst hkq
                rw [v1, v2]
                exact ⟨rfl, hz⟩
              · rw [fo 89 _ (by omega), fo (59 + 5 * s') _ (by omega)]
                exact h2 k hk
            · rw [fo (59 + 5 * s') _ (by omega)]
              exact h3 k hk hl
          · exact Iseal_fr hs' (fun o k ho => fo o k (by omega)) (hI s' hs')
        refine ⟨g (59 + 5 * s) q, g1, g2, ?_, ?_, hB2, fun o k ho => fo o k (by omega)⟩
        · intro d Q hd hQ
          rw [← hg1] at hQ
          rcases hz with rfl | rfl
          · skip
            repeat' (first
              | (exfalso; omega)
              | (exact absurd trivial (by assumption))
              | (apply s_86_0; try simp only [mi_1, sm_o, sl_4, sm_4, sn_4, sa_4, sz_4, sl_5, sm_5, sn_5, sa_5, sz_5, hs, eq, true_and, and_true, true_or, or_true, implies_true, b10_0, b10_1])
              | (apply s_86_5; try simp only [mi_1, sm_o, sl_4, sm_4, sn_4, sa_4, sz_4, sl_5, sm_5, sn_5, sa_5, sz_5, hs, eq, true_and, and_true, true_or, or_true, implies_true, b10_0, b10_1])
              | (apply s_86_22; try simp only [mi_1, sm_o, sl_4, sm_4, sn_4, sa_4, sz_4, sl_5, sm_5, sn_5, sa_5, sz_5, hs, eq, true_and, and_true, true_or, or_true, implies_true, b10_0, b10_1])
              | (apply s_86_53; try simp only [mi_1, sm_o, sl_4, sm_4, sn_4, sa_4, sz_4, sl_5, sm_5, sn_5, sa_5, sz_5, hs, eq, true_and, and_true, true_or, or_true, implies_true, b10_0, b10_1])
              | (apply s_86_68; try simp only [mi_1, sm_o, sl_4, sm_4, sn_4, sa_4, sz_4, sl_5, sm_5, sn_5, sa_5, sz_5, hs, eq, true_and, and_true, true_or, or_true, implies_true, b10_0, b10_1])
              | (refine c135 X g hs _ _ (by omega) ?_)
              | (refine c60 X g hs _ hP _ _ (by omega) ?_)
              | (refine And.intro ?_ ?_)
              | (intro _)
              | omega
              | (unfold r32; omega)
              | (exact hQ)
              | (exact qe hQ (by omega))
              | (exact qe hQ (by (repeat' split) <;> omega))
              | (exact b01))
          · skip
            repeat' (first
              | (exfalso; omega)
              | (exact absurd trivial (by assumption))
              | (apply s_86_0; try simp only [mi_1, sm_o, sl_4, sm_4, sn_4, sa_4, sz_4, sl_5, sm_5, sn_5, sa_5, sz_5, hs, eq, true_and, and_true, true_or, or_true, implies_true, b10_0, b10_1])
              | (apply s_86_5; try simp only [mi_1, sm_o, sl_4, sm_4, sn_4, sa_4, sz_4, sl_5, sm_5, sn_5, sa_5, sz_5, hs, eq, true_and, and_true, true_or, or_true, implies_true, b10_0, b10_1])
              | (apply s_86_22; try simp only [mi_1, sm_o, sl_4, sm_4, sn_4, sa_4, sz_4, sl_5, sm_5, sn_5, sa_5, sz_5, hs, eq, true_and, and_true, true_or, or_true, implies_true, b10_0, b10_1])
              | (apply s_86_53; try simp only [mi_1, sm_o, sl_4, sm_4, sn_4, sa_4, sz_4, sl_5, sm_5, sn_5, sa_5, sz_5, hs, eq, true_and, and_true, true_or, or_true, implies_true, b10_0, b10_1])
              | (apply s_86_68; try simp only [mi_1, sm_o, sl_4, sm_4, sn_4, sa_4, sz_4, sl_5, sm_5, sn_5, sa_5, sz_5, hs, eq, true_and, and_true, true_or, or_true, implies_true, b10_0, b10_1])
              | (refine c135 X g hs _ _ (by omega) ?_)
              | (refine c60 X g hs _ hP _ _ (by omega) ?_)
              | (refine And.intro ?_ ?_)
              | (intro _)
              | omega
              | (unfold r32; omega)
              | (exact hQ)
              | (exact qe hQ (by omega))
              | (exact qe hQ (by (repeat' split) <;> omega))
              | (exact b01))
        · intro d Q hd hQ
          have a0 : ∀ k, g1 (56 + 5 * s) k = g (56 + 5 * s) k := fun k => fo1 _ _ (by omega)
          have a1 : ∀ k, g1 (57 + 5 * s) k = g (57 + 5 * s) k := fun k => fo1 _ _ (by omega)
          have a2 : ∀ k, g1 (58 + 5 * s) k = g (58 + 5 * s) k := fun k => fo1 _ _ (by omega)
          have a5 : ∀ k, g1 90 k = g 90 k := fun k => fo1 _ _ (by omega)
          have hP1 : Ipath g1 s := by
            unfold Ipath at hP ⊢
            simp only [a0, a1, a5, fo1 87 s (by omega), fo1 88 s (by omega), fo1 91 s (by omega)]
            exact hP
          have c := c151 X g1 hs hq hP1 (by simp only [a0, a1, a2]; exact h4) (by simp only [a0, a1, a2]; exact fun k hk => ((hI s hs).2.2.2.2.1 k hk).1)
          rw [a2, hp] at c
          have c2 := c148 X g1 hs (q : Int) hP1
          rw [a0, a0] at c2
          clear h4
          repeat' (first
            | (exfalso; omega)
            | (exact absurd trivial (by assumption))
            | (apply s_152_0; try simp only [mi_87, fl_87_2, mi_90, ml_90, fl_90, up_90, e2, s0, hg2, true_and, and_true, true_or, or_true, implies_true, b10_0, b10_1])
            | (apply s_152_4; try simp only [mi_87, fl_87_2, mi_90, ml_90, fl_90, up_90, e2, s0, hg2, true_and, and_true, true_or, or_true, implies_true, b10_0, b10_1])
            | (apply s_152_17; try simp only [mi_87, fl_87_2, mi_90, ml_90, fl_90, up_90, e2, s0, hg2, true_and, and_true, true_or, or_true, implies_true, b10_0, b10_1])
            | (apply s_152_30; try simp only [mi_87, fl_87_2, mi_90, ml_90, fl_90, up_90, e2, s0, hg2, true_and, and_true, true_or, or_true, implies_true, b10_0, b10_1])
            | (apply s_152_56; try simp only [mi_87, fl_87_2, mi_90, ml_90, fl_90, up_90, e2, s0, hg2, true_and, and_true, true_or, or_true, implies_true, b10_0, b10_1])
            | (refine c147 X _ _ _ _ (by omega) ?_)
            | (refine c2 _ _ (by omega) ?_)
            | (refine c _ _ (by omega) ?_)
            | (refine And.intro ?_ ?_)
            | (intro _)
            | omega
            | (unfold r32; omega)
            | (exact hQ)
            | (exact qe hQ (by omega))
            | (exact qe hQ (by (repeat' split) <;> omega))
            | (exact b01))
      · refine ⟨-1003, g, g, ?_, ?_, hI, Chg_w Chg_r (fun _ _ z => z.elim)⟩
        · intro d Q hd hQ
          repeat' (first
            | (exfalso; omega)
            | (exact absurd trivial (by assumption))
            | (apply s_86_0; try simp only [mi_1, sm_o, sl_4, sm_4, sn_4, sa_4, sz_4, sl_5, sm_5, sn_5, sa_5, sz_5, hs, eq, true_and, and_true, true_or, or_true, implies_true, b10_0, b10_1])
            | (apply s_86_5; try simp only [mi_1, sm_o, sl_4, sm_4, sn_4, sa_4, sz_4, sl_5, sm_5, sn_5, sa_5, sz_5, hs, eq, true_and, and_true, true_or, or_true, implies_true, b10_0, b10_1])
            | (apply s_86_22; try simp only [mi_1, sm_o, sl_4, sm_4, sn_4, sa_4, sz_4, sl_5, sm_5, sn_5, sa_5, sz_5, hs, eq, true_and, and_true, true_or, or_true, implies_true, b10_0, b10_1])
            | (apply s_86_53; try simp only [mi_1, sm_o, sl_4, sm_4, sn_4, sa_4, sz_4, sl_5, sm_5, sn_5, sa_5, sz_5, hs, eq, true_and, and_true, true_or, or_true, implies_true, b10_0, b10_1])
            | (apply s_86_68; try simp only [mi_1, sm_o, sl_4, sm_4, sn_4, sa_4, sz_4, sl_5, sm_5, sn_5, sa_5, sz_5, hs, eq, true_and, and_true, true_or, or_true, implies_true, b10_0, b10_1])
            | (refine c135 X g hs _ _ (by omega) ?_)
            | (refine c60 X g hs _ hP _ _ (by omega) ?_)
            | (refine And.intro ?_ ?_)
            | (intro _)
            | omega
            | (unfold r32; omega)
            | (exact hQ)
            | (exact qe hQ (by omega))
            | (exact qe hQ (by (repeat' split) <;> omega))
            | (exact b01))
        · intro d Q hd hQ
          have c := c151 X g hs hq hP h4 (fun k hk => ((hI s hs).2.2.2.2.1 k hk).1)
          have hpn : g (58 + 5 * s) q < 0 → g (58 + 5 * s) q = -1 := by
            rcases h4 with h4 | ⟨w, w1, w2, w3⟩ <;> omega
          clear h4
          repeat' (first
            | (exfalso; omega)
            | (exact absurd trivial (by assumption))
            | (apply s_152_0; try simp only [mi_87, fl_87_2, mi_90, ml_90, fl_90, up_90, e2, true_and, and_true, true_or, or_true, implies_true, b10_0, b10_1])
            | (apply s_152_4; try simp only [mi_87, fl_87_2, mi_90, ml_90, fl_90, up_90, e2, true_and, and_true, true_or, or_true, implies_true, b10_0, b10_1])
            | (apply s_152_17; try simp only [mi_87, fl_87_2, mi_90, ml_90, fl_90, up_90, e2, true_and, and_true, true_or, or_true, implies_true, b10_0, b10_1])
            | (apply s_152_30; try simp only [mi_87, fl_87_2, mi_90, ml_90, fl_90, up_90, e2, true_and, and_true, true_or, or_true, implies_true, b10_0, b10_1])
            | (apply s_152_56; try simp only [mi_87, fl_87_2, mi_90, ml_90, fl_90, up_90, e2, true_and, and_true, true_or, or_true, implies_true, b10_0, b10_1])
            | (refine c147 X _ _ _ _ (by omega) ?_)
            | (refine c148 X g hs _ hP _ _ (by omega) ?_)
            | (refine c _ _ (by omega) ?_)
            | (refine And.intro ?_ ?_)
            | (intro _)
            | omega
            | (unfold r32; omega)
            | (exact hQ)
            | (exact qe hQ (by omega))
            | (exact qe hQ (by (repeat' split) <;> omega))
            | (exact b01))
    · refine ⟨-1002, g, g, ?_, ?_, hI, Chg_w Chg_r (fun _ _ z => z.elim)⟩
      · intro d Q hd hQ
        repeat' (first
          | (exfalso; omega)
          | (exact absurd trivial (by assumption))
          | (apply s_86_0; try simp only [mi_1, sm_o, sl_4, sm_4, sn_4, sa_4, sz_4, sl_5, sm_5, sn_5, sa_5, sz_5, hs, true_and, and_true, true_or, or_true, implies_true, b10_0, b10_1])
          | (apply s_86_5; try simp only [mi_1, sm_o, sl_4, sm_4, sn_4, sa_4, sz_4, sl_5, sm_5, sn_5, sa_5, sz_5, hs, true_and, and_true, true_or, or_true, implies_true, b10_0, b10_1])
          | (apply s_86_22; try simp only [mi_1, sm_o, sl_4, sm_4, sn_4, sa_4, sz_4, sl_5, sm_5, sn_5, sa_5, sz_5, hs, true_and, and_true, true_or, or_true, implies_true, b10_0, b10_1])
          | (apply s_86_53; try simp only [mi_1, sm_o, sl_4, sm_4, sn_4, sa_4, sz_4, sl_5, sm_5, sn_5, sa_5, sz_5, hs, true_and, and_true, true_or, or_true, implies_true, b10_0, b10_1])
          | (apply s_86_68; try simp only [mi_1, sm_o, sl_4, sm_4, sn_4, sa_4, sz_4, sl_5, sm_5, sn_5, sa_5, sz_5, hs, true_and, and_true, true_or, or_true, implies_true, b10_0, b10_1])
          | (refine c135 X g hs _ _ (by omega) ?_)
          | (refine c60 X g hs _ hP _ _ (by omega) ?_)
          | (refine And.intro ?_ ?_)
          | (intro _)
          | omega
          | (unfold r32; omega)
          | (exact hQ)
          | (exact qe hQ (by omega))
          | (exact qe hQ (by (repeat' split) <;> omega))
          | (exact b01))
      · intro d Q hd hQ
        repeat' (first
          | (exfalso; omega)
          | (exact absurd trivial (by assumption))
          | (apply s_152_0; try simp only [mi_87, fl_87_2, mi_90, ml_90, fl_90, up_90, true_and, and_true, true_or, or_true, implies_true, b10_0, b10_1])
          | (apply s_152_4; try simp only [mi_87, fl_87_2, mi_90, ml_90, fl_90, up_90, true_and, and_true, true_or, or_true, implies_true, b10_0, b10_1])
          | (apply s_152_17; try simp only [mi_87, fl_87_2, mi_90, ml_90, fl_90, up_90, true_and, and_true, true_or, or_true, implies_true, b10_0, b10_1])
          | (apply s_152_30; try simp only [mi_87, fl_87_2, mi_90, ml_90, fl_90, up_90, true_and, and_true, true_or, or_true, implies_true, b10_0, b10_1])
          | (apply s_152_56; try simp only [mi_87, fl_87_2, mi_90, ml_90, fl_90, up_90, true_and, and_true, true_or, or_true, implies_true, b10_0, b10_1])
          | (refine c147 X _ _ _ _ (by omega) ?_)
          | (refine c148 X g hs _ hP _ _ (by omega) ?_)
          | (refine And.intro ?_ ?_)
          | (intro _)
          | omega
          | (unfold r32; omega)
          | (exact hQ)
          | (exact qe hQ (by omega))
          | (exact qe hQ (by (repeat' split) <;> omega))
          | (exact b01))
  · refine ⟨-1001, g, g, ?_, ?_, hI, Chg_w Chg_r (fun _ _ z => z.elim)⟩
    · intro d Q hd hQ
      repeat' (first
        | (exfalso; omega)
        | (exact absurd trivial (by assumption))
        | (apply s_86_0; try simp only [mi_1, sm_o, sl_4, sm_4, sn_4, sa_4, sz_4, sl_5, sm_5, sn_5, sa_5, sz_5, true_and, and_true, true_or, or_true, implies_true, b10_0, b10_1])
        | (apply s_86_5; try simp only [mi_1, sm_o, sl_4, sm_4, sn_4, sa_4, sz_4, sl_5, sm_5, sn_5, sa_5, sz_5, true_and, and_true, true_or, or_true, implies_true, b10_0, b10_1])
        | (apply s_86_22; try simp only [mi_1, sm_o, sl_4, sm_4, sn_4, sa_4, sz_4, sl_5, sm_5, sn_5, sa_5, sz_5, true_and, and_true, true_or, or_true, implies_true, b10_0, b10_1])
        | (apply s_86_53; try simp only [mi_1, sm_o, sl_4, sm_4, sn_4, sa_4, sz_4, sl_5, sm_5, sn_5, sa_5, sz_5, true_and, and_true, true_or, or_true, implies_true, b10_0, b10_1])
        | (apply s_86_68; try simp only [mi_1, sm_o, sl_4, sm_4, sn_4, sa_4, sz_4, sl_5, sm_5, sn_5, sa_5, sz_5, true_and, and_true, true_or, or_true, implies_true, b10_0, b10_1])
        | (refine c135n X g _ ha _ _ (by omega) ?_)
        | (refine And.intro ?_ ?_)
        | (intro _)
        | omega
        | (unfold r32; omega)
        | (exact hQ)
        | (exact qe hQ (by omega))
        | (exact qe hQ (by (repeat' split) <;> omega))
        | (exact b01))
    · intro d Q hd hQ
      repeat' (first
        | (exfalso; omega)
        | (exact absurd trivial (by assumption))
        | (apply s_152_0; try simp only [mi_87, fl_87_2, mi_90, ml_90, fl_90, up_90, true_and, and_true, true_or, or_true, implies_true, b10_0, b10_1])
        | (apply s_152_4; try simp only [mi_87, fl_87_2, mi_90, ml_90, fl_90, up_90, true_and, and_true, true_or, or_true, implies_true, b10_0, b10_1])
        | (apply s_152_17; try simp only [mi_87, fl_87_2, mi_90, ml_90, fl_90, up_90, true_and, and_true, true_or, or_true, implies_true, b10_0, b10_1])
        | (apply s_152_30; try simp only [mi_87, fl_87_2, mi_90, ml_90, fl_90, up_90, true_and, and_true, true_or, or_true, implies_true, b10_0, b10_1])
        | (apply s_152_56; try simp only [mi_87, fl_87_2, mi_90, ml_90, fl_90, up_90, true_and, and_true, true_or, or_true, implies_true, b10_0, b10_1])
        | (refine c147 X _ _ _ _ (by omega) ?_)
        | (refine And.intro ?_ ?_)
        | (intro _)
        | omega
        | (unfold r32; omega)
        | (exact hQ)
        | (exact qe hQ (by omega))
        | (exact qe hQ (by (repeat' split) <;> omega))
        | (exact b01))
