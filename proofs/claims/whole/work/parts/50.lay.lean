/-! laying a grain -/
theorem sumN_upd {n : Nat} {a b : Nat → Int} {i : Nat} (hi : i < n) (h : ∀ k, k ≠ i → b k = a k) : sumN n b = sumN n a + (b i - a i) := by
  induction n with
  | zero => omega
  | succ n ih =>
    unfold sumN
    by_cases hin : i = n
    · subst hin
      rw [sumN_congr (n := i) (a := b) (b := a) (fun k hk => h k (by omega))]
      omega
    · rw [ih (by omega), h n (by omega)]
      omega
theorem celp_lay {g g' : mF} {c i : Nat} {p q : Int} (hi : (i : Int) < g (19 + 6 * c) 0) (h0 : g' (19 + 6 * c) 0 = g (19 + 6 * c) 0) (h1 : ∀ k, k ≠ i → g' (20 + 6 * c) k = g (20 + 6 * c) k) (h2 : g' (20 + 6 * c) i = p) (h3 : g (20 + 6 * c) i = -1) (hq : 0 ≤ q) : celp g' c q = celp g c q + (if p = q then 1 else 0) := by
  unfold celp
  rw [h0, sumN_upd (i := i) (a := fun k => if g (20 + 6 * c) k = q then (1 : Int) else 0) (b := fun k => if g' (20 + 6 * c) k = q then (1 : Int) else 0) (by omega) (fun k hk => by simp only [h1 k hk])]
  simp only [h2, h3]
  rw [if_neg (show ¬ ((-1 : Int) = q) by omega)]
  omega
/-- lay -/
theorem T_lay (X : mX) (g : mF) (a i p j : Int) {n : Nat} (hI : ∀ c, c < 4 → Iclk g c) (hS : Istore n g) : ∃ r g1 g2, Ret X 60 101 [(2, 1), (0, a), (0, i), (0, p), (0, j), (3, 0)] g (some (0, r)) g1 ∧ Ret X 60 179 [(2, 87), (0, a), (0, i), (0, p), (0, j)] g1 (some (0, r)) g2 ∧ (∀ c, c < 4 → Iclk g2 c) ∧ Istore (n + 1) g2 ∧ Chg (fun o k => o = 11 ∧ k = 3 ∨ o = 9 ∨ o = 96 ∨ o = 102 ∨ o = 20 ∨ o = 26 ∨ o = 32 ∨ o = 38) g g2 ∧ (g2 = g ∨ g2 11 3 = 0) := by
  by_cases ha : 0 ≤ a ∧ a ≤ 3
  · obtain ⟨c, rfl⟩ : ∃ c : Nat, a = (c : Int) := ⟨a.toNat, by omega⟩
    have hc : c < 4 := by omega
    obtain ⟨k1, k2, k3, k4, k5, k6, k7⟩ := hI c hc
    have hb : 0 ≤ g 99 c ∧ g 99 c ≤ 36 := by omega
    by_cases h : (0 ≤ i ∧ i < g (19 + 6 * c) 0) ∧ (0 ≤ p ∧ p ≤ 7) ∧ (0 ≤ j ∧ j ≤ 3)
    · obtain ⟨hi, hp, hj⟩ := h
      have e2 : (36 * (c : Int) + i).toNat = 36 * c + i.toNat := by omega
      have e3 := k4 i.toNat (by omega)
      have z := hS.1 (8 * j + p).toNat (by omega)
      have ez := z.1
      have zi := k5 i.toNat (by omega)
      by_cases hn : g (20 + 6 * c) i.toNat = -1 ∧ 1 ≤ g 9 (8 * j + p).toNat
      · obtain ⟨hn1, hn2⟩ := hn
        have c1 := c79 X g j p (-1) hj hp (by unfold r32; omega)
        rw [show g 9 (8 * j + p).toNat + -1 = g 9 (8 * j + p).toNat - 1 by omega] at c1
        generalize hga : mup g 9 (8 * j + p).toNat (g 9 (8 * j + p).toNat - 1) = ga at c1
        generalize hgb : mup ga (20 + 6 * c) i.toNat p = gb
        generalize hg1 : mup gb 11 3 0 = g1
        have v9 : g1 9 (8 * j + p).toNat = g 9 (8 * j + p).toNat - 1 := by rw [← hg1, mup_n (by omega), ← hgb, mup_n (by omega), ← hga, mup_e]
        have fo1 : ∀ o k, ¬ (o = 11 ∧ k = 3 ∨ o = 9 ∧ k = (8 * j + p).toNat ∨ o = 20 + 6 * c ∧ k = i.toNat) → g1 o k = g o k := by
          intro o k ho
          rw [← hg1, mup_n (by omega), ← hgb, mup_n (by omega), ← hga, mup_n (by omega)]
        have q3 : g1 11 3 = 0 := by rw [← hg1, mup_e]
        have qi : g1 (20 + 6 * c) i.toNat = p := by rw [← hg1, mup_n (by omega), ← hgb, mup_e]
        have s1 : g1 102 (36 * c + i.toNat) = -1 := by rw [fo1 102 _ (by omega), e3, hn1]
        have s2 : g1 96 (8 * j + p).toNat = g 9 (8 * j + p).toNat := by rw [fo1 96 _ (by omega), ez]
        generalize hm1 : mup g1 102 (36 * c + i.toNat) p = m1
        have s3 : m1 96 (8 * j + p).toNat = g 9 (8 * j + p).toNat := by rw [← hm1, mup_n (by omega), s2]
        generalize hg2 : mup m1 96 (8 * j + p).toNat (g 9 (8 * j + p).toNat - 1) = g2
        have s4 : g2 96 (8 * j + p).toNat = g 9 (8 * j + p).toNat - 1 := by rw [← hg2, mup_e]
        have s5 : g2 102 (36 * c + i.toNat) = p := by rw [← hg2, mup_n (by omega), ← hm1, mup_e]
        have fo2 : ∀ o k, ¬ (o = 102 ∧ k = 36 * c + i.toNat ∨ o = 96 ∧ k = (8 * j + p).toNat) → g2 o k = g1 o k := by
          intro o k ho
          rw [← hg2, mup_n (by omega), ← hm1, mup_n (by omega)]
        have fo : ∀ o k, ¬ (o = 11 ∧ k = 3 ∨ o = 9 ∧ k = (8 * j + p).toNat ∨ o = 20 + 6 * c ∧ k = i.toNat ∨ o = 102 ∧ k = 36 * c + i.toNat ∨ o = 96 ∧ k = (8 * j + p).toNat) → g2 o k = g o k := by
          intro o k ho
          rw [fo2 o k (by omega), fo1 o k (by omega)]
        have u9 : g2 9 (8 * j + p).toNat = g 9 (8 * j + p).toNat - 1 := by rw [fo2 9 _ (by omega), v9]
        have ui : g2 (20 + 6 * c) i.toNat = p := by rw [fo2 _ _ (by omega), qi]
        refine ⟨g 9 (8 * j + p).toNat - 1, g1, g2, ?_, ?_, ?_, ⟨?_, ?_, ?_⟩, fun o k ho => fo o k (by omega), Or.inr (by rw [fo2 11 3 (by omega), q3])⟩
        · intro d Q hd hQ
          have c2 := c78 X g1 j p hj hp
          rw [v9] at c2
          repeat' (first
            | (exfalso; omega)
            | (exact absurd trivial (by assumption))
            | (apply s_101_0; try simp only [mi_1, fl_1_4, mi_12, cm_o, cl_1, cm_1, cn_1, ca_1, cz_1, fl_1_3, mi_9, fl_12_3, up_12_3, hc, hgb, hg1, true_and, and_true, true_or, or_true, implies_true, b10_0, b10_1])
            | (apply s_101_8; try simp only [mi_1, fl_1_4, mi_12, cm_o, cl_1, cm_1, cn_1, ca_1, cz_1, fl_1_3, mi_9, fl_12_3, up_12_3, hc, hgb, hg1, true_and, and_true, true_or, or_true, implies_true, b10_0, b10_1])
            | (apply s_101_21; try simp only [mi_1, fl_1_4, mi_12, cm_o, cl_1, cm_1, cn_1, ca_1, cz_1, fl_1_3, mi_9, fl_12_3, up_12_3, hc, hgb, hg1, true_and, and_true, true_or, or_true, implies_true, b10_0, b10_1])
            | (apply s_101_28; try simp only [mi_1, fl_1_4, mi_12, cm_o, cl_1, cm_1, cn_1, ca_1, cz_1, fl_1_3, mi_9, fl_12_3, up_12_3, hc, hgb, hg1, true_and, and_true, true_or, or_true, implies_true, b10_0, b10_1])
            | (apply s_101_36; try simp only [mi_1, fl_1_4, mi_12, cm_o, cl_1, cm_1, cn_1, ca_1, cz_1, fl_1_3, mi_9, fl_12_3, up_12_3, hc, hgb, hg1, true_and, and_true, true_or, or_true, implies_true, b10_0, b10_1])
            | (apply s_101_64; try simp only [mi_1, fl_1_4, mi_12, cm_o, cl_1, cm_1, cn_1, ca_1, cz_1, fl_1_3, mi_9, fl_12_3, up_12_3, hc, hgb, hg1, true_and, and_true, true_or, or_true, implies_true, b10_0, b10_1])
            | (apply s_101_83; try simp only [mi_1, fl_1_4, mi_12, cm_o, cl_1, cm_1, cn_1, ca_1, cz_1, fl_1_3, mi_9, fl_12_3, up_12_3, hc, hgb, hg1, true_and, and_true, true_or, or_true, implies_true, b10_0, b10_1])
            | (apply s_101_91; try simp only [mi_1, fl_1_4, mi_12, cm_o, cl_1, cm_1, cn_1, ca_1, cz_1, fl_1_3, mi_9, fl_12_3, up_12_3, hc, hgb, hg1, true_and, and_true, true_or, or_true, implies_true, b10_0, b10_1])
            | (apply s_101_99; try simp only [mi_1, fl_1_4, mi_12, cm_o, cl_1, cm_1, cn_1, ca_1, cz_1, fl_1_3, mi_9, fl_12_3, up_12_3, hc, hgb, hg1, true_and, and_true, true_or, or_true, implies_true, b10_0, b10_1])
            | (apply s_101_109; try simp only [mi_1, fl_1_4, mi_12, cm_o, cl_1, cm_1, cn_1, ca_1, cz_1, fl_1_3, mi_9, fl_12_3, up_12_3, hc, hgb, hg1, true_and, and_true, true_or, or_true, implies_true, b10_0, b10_1])
            | (refine c131 X _ _ _ _ (by omega) ?_)
            | (refine c132 X _ _ _ _ (by omega) ?_)
            | (refine c32 X g hc _ _ (by omega) ?_)
            | (refine c14 X g hc _ _ _ (by omega) ?_)
            | (refine c1 _ _ (by omega) ?_)
            | (refine c2 _ _ (by omega) ?_)
            | (refine c78 X g _ _ (by omega) (by omega) _ _ (by omega) ?_)
            | (refine And.intro ?_ ?_)
            | (intro _)
            | omega
            | (unfold r32; omega)
            | (exact hQ)
            | (exact qe hQ (by omega))
            | (exact qe hQ (by (repeat' split) <;> omega))
            | (exact b01))
        · intro d Q hd hQ
          have hb' : 0 ≤ g1 99 c ∧ g1 99 c ≤ 36 := by rw [fo1 99 c (by omega)]; exact hb
          have hi' : 0 ≤ i ∧ i < g1 99 c := by rw [fo1 99 c (by omega)]; omega
          repeat' (first
            | (exfalso; omega)
            | (exact absurd trivial (by assumption))
            | (apply s_179_0; try simp only [mi_87, fl_87_17, mi_103, ml_103, fl_103, up_103, fl_87_11, mi_97, ml_97, fl_97, up_97, e2, s1, s2, hm1, s3, hg2, s4, true_and, and_true, true_or, or_true, implies_true, b10_0, b10_1])
            | (apply s_179_6; try simp only [mi_87, fl_87_17, mi_103, ml_103, fl_103, up_103, fl_87_11, mi_97, ml_97, fl_97, up_97, e2, s1, s2, hm1, s3, hg2, s4, true_and, and_true, true_or, or_true, implies_true, b10_0, b10_1])
            | (apply s_179_13; try simp only [mi_87, fl_87_17, mi_103, ml_103, fl_103, up_103, fl_87_11, mi_97, ml_97, fl_97, up_97, e2, s1, s2, hm1, s3, hg2, s4, true_and, and_true, true_or, or_true, implies_true, b10_0, b10_1])
            | (apply s_179_21; try simp only [mi_87, fl_87_17, mi_103, ml_103, fl_103, up_103, fl_87_11, mi_97, ml_97, fl_97, up_97, e2, s1, s2, hm1, s3, hg2, s4, true_and, and_true, true_or, or_true, implies_true, b10_0, b10_1])
            | (apply s_179_73; try simp only [mi_87, fl_87_17, mi_103, ml_103, fl_103, up_103, fl_87_11, mi_97, ml_97, fl_97, up_97, e2, s1, s2, hm1, s3, hg2, s4, true_and, and_true, true_or, or_true, implies_true, b10_0, b10_1])
            | (apply s_179_89; try simp only [mi_87, fl_87_17, mi_103, ml_103, fl_103, up_103, fl_87_11, mi_97, ml_97, fl_97, up_97, e2, s1, s2, hm1, s3, hg2, s4, true_and, and_true, true_or, or_true, implies_true, b10_0, b10_1])
            | (refine c165 X _ _ _ _ (by omega) ?_)
            | (refine c166 X _ _ _ _ (by omega) ?_)
            | (refine c175 X g1 hc _ hb' _ _ (by omega) ?_)
            | (refine And.intro ?_ ?_)
            | (intro _)
            | omega
            | (unfold r32; omega)
            | (exact hQ)
            | (exact qe hQ (by omega))
            | (exact qe hQ (by (repeat' split) <;> omega))
            | (exact b01))
        · intro c' hc'
          by_cases hcc : c' = c
          · subst hcc
            obtain ⟨-, -, -, -, -, -, l7, l8, l9, l10, l11, l12⟩ := hI c' hc'
            unfold Iclk
            rw [fo 99 c' (by omega), fo (19 + 6 * c') 0 (by omega), fo 103 c' (by omega), fo 104 c' (by omega), fo (19 + 6 * c') 2 (by omega), fo (19 + 6 * c') 3 (by omega)]
            refine ⟨k1, k2, k3, fun y hy => ?_, fun y hy => ?_, fun y hy hl => ?_, l7, l8, l9, l10, l11, l12⟩
            · by_cases hyi : y = i.toNat
              · subst hyi
                rw [s5, ui]
              · rw [fo 102 _ (by omega), fo (20 + 6 * c') _ (by omega)]
                exact k4 y hy
            · by_cases hyi : y = i.toNat
              · subst hyi
                rw [ui]
                omega
              · rw [fo (20 + 6 * c') _ (by omega)]
                exact k5 y hy
            · rw [fo (20 + 6 * c') _ (by omega)]
              exact k6 y hy hl
          · exact Iclk_congr (fo _ _ (by omega)) (fun k _ => fo _ _ (by omega)) (fun k _ => fo _ _ (by omega)) (fo _ _ (by omega)) (fo _ _ (by omega)) (fun k _ => fo _ _ (by omega)) (hI c' hc')
        · intro k hk
          have w := hS.1 k hk
          by_cases hkj : k = (8 * j + p).toNat
          · subst hkj
            rw [s4, u9]
            omega
          · rw [fo 96 _ (by omega), fo 9 _ (by omega)]
            exact w
        · intro q hq
          rw [fo 98 q (by omega), fo 10 q (by omega)]
          exact hS.2.1 q hq
        · intro q hq
          have u := hS.2.2 q hq
          have fcc : ∀ c', c' < 4 → celp g2 c' (q : Int) = celp g c' (q : Int) + (if c' = c ∧ p = (q : Int) then 1 else 0) := by
            intro c' hc'
            by_cases hcc : c' = c
            · subst hcc
              rw [celp_lay (g := g) (i := i.toNat) (p := p) (by omega) (fo _ _ (by omega)) (fun k hk => fo _ _ (by omega)) ui hn1 (by omega)]
              simp
            · rw [celp_congr (fo _ _ (by omega)) (fun k => fo _ _ (by omega)), if_neg (by omega)]
              omega
          have ct : celp g2 0 (q : Int) + celp g2 1 (q : Int) + celp g2 2 (q : Int) + celp g2 3 (q : Int) = celp g 0 (q : Int) + celp g 1 (q : Int) + celp g 2 (q : Int) + celp g 3 (q : Int) + (if p = (q : Int) then 1 else 0) := by
            have hcs : c = 0 ∨ c = 1 ∨ c = 2 ∨ c = 3 := by omega
            rw [fcc 0 (by omega), fcc 1 (by omega), fcc 2 (by omega), fcc 3 (by omega)]
            clear fcc fo fo1 fo2
            by_cases hpq : p = (q : Int)
            · rcases hcs with h | h | h | h <;> simp [h, hpq] <;> omega
            · simp [hpq]
          have f9 : ∀ k, g2 9 k = if k = (8 * j + p).toNat then g 9 (8 * j + p).toNat - 1 else g 9 k := by
            intro k
            by_cases hkj : k = (8 * j + p).toNat
            · rw [if_pos hkj, hkj, u9]
            · rw [if_neg hkj, fo 9 k (by omega)]
          have j0 : j = 0 → g 9 (8 * j + p).toNat = g 9 p.toNat := fun h => by rw [show (8 * j + p).toNat = p.toNat by omega]
          have j1 : j = 1 → g 9 (8 * j + p).toNat = g 9 (8 + p.toNat) := fun h => by rw [show (8 * j + p).toNat = 8 + p.toNat by omega]
          have j2 : j = 2 → g 9 (8 * j + p).toNat = g 9 (16 + p.toNat) := fun h => by rw [show (8 * j + p).toNat = 16 + p.toNat by omega]
          have j3 : j = 3 → g 9 (8 * j + p).toNat = g 9 (24 + p.toNat) := fun h => by rw [show (8 * j + p).toNat = 24 + p.toNat by omega]
          rw [ct, fo 97 q (by omega), fo 10 q (by omega), f9, f9, f9, f9]
          by_cases hpq : p = (q : Int)
          · have hq2 : q = p.toNat := by omega
            subst hq2
            rw [if_pos hpq]
            (repeat' split) <;> omega
          · rw [if_neg hpq, if_neg (by omega), if_neg (by omega), if_neg (by omega), if_neg (by omega)]
            omega
      · refine ⟨-1003, g, g, ?_, ?_, hI, Istore_le hS, Chg_w Chg_r (fun _ _ z => z.elim), Or.inl rfl⟩
        · intro d Q hd hQ
          repeat' (first
            | (exfalso; omega)
            | (exact absurd trivial (by assumption))
            | (apply s_101_0; try simp only [mi_1, fl_1_4, mi_12, cm_o, cl_1, cm_1, cn_1, ca_1, cz_1, fl_1_3, mi_9, fl_12_3, up_12_3, hc, true_and, and_true, true_or, or_true, implies_true, b10_0, b10_1])
            | (apply s_101_8; try simp only [mi_1, fl_1_4, mi_12, cm_o, cl_1, cm_1, cn_1, ca_1, cz_1, fl_1_3, mi_9, fl_12_3, up_12_3, hc, true_and, and_true, true_or, or_true, implies_true, b10_0, b10_1])
            | (apply s_101_21; try simp only [mi_1, fl_1_4, mi_12, cm_o, cl_1, cm_1, cn_1, ca_1, cz_1, fl_1_3, mi_9, fl_12_3, up_12_3, hc, true_and, and_true, true_or, or_true, implies_true, b10_0, b10_1])
            | (apply s_101_28; try simp only [mi_1, fl_1_4, mi_12, cm_o, cl_1, cm_1, cn_1, ca_1, cz_1, fl_1_3, mi_9, fl_12_3, up_12_3, hc, true_and, and_true, true_or, or_true, implies_true, b10_0, b10_1])
            | (apply s_101_36; try simp only [mi_1, fl_1_4, mi_12, cm_o, cl_1, cm_1, cn_1, ca_1, cz_1, fl_1_3, mi_9, fl_12_3, up_12_3, hc, true_and, and_true, true_or, or_true, implies_true, b10_0, b10_1])
            | (apply s_101_64; try simp only [mi_1, fl_1_4, mi_12, cm_o, cl_1, cm_1, cn_1, ca_1, cz_1, fl_1_3, mi_9, fl_12_3, up_12_3, hc, true_and, and_true, true_or, or_true, implies_true, b10_0, b10_1])
            | (apply s_101_83; try simp only [mi_1, fl_1_4, mi_12, cm_o, cl_1, cm_1, cn_1, ca_1, cz_1, fl_1_3, mi_9, fl_12_3, up_12_3, hc, true_and, and_true, true_or, or_true, implies_true, b10_0, b10_1])
            | (apply s_101_91; try simp only [mi_1, fl_1_4, mi_12, cm_o, cl_1, cm_1, cn_1, ca_1, cz_1, fl_1_3, mi_9, fl_12_3, up_12_3, hc, true_and, and_true, true_or, or_true, implies_true, b10_0, b10_1])
            | (apply s_101_99; try simp only [mi_1, fl_1_4, mi_12, cm_o, cl_1, cm_1, cn_1, ca_1, cz_1, fl_1_3, mi_9, fl_12_3, up_12_3, hc, true_and, and_true, true_or, or_true, implies_true, b10_0, b10_1])
            | (apply s_101_109; try simp only [mi_1, fl_1_4, mi_12, cm_o, cl_1, cm_1, cn_1, ca_1, cz_1, fl_1_3, mi_9, fl_12_3, up_12_3, hc, true_and, and_true, true_or, or_true, implies_true, b10_0, b10_1])
            | (refine c131 X _ _ _ _ (by omega) ?_)
            | (refine c132 X _ _ _ _ (by omega) ?_)
            | (refine c32 X g hc _ _ (by omega) ?_)
            | (refine c14 X g hc _ _ _ (by omega) ?_)
            | (refine c78 X g _ _ (by omega) (by omega) _ _ (by omega) ?_)
            | (refine And.intro ?_ ?_)
            | (intro _)
            | omega
            | (unfold r32; omega)
            | (exact hQ)
            | (exact qe hQ (by omega))
            | (exact qe hQ (by (repeat' split) <;> omega))
            | (exact b01))
        · intro d Q hd hQ
          repeat' (first
            | (exfalso; omega)
            | (exact absurd trivial (by assumption))
            | (apply s_179_0; try simp only [mi_87, fl_87_17, mi_103, ml_103, fl_103, up_103, fl_87_11, mi_97, ml_97, fl_97, up_97, e2, e3, ez, true_and, and_true, true_or, or_true, implies_true, b10_0, b10_1])
            | (apply s_179_6; try simp only [mi_87, fl_87_17, mi_103, ml_103, fl_103, up_103, fl_87_11, mi_97, ml_97, fl_97, up_97, e2, e3, ez, true_and, and_true, true_or, or_true, implies_true, b10_0, b10_1])
            | (apply s_179_13; try simp only [mi_87, fl_87_17, mi_103, ml_103, fl_103, up_103, fl_87_11, mi_97, ml_97, fl_97, up_97, e2, e3, ez, true_and, and_true, true_or, or_true, implies_true, b10_0, b10_1])
            | (apply s_179_21; try simp only [mi_87, fl_87_17, mi_103, ml_103, fl_103, up_103, fl_87_11, mi_97, ml_97, fl_97, up_97, e2, e3, ez, true_and, and_true, true_or, or_true, implies_true, b10_0, b10_1])
            | (apply s_179_73; try simp only [mi_87, fl_87_17, mi_103, ml_103, fl_103, up_103, fl_87_11, mi_97, ml_97, fl_97, up_97, e2, e3, ez, true_and, and_true, true_or, or_true, implies_true, b10_0, b10_1])
            | (apply s_179_89; try simp only [mi_87, fl_87_17, mi_103, ml_103, fl_103, up_103, fl_87_11, mi_97, ml_97, fl_97, up_97, e2, e3, ez, true_and, and_true, true_or, or_true, implies_true, b10_0, b10_1])
            | (refine c165 X _ _ _ _ (by omega) ?_)
            | (refine c166 X _ _ _ _ (by omega) ?_)
            | (refine c175 X g hc _ hb _ _ (by omega) ?_)
            | (refine And.intro ?_ ?_)
            | (intro _)
            | omega
            | (unfold r32; omega)
            | (exact hQ)
            | (exact qe hQ (by omega))
            | (exact qe hQ (by (repeat' split) <;> omega))
            | (exact b01))
    · refine ⟨-1001, g, g, ?_, ?_, hI, Istore_le hS, Chg_w Chg_r (fun _ _ z => z.elim), Or.inl rfl⟩
      · intro d Q hd hQ
        repeat' (first
          | (exfalso; omega)
          | (exact absurd trivial (by assumption))
          | (apply s_101_0; try simp only [mi_1, fl_1_4, mi_12, cm_o, cl_1, cm_1, cn_1, ca_1, cz_1, fl_1_3, mi_9, fl_12_3, up_12_3, hc, true_and, and_true, true_or, or_true, implies_true, b10_0, b10_1])
          | (apply s_101_8; try simp only [mi_1, fl_1_4, mi_12, cm_o, cl_1, cm_1, cn_1, ca_1, cz_1, fl_1_3, mi_9, fl_12_3, up_12_3, hc, true_and, and_true, true_or, or_true, implies_true, b10_0, b10_1])
          | (apply s_101_21; try simp only [mi_1, fl_1_4, mi_12, cm_o, cl_1, cm_1, cn_1, ca_1, cz_1, fl_1_3, mi_9, fl_12_3, up_12_3, hc, true_and, and_true, true_or, or_true, implies_true, b10_0, b10_1])
          | (apply s_101_28; try simp only [mi_1, fl_1_4, mi_12, cm_o, cl_1, cm_1, cn_1, ca_1, cz_1, fl_1_3, mi_9, fl_12_3, up_12_3, hc, true_and, and_true, true_or, or_true, implies_true, b10_0, b10_1])
          | (apply s_101_36; try simp only [mi_1, fl_1_4, mi_12, cm_o, cl_1, cm_1, cn_1, ca_1, cz_1, fl_1_3, mi_9, fl_12_3, up_12_3, hc, true_and, and_true, true_or, or_true, implies_true, b10_0, b10_1])
          | (apply s_101_64; try simp only [mi_1, fl_1_4, mi_12, cm_o, cl_1, cm_1, cn_1, ca_1, cz_1, fl_1_3, mi_9, fl_12_3, up_12_3, hc, true_and, and_true, true_or, or_true, implies_true, b10_0, b10_1])
          | (apply s_101_83; try simp only [mi_1, fl_1_4, mi_12, cm_o, cl_1, cm_1, cn_1, ca_1, cz_1, fl_1_3, mi_9, fl_12_3, up_12_3, hc, true_and, and_true, true_or, or_true, implies_true, b10_0, b10_1])
          | (apply s_101_91; try simp only [mi_1, fl_1_4, mi_12, cm_o, cl_1, cm_1, cn_1, ca_1, cz_1, fl_1_3, mi_9, fl_12_3, up_12_3, hc, true_and, and_true, true_or, or_true, implies_true, b10_0, b10_1])
          | (apply s_101_99; try simp only [mi_1, fl_1_4, mi_12, cm_o, cl_1, cm_1, cn_1, ca_1, cz_1, fl_1_3, mi_9, fl_12_3, up_12_3, hc, true_and, and_true, true_or, or_true, implies_true, b10_0, b10_1])
          | (apply s_101_109; try simp only [mi_1, fl_1_4, mi_12, cm_o, cl_1, cm_1, cn_1, ca_1, cz_1, fl_1_3, mi_9, fl_12_3, up_12_3, hc, true_and, and_true, true_or, or_true, implies_true, b10_0, b10_1])
          | (refine c131 X _ _ _ _ (by omega) ?_)
          | (refine c132 X _ _ _ _ (by omega) ?_)
          | (refine c32 X g hc _ _ (by omega) ?_)
          | (refine c14 X g hc _ _ _ (by omega) ?_)
          | (refine And.intro ?_ ?_)
          | (intro _)
          | omega
          | (unfold r32; omega)
          | (exact hQ)
          | (exact qe hQ (by omega))
          | (exact qe hQ (by (repeat' split) <;> omega))
          | (exact b01))
      · intro d Q hd hQ
        repeat' (first
          | (exfalso; omega)
          | (exact absurd trivial (by assumption))
          | (apply s_179_0; try simp only [mi_87, fl_87_17, mi_103, ml_103, fl_103, up_103, fl_87_11, mi_97, ml_97, fl_97, up_97, true_and, and_true, true_or, or_true, implies_true, b10_0, b10_1])
          | (apply s_179_6; try simp only [mi_87, fl_87_17, mi_103, ml_103, fl_103, up_103, fl_87_11, mi_97, ml_97, fl_97, up_97, true_and, and_true, true_or, or_true, implies_true, b10_0, b10_1])
          | (apply s_179_13; try simp only [mi_87, fl_87_17, mi_103, ml_103, fl_103, up_103, fl_87_11, mi_97, ml_97, fl_97, up_97, true_and, and_true, true_or, or_true, implies_true, b10_0, b10_1])
          | (apply s_179_21; try simp only [mi_87, fl_87_17, mi_103, ml_103, fl_103, up_103, fl_87_11, mi_97, ml_97, fl_97, up_97, true_and, and_true, true_or, or_true, implies_true, b10_0, b10_1])
          | (apply s_179_73; try simp only [mi_87, fl_87_17, mi_103, ml_103, fl_103, up_103, fl_87_11, mi_97, ml_97, fl_97, up_97, true_and, and_true, true_or, or_true, implies_true, b10_0, b10_1])
          | (apply s_179_89; try simp only [mi_87, fl_87_17, mi_103, ml_103, fl_103, up_103, fl_87_11, mi_97, ml_97, fl_97, up_97, true_and, and_true, true_or, or_true, implies_true, b10_0, b10_1])
          | (refine c165 X _ _ _ _ (by omega) ?_)
          | (refine c166 X _ _ _ _ (by omega) ?_)
          | (refine c175 X g hc _ hb _ _ (by omega) ?_)
          | (refine And.intro ?_ ?_)
          | (intro _)
          | omega
          | (unfold r32; omega)
          | (exact hQ)
          | (exact qe hQ (by omega))
          | (exact qe hQ (by (repeat' split) <;> omega))
          | (exact b01))
  · refine ⟨-1001, g, g, ?_, ?_, hI, Istore_le hS, Chg_w Chg_r (fun _ _ z => z.elim), Or.inl rfl⟩
    · intro d Q hd hQ
      repeat' (first
        | (exfalso; omega)
        | (exact absurd trivial (by assumption))
        | (apply s_101_0; try simp only [mi_1, fl_1_4, mi_12, cm_o, cl_1, cm_1, cn_1, ca_1, cz_1, fl_1_3, mi_9, fl_12_3, up_12_3, true_and, and_true, true_or, or_true, implies_true, b10_0, b10_1])
        | (apply s_101_8; try simp only [mi_1, fl_1_4, mi_12, cm_o, cl_1, cm_1, cn_1, ca_1, cz_1, fl_1_3, mi_9, fl_12_3, up_12_3, true_and, and_true, true_or, or_true, implies_true, b10_0, b10_1])
        | (apply s_101_21; try simp only [mi_1, fl_1_4, mi_12, cm_o, cl_1, cm_1, cn_1, ca_1, cz_1, fl_1_3, mi_9, fl_12_3, up_12_3, true_and, and_true, true_or, or_true, implies_true, b10_0, b10_1])
        | (apply s_101_28; try simp only [mi_1, fl_1_4, mi_12, cm_o, cl_1, cm_1, cn_1, ca_1, cz_1, fl_1_3, mi_9, fl_12_3, up_12_3, true_and, and_true, true_or, or_true, implies_true, b10_0, b10_1])
        | (apply s_101_36; try simp only [mi_1, fl_1_4, mi_12, cm_o, cl_1, cm_1, cn_1, ca_1, cz_1, fl_1_3, mi_9, fl_12_3, up_12_3, true_and, and_true, true_or, or_true, implies_true, b10_0, b10_1])
        | (apply s_101_64; try simp only [mi_1, fl_1_4, mi_12, cm_o, cl_1, cm_1, cn_1, ca_1, cz_1, fl_1_3, mi_9, fl_12_3, up_12_3, true_and, and_true, true_or, or_true, implies_true, b10_0, b10_1])
        | (apply s_101_83; try simp only [mi_1, fl_1_4, mi_12, cm_o, cl_1, cm_1, cn_1, ca_1, cz_1, fl_1_3, mi_9, fl_12_3, up_12_3, true_and, and_true, true_or, or_true, implies_true, b10_0, b10_1])
        | (apply s_101_91; try simp only [mi_1, fl_1_4, mi_12, cm_o, cl_1, cm_1, cn_1, ca_1, cz_1, fl_1_3, mi_9, fl_12_3, up_12_3, true_and, and_true, true_or, or_true, implies_true, b10_0, b10_1])
        | (apply s_101_99; try simp only [mi_1, fl_1_4, mi_12, cm_o, cl_1, cm_1, cn_1, ca_1, cz_1, fl_1_3, mi_9, fl_12_3, up_12_3, true_and, and_true, true_or, or_true, implies_true, b10_0, b10_1])
        | (apply s_101_109; try simp only [mi_1, fl_1_4, mi_12, cm_o, cl_1, cm_1, cn_1, ca_1, cz_1, fl_1_3, mi_9, fl_12_3, up_12_3, true_and, and_true, true_or, or_true, implies_true, b10_0, b10_1])
        | (refine c131 X _ _ _ _ (by omega) ?_)
        | (refine c132 X _ _ _ _ (by omega) ?_)
        | (refine c32n X g _ ha _ _ (by omega) ?_)
        | (refine And.intro ?_ ?_)
        | (intro _)
        | omega
        | (unfold r32; omega)
        | (exact hQ)
        | (exact qe hQ (by omega))
        | (exact qe hQ (by (repeat' split) <;> omega))
        | (exact b01))
    · intro d Q hd hQ
      repeat' (first
        | (exfalso; omega)
        | (exact absurd trivial (by assumption))
        | (apply s_179_0; try simp only [mi_87, fl_87_17, mi_103, ml_103, fl_103, up_103, fl_87_11, mi_97, ml_97, fl_97, up_97, true_and, and_true, true_or, or_true, implies_true, b10_0, b10_1])
        | (apply s_179_6; try simp only [mi_87, fl_87_17, mi_103, ml_103, fl_103, up_103, fl_87_11, mi_97, ml_97, fl_97, up_97, true_and, and_true, true_or, or_true, implies_true, b10_0, b10_1])
        | (apply s_179_13; try simp only [mi_87, fl_87_17, mi_103, ml_103, fl_103, up_103, fl_87_11, mi_97, ml_97, fl_97, up_97, true_and, and_true, true_or, or_true, implies_true, b10_0, b10_1])
        | (apply s_179_21; try simp only [mi_87, fl_87_17, mi_103, ml_103, fl_103, up_103, fl_87_11, mi_97, ml_97, fl_97, up_97, true_and, and_true, true_or, or_true, implies_true, b10_0, b10_1])
        | (apply s_179_73; try simp only [mi_87, fl_87_17, mi_103, ml_103, fl_103, up_103, fl_87_11, mi_97, ml_97, fl_97, up_97, true_and, and_true, true_or, or_true, implies_true, b10_0, b10_1])
        | (apply s_179_89; try simp only [mi_87, fl_87_17, mi_103, ml_103, fl_103, up_103, fl_87_11, mi_97, ml_97, fl_97, up_97, true_and, and_true, true_or, or_true, implies_true, b10_0, b10_1])
        | (refine c165 X _ _ _ _ (by omega) ?_)
        | (refine c166 X _ _ _ _ (by omega) ?_)
        | (refine c175n X g _ _ ha _ _ (by omega) ?_)
        | (refine And.intro ?_ ?_)
        | (intro _)
        | omega
        | (unfold r32; omega)
        | (exact hQ)
        | (exact qe hQ (by omega))
        | (exact qe hQ (by (repeat' split) <;> omega))
        | (exact b01))
