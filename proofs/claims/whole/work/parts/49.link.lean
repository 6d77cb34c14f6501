/-! links -/
def Ilink (g : mF) : Prop := (g 86 20 = g 11 1 ∧ 0 ≤ g 11 1 ∧ g 11 1 ≤ 12) ∧ ∀ k : Nat, (k : Int) < g 11 1 → (g 105 (3 * k) = g 13 k ∧ 0 ≤ g 13 k ∧ g 13 k ≤ 3) ∧ (g 105 (3 * k + 1) = g 14 k ∧ 0 ≤ g 14 k ∧ g 14 k ≤ 35) ∧ (g 105 (3 * k + 2) = g 15 k ∧ 0 ≤ g 15 k ∧ g 15 k ≤ 3)
theorem c32x (X : mX) (g : mF) (a : Int) : ∃ y, Ret X 0 32 [(2, 12), (0, a)] g (some (2, y)) g := by
  by_cases ha : 0 ≤ a ∧ a ≤ 3
  · obtain ⟨c, rfl⟩ : ∃ c : Nat, a = (c : Int) := ⟨a.toNat, by omega⟩
    exact ⟨_, c32 X g (by omega)⟩
  · exact ⟨_, c32n X g a ha⟩
theorem c33 (X : mX) (g : mF) (a i x : Int) (h : 0 ≤ g 11 1 ∧ g 11 1 < 12) : Ret X 0 33 [(2, 12), (0, a), (0, i), (0, x)] g none (mup (mup (mup (mup (mup g 13 (g 11 1).toNat a) 14 (g 11 1).toNat i) 15 (g 11 1).toNat x) 11 1 (g 11 1 + 1)) 11 3 0) := by
  intro d Q hd hQ
  have e1 : mup g 13 (g 11 1).toNat a 11 1 = g 11 1 := mup_n (by omega)
  have e2 : mup (mup g 13 (g 11 1).toNat a) 14 (g 11 1).toNat i 11 1 = g 11 1 := by rw [mup_n (by omega), e1]
  have e3 : mup (mup (mup g 13 (g 11 1).toNat a) 14 (g 11 1).toNat i) 15 (g 11 1).toNat x 11 1 = g 11 1 := by rw [mup_n (by omega), e2]
  repeat' (first
    | (exfalso; omega)
    | (exact absurd trivial (by assumption))
    | (apply s_33_0; try simp only [mi_12, fl_12_4, mi_14, ml_14, fl_14, up_14, fl_12_1, up_12_1, fl_12_5, mi_15, ml_15, fl_15, up_15, fl_12_6, mi_16, ml_16, fl_16, up_16, fl_12_3, up_12_3, e1, e2, e3, true_and, and_true, true_or, or_true, implies_true, b10_0, b10_1])
    | (apply s_33_10; try simp only [mi_12, fl_12_4, mi_14, ml_14, fl_14, up_14, fl_12_1, up_12_1, fl_12_5, mi_15, ml_15, fl_15, up_15, fl_12_6, mi_16, ml_16, fl_16, up_16, fl_12_3, up_12_3, e1, e2, e3, true_and, and_true, true_or, or_true, implies_true, b10_0, b10_1])
    | (apply s_33_20; try simp only [mi_12, fl_12_4, mi_14, ml_14, fl_14, up_14, fl_12_1, up_12_1, fl_12_5, mi_15, ml_15, fl_15, up_15, fl_12_6, mi_16, ml_16, fl_16, up_16, fl_12_3, up_12_3, e1, e2, e3, true_and, and_true, true_or, or_true, implies_true, b10_0, b10_1])
    | (apply s_33_30; try simp only [mi_12, fl_12_4, mi_14, ml_14, fl_14, up_14, fl_12_1, up_12_1, fl_12_5, mi_15, ml_15, fl_15, up_15, fl_12_6, mi_16, ml_16, fl_16, up_16, fl_12_3, up_12_3, e1, e2, e3, true_and, and_true, true_or, or_true, implies_true, b10_0, b10_1])
    | (apply s_33_40; try simp only [mi_12, fl_12_4, mi_14, ml_14, fl_14, up_14, fl_12_1, up_12_1, fl_12_5, mi_15, ml_15, fl_15, up_15, fl_12_6, mi_16, ml_16, fl_16, up_16, fl_12_3, up_12_3, e1, e2, e3, true_and, and_true, true_or, or_true, implies_true, b10_0, b10_1])
    | (refine And.intro ?_ ?_)
    | (intro _)
    | omega
    | (unfold r32; omega)
    | (exact hQ)
    | (exact qe hQ (by omega))
    | (exact qe hQ (by (repeat' split) <;> omega))
    | (exact b01))
/-- link -/
theorem T_link (X : mX) (g : mF) (a i x : Int) (hI : ∀ c, c < 4 → Iclk g c) (hL : Ilink g) : ∃ r g1 g2, Ret X 60 108 [(2, 1), (0, a), (0, i), (0, x), (3, 0), (3, 0)] g (some (0, r)) g1 ∧ Ret X 60 195 [(2, 87), (0, a), (0, i), (0, x)] g1 (some (0, r)) g2 ∧ Ilink g2 ∧ Chg (fun o k => o = 11 ∧ (k = 1 ∨ k = 3) ∨ o = 13 ∨ o = 14 ∨ o = 15 ∨ o = 105 ∨ o = 86 ∧ k = 20) g g2 ∧ (g2 = g ∨ g2 11 3 = 0) := by
  obtain ⟨⟨n1, n2, n3⟩, n4⟩ := id hL
  by_cases ha : 0 ≤ a ∧ a ≤ 3
  · obtain ⟨b, rfl⟩ : ∃ b : Nat, a = (b : Int) := ⟨a.toNat, by omega⟩
    have hb4 : b < 4 := by omega
    obtain ⟨k1, k2, k3, -⟩ := hI b hb4
    have hb : 0 ≤ g 99 b ∧ g 99 b ≤ 36 := by omega
    by_cases hi : 0 ≤ i ∧ i < g (19 + 6 * b) 0
    · by_cases hx : 0 ≤ x ∧ x ≤ 3
      · obtain ⟨c, rfl⟩ : ∃ c : Nat, x = (c : Int) := ⟨x.toNat, by omega⟩
        have hc4 : c < 4 := by omega
        obtain ⟨l1, l2, l3, -⟩ := hI c hc4
        have hcb : 0 ≤ g 99 c ∧ g 99 c ≤ 36 := by omega
        by_cases hz : 0 < g (19 + 6 * c) 0
        · by_cases hbc : (b : Int) = (c : Int)
          · refine ⟨-1002, g, g, ?_, ?_, hL, Chg_w Chg_r (fun _ _ z => z.elim), Or.inl rfl⟩
            · intro d Q hd hQ
              repeat' (first
                | (exfalso; omega)
                | (exact absurd trivial (by assumption))
                | (apply s_108_0; try simp only [mi_1, fl_1_4, mi_12, cm_o, fl_12_1, up_12_1, hb4, hc4, true_and, and_true, true_or, or_true, implies_true, b10_0, b10_1])
                | (apply s_108_8; try simp only [mi_1, fl_1_4, mi_12, cm_o, fl_12_1, up_12_1, hb4, hc4, true_and, and_true, true_or, or_true, implies_true, b10_0, b10_1])
                | (apply s_108_18; try simp only [mi_1, fl_1_4, mi_12, cm_o, fl_12_1, up_12_1, hb4, hc4, true_and, and_true, true_or, or_true, implies_true, b10_0, b10_1])
                | (apply s_108_31; try simp only [mi_1, fl_1_4, mi_12, cm_o, fl_12_1, up_12_1, hb4, hc4, true_and, and_true, true_or, or_true, implies_true, b10_0, b10_1])
                | (apply s_108_49; try simp only [mi_1, fl_1_4, mi_12, cm_o, fl_12_1, up_12_1, hb4, hc4, true_and, and_true, true_or, or_true, implies_true, b10_0, b10_1])
                | (apply s_108_91; try simp only [mi_1, fl_1_4, mi_12, cm_o, fl_12_1, up_12_1, hb4, hc4, true_and, and_true, true_or, or_true, implies_true, b10_0, b10_1])
                | (refine c32 X g hb4 _ _ (by omega) ?_)
                | (refine c32 X g hc4 _ _ (by omega) ?_)
                | (refine c14 X g hb4 _ _ _ (by omega) ?_)
                | (refine c14 X g hc4 _ _ _ (by omega) ?_)
                | (refine And.intro ?_ ?_)
                | (intro _)
                | omega
                | (unfold r32; omega)
                | (exact hQ)
                | (exact qe hQ (by omega))
                | (exact qe hQ (by (repeat' split) <;> omega))
                | (exact b01))
            · intro d Q hd hQ
              repeat' (first
                | (exfalso; omega)
                | (exact absurd trivial (by assumption))
                | (apply s_195_0; try simp only [mi_87, fl_87_20, up_87_20, fl_87_21, mi_106, ml_106, fl_106, up_106, true_and, and_true, true_or, or_true, implies_true, b10_0, b10_1])
                | (apply s_195_6; try simp only [mi_87, fl_87_20, up_87_20, fl_87_21, mi_106, ml_106, fl_106, up_106, true_and, and_true, true_or, or_true, implies_true, b10_0, b10_1])
                | (apply s_195_15; try simp only [mi_87, fl_87_20, up_87_20, fl_87_21, mi_106, ml_106, fl_106, up_106, true_and, and_true, true_or, or_true, implies_true, b10_0, b10_1])
                | (apply s_195_56; try simp only [mi_87, fl_87_20, up_87_20, fl_87_21, mi_106, ml_106, fl_106, up_106, true_and, and_true, true_or, or_true, implies_true, b10_0, b10_1])
                | (apply s_195_70; try simp only [mi_87, fl_87_20, up_87_20, fl_87_21, mi_106, ml_106, fl_106, up_106, true_and, and_true, true_or, or_true, implies_true, b10_0, b10_1])
                | (apply s_195_84; try simp only [mi_87, fl_87_20, up_87_20, fl_87_21, mi_106, ml_106, fl_106, up_106, true_and, and_true, true_or, or_true, implies_true, b10_0, b10_1])
                | (refine c175 X g hb4 _ hb _ _ (by omega) ?_)
                | (refine c175 X g hc4 _ hcb _ _ (by omega) ?_)
                | (refine And.intro ?_ ?_)
                | (intro _)
                | omega
                | (unfold r32; omega)
                | (exact hQ)
                | (exact qe hQ (by omega))
                | (exact qe hQ (by (repeat' split) <;> omega))
                | (exact b01))
          · by_cases hf : g 11 1 < 12
            · have c1 := c33 X g (b : Int) i (c : Int) ⟨n2, hf⟩
              generalize hg1 : mup (mup (mup (mup (mup g 13 (g 11 1).toNat (b : Int)) 14 (g 11 1).toNat i) 15 (g 11 1).toNat (c : Int)) 11 1 (g 11 1 + 1)) 11 3 0 = g1 at c1
              have q1 : g1 11 1 = g 11 1 + 1 := by rw [← hg1, mup_n (by omega), mup_e]
              have q3 : g1 11 3 = 0 := by rw [← hg1, mup_e]
              have fo1 : ∀ o k, ¬ (o = 11 ∧ (k = 1 ∨ k = 3) ∨ (o = 13 ∨ o = 14 ∨ o = 15) ∧ k = (g 11 1).toNat) → g1 o k = g o k := by
                intro o k ho
                rw [← hg1, mup_n (by omega), mup_n (by omega), mup_n (by omega), mup_n (by omega), mup_n (by omega)]
              have v13 : g1 13 (g 11 1).toNat = (b : Int) := by rw [← hg1, mup_n (by omega), mup_n (by omega), mup_n (by omega), mup_n (by omega), mup_e]
              have v14 : g1 14 (g 11 1).toNat = i := by rw [← hg1, mup_n (by omega), mup_n (by omega), mup_n (by omega), mup_e]
              have v15 : g1 15 (g 11 1).toNat = (c : Int) := by rw [← hg1, mup_n (by omega), mup_n (by omega), mup_e]
              have s0 : g1 86 20 = g 11 1 := by rw [fo1 86 20 (by omega), n1]
              generalize hm1 : mup g1 105 (3 * g 11 1).toNat (b : Int) = m1
              have s1 : m1 86 20 = g 11 1 := by rw [← hm1, mup_n (by omega), s0]
              generalize hm2 : mup m1 105 (3 * g 11 1 + 1).toNat i = m2
              have s2 : m2 86 20 = g 11 1 := by rw [← hm2, mup_n (by omega), s1]
              generalize hm3 : mup m2 105 (3 * g 11 1 + 2).toNat (c : Int) = m3
              have s3 : m3 86 20 = g 11 1 := by rw [← hm3, mup_n (by omega), s2]
              generalize hg2 : mup m3 86 20 (g 11 1 + 1) = g2
              have s4 : g2 86 20 = g 11 1 + 1 := by rw [← hg2, mup_e]
              have fo2 : ∀ o k, ¬ (o = 86 ∧ k = 20 ∨ o = 105 ∧ (k = (3 * g 11 1).toNat ∨ k = (3 * g 11 1 + 1).toNat ∨ k = (3 * g 11 1 + 2).toNat)) → g2 o k = g1 o k := by
                intro o k ho
                rw [← hg2, mup_n (by omega), ← hm3, mup_n (by omega), ← hm2, mup_n (by omega), ← hm1, mup_n (by omega)]
              have w0 : g2 105 (3 * g 11 1).toNat = (b : Int) := by rw [← hg2, mup_n (by omega), ← hm3, mup_n (by omega), ← hm2, mup_n (by omega), ← hm1, mup_e]
              have w1 : g2 105 (3 * g 11 1 + 1).toNat = i := by rw [← hg2, mup_n (by omega), ← hm3, mup_n (by omega), ← hm2, mup_e]
              have w2 : g2 105 (3 * g 11 1 + 2).toNat = (c : Int) := by rw [← hg2, mup_n (by omega), ← hm3, mup_e]
              refine ⟨g 11 1 + 1, g1, g2, ?_, ?_, ⟨?_, fun k hk => ?_⟩, fun o k ho => by rw [fo2 o k (by omega), fo1 o k (by omega)], Or.inr (by rw [fo2 11 3 (by omega), q3])⟩
              · intro d Q hd hQ
                repeat' (first
                  | (exfalso; omega)
                  | (exact absurd trivial (by assumption))
                  | (apply s_108_0; try simp only [mi_1, fl_1_4, mi_12, cm_o, fl_12_1, up_12_1, hb4, hc4, q1, true_and, and_true, true_or, or_true, implies_true, b10_0, b10_1])
                  | (apply s_108_8; try simp only [mi_1, fl_1_4, mi_12, cm_o, fl_12_1, up_12_1, hb4, hc4, q1, true_and, and_true, true_or, or_true, implies_true, b10_0, b10_1])
                  | (apply s_108_18; try simp only [mi_1, fl_1_4, mi_12, cm_o, fl_12_1, up_12_1, hb4, hc4, q1, true_and, and_true, true_or, or_true, implies_true, b10_0, b10_1])
                  | (apply s_108_31; try simp only [mi_1, fl_1_4, mi_12, cm_o, fl_12_1, up_12_1, hb4, hc4, q1, true_and, and_true, true_or, or_true, implies_true, b10_0, b10_1])
                  | (apply s_108_49; try simp only [mi_1, fl_1_4, mi_12, cm_o, fl_12_1, up_12_1, hb4, hc4, q1, true_and, and_true, true_or, or_true, implies_true, b10_0, b10_1])
                  | (apply s_108_91; try simp only [mi_1, fl_1_4, mi_12, cm_o, fl_12_1, up_12_1, hb4, hc4, q1, true_and, and_true, true_or, or_true, implies_true, b10_0, b10_1])
                  | (refine c32 X g hb4 _ _ (by omega) ?_)
                  | (refine c32 X g hc4 _ _ (by omega) ?_)
                  | (refine c14 X g hb4 _ _ _ (by omega) ?_)
                  | (refine c14 X g hc4 _ _ _ (by omega) ?_)
                  | (refine c1 _ _ (by omega) ?_)
                  | (refine And.intro ?_ ?_)
                  | (intro _)
                  | omega
                  | (unfold r32; omega)
                  | (exact hQ)
                  | (exact qe hQ (by omega))
                  | (exact qe hQ (by (repeat' split) <;> omega))
                  | (exact b01))
              · intro d Q hd hQ
                have hb' : 0 ≤ g1 99 b ∧ g1 99 b ≤ 36 := by rw [fo1 99 b (by omega)]; exact hb
                have hc' : 0 ≤ g1 99 c ∧ g1 99 c ≤ 36 := by rw [fo1 99 c (by omega)]; exact hcb
                have hi' : 0 ≤ i ∧ i < g1 99 b := by rw [fo1 99 b (by omega)]; omega
                have hz' : 0 < g1 99 c := by rw [fo1 99 c (by omega)]; omega
                repeat' (first
                  | (exfalso; omega)
                  | (exact absurd trivial (by assumption))
                  | (apply s_195_0; try simp only [mi_87, fl_87_20, up_87_20, fl_87_21, mi_106, ml_106, fl_106, up_106, s0, hm1, s1, hm2, s2, hm3, s3, hg2, s4, true_and, and_true, true_or, or_true, implies_true, b10_0, b10_1])
                  | (apply s_195_6; try simp only [mi_87, fl_87_20, up_87_20, fl_87_21, mi_106, ml_106, fl_106, up_106, s0, hm1, s1, hm2, s2, hm3, s3, hg2, s4, true_and, and_true, true_or, or_true, implies_true, b10_0, b10_1])
                  | (apply s_195_15; try simp only [mi_87, fl_87_20, up_87_20, fl_87_21, mi_106, ml_106, fl_106, up_106, s0, hm1, s1, hm2, s2, hm3, s3, hg2, s4, true_and, and_true, true_or, or_true, implies_true, b10_0, b10_1])
                  | (apply s_195_56; try simp only [mi_87, fl_87_20, up_87_20, fl_87_21, mi_106, ml_106, fl_106, up_106, s0, hm1, s1, hm2, s2, hm3, s3, hg2, s4, true_and, and_true, true_or, or_true, implies_true, b10_0, b10_1])
                  | (apply s_195_70; try simp only [mi_87, fl_87_20, up_87_20, fl_87_21, mi_106, ml_106, fl_106, up_106, s0, hm1, s1, hm2, s2, hm3, s3, hg2, s4, true_and, and_true, true_or, or_true, implies_true, b10_0, b10_1])
                  | (apply s_195_84; try simp only [mi_87, fl_87_20, up_87_20, fl_87_21, mi_106, ml_106, fl_106, up_106, s0, hm1, s1, hm2, s2, hm3, s3, hg2, s4, true_and, and_true, true_or, or_true, implies_true, b10_0, b10_1])
                  | (refine c175 X g1 hb4 _ hb' _ _ (by omega) ?_)
                  | (refine c175 X g1 hc4 _ hc' _ _ (by omega) ?_)
                  | (refine And.intro ?_ ?_)
                  | (intro _)
                  | omega
                  | (unfold r32; omega)
                  | (exact hQ)
                  | (exact qe hQ (by omega))
                  | (exact qe hQ (by (repeat' split) <;> omega))
                  | (exact b01))
              · rw [s4, fo2 11 1 (by omega), q1]
                omega
              · rw [fo2 11 1 (by omega), q1] at hk
                by_cases hkl : k = (g 11 1).toNat
                · subst hkl
                  rw [fo2 13 _ (by omega), fo2 14 _ (by omega), fo2 15 _ (by omega), v13, v14, v15, show 3 * (g 11 1).toNat = (3 * g 11 1).toNat by omega, w0, show (3 * g 11 1).toNat + 1 = (3 * g 11 1 + 1).toNat by omega, w1, show (3 * g 11 1).toNat + 2 = (3 * g 11 1 + 2).toNat by omega, w2]
                  omega
                · have z := n4 k (by omega)
                  rw [fo2 13 _ (by omega), fo2 14 _ (by omega), fo2 15 _ (by omega), fo2 105 _ (by omega), fo2 105 _ (by omega), fo2 105 _ (by omega), fo1 13 _ (by omega), fo1 14 _ (by omega), fo1 15 _ (by omega), fo1 105 _ (by omega), fo1 105 _ (by omega), fo1 105 _ (by omega)]
                  exact z
            · refine ⟨-1004, g, g, ?_, ?_, hL, Chg_w Chg_r (fun _ _ z => z.elim), Or.inl rfl⟩
              · intro d Q hd hQ
                repeat' (first
                  | (exfalso; omega)
                  | (exact absurd trivial (by assumption))
                  | (apply s_108_0; try simp only [mi_1, fl_1_4, mi_12, cm_o, fl_12_1, up_12_1, hb4, hc4, true_and, and_true, true_or, or_true, implies_true, b10_0, b10_1])
                  | (apply s_108_8; try simp only [mi_1, fl_1_4, mi_12, cm_o, fl_12_1, up_12_1, hb4, hc4, true_and, and_true, true_or, or_true, implies_true, b10_0, b10_1])
                  | (apply s_108_18; try simp only [mi_1, fl_1_4, mi_12, cm_o, fl_12_1, up_12_1, hb4, hc4, true_and, and_true, true_or, or_true, implies_true, b10_0, b10_1])
                  | (apply s_108_31; try simp only [mi_1, fl_1_4, mi_12, cm_o, fl_12_1, up_12_1, hb4, hc4, true_and, and_true, true_or, or_true, implies_true, b10_0, b10_1])
                  | (apply s_108_49; try simp only [mi_1, fl_1_4, mi_12, cm_o, fl_12_1, up_12_1, hb4, hc4, true_and, and_true, true_or, or_true, implies_true, b10_0, b10_1])
                  | (apply s_108_91; try simp only [mi_1, fl_1_4, mi_12, cm_o, fl_12_1, up_12_1, hb4, hc4, true_and, and_true, true_or, or_true, implies_true, b10_0, b10_1])
                  | (refine c32 X g hb4 _ _ (by omega) ?_)
                  | (refine c32 X g hc4 _ _ (by omega) ?_)
                  | (refine c14 X g hb4 _ _ _ (by omega) ?_)
                  | (refine c14 X g hc4 _ _ _ (by omega) ?_)
                  | (refine And.intro ?_ ?_)
                  | (intro _)
                  | omega
                  | (unfold r32; omega)
                  | (exact hQ)
                  | (exact qe hQ (by omega))
                  | (exact qe hQ (by (repeat' split) <;> omega))
                  | (exact b01))
              · intro d Q hd hQ
                repeat' (first
                  | (exfalso; omega)
                  | (exact absurd trivial (by assumption))
                  | (apply s_195_0; try simp only [mi_87, fl_87_20, up_87_20, fl_87_21, mi_106, ml_106, fl_106, up_106, n1, true_and, and_true, true_or, or_true, implies_true, b10_0, b10_1])
                  | (apply s_195_6; try simp only [mi_87, fl_87_20, up_87_20, fl_87_21, mi_106, ml_106, fl_106, up_106, n1, true_and, and_true, true_or, or_true, implies_true, b10_0, b10_1])
                  | (apply s_195_15; try simp only [mi_87, fl_87_20, up_87_20, fl_87_21, mi_106, ml_106, fl_106, up_106, n1, true_and, and_true, true_or, or_true, implies_true, b10_0, b10_1])
                  | (apply s_195_56; try simp only [mi_87, fl_87_20, up_87_20, fl_87_21, mi_106, ml_106, fl_106, up_106, n1, true_and, and_true, true_or, or_true, implies_true, b10_0, b10_1])
                  | (apply s_195_70; try simp only [mi_87, fl_87_20, up_87_20, fl_87_21, mi_106, ml_106, fl_106, up_106, n1, true_and, and_true, true_or, or_true, implies_true, b10_0, b10_1])
                  | (apply s_195_84; try simp only [mi_87, fl_87_20, up_87_20, fl_87_21, mi_106, ml_106, fl_106, up_106, n1, true_and, and_true, true_or, or_true, implies_true, b10_0, b10_1])
                  | (refine c175 X g hb4 _ hb _ _ (by omega) ?_)
                  | (refine c175 X g hc4 _ hcb _ _ (by omega) ?_)
                  | (refine And.intro ?_ ?_)
                  | (intro _)
                  | omega
                  | (unfold r32; omega)
                  | (exact hQ)
                  | (exact qe hQ (by omega))
                  | (exact qe hQ (by (repeat' split) <;> omega))
                  | (exact b01))
        · refine ⟨-1001, g, g, ?_, ?_, hL, Chg_w Chg_r (fun _ _ z => z.elim), Or.inl rfl⟩
          · intro d Q hd hQ
            repeat' (first
              | (exfalso; omega)
              | (exact absurd trivial (by assumption))
              | (apply s_108_0; try simp only [mi_1, fl_1_4, mi_12, cm_o, fl_12_1, up_12_1, hb4, hc4, true_and, and_true, true_or, or_true, implies_true, b10_0, b10_1])
              | (apply s_108_8; try simp only [mi_1, fl_1_4, mi_12, cm_o, fl_12_1, up_12_1, hb4, hc4, true_and, and_true, true_or, or_true, implies_true, b10_0, b10_1])
              | (apply s_108_18; try simp only [mi_1, fl_1_4, mi_12, cm_o, fl_12_1, up_12_1, hb4, hc4, true_and, and_true, true_or, or_true, implies_true, b10_0, b10_1])
              | (apply s_108_31; try simp only [mi_1, fl_1_4, mi_12, cm_o, fl_12_1, up_12_1, hb4, hc4, true_and, and_true, true_or, or_true, implies_true, b10_0, b10_1])
              | (apply s_108_49; try simp only [mi_1, fl_1_4, mi_12, cm_o, fl_12_1, up_12_1, hb4, hc4, true_and, and_true, true_or, or_true, implies_true, b10_0, b10_1])
              | (apply s_108_91; try simp only [mi_1, fl_1_4, mi_12, cm_o, fl_12_1, up_12_1, hb4, hc4, true_and, and_true, true_or, or_true, implies_true, b10_0, b10_1])
              | (refine c32 X g hb4 _ _ (by omega) ?_)
              | (refine c32 X g hc4 _ _ (by omega) ?_)
              | (refine c14 X g hb4 _ _ _ (by omega) ?_)
              | (refine c14 X g hc4 _ _ _ (by omega) ?_)
              | (refine And.intro ?_ ?_)
              | (intro _)
              | omega
              | (unfold r32; omega)
              | (exact hQ)
              | (exact qe hQ (by omega))
              | (exact qe hQ (by (repeat' split) <;> omega))
              | (exact b01))
          · intro d Q hd hQ
            repeat' (first
              | (exfalso; omega)
              | (exact absurd trivial (by assumption))
              | (apply s_195_0; try simp only [mi_87, fl_87_20, up_87_20, fl_87_21, mi_106, ml_106, fl_106, up_106, true_and, and_true, true_or, or_true, implies_true, b10_0, b10_1])
              | (apply s_195_6; try simp only [mi_87, fl_87_20, up_87_20, fl_87_21, mi_106, ml_106, fl_106, up_106, true_and, and_true, true_or, or_true, implies_true, b10_0, b10_1])
              | (apply s_195_15; try simp only [mi_87, fl_87_20, up_87_20, fl_87_21, mi_106, ml_106, fl_106, up_106, true_and, and_true, true_or, or_true, implies_true, b10_0, b10_1])
              | (apply s_195_56; try simp only [mi_87, fl_87_20, up_87_20, fl_87_21, mi_106, ml_106, fl_106, up_106, true_and, and_true, true_or, or_true, implies_true, b10_0, b10_1])
              | (apply s_195_70; try simp only [mi_87, fl_87_20, up_87_20, fl_87_21, mi_106, ml_106, fl_106, up_106, true_and, and_true, true_or, or_true, implies_true, b10_0, b10_1])
              | (apply s_195_84; try simp only [mi_87, fl_87_20, up_87_20, fl_87_21, mi_106, ml_106, fl_106, up_106, true_and, and_true, true_or, or_true, implies_true, b10_0, b10_1])
              | (refine c175 X g hb4 _ hb _ _ (by omega) ?_)
              | (refine c175 X g hc4 _ hcb _ _ (by omega) ?_)
              | (refine And.intro ?_ ?_)
              | (intro _)
              | omega
              | (unfold r32; omega)
              | (exact hQ)
              | (exact qe hQ (by omega))
              | (exact qe hQ (by (repeat' split) <;> omega))
              | (exact b01))
      · refine ⟨-1001, g, g, ?_, ?_, hL, Chg_w Chg_r (fun _ _ z => z.elim), Or.inl rfl⟩
        · intro d Q hd hQ
          repeat' (first
            | (exfalso; omega)
            | (exact absurd trivial (by assumption))
            | (apply s_108_0; try simp only [mi_1, fl_1_4, mi_12, cm_o, fl_12_1, up_12_1, hb4, true_and, and_true, true_or, or_true, implies_true, b10_0, b10_1])
            | (apply s_108_8; try simp only [mi_1, fl_1_4, mi_12, cm_o, fl_12_1, up_12_1, hb4, true_and, and_true, true_or, or_true, implies_true, b10_0, b10_1])
            | (apply s_108_18; try simp only [mi_1, fl_1_4, mi_12, cm_o, fl_12_1, up_12_1, hb4, true_and, and_true, true_or, or_true, implies_true, b10_0, b10_1])
            | (apply s_108_31; try simp only [mi_1, fl_1_4, mi_12, cm_o, fl_12_1, up_12_1, hb4, true_and, and_true, true_or, or_true, implies_true, b10_0, b10_1])
            | (apply s_108_49; try simp only [mi_1, fl_1_4, mi_12, cm_o, fl_12_1, up_12_1, hb4, true_and, and_true, true_or, or_true, implies_true, b10_0, b10_1])
            | (apply s_108_91; try simp only [mi_1, fl_1_4, mi_12, cm_o, fl_12_1, up_12_1, hb4, true_and, and_true, true_or, or_true, implies_true, b10_0, b10_1])
            | (refine c32 X g hb4 _ _ (by omega) ?_)
            | (refine c32n X g _ hx _ _ (by omega) ?_)
            | (refine c14 X g hb4 _ _ _ (by omega) ?_)
            | (refine And.intro ?_ ?_)
            | (intro _)
            | omega
            | (unfold r32; omega)
            | (exact hQ)
            | (exact qe hQ (by omega))
            | (exact qe hQ (by (repeat' split) <;> omega))
            | (exact b01))
        · intro d Q hd hQ
          repeat' (first
            | (exfalso; omega)
            | (exact absurd trivial (by assumption))
            | (apply s_195_0; try simp only [mi_87, fl_87_20, up_87_20, fl_87_21, mi_106, ml_106, fl_106, up_106, true_and, and_true, true_or, or_true, implies_true, b10_0, b10_1])
            | (apply s_195_6; try simp only [mi_87, fl_87_20, up_87_20, fl_87_21, mi_106, ml_106, fl_106, up_106, true_and, and_true, true_or, or_true, implies_true, b10_0, b10_1])
            | (apply s_195_15; try simp only [mi_87, fl_87_20, up_87_20, fl_87_21, mi_106, ml_106, fl_106, up_106, true_and, and_true, true_or, or_true, implies_true, b10_0, b10_1])
            | (apply s_195_56; try simp only [mi_87, fl_87_20, up_87_20, fl_87_21, mi_106, ml_106, fl_106, up_106, true_and, and_true, true_or, or_true, implies_true, b10_0, b10_1])
            | (apply s_195_70; try simp only [mi_87, fl_87_20, up_87_20, fl_87_21, mi_106, ml_106, fl_106, up_106, true_and, and_true, true_or, or_true, implies_true, b10_0, b10_1])
            | (apply s_195_84; try simp only [mi_87, fl_87_20, up_87_20, fl_87_21, mi_106, ml_106, fl_106, up_106, true_and, and_true, true_or, or_true, implies_true, b10_0, b10_1])
            | (refine c175 X g hb4 _ hb _ _ (by omega) ?_)
            | (refine c175n X g _ _ hx _ _ (by omega) ?_)
            | (refine And.intro ?_ ?_)
            | (intro _)
            | omega
            | (unfold r32; omega)
            | (exact hQ)
            | (exact qe hQ (by omega))
            | (exact qe hQ (by (repeat' split) <;> omega))
            | (exact b01))
    · obtain ⟨y, hy⟩ := c32x X g x
      refine ⟨-1001, g, g, ?_, ?_, hL, Chg_w Chg_r (fun _ _ z => z.elim), Or.inl rfl⟩
      · intro d Q hd hQ
        repeat' (first
          | (exfalso; omega)
          | (exact absurd trivial (by assumption))
          | (apply s_108_0; try simp only [mi_1, fl_1_4, mi_12, cm_o, fl_12_1, up_12_1, hb4, true_and, and_true, true_or, or_true, implies_true, b10_0, b10_1])
          | (apply s_108_8; try simp only [mi_1, fl_1_4, mi_12, cm_o, fl_12_1, up_12_1, hb4, true_and, and_true, true_or, or_true, implies_true, b10_0, b10_1])
          | (apply s_108_18; try simp only [mi_1, fl_1_4, mi_12, cm_o, fl_12_1, up_12_1, hb4, true_and, and_true, true_or, or_true, implies_true, b10_0, b10_1])
          | (apply s_108_31; try simp only [mi_1, fl_1_4, mi_12, cm_o, fl_12_1, up_12_1, hb4, true_and, and_true, true_or, or_true, implies_true, b10_0, b10_1])
          | (apply s_108_49; try simp only [mi_1, fl_1_4, mi_12, cm_o, fl_12_1, up_12_1, hb4, true_and, and_true, true_or, or_true, implies_true, b10_0, b10_1])
          | (apply s_108_91; try simp only [mi_1, fl_1_4, mi_12, cm_o, fl_12_1, up_12_1, hb4, true_and, and_true, true_or, or_true, implies_true, b10_0, b10_1])
          | (refine c32 X g hb4 _ _ (by omega) ?_)
          | (refine hy _ _ (by omega) ?_)
          | (refine c14 X g hb4 _ _ _ (by omega) ?_)
          | (refine And.intro ?_ ?_)
          | (intro _)
          | omega
          | (unfold r32; omega)
          | (exact hQ)
          | (exact qe hQ (by omega))
          | (exact qe hQ (by (repeat' split) <;> omega))
          | (exact b01))
      · intro d Q hd hQ
        repeat' (first
          | (exfalso; omega)
          | (exact absurd trivial (by assumption))
          | (apply s_195_0; try simp only [mi_87, fl_87_20, up_87_20, fl_87_21, mi_106, ml_106, fl_106, up_106, true_and, and_true, true_or, or_true, implies_true, b10_0, b10_1])
          | (apply s_195_6; try simp only [mi_87, fl_87_20, up_87_20, fl_87_21, mi_106, ml_106, fl_106, up_106, true_and, and_true, true_or, or_true, implies_true, b10_0, b10_1])
          | (apply s_195_15; try simp only [mi_87, fl_87_20, up_87_20, fl_87_21, mi_106, ml_106, fl_106, up_106, true_and, and_true, true_or, or_true, implies_true, b10_0, b10_1])
          | (apply s_195_56; try simp only [mi_87, fl_87_20, up_87_20, fl_87_21, mi_106, ml_106, fl_106, up_106, true_and, and_true, true_or, or_true, implies_true, b10_0, b10_1])
          | (apply s_195_70; try simp only [mi_87, fl_87_20, up_87_20, fl_87_21, mi_106, ml_106, fl_106, up_106, true_and, and_true, true_or, or_true, implies_true, b10_0, b10_1])
          | (apply s_195_84; try simp only [mi_87, fl_87_20, up_87_20, fl_87_21, mi_106, ml_106, fl_106, up_106, true_and, and_true, true_or, or_true, implies_true, b10_0, b10_1])
          | (refine c175 X g hb4 _ hb _ _ (by omega) ?_)
          | (refine And.intro ?_ ?_)
          | (intro _)
          | omega
          | (unfold r32; omega)
          | (exact hQ)
          | (exact qe hQ (by omega))
          | (exact qe hQ (by (repeat' split) <;> omega))
          | (exact b01))
  · obtain ⟨y, hy⟩ := c32x X g x
    refine ⟨-1001, g, g, ?_, ?_, hL, Chg_w Chg_r (fun _ _ z => z.elim), Or.inl rfl⟩
    · intro d Q hd hQ
      repeat' (first
        | (exfalso; omega)
        | (exact absurd trivial (by assumption))
        | (apply s_108_0; try simp only [mi_1, fl_1_4, mi_12, cm_o, fl_12_1, up_12_1, true_and, and_true, true_or, or_true, implies_true, b10_0, b10_1])
        | (apply s_108_8; try simp only [mi_1, fl_1_4, mi_12, cm_o, fl_12_1, up_12_1, true_and, and_true, true_or, or_true, implies_true, b10_0, b10_1])
        | (apply s_108_18; try simp only [mi_1, fl_1_4, mi_12, cm_o, fl_12_1, up_12_1, true_and, and_true, true_or, or_true, implies_true, b10_0, b10_1])
        | (apply s_108_31; try simp only [mi_1, fl_1_4, mi_12, cm_o, fl_12_1, up_12_1, true_and, and_true, true_or, or_true, implies_true, b10_0, b10_1])
        | (apply s_108_49; try simp only [mi_1, fl_1_4, mi_12, cm_o, fl_12_1, up_12_1, true_and, and_true, true_or, or_true, implies_true, b10_0, b10_1])
        | (apply s_108_91; try simp only [mi_1, fl_1_4, mi_12, cm_o, fl_12_1, up_12_1, true_and, and_true, true_or, or_true, implies_true, b10_0, b10_1])
        | (refine c32n X g _ ha _ _ (by omega) ?_)
        | (refine hy _ _ (by omega) ?_)
        | (refine And.intro ?_ ?_)
        | (intro _)
        | omega
        | (unfold r32; omega)
        | (exact hQ)
        | (exact qe hQ (by omega))
        | (exact qe hQ (by (repeat' split) <;> omega))
        | (exact b01))
    · intro d Q hd hQ
      repeat' (first
        | (exfalso; omega)
        | (exact absurd trivial (by assumption))
        | (apply s_195_0; try simp only [mi_87, fl_87_20, up_87_20, fl_87_21, mi_106, ml_106, fl_106, up_106, true_and, and_true, true_or, or_true, implies_true, b10_0, b10_1])
        | (apply s_195_6; try simp only [mi_87, fl_87_20, up_87_20, fl_87_21, mi_106, ml_106, fl_106, up_106, true_and, and_true, true_or, or_true, implies_true, b10_0, b10_1])
        | (apply s_195_15; try simp only [mi_87, fl_87_20, up_87_20, fl_87_21, mi_106, ml_106, fl_106, up_106, true_and, and_true, true_or, or_true, implies_true, b10_0, b10_1])
        | (apply s_195_56; try simp only [mi_87, fl_87_20, up_87_20, fl_87_21, mi_106, ml_106, fl_106, up_106, true_and, and_true, true_or, or_true, implies_true, b10_0, b10_1])
        | (apply s_195_70; try simp only [mi_87, fl_87_20, up_87_20, fl_87_21, mi_106, ml_106, fl_106, up_106, true_and, and_true, true_or, or_true, implies_true, b10_0, b10_1])
        | (apply s_195_84; try simp only [mi_87, fl_87_20, up_87_20, fl_87_21, mi_106, ml_106, fl_106, up_106, true_and, and_true, true_or, or_true, implies_true, b10_0, b10_1])
        | (refine c175n X g _ _ ha _ _ (by omega) ?_)
        | (refine And.intro ?_ ?_)
        | (intro _)
        | omega
        | (unfold r32; omega)
        | (exact hQ)
        | (exact qe hQ (by omega))
        | (exact qe hQ (by (repeat' split) <;> omega))
        | (exact b01))
