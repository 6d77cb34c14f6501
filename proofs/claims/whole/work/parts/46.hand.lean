/-! lighting by hand, pouring -/
theorem Iclk_congr {g g' : mF} {c : Nat} (h0 : g' 99 c = g 99 c) (h1 : ∀ k, k = 0 ∨ k = 2 ∨ k = 3 → g' (19 + 6 * c) k = g (19 + 6 * c) k) (h2 : ∀ k, k < 36 → g' (20 + 6 * c) k = g (20 + 6 * c) k) (h3 : g' 103 c = g 103 c) (h4 : g' 104 c = g 104 c) (h5 : ∀ i, i < 36 → g' 102 (36 * c + i) = g 102 (36 * c + i)) (h : Iclk g c) : Iclk g' c := by
  obtain ⟨k1, k2, k3, k4, k5, k6, k7, k8, k9, k10, k11, k12⟩ := h
  have a0 := h1 0 (by omega)
  have a2 := h1 2 (by omega)
  have a3 := h1 3 (by omega)
  unfold Iclk
  rw [h0, h3, h4, a0, a2, a3]
  refine ⟨k1, k2, k3, fun i hi => ?_, fun i hi => ?_, fun i hi hj => ?_, k7, k8, k9, k10, k11, k12⟩
  · rw [h5 i (by omega), h2 i (by omega)]
    exact k4 i hi
  · rw [h2 i hi]
    exact k5 i hi
  · rw [h2 i hi]
    exact k6 i hi hj
/-- light -/
theorem T_light (X : mX) (g : mF) (a i t : Int) (hI : ∀ c, c < 4 → Iclk g c) : ∃ r g1 g2, Ret X 60 107 [(2, 1), (0, a), (0, i), (0, t), (3, 0)] g (some (0, r)) g1 ∧ Ret X 60 194 [(2, 87), (0, a), (0, i), (0, t)] g1 (some (0, r)) g2 ∧ (∀ c, c < 4 → Iclk g2 c) ∧ Chg (fun o k => o = 11 ∧ k = 3 ∨ o = 103 ∨ o = 104 ∨ (o = 19 ∨ o = 25 ∨ o = 31 ∨ o = 37) ∧ (k = 2 ∨ k = 3)) g g2 ∧ (g2 = g ∨ g2 11 3 = 0) := by
  by_cases ha : 0 ≤ a ∧ a ≤ 3
  · obtain ⟨c, rfl⟩ : ∃ c : Nat, a = (c : Int) := ⟨a.toNat, by omega⟩
    have hc : c < 4 := by omega
    obtain ⟨k1, k2, k3, k4, k5, k6, k7, k8, k9, k10, k11, k12⟩ := hI c hc
    have e : ((c : Int)).toNat = c := by omega
    have hb : 0 ≤ g 99 c ∧ g 99 c ≤ 36 := by omega
    by_cases hi : 0 ≤ i ∧ i < g (19 + 6 * c) 0
    · by_cases ht : -1 ≤ t ∧ t ≤ 5999
      · generalize hg1 : mup (mup (mup g (19 + 6 * c) 2 t) (19 + 6 * c) 3 i) 11 3 0 = g1
        have fo1 : ∀ o k, ¬ (o = 11 ∧ k = 3 ∨ o = 19 + 6 * c ∧ (k = 2 ∨ k = 3)) → g1 o k = g o k := by
          intro o k ho
          rw [← hg1, mup_n (by omega), mup_n (by omega), mup_n (by omega)]
        have q2 : g1 (19 + 6 * c) 2 = t := by rw [← hg1, mup_n (by omega), mup_n (by omega), mup_e]
        have q3 : g1 (19 + 6 * c) 3 = i := by rw [← hg1, mup_n (by omega), mup_e]
        have q4 : g1 11 3 = 0 := by rw [← hg1, mup_e]
        generalize hg2 : mup (mup g1 103 c t) 104 c i = g2
        have fo2 : ∀ o k, ¬ (o = 103 ∧ k = c ∨ o = 104 ∧ k = c) → g2 o k = g1 o k := by
          intro o k ho
          rw [← hg2, mup_n (by omega), mup_n (by omega)]
        have p3 : g2 103 c = t := by rw [← hg2, mup_n (by omega), mup_e]
        have p4 : g2 104 c = i := by rw [← hg2, mup_e]
        have fo : ∀ o k, ¬ (o = 11 ∧ k = 3 ∨ o = 19 + 6 * c ∧ (k = 2 ∨ k = 3) ∨ o = 103 ∧ k = c ∨ o = 104 ∧ k = c) → g2 o k = g o k := by
          intro o k ho
          rw [fo2 o k (by omega), fo1 o k (by omega)]
        refine ⟨1, g1, g2, ?_, ?_, ?_, fun o k ho => fo o k (by omega), Or.inr (by rw [fo2 11 3 (by omega), q4])⟩
        · intro d Q hd hQ
          rw [← hg1] at hQ
          repeat' (first
            | (exfalso; omega)
            | (exact absurd trivial (by assumption))
            | (apply s_107_0; try simp only [mi_1, fl_1_4, mi_12, cm_o, cl_2, cu_2, cl_3, cu_3, fl_12_3, up_12_3, hc, true_and, and_true, true_or, or_true, implies_true, b10_0, b10_1])
            | (apply s_107_8; try simp only [mi_1, fl_1_4, mi_12, cm_o, cl_2, cu_2, cl_3, cu_3, fl_12_3, up_12_3, hc, true_and, and_true, true_or, or_true, implies_true, b10_0, b10_1])
            | (apply s_107_21; try simp only [mi_1, fl_1_4, mi_12, cm_o, cl_2, cu_2, cl_3, cu_3, fl_12_3, up_12_3, hc, true_and, and_true, true_or, or_true, implies_true, b10_0, b10_1])
            | (apply s_107_36; try simp only [mi_1, fl_1_4, mi_12, cm_o, cl_2, cu_2, cl_3, cu_3, fl_12_3, up_12_3, hc, true_and, and_true, true_or, or_true, implies_true, b10_0, b10_1])
            | (apply s_107_49; try simp only [mi_1, fl_1_4, mi_12, cm_o, cl_2, cu_2, cl_3, cu_3, fl_12_3, up_12_3, hc, true_and, and_true, true_or, or_true, implies_true, b10_0, b10_1])
            | (apply s_107_55; try simp only [mi_1, fl_1_4, mi_12, cm_o, cl_2, cu_2, cl_3, cu_3, fl_12_3, up_12_3, hc, true_and, and_true, true_or, or_true, implies_true, b10_0, b10_1])
            | (refine c130 X _ _ _ _ _ _ (by omega) ?_)
            | (refine c32 X g hc _ _ (by omega) ?_)
            | (refine c14 X g hc _ _ _ (by omega) ?_)
            | (refine And.intro ?_ ?_)
            | (intro _)
            | omega
            | (unfold r32; omega)
            | (exact hQ)
            | (exact qe hQ (by omega))
            | (exact qe hQ (by (repeat' split) <;> omega))
            | (exact b01))
        · intro d Q hd hQ
          rw [← hg2] at hQ
          have hb' : 0 ≤ g1 99 c ∧ g1 99 c ≤ 36 := by rw [fo1 99 c (by omega)]; exact hb
          have hi' : 0 ≤ i ∧ i < g1 99 c := by rw [fo1 99 c (by omega)]; omega
          repeat' (first
            | (exfalso; omega)
            | (exact absurd trivial (by assumption))
            | (apply s_194_0; try simp only [mi_87, fl_87_18, mi_104, ml_104, fl_104, up_104, fl_87_19, mi_105, ml_105, fl_105, up_105, e, true_and, and_true, true_or, or_true, implies_true, b10_0, b10_1])
            | (apply s_194_6; try simp only [mi_87, fl_87_18, mi_104, ml_104, fl_104, up_104, fl_87_19, mi_105, ml_105, fl_105, up_105, e, true_and, and_true, true_or, or_true, implies_true, b10_0, b10_1])
            | (apply s_194_24; try simp only [mi_87, fl_87_18, mi_104, ml_104, fl_104, up_104, fl_87_19, mi_105, ml_105, fl_105, up_105, e, true_and, and_true, true_or, or_true, implies_true, b10_0, b10_1])
            | (apply s_194_38; try simp only [mi_87, fl_87_18, mi_104, ml_104, fl_104, up_104, fl_87_19, mi_105, ml_105, fl_105, up_105, e, true_and, and_true, true_or, or_true, implies_true, b10_0, b10_1])
            | (refine c144 X _ _ _ _ _ _ (by omega) ?_)
            | (refine c175 X g1 hc _ hb' _ _ (by omega) ?_)
            | (refine And.intro ?_ ?_)
            | (intro _)
            | omega
            | (unfold r32; omega)
            | (exact hQ)
            | (exact qe hQ (by omega))
            | (exact qe hQ (by (repeat' split) <;> omega))
            | (exact b01))
        · intro c' hc'
          by_cases hcc : c' = c
          · subst hcc
            unfold Iclk
            rw [fo 99 c' (by omega), fo (19 + 6 * c') 0 (by omega), p3, p4, fo2 (19 + 6 * c') 2 (by omega), fo2 (19 + 6 * c') 3 (by omega), q2, q3]
            refine ⟨k1, k2, k3, fun j hj => ?_, fun j hj => ?_, fun j hj hl => ?_, rfl, ht.1, ht.2, rfl, by omega, by omega⟩
            · rw [fo 102 _ (by omega), fo (20 + 6 * c') _ (by omega)]
              exact k4 j hj
            · rw [fo (20 + 6 * c') _ (by omega)]
              exact k5 j hj
            · rw [fo (20 + 6 * c') _ (by omega)]
              exact k6 j hj hl
          · exact Iclk_congr (fo _ _ (by omega)) (fun k _ => fo _ _ (by omega)) (fun k _ => fo _ _ (by omega)) (fo _ _ (by omega)) (fo _ _ (by omega)) (fun k _ => fo _ _ (by omega)) (hI c' hc')
      · refine ⟨-1002, g, g, ?_, ?_, hI, Chg_w Chg_r (fun _ _ z => z.elim), Or.inl rfl⟩
        · intro d Q hd hQ
          repeat' (first
            | (exfalso; omega)
            | (exact absurd trivial (by assumption))
            | (apply s_107_0; try simp only [mi_1, fl_1_4, mi_12, cm_o, cl_2, cu_2, cl_3, cu_3, fl_12_3, up_12_3, hc, true_and, and_true, true_or, or_true, implies_true, b10_0, b10_1])
            | (apply s_107_8; try simp only [mi_1, fl_1_4, mi_12, cm_o, cl_2, cu_2, cl_3, cu_3, fl_12_3, up_12_3, hc, true_and, and_true, true_or, or_true, implies_true, b10_0, b10_1])
            | (apply s_107_21; try simp only [mi_1, fl_1_4, mi_12, cm_o, cl_2, cu_2, cl_3, cu_3, fl_12_3, up_12_3, hc, true_and, and_true, true_or, or_true, implies_true, b10_0, b10_1])
            | (apply s_107_36; try simp only [mi_1, fl_1_4, mi_12, cm_o, cl_2, cu_2, cl_3, cu_3, fl_12_3, up_12_3, hc, true_and, and_true, true_or, or_true, implies_true, b10_0, b10_1])
            | (apply s_107_49; try simp only [mi_1, fl_1_4, mi_12, cm_o, cl_2, cu_2, cl_3, cu_3, fl_12_3, up_12_3, hc, true_and, and_true, true_or, or_true, implies_true, b10_0, b10_1])
            | (apply s_107_55; try simp only [mi_1, fl_1_4, mi_12, cm_o, cl_2, cu_2, cl_3, cu_3, fl_12_3, up_12_3, hc, true_and, and_true, true_or, or_true, implies_true, b10_0, b10_1])
            | (refine c130 X _ _ _ _ _ _ (by omega) ?_)
            | (refine c32 X g hc _ _ (by omega) ?_)
            | (refine c14 X g hc _ _ _ (by omega) ?_)
            | (refine And.intro ?_ ?_)
            | (intro _)
            | omega
            | (unfold r32; omega)
            | (exact hQ)
            | (exact qe hQ (by omega))
            | (exact qe hQ (by (repeat' split) <;> omega))
            | (exact b01))
        · intro d Q hd hQ
          repeat' (first
            | (exfalso; omega)
            | (exact absurd trivial (by assumption))
            | (apply s_194_0; try simp only [mi_87, fl_87_18, mi_104, ml_104, fl_104, up_104, fl_87_19, mi_105, ml_105, fl_105, up_105, true_and, and_true, true_or, or_true, implies_true, b10_0, b10_1])
            | (apply s_194_6; try simp only [mi_87, fl_87_18, mi_104, ml_104, fl_104, up_104, fl_87_19, mi_105, ml_105, fl_105, up_105, true_and, and_true, true_or, or_true, implies_true, b10_0, b10_1])
            | (apply s_194_24; try simp only [mi_87, fl_87_18, mi_104, ml_104, fl_104, up_104, fl_87_19, mi_105, ml_105, fl_105, up_105, true_and, and_true, true_or, or_true, implies_true, b10_0, b10_1])
            | (apply s_194_38; try simp only [mi_87, fl_87_18, mi_104, ml_104, fl_104, up_104, fl_87_19, mi_105, ml_105, fl_105, up_105, true_and, and_true, true_or, or_true, implies_true, b10_0, b10_1])
            | (refine c144 X _ _ _ _ _ _ (by omega) ?_)
            | (refine c175 X g hc _ hb _ _ (by omega) ?_)
            | (refine And.intro ?_ ?_)
            | (intro _)
            | omega
            | (unfold r32; omega)
            | (exact hQ)
            | (exact qe hQ (by omega))
            | (exact qe hQ (by (repeat' split) <;> omega))
            | (exact b01))
    · refine ⟨-1001, g, g, ?_, ?_, hI, Chg_w Chg_r (fun _ _ z => z.elim), Or.inl rfl⟩
      · intro d Q hd hQ
        repeat' (first
          | (exfalso; omega)
          | (exact absurd trivial (by assumption))
          | (apply s_107_0; try simp only [mi_1, fl_1_4, mi_12, cm_o, cl_2, cu_2, cl_3, cu_3, fl_12_3, up_12_3, hc, true_and, and_true, true_or, or_true, implies_true, b10_0, b10_1])
          | (apply s_107_8; try simp only [mi_1, fl_1_4, mi_12, cm_o, cl_2, cu_2, cl_3, cu_3, fl_12_3, up_12_3, hc, true_and, and_true, true_or, or_true, implies_true, b10_0, b10_1])
          | (apply s_107_21; try simp only [mi_1, fl_1_4, mi_12, cm_o, cl_2, cu_2, cl_3, cu_3, fl_12_3, up_12_3, hc, true_and, and_true, true_or, or_true, implies_true, b10_0, b10_1])
          | (apply s_107_36; try simp only [mi_1, fl_1_4, mi_12, cm_o, cl_2, cu_2, cl_3, cu_3, fl_12_3, up_12_3, hc, true_and, and_true, true_or, or_true, implies_true, b10_0, b10_1])
          | (apply s_107_49; try simp only [mi_1, fl_1_4, mi_12, cm_o, cl_2, cu_2, cl_3, cu_3, fl_12_3, up_12_3, hc, true_and, and_true, true_or, or_true, implies_true, b10_0, b10_1])
          | (apply s_107_55; try simp only [mi_1, fl_1_4, mi_12, cm_o, cl_2, cu_2, cl_3, cu_3, fl_12_3, up_12_3, hc, true_and, and_true, true_or, or_true, implies_true, b10_0, b10_1])
          | (refine c130 X _ _ _ _ _ _ (by omega) ?_)
          | (refine c32 X g hc _ _ (by omega) ?_)
          | (refine c14 X g hc _ _ _ (by omega) ?_)
          | (refine And.intro ?_ ?_)
          | (intro _)
          | omega
          | (unfold r32; omega)
          | (exact hQ)
          | (exact qe hQ (by omega))
          | (exact qe hQ (by (repeat' split) <;> omega))
          | (exact b01))
      · intro d Q hd hQ
        repeat' (first
          | (exfalso; omega)
          | (exact absurd trivial (by assumption))
          | (apply s_194_0; try simp only [mi_87, fl_87_18, mi_104, ml_104, fl_104, up_104, fl_87_19, mi_105, ml_105, fl_105, up_105, true_and, and_true, true_or, or_true, implies_true, b10_0, b10_1])
          | (apply s_194_6; try simp only [mi_87, fl_87_18, mi_104, ml_104, fl_104, up_104, fl_87_19, mi_105, ml_105, fl_105, up_105, true_and, and_true, true_or, or_true, implies_true, b10_0, b10_1])
          | (apply s_194_24; try simp only [mi_87, fl_87_18, mi_104, ml_104, fl_104, up_104, fl_87_19, mi_105, ml_105, fl_105, up_105, true_and, and_true, true_or, or_true, implies_true, b10_0, b10_1])
          | (apply s_194_38; try simp only [mi_87, fl_87_18, mi_104, ml_104, fl_104, up_104, fl_87_19, mi_105, ml_105, fl_105, up_105, true_and, and_true, true_or, or_true, implies_true, b10_0, b10_1])
          | (refine c144 X _ _ _ _ _ _ (by omega) ?_)
          | (refine c175 X g hc _ hb _ _ (by omega) ?_)
          | (refine And.intro ?_ ?_)
          | (intro _)
          | omega
          | (unfold r32; omega)
          | (exact hQ)
          | (exact qe hQ (by omega))
          | (exact qe hQ (by (repeat' split) <;> omega))
          | (exact b01))
  · refine ⟨-1001, g, g, ?_, ?_, hI, Chg_w Chg_r (fun _ _ z => z.elim), Or.inl rfl⟩
    · intro d Q hd hQ
      repeat' (first
        | (exfalso; omega)
        | (exact absurd trivial (by assumption))
        | (apply s_107_0; try simp only [mi_1, fl_1_4, mi_12, cm_o, cl_2, cu_2, cl_3, cu_3, fl_12_3, up_12_3, true_and, and_true, true_or, or_true, implies_true, b10_0, b10_1])
        | (apply s_107_8; try simp only [mi_1, fl_1_4, mi_12, cm_o, cl_2, cu_2, cl_3, cu_3, fl_12_3, up_12_3, true_and, and_true, true_or, or_true, implies_true, b10_0, b10_1])
        | (apply s_107_21; try simp only [mi_1, fl_1_4, mi_12, cm_o, cl_2, cu_2, cl_3, cu_3, fl_12_3, up_12_3, true_and, and_true, true_or, or_true, implies_true, b10_0, b10_1])
        | (apply s_107_36; try simp only [mi_1, fl_1_4, mi_12, cm_o, cl_2, cu_2, cl_3, cu_3, fl_12_3, up_12_3, true_and, and_true, true_or, or_true, implies_true, b10_0, b10_1])
        | (apply s_107_49; try simp only [mi_1, fl_1_4, mi_12, cm_o, cl_2, cu_2, cl_3, cu_3, fl_12_3, up_12_3, true_and, and_true, true_or, or_true, implies_true, b10_0, b10_1])
        | (apply s_107_55; try simp only [mi_1, fl_1_4, mi_12, cm_o, cl_2, cu_2, cl_3, cu_3, fl_12_3, up_12_3, true_and, and_true, true_or, or_true, implies_true, b10_0, b10_1])
        | (refine c130 X _ _ _ _ _ _ (by omega) ?_)
        | (refine c32n X g _ ha _ _ (by omega) ?_)
        | (refine And.intro ?_ ?_)
        | (intro _)
        | omega
        | (unfold r32; omega)
        | (exact hQ)
        | (exact qe hQ (by omega))
        | (exact qe hQ (by (repeat' split) <;> omega))
        | (exact b01))
    · intro d Q hd hQ
      repeat' (first
        | (exfalso; omega)
        | (exact absurd trivial (by assumption))
        | (apply s_194_0; try simp only [mi_87, fl_87_18, mi_104, ml_104, fl_104, up_104, fl_87_19, mi_105, ml_105, fl_105, up_105, true_and, and_true, true_or, or_true, implies_true, b10_0, b10_1])
        | (apply s_194_6; try simp only [mi_87, fl_87_18, mi_104, ml_104, fl_104, up_104, fl_87_19, mi_105, ml_105, fl_105, up_105, true_and, and_true, true_or, or_true, implies_true, b10_0, b10_1])
        | (apply s_194_24; try simp only [mi_87, fl_87_18, mi_104, ml_104, fl_104, up_104, fl_87_19, mi_105, ml_105, fl_105, up_105, true_and, and_true, true_or, or_true, implies_true, b10_0, b10_1])
        | (apply s_194_38; try simp only [mi_87, fl_87_18, mi_104, ml_104, fl_104, up_104, fl_87_19, mi_105, ml_105, fl_105, up_105, true_and, and_true, true_or, or_true, implies_true, b10_0, b10_1])
        | (refine c144 X _ _ _ _ _ _ (by omega) ?_)
        | (refine c175n X g _ _ ha _ _ (by omega) ?_)
        | (refine And.intro ?_ ?_)
        | (intro _)
        | omega
        | (unfold r32; omega)
        | (exact hQ)
        | (exact qe hQ (by omega))
        | (exact qe hQ (by (repeat' split) <;> omega))
        | (exact b01))
