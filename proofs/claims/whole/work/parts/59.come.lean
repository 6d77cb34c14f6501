/-! the class's night, worked out -/
def FK (gs g : mF) : Prop := ∀ o k, ¬ ((o = 19 ∨ o = 25 ∨ o = 31 ∨ o = 37) ∧ (k = 4 ∨ k = 5 ∨ k = 6 ∨ k = 11) ∨ o = 21 ∨ o = 27 ∨ o = 33 ∨ o = 39 ∨ o = 22 ∨ o = 28 ∨ o = 34 ∨ o = 40 ∨ o = 24 ∨ o = 30 ∨ o = 36 ∨ o = 42) → g o k = gs o k
theorem FK_ag {G gs g : mF} (hA : Agree G gs) (h : FK gs g) : Agree G g := fun o k ho => by
  rw [h o k (by unfold InpS at ho; omega)]
  exact hA o k ho
theorem FK_FF {gs g g' : mF} {c : Nat} (hc : c < 4) (h : FK gs g) (h' : FF c g g') : FK gs g' := fun o k ho => by
  rw [h' o k (by omega)]
  exact h o k ho
theorem FK_r {g : mF} : FK g g := fun _ _ _ => rfl
theorem FK_t {a b c : mF} (h : FK a b) (h' : FK b c) : FK a c := fun o k ho => by rw [h' o k ho, h o k ho]
theorem c20 (X : mX) (g : mF) {c : Nat} (hc : c < 4) (x t : Int) : Ret X 0 20 [(2, 20 + 6 * (c : Int)), (0, x), (0, t)] g none (mup (mup (mup g (19 + 6 * c) 4 t) (19 + 6 * c) 5 x) (19 + 6 * c) 6 t) := by
  intro d Q hd hQ
  repeat' (first
    | (exfalso; omega)
    | (exact absurd trivial (by assumption))
    | (apply s_20_0; try simp only [cm_o, cl_4, cu_4, cl_5, cu_5, cl_6, cu_6, hc, true_and, and_true, true_or, or_true, implies_true, b10_0, b10_1])
    | (apply s_20_5; try simp only [cm_o, cl_4, cu_4, cl_5, cu_5, cl_6, cu_6, hc, true_and, and_true, true_or, or_true, implies_true, b10_0, b10_1])
    | (apply s_20_10; try simp only [cm_o, cl_4, cu_4, cl_5, cu_5, cl_6, cu_6, hc, true_and, and_true, true_or, or_true, implies_true, b10_0, b10_1])
    | (refine And.intro ?_ ?_)
    | (intro _)
    | omega
    | (unfold r32; omega)
    | (exact hQ)
    | (exact qe hQ (by omega))
    | (exact qe hQ (by (repeat' split) <;> omega))
    | (exact b01)
    | (exact n01)
    | (exact n21)
    | (exact n31))
theorem c21 (X : mX) (g : mF) {c x : Nat} (hc : c < 4) (hx : x < 36) (t : Int) : Ret X 0 21 [(2, 20 + 6 * (c : Int)), (0, (x : Int)), (0, t)] g (some (0, if g (19 + 6 * c) 6 ≤ t ∧ g (21 + 6 * c) x = -1 then 1 else 0)) g := by
  intro d Q hd hQ
  have e0 : ((x : Int)).toNat = x := by omega
  repeat' (first
    | (exfalso; omega)
    | (exact absurd trivial (by assumption))
    | (apply s_21_0; try simp only [cm_o, cl_6, cu_6, cl_7, cm_7, cn_7, ca_7, cz_7, hc, e0, true_and, and_true, true_or, or_true, implies_true, b10_0, b10_1])
    | (refine And.intro ?_ ?_)
    | (intro _)
    | omega
    | (unfold r32; omega)
    | (exact hQ)
    | (exact qe hQ (by omega))
    | (exact qe hQ (by (repeat' split) <;> omega))
    | (exact b01)
    | (exact n01)
    | (exact n21)
    | (exact n31))
theorem litS_0 {G s : mF} {c : Nat} {t : Int} : litS G c t s 0 c = t := by unfold litS; rw [mup_n (by omega), mup_n (by omega), mup_e]
theorem litS_1 {G s : mF} {c : Nat} {t : Int} : litS G c t s 1 c = (if t = G (19 + 6 * c) 2 then G (19 + 6 * c) 3 else 0) := by unfold litS; rw [mup_n (by omega), mup_e]
theorem litS_2 {G s : mF} {c : Nat} {t : Int} : litS G c t s 2 c = t := by unfold litS; rw [mup_e]
theorem litS_n {G s : mF} {c r k : Nat} {t : Int} (h : ¬ (r < 3 ∧ k = c)) : litS G c t s r k = s r k := by unfold litS; rw [mup_n (by omega), mup_n (by omega), mup_n (by omega)]
theorem lit_SI {G s : mF} {c : Nat} {t M : Int} (hG : CG G) (hc : c < 4) (hI : SI G M s) (hs : s 0 c = -1) (ht : 0 ≤ t ∧ t ≤ M) : SI G M (litS G c t s) := by
  have hGc := hG.2 c hc
  intro c' hc'
  obtain ⟨i1, i2, i3, i4⟩ := hI c' hc'
  by_cases hcc : c' = c
  · subst hcc
    rw [litS_0, litS_1, litS_2]
    refine ⟨by omega, by split <;> omega, by omega, fun i hi => ?_⟩
    have z := i4 i hi
    rw [litS_n (by omega), litS_n (by omega)]
    omega
  · rw [litS_n (by omega), litS_n (by omega), litS_n (by omega)]
    refine ⟨i1, i2, i3, fun i hi => ?_⟩
    rw [litS_n (by omega), litS_n (by omega)]
    exact i4 i hi
theorem lit_b {G s : mF} {c i : Nat} {M : Int} (hI : SI G M s) (hc : c < 4) (hs : s 0 c = -1) (hi : i < 36) : s (3 + c) i = -1 := by
  have z := (hI c hc).2.2.2 i hi
  omega
theorem c44 (X : mX) {c : Nat} (hc : c < 4) {G g s : mF} {D M : Int} (hA : Agree G g) (hG : CG G) (hL : Glk G) (hGa : Gag G) (hD : g 5 2 = D) (hDb : -1 ≤ D ∧ D ≤ 50) (hS : CS g s) (hI : SI G M s) (hM : 5999 ≤ M ∧ M ≤ 40000) (hs : s 0 c = -1) (hlt : lt G s c ≠ -1) : Rel X 4 44 [(2, 12), (0, (c : Int)), (2, 6), (3, 0), (3, 0), (3, 0)] g (fun ro g' => ro = none ∧ FK g g' ∧ CS g' (comeS G D c s) ∧ SI G (M + 3240) (comeS G D c s)) := by
  intro d Q hd hQ
  have e0 : ((c : Int)).toNat = c := by omega
  have hGc := hG.2 c hc
  have e1 : g (19 + 6 * c) 2 = G (19 + 6 * c) 2 := hA _ _ (by unfold InpS; omega)
  have e2 : g (19 + 6 * c) 3 = G (19 + 6 * c) 3 := hA _ _ (by unfold InpS; omega)
  have hlb := lt_b hG hL hI hM.1 hc
  unfold comeS at hQ
  generalize hst : lt G s c = t at hQ hlb hlt
  have c43' := c43 X hc hA hL hS
  rw [hst] at c43'
  obtain ⟨st, hcell⟩ : ∃ st : Nat, (if t = G (19 + 6 * c) 2 then G (19 + 6 * c) 3 else 0) = (st : Int) := ⟨(if t = G (19 + 6 * c) 2 then G (19 + 6 * c) 3 else 0).toNat, by split <;> omega⟩
  have hst36 : st < 36 := by split at hcell <;> omega
  have e3 : ((st : Int)).toNat = st := by omega
  rw [hcell, e3] at hQ
  have c20' := c20 X g hc (st : Int) t
  generalize hh1 : mup (mup (mup g (19 + 6 * c) 4 t) (19 + 6 * c) 5 (st : Int)) (19 + 6 * c) 6 t = g1 at c20'
  have fo1 : ∀ o k, ¬ (o = 19 + 6 * c ∧ (k = 4 ∨ k = 5 ∨ k = 6)) → g1 o k = g o k := by
    intro o k ho
    rw [← hh1, mup_n (by omega), mup_n (by omega), mup_n (by omega)]
  have v4 : g1 (19 + 6 * c) 4 = t := by rw [← hh1, mup_n (by omega), mup_n (by omega), mup_e]
  have v5 : g1 (19 + 6 * c) 5 = (st : Int) := by rw [← hh1, mup_n (by omega), mup_e]
  have v6 : g1 (19 + 6 * c) 6 = t := by rw [← hh1, mup_e]
  have hF1 : FK g g1 := fun o k ho => fo1 o k (by omega)
  have hA1 := FK_ag hA hF1
  have hI1 := lit_SI hG hc hI hs (t := t) (by omega)
  have hS1 : CS g1 (litS G c t s) := by
    intro c' hc'
    obtain ⟨s1, s2, s3, s4⟩ := hS c' hc'
    by_cases hcc : c' = c
    · subst hcc
      rw [litS_0, litS_1, litS_2, v4, v5, v6, hcell]
      refine ⟨rfl, rfl, rfl, fun i hi => ?_⟩
      rw [litS_n (by omega), litS_n (by omega), fo1 _ _ (by omega), fo1 _ _ (by omega)]
      exact s4 i hi
    · rw [litS_n (by omega), litS_n (by omega), litS_n (by omega), fo1 _ _ (by omega), fo1 _ _ (by omega), fo1 _ _ (by omega)]
      refine ⟨s1, s2, s3, fun i hi => ?_⟩
      rw [litS_n (by omega), litS_n (by omega), fo1 _ _ (by omega), fo1 _ _ (by omega)]
      exact s4 i hi
  have c22' := c22 X (st := st) (t := t) (M' := M + 3240) hc hst36 hA1 hG (by rw [fo1 5 2 (by omega)]; exact hD) hDb hS1 hI1 (by omega) (by rw [litS_n (by omega)]; exact lit_b hI hc hs hst36) (by omega) (by rw [litS_0]; omega)
  generalize hs2 : fireS G D c st t (litS G c t s) = s2 at hQ c22'
  have hl2 : ∀ k, s2 0 k ≠ -1 ↔ litS G c t s 0 k ≠ -1 := by
    intro k
    rw [← hs2]
    unfold fireS
    split
    · rw [setS_n (by omega)]
    · exact Iff.rfl
  have hl2c : s2 0 c ≠ -1 := (hl2 c).2 (by rw [litS_0]; omega)
  have hlk : ∀ k, agS G D c s2 k 0 c ≠ -1 := by
    intro k
    induction k with
    | zero => exact hl2c
    | succ k ih =>
      unfold agS
      split
      · unfold fireS
        split
        · rw [setS_n (by omega)]; exact ih
        · exact ih
      · exact ih
  have hga := hGa.1
  have key := lup (P := fun k => ∀ h, FK g h → CS h (agS G D c s2 k) → SI G (M + 3240) (agS G D c s2 k) → Wp X d SH 44 51 [(2, 12), (0, (c : Int)), (2, 6), (2, 20 + 6 * (c : Int)), (0, t), (0, (k : Int))] [] SH (fl h) Q) (G 11 2).toNat ?_ ?_ 0 (by omega)
  · skip
    apply s_44_0
    try simp only [mi_12, fl_12_0, mi_13, ml_13, fl_13, cm_o, cl_2, cu_2, cl_3, cu_3, cl_5, cu_5, fl_12_2, up_12_2, fl_12_8, mi_18, ml_18, fl_18, up_18, fl_12_9, mi_19, ml_19, fl_19, up_19, fl_12_7, mi_17, ml_17, fl_17, up_17, hc, e0, true_and, and_true, true_or, or_true, implies_true, b10_0, b10_1]
    repeat' (first | refine And.intro ?_ ?_ | intro _)
    all_goals (try (first | omega | (unfold r32; omega) | exact hQ | exact qe hQ (by omega) | exact qe hQ (by (repeat' split) <;> omega) | exact b01 | exact n01 | exact n21 | exact n31 | exact absurd trivial (by assumption)))
    refine c43' _ _ (by omega) ?_
    have hcell2 : t = G (19 + 6 * c) 2 → G (19 + 6 * c) 3 = (st : Int) := fun z => by rw [if_pos z] at hcell; exact hcell
    have hcell3 : t ≠ G (19 + 6 * c) 2 → (0 : Int) = (st : Int) := fun z => by rw [if_neg z] at hcell; exact hcell
    have fin : Wp X d SH 44 32 [(2, 12), (0, (c : Int)), (2, 6), (2, 20 + 6 * (c : Int)), (0, t), (3, 0)] [(0, (st : Int)), (2, 20 + 6 * (c : Int))] SH (fl g) Q := by
      apply s_44_32
      try simp only [mi_12, fl_12_0, mi_13, ml_13, fl_13, cm_o, cl_2, cu_2, cl_3, cu_3, cl_5, cu_5, fl_12_2, up_12_2, fl_12_8, mi_18, ml_18, fl_18, up_18, fl_12_9, mi_19, ml_19, fl_19, up_19, fl_12_7, mi_17, ml_17, fl_17, up_17, hc, true_and, and_true, true_or, or_true, implies_true, b10_0, b10_1]
      repeat' (first | refine And.intro ?_ ?_ | intro _)
      all_goals (try (first | omega | (unfold r32; omega) | exact hQ | exact qe hQ (by omega) | exact qe hQ (by (repeat' split) <;> omega) | exact b01 | exact n01 | exact n21 | exact n31 | exact absurd trivial (by assumption)))
      refine c20' _ _ (by omega) ?_
      apply s_44_37
      try simp only [mi_12, fl_12_0, mi_13, ml_13, fl_13, cm_o, cl_2, cu_2, cl_3, cu_3, cl_5, cu_5, fl_12_2, up_12_2, fl_12_8, mi_18, ml_18, fl_18, up_18, fl_12_9, mi_19, ml_19, fl_19, up_19, fl_12_7, mi_17, ml_17, fl_17, up_17, hc, v5, true_and, and_true, true_or, or_true, implies_true, b10_0, b10_1]
      repeat' (first | refine And.intro ?_ ?_ | intro _)
      all_goals (try (first | omega | (unfold r32; omega) | exact hQ | exact qe hQ (by omega) | exact qe hQ (by (repeat' split) <;> omega) | exact b01 | exact n01 | exact n21 | exact n31 | exact absurd trivial (by assumption)))
      refine c22' _ _ (by omega) ?_
      rintro _ g2 ⟨rfl, hF2, hS2, hI2⟩
      refine s_44_48 (by first | exact n01 | exact n21 | exact n31 | assumption) ?_
      try simp only [mi_12, fl_12_0, mi_13, ml_13, fl_13, cm_o, cl_2, cu_2, cl_3, cu_3, cl_5, cu_5, fl_12_2, up_12_2, fl_12_8, mi_18, ml_18, fl_18, up_18, fl_12_9, mi_19, ml_19, fl_19, up_19, fl_12_7, mi_17, ml_17, fl_17, up_17, true_and, and_true, true_or, or_true, implies_true, b10_0, b10_1]
      repeat' (first | refine And.intro ?_ ?_ | intro _)
      all_goals (try (first | omega | (unfold r32; omega) | exact hQ | exact qe hQ (by omega) | exact qe hQ (by (repeat' split) <;> omega) | exact b01 | exact n01 | exact n21 | exact n31 | exact absurd trivial (by assumption)))
      exact key g2 (FK_FF hc hF1 hF2) hS2 hI2
    apply s_44_12
    try simp only [mi_12, fl_12_0, mi_13, ml_13, fl_13, cm_o, cl_2, cu_2, cl_3, cu_3, cl_5, cu_5, fl_12_2, up_12_2, fl_12_8, mi_18, ml_18, fl_18, up_18, fl_12_9, mi_19, ml_19, fl_19, up_19, fl_12_7, mi_17, ml_17, fl_17, up_17, hc, e1, e2, true_and, and_true, true_or, or_true, implies_true, b10_0, b10_1]
    repeat' (first | refine And.intro ?_ ?_ | intro _)
    all_goals (try (first | omega | (unfold r32; omega) | exact hQ | exact qe hQ (by omega) | exact qe hQ (by (repeat' split) <;> omega) | exact b01 | exact n01 | exact n21 | exact n31 | exact absurd trivial (by assumption)))
    · have hst0 : st = 0 := by
        have := hcell3 (by assumption)
        omega
      subst hst0
      exact fin
    · rw [hcell2 (by omega)]
      exact fin
  · intro h hF hS' hI'
    have hA' := FK_ag hA hF
    have e4 : h 11 2 = G 11 2 := hA' _ _ (by unfold InpS; omega)
    have hq := hQ none h ⟨rfl, hF, hS', hI'⟩
    apply s_44_51
    try simp only [mi_12, fl_12_0, mi_13, ml_13, fl_13, cm_o, cl_2, cu_2, cl_3, cu_3, cl_5, cu_5, fl_12_2, up_12_2, fl_12_8, mi_18, ml_18, fl_18, up_18, fl_12_9, mi_19, ml_19, fl_19, up_19, fl_12_7, mi_17, ml_17, fl_17, up_17, e4, true_and, and_true, true_or, or_true, implies_true, b10_0, b10_1]
    repeat' (first | refine And.intro ?_ ?_ | intro _)
    all_goals (try (first | omega | (unfold r32; omega) | exact hQ | exact qe hQ (by omega) | exact qe hQ (by (repeat' split) <;> omega) | exact b01 | exact n01 | exact n21 | exact n31 | exact absurd trivial (by assumption)))
    all_goals (exact hq)
  · intro k hk ih h hF hS' hI'
    have hA' := FK_ag hA hF
    have z := hGa.2 k (by omega)
    have e3 : ((k : Int)).toNat = k := by omega
    have e4 : h 11 2 = G 11 2 := hA' _ _ (by unfold InpS; omega)
    have e5 : h 16 k = G 16 k := hA' _ _ (by unfold InpS; omega)
    have e6 : h 17 k = G 17 k := hA' _ _ (by unfold InpS; omega)
    have e7 : h 18 k = G 18 k := hA' _ _ (by unfold InpS; omega)
    obtain ⟨x, hx⟩ : ∃ x : Nat, G 18 k = (x : Int) := ⟨(G 18 k).toNat, by omega⟩
    have hx36 : x < 36 := by omega
    have e8 : ((x : Int)).toNat = x := by omega
    have e10 : ((k + 1 : Nat) : Int) = (k : Int) + 1 := by omega
    have hSc := hS' c hc
    have hq2 := hSc.2.2.1
    have hq3 := (hSc.2.2.2 x hx36).1
    unfold agS at ih
    rw [hx, e8, e10] at ih
    have c21' := c21 X h hc hx36 (G 16 k)
    rw [hq2, hq3] at c21'
    by_cases hcl : G 17 k = (c : Int)
    · by_cases hgo : agS G D c s2 k 2 c ≤ G 16 k ∧ agS G D c s2 k (3 + c) x = -1
      · rw [if_pos ⟨hcl, hgo⟩] at ih
        rw [if_pos hgo] at c21'
        have c22k := c22 X (st := x) (t := G 16 k) (M' := M + 3240) hc hx36 hA' hG (by rw [hF 5 2 (by omega)]; exact hD) hDb hS' hI' (by omega) hgo.2 (by omega) (hlk k)
        apply s_44_51
        try simp only [mi_12, fl_12_0, mi_13, ml_13, fl_13, cm_o, cl_2, cu_2, cl_3, cu_3, cl_5, cu_5, fl_12_2, up_12_2, fl_12_8, mi_18, ml_18, fl_18, up_18, fl_12_9, mi_19, ml_19, fl_19, up_19, fl_12_7, mi_17, ml_17, fl_17, up_17, e4, e3, e6, hcl, e5, e7, hx, hc, true_and, and_true, true_or, or_true, implies_true, b10_0, b10_1]
        repeat' (first | refine And.intro ?_ ?_ | intro _)
        all_goals (try (first | omega | (unfold r32; omega) | exact hQ | exact qe hQ (by omega) | exact qe hQ (by (repeat' split) <;> omega) | exact b01 | exact n01 | exact n21 | exact n31 | exact absurd trivial (by assumption)))
        refine c21' _ _ (by omega) ?_
        apply s_44_89
        try simp only [mi_12, fl_12_0, mi_13, ml_13, fl_13, cm_o, cl_2, cu_2, cl_3, cu_3, cl_5, cu_5, fl_12_2, up_12_2, fl_12_8, mi_18, ml_18, fl_18, up_18, fl_12_9, mi_19, ml_19, fl_19, up_19, fl_12_7, mi_17, ml_17, fl_17, up_17, e3, e5, e7, hx, hc, true_and, and_true, true_or, or_true, implies_true, b10_0, b10_1]
        repeat' (first | refine And.intro ?_ ?_ | intro _)
        all_goals (try (first | omega | (unfold r32; omega) | exact hQ | exact qe hQ (by omega) | exact qe hQ (by (repeat' split) <;> omega) | exact b01 | exact n01 | exact n21 | exact n31 | exact absurd trivial (by assumption)))
        refine c22k _ _ (by omega) ?_
        rintro _ h2 ⟨rfl, hF2, hS2, hI2⟩
        refine s_44_111 (by first | exact n01 | exact n21 | exact n31 | assumption) ?_
        try simp only [mi_12, fl_12_0, mi_13, ml_13, fl_13, cm_o, cl_2, cu_2, cl_3, cu_3, cl_5, cu_5, fl_12_2, up_12_2, fl_12_8, mi_18, ml_18, fl_18, up_18, fl_12_9, mi_19, ml_19, fl_19, up_19, fl_12_7, mi_17, ml_17, fl_17, up_17, true_and, and_true, true_or, or_true, implies_true, b10_0, b10_1]
        repeat' (first | refine And.intro ?_ ?_ | intro _)
        all_goals (try (first | omega | (unfold r32; omega) | exact hQ | exact qe hQ (by omega) | exact qe hQ (by (repeat' split) <;> omega) | exact b01 | exact n01 | exact n21 | exact n31 | exact absurd trivial (by assumption)))
        exact ih h2 (FK_FF hc hF hF2) hS2 hI2
      · rw [if_neg (fun z => hgo z.2)] at ih
        rw [if_neg hgo] at c21'
        apply s_44_51
        try simp only [mi_12, fl_12_0, mi_13, ml_13, fl_13, cm_o, cl_2, cu_2, cl_3, cu_3, cl_5, cu_5, fl_12_2, up_12_2, fl_12_8, mi_18, ml_18, fl_18, up_18, fl_12_9, mi_19, ml_19, fl_19, up_19, fl_12_7, mi_17, ml_17, fl_17, up_17, e4, e3, e6, hcl, e5, e7, hx, hc, true_and, and_true, true_or, or_true, implies_true, b10_0, b10_1]
        repeat' (first | refine And.intro ?_ ?_ | intro _)
        all_goals (try (first | omega | (unfold r32; omega) | exact hQ | exact qe hQ (by omega) | exact qe hQ (by (repeat' split) <;> omega) | exact b01 | exact n01 | exact n21 | exact n31 | exact absurd trivial (by assumption)))
        refine c21' _ _ (by omega) ?_
        apply s_44_89
        try simp only [mi_12, fl_12_0, mi_13, ml_13, fl_13, cm_o, cl_2, cu_2, cl_3, cu_3, cl_5, cu_5, fl_12_2, up_12_2, fl_12_8, mi_18, ml_18, fl_18, up_18, fl_12_9, mi_19, ml_19, fl_19, up_19, fl_12_7, mi_17, ml_17, fl_17, up_17, e3, e5, e7, hx, hc, true_and, and_true, true_or, or_true, implies_true, b10_0, b10_1]
        repeat' (first | refine And.intro ?_ ?_ | intro _)
        all_goals (try (first | omega | (unfold r32; omega) | exact hQ | exact qe hQ (by omega) | exact qe hQ (by (repeat' split) <;> omega) | exact b01 | exact n01 | exact n21 | exact n31 | exact absurd trivial (by assumption)))
        refine s_44_111 (by first | exact n01 | exact n21 | exact n31 | assumption) ?_
        try simp only [mi_12, fl_12_0, mi_13, ml_13, fl_13, cm_o, cl_2, cu_2, cl_3, cu_3, cl_5, cu_5, fl_12_2, up_12_2, fl_12_8, mi_18, ml_18, fl_18, up_18, fl_12_9, mi_19, ml_19, fl_19, up_19, fl_12_7, mi_17, ml_17, fl_17, up_17, true_and, and_true, true_or, or_true, implies_true, b10_0, b10_1]
        repeat' (first | refine And.intro ?_ ?_ | intro _)
        all_goals (try (first | omega | (unfold r32; omega) | exact hQ | exact qe hQ (by omega) | exact qe hQ (by (repeat' split) <;> omega) | exact b01 | exact n01 | exact n21 | exact n31 | exact absurd trivial (by assumption)))
        exact ih h hF hS' hI'
    · rw [if_neg (fun z => hcl z.1)] at ih
      apply s_44_51
      try simp only [mi_12, fl_12_0, mi_13, ml_13, fl_13, cm_o, cl_2, cu_2, cl_3, cu_3, cl_5, cu_5, fl_12_2, up_12_2, fl_12_8, mi_18, ml_18, fl_18, up_18, fl_12_9, mi_19, ml_19, fl_19, up_19, fl_12_7, mi_17, ml_17, fl_17, up_17, e4, e3, e6, true_and, and_true, true_or, or_true, implies_true, b10_0, b10_1]
      repeat' (first | refine And.intro ?_ ?_ | intro _)
      all_goals (try (first | omega | (unfold r32; omega) | exact hQ | exact qe hQ (by omega) | exact qe hQ (by (repeat' split) <;> omega) | exact b01 | exact n01 | exact n21 | exact n31 | exact absurd trivial (by assumption)))
      refine s_44_111 (by first | exact n01 | exact n21 | exact n31 | assumption) ?_
      try simp only [mi_12, fl_12_0, mi_13, ml_13, fl_13, cm_o, cl_2, cu_2, cl_3, cu_3, cl_5, cu_5, fl_12_2, up_12_2, fl_12_8, mi_18, ml_18, fl_18, up_18, fl_12_9, mi_19, ml_19, fl_19, up_19, fl_12_7, mi_17, ml_17, fl_17, up_17, true_and, and_true, true_or, or_true, implies_true, b10_0, b10_1]
      repeat' (first | refine And.intro ?_ ?_ | intro _)
      all_goals (try (first | omega | (unfold r32; omega) | exact hQ | exact qe hQ (by omega) | exact qe hQ (by (repeat' split) <;> omega) | exact b01 | exact n01 | exact n21 | exact n31 | exact absurd trivial (by assumption)))
      exact ih h hF hS' hI'
theorem c19 (X : mX) (g : mF) {c : Nat} (hc : c < 4) : Rel X 1 19 [(2, 20 + 6 * (c : Int))] g (fun ro g' => ro = none ∧ (∀ o k, ¬ (o = 19 + 6 * c ∧ (k = 4 ∨ k = 5 ∨ k = 6) ∨ o = 21 + 6 * c ∨ o = 22 + 6 * c) → g' o k = g o k) ∧ (g' (19 + 6 * c) 4 = -1 ∧ g' (19 + 6 * c) 5 = -1 ∧ g' (19 + 6 * c) 6 = -1 ∧ ∀ i, i < 36 → g' (21 + 6 * c) i = -1 ∧ g' (22 + 6 * c) i = -1)) := by
  intro d Q hd hQ
  generalize hh1 : mup g (19 + 6 * c) 4 (-1) = g1
  generalize hh2 : mup g1 (19 + 6 * c) 5 (-1) = g2
  generalize hh3 : mup g2 (19 + 6 * c) 6 (-1) = g3
  have a1 := c232 X g3 (R := 22 + 6 * (c : Int)) (o := 21 + 6 * c) (N := 36) (cm_7 hc) (cn_7 hc) (fun g i x => cz_7 g hc i x) (by omega) (-1)
  generalize hh4 : mfl g3 (21 + 6 * c) 0 36 (-1) = g4 at a1
  have a2 := c232 X g4 (R := 23 + 6 * (c : Int)) (o := 22 + 6 * c) (N := 36) (cm_8 hc) (cn_8 hc) (fun g i x => cz_8 g hc i x) (by omega) (-1)
  generalize hh5 : mfl g4 (22 + 6 * c) 0 36 (-1) = g5 at a2
  have hq := hQ none g5 ⟨rfl, fun o k ho => by
    rw [← hh5, mfl_n (by omega), ← hh4, mfl_n (by omega), ← hh3, mup_n (by omega), ← hh2, mup_n (by omega), ← hh1, mup_n (by omega)], by
    rw [← hh5, mfl_n (by omega), ← hh4, mfl_n (by omega), ← hh3, mup_n (by omega), ← hh2, mup_n (by omega), ← hh1, mup_e], by
    rw [← hh5, mfl_n (by omega), ← hh4, mfl_n (by omega), ← hh3, mup_n (by omega), ← hh2, mup_e], by
    rw [← hh5, mfl_n (by omega), ← hh4, mfl_n (by omega), ← hh3, mup_e], fun i hi => ⟨by
    rw [← hh5, mfl_n (by omega), ← hh4, mfl_e (by omega)], by
    rw [← hh5, mfl_e (by omega)]⟩⟩
  apply s_19_0
  try simp only [cm_o, cl_4, cu_4, cl_5, cu_5, cl_6, cu_6, cl_7, cm_7, cn_7, ca_7, cz_7, cl_8, cm_8, cn_8, ca_8, cz_8, hc, hh1, true_and, and_true, true_or, or_true, implies_true, b10_0, b10_1]
  repeat' (first | refine And.intro ?_ ?_ | intro _)
  all_goals (try (first | omega | (unfold r32; omega) | exact hQ | exact qe hQ (by omega) | exact qe hQ (by (repeat' split) <;> omega) | exact b01 | exact n01 | exact n21 | exact n31 | exact absurd trivial (by assumption)))
  apply s_19_5
  try simp only [cm_o, cl_4, cu_4, cl_5, cu_5, cl_6, cu_6, cl_7, cm_7, cn_7, ca_7, cz_7, cl_8, cm_8, cn_8, ca_8, cz_8, hc, hh2, true_and, and_true, true_or, or_true, implies_true, b10_0, b10_1]
  repeat' (first | refine And.intro ?_ ?_ | intro _)
  all_goals (try (first | omega | (unfold r32; omega) | exact hQ | exact qe hQ (by omega) | exact qe hQ (by (repeat' split) <;> omega) | exact b01 | exact n01 | exact n21 | exact n31 | exact absurd trivial (by assumption)))
  apply s_19_10
  try simp only [cm_o, cl_4, cu_4, cl_5, cu_5, cl_6, cu_6, cl_7, cm_7, cn_7, ca_7, cz_7, cl_8, cm_8, cn_8, ca_8, cz_8, hc, hh3, true_and, and_true, true_or, or_true, implies_true, b10_0, b10_1]
  repeat' (first | refine And.intro ?_ ?_ | intro _)
  all_goals (try (first | omega | (unfold r32; omega) | exact hQ | exact qe hQ (by omega) | exact qe hQ (by (repeat' split) <;> omega) | exact b01 | exact n01 | exact n21 | exact n31 | exact absurd trivial (by assumption)))
  apply s_19_15
  try simp only [cm_o, cl_4, cu_4, cl_5, cu_5, cl_6, cu_6, cl_7, cm_7, cn_7, ca_7, cz_7, cl_8, cm_8, cn_8, ca_8, cz_8, hc, true_and, and_true, true_or, or_true, implies_true, b10_0, b10_1]
  repeat' (first | refine And.intro ?_ ?_ | intro _)
  all_goals (try (first | omega | (unfold r32; omega) | exact hQ | exact qe hQ (by omega) | exact qe hQ (by (repeat' split) <;> omega) | exact b01 | exact n01 | exact n21 | exact n31 | exact absurd trivial (by assumption)))
  refine a1 _ _ (by omega) ?_
  apply s_19_23
  try simp only [cm_o, cl_4, cu_4, cl_5, cu_5, cl_6, cu_6, cl_7, cm_7, cn_7, ca_7, cz_7, cl_8, cm_8, cn_8, ca_8, cz_8, hc, true_and, and_true, true_or, or_true, implies_true, b10_0, b10_1]
  repeat' (first | refine And.intro ?_ ?_ | intro _)
  all_goals (try (first | omega | (unfold r32; omega) | exact hQ | exact qe hQ (by omega) | exact qe hQ (by (repeat' split) <;> omega) | exact b01 | exact n01 | exact n21 | exact n31 | exact absurd trivial (by assumption)))
  refine a2 _ _ (by omega) ?_
  apply s_19_31
  try simp only [cm_o, cl_4, cu_4, cl_5, cu_5, cl_6, cu_6, cl_7, cm_7, cn_7, ca_7, cz_7, cl_8, cm_8, cn_8, ca_8, cz_8, true_and, and_true, true_or, or_true, implies_true, b10_0, b10_1]
  repeat' (first | refine And.intro ?_ ?_ | intro _)
  all_goals (try (first | omega | (unfold r32; omega) | exact hQ | exact qe hQ (by omega) | exact qe hQ (by (repeat' split) <;> omega) | exact b01 | exact n01 | exact n21 | exact n31 | exact absurd trivial (by assumption)))
  all_goals (exact hq)
theorem nightS_s {G : mF} {D : Int} {r : Nat} : nightS G D (r + 1) = if (nxS G (nightS G D r) 4).1 = -1 then nightS G D r else comeS G D (nxS G (nightS G D r) 4).1.toNat (nightS G D r) := rfl
theorem nightS_end {G : mF} {D : Int} {r : Nat} (h : (nxS G (nightS G D r) 4).1 = -1) : ∀ m, nightS G D (r + m) = nightS G D r := by
  intro m
  induction m with
  | zero => rfl
  | succ m ih =>
    rw [show r + (m + 1) = (r + m) + 1 by omega, nightS_s, ih, if_pos h]
/-- know: behind it the class's clocks hold the night -/
theorem c41 (X : mX) {G g : mF} {D : Int} (hA : Agree G g) (hG : CG G) (hL : Glk G) (hGa : Gag G) (hD : g 5 2 = D) (hDb : -1 ≤ D ∧ D ≤ 50) (hk : g 11 3 = 0 ∨ g 11 3 = 1 ∧ CS g (nightS G D 4) ∧ SI G 18959 (nightS G D 4)) : Rel X 5 41 [(2, 12), (2, 6), (3, 0), (3, 0)] g (fun ro g' => ro = none ∧ FK (mup g 11 3 1) g' ∧ CS g' (nightS G D 4) ∧ SI G 18959 (nightS G D 4)) := by
  intro d Q hd hQ
  rcases hk with hk | ⟨hk, hS, hI⟩
  · generalize hh1 : mup g 11 3 1 = g1
    have fo1 : ∀ o k, ¬ (o = 11 ∧ k = 3) → g1 o k = g o k := by
      intro o k ho
      rw [← hh1, mup_n (by omega)]
    have v1 : g1 11 3 = 1 := by rw [← hh1, mup_e]
    have hA1 : Agree G g1 := fun o k ho => by rw [fo1 o k (by unfold InpS at ho; omega)]; exact hA o k ho
    have fin : ∀ h, FK g1 h → CS h (nightS G D 4) → SI G 18959 (nightS G D 4) → Q none (fl h) := by
      intro h hF hS hI
      exact hQ none h ⟨rfl, by rw [hh1]; exact hF, hS, hI⟩
    have loop2 := lup (P := fun r => ∀ h, FK g1 h → CS h (nightS G D r) → SI G (5999 + 3240 * (r : Int)) (nightS G D r) → ∀ v, Wp X d SH 41 37 [(2, 12), (2, 6), (0, (r : Int)), v] [] SH (fl h) Q) 4 ?_ ?_ 0 (by omega)
    · have loop1 := lup (P := fun c => ∀ h, FK g1 h → (∀ c', c' < c → h (19 + 6 * c') 4 = -1 ∧ h (19 + 6 * c') 5 = -1 ∧ h (19 + 6 * c') 6 = -1 ∧ ∀ i, i < 36 → h (21 + 6 * c') i = -1 ∧ h (22 + 6 * c') i = -1) → ∀ v, Wp X d SH 41 15 [(2, 12), (2, 6), (0, (c : Int)), v] [] SH (fl h) Q) 4 ?_ ?_ 0 (by omega)
      · skip
        apply s_41_0
        try simp only [mi_12, fl_12_3, up_12_3, fl_12_0, mi_13, ml_13, fl_13, cm_o, hk, hh1, true_and, and_true, true_or, or_true, implies_true, b10_0, b10_1]
        repeat' (first | refine And.intro ?_ ?_ | intro _)
        all_goals (try (first | omega | (unfold r32; omega) | exact hQ | exact qe hQ (by omega) | exact qe hQ (by (repeat' split) <;> omega) | exact b01 | exact n01 | exact n21 | exact n31 | exact absurd trivial (by assumption)))
        apply s_41_13
        try simp only [mi_12, fl_12_3, up_12_3, fl_12_0, mi_13, ml_13, fl_13, cm_o, true_and, and_true, true_or, or_true, implies_true, b10_0, b10_1]
        repeat' (first | refine And.intro ?_ ?_ | intro _)
        all_goals (try (first | omega | (unfold r32; omega) | exact hQ | exact qe hQ (by omega) | exact qe hQ (by (repeat' split) <;> omega) | exact b01 | exact n01 | exact n21 | exact n31 | exact absurd trivial (by assumption)))
        exact loop1 g1 FK_r (fun c' hc' => absurd hc' (by omega)) _
      · intro h hF hz v
        have l2 := loop2 h hF (fun c hc => hz c hc) (fun c hc => by unfold nightS; exact ⟨by omega, by omega, by omega, fun i hi => ⟨Or.inl ⟨rfl, rfl⟩, fun z => absurd rfl z⟩⟩)
        apply s_41_15
        try simp only [mi_12, fl_12_3, up_12_3, fl_12_0, mi_13, ml_13, fl_13, cm_o, true_and, and_true, true_or, or_true, implies_true, b10_0, b10_1]
        repeat' (first | refine And.intro ?_ ?_ | intro _)
        all_goals (try (first | omega | (unfold r32; omega) | exact hQ | exact qe hQ (by omega) | exact qe hQ (by (repeat' split) <;> omega) | exact b01 | exact n01 | exact n21 | exact n31 | exact absurd trivial (by assumption)))
        exact l2 _
      · intro c hc ih h hF hz v
        have e3 : ((c : Int)).toNat = c := by omega
        have e10 : ((c + 1 : Nat) : Int) = (c : Int) + 1 := by omega
        rw [e10] at ih
        apply s_41_15
        try simp only [mi_12, fl_12_3, up_12_3, fl_12_0, mi_13, ml_13, fl_13, cm_o, e3, hc, true_and, and_true, true_or, or_true, implies_true, b10_0, b10_1]
        repeat' (first | refine And.intro ?_ ?_ | intro _)
        all_goals (try (first | omega | (unfold r32; omega) | exact hQ | exact qe hQ (by omega) | exact qe hQ (by (repeat' split) <;> omega) | exact b01 | exact n01 | exact n21 | exact n31 | exact absurd trivial (by assumption)))
        refine c19 X h hc _ _ (by omega) ?_
        rintro _ h2 ⟨rfl, hF2, hv⟩
        apply s_41_29
        try simp only [mi_12, fl_12_3, up_12_3, fl_12_0, mi_13, ml_13, fl_13, cm_o, true_and, and_true, true_or, or_true, implies_true, b10_0, b10_1]
        repeat' (first | refine And.intro ?_ ?_ | intro _)
        all_goals (try (first | omega | (unfold r32; omega) | exact hQ | exact qe hQ (by omega) | exact qe hQ (by (repeat' split) <;> omega) | exact b01 | exact n01 | exact n21 | exact n31 | exact absurd trivial (by assumption)))
        refine ih h2 (fun o k ho => by rw [hF2 o k (by omega)]; exact hF o k ho) ?_ _
        intro c' hc'
        by_cases hcc : c' = c
        · subst hcc; exact hv
        · have y := hz c' (by omega)
          rw [hF2 _ 4 (by omega), hF2 _ 5 (by omega), hF2 _ 6 (by omega)]
          refine ⟨y.1, y.2.1, y.2.2.1, fun i hi => ?_⟩
          rw [hF2 _ i (by omega), hF2 _ i (by omega)]
          exact y.2.2.2 i hi
    · intro h hF hS hI v
      have fin' := fin h hF hS hI
      apply s_41_37
      try simp only [mi_12, fl_12_3, up_12_3, fl_12_0, mi_13, ml_13, fl_13, cm_o, true_and, and_true, true_or, or_true, implies_true, b10_0, b10_1]
      repeat' (first | refine And.intro ?_ ?_ | intro _)
      all_goals (try (first | omega | (unfold r32; omega) | exact hQ | exact qe hQ (by omega) | exact qe hQ (by (repeat' split) <;> omega) | exact b01 | exact n01 | exact n21 | exact n31 | exact absurd trivial (by assumption)))
      all_goals (exact fin')
    · intro r hr ih h hF hS hI v
      have e10 : ((r + 1 : Nat) : Int) = (r : Int) + 1 := by omega
      have hA' := FK_ag hA1 hF
      have hnb := nxS_b hG hL hI (by omega) 4 (by omega)
      have c42' := c42 X hA' hL hS
      by_cases hn : (nxS G (nightS G D r) 4).1 = -1
      · have hend := nightS_end hn (4 - r)
        rw [show r + (4 - r) = 4 by omega] at hend
        have fin' := fin h hF (by rw [hend]; exact hS) (by
          rw [hend]
          intro c hc
          obtain ⟨i1, i2, i3, i4⟩ := hI c hc
          exact ⟨by omega, i2, by omega, i4⟩)
        apply s_41_37
        try simp only [mi_12, fl_12_3, up_12_3, fl_12_0, mi_13, ml_13, fl_13, cm_o, true_and, and_true, true_or, or_true, implies_true, b10_0, b10_1]
        repeat' (first | refine And.intro ?_ ?_ | intro _)
        all_goals (try (first | omega | (unfold r32; omega) | exact hQ | exact qe hQ (by omega) | exact qe hQ (by (repeat' split) <;> omega) | exact b01 | exact n01 | exact n21 | exact n31 | exact absurd trivial (by assumption)))
        refine c42' _ _ (by omega) ?_
        apply s_41_46
        try simp only [mi_12, fl_12_3, up_12_3, fl_12_0, mi_13, ml_13, fl_13, cm_o, hn, true_and, and_true, true_or, or_true, implies_true, b10_0, b10_1]
        repeat' (first | refine And.intro ?_ ?_ | intro _)
        all_goals (try (first | omega | (unfold r32; omega) | exact hQ | exact qe hQ (by omega) | exact qe hQ (by (repeat' split) <;> omega) | exact b01 | exact n01 | exact n21 | exact n31 | exact absurd trivial (by assumption)))
        all_goals (exact fin')
      · obtain ⟨h1, h2, h3, h4, h5⟩ := hnb.resolve_left hn
        obtain ⟨c, hc⟩ : ∃ c : Nat, (nxS G (nightS G D r) 4).1 = (c : Int) := ⟨(nxS G (nightS G D r) 4).1.toNat, by omega⟩
        have ec : ((c : Int)).toNat = c := by omega
        rw [hc, ec] at h3 h4
        have hc4 : c < 4 := by omega
        have hD' : h 5 2 = D := by rw [hF 5 2 (by omega), fo1 5 2 (by omega)]; exact hD
        have c44' := c44 X hc4 hA' hG hL hGa hD' hDb hS hI (by omega) h3 (by omega)
        unfold nightS at ih
        rw [if_neg hn, hc, ec, e10, show 5999 + 3240 * ((r : Int) + 1) = 5999 + 3240 * (r : Int) + 3240 by omega] at ih
        apply s_41_37
        try simp only [mi_12, fl_12_3, up_12_3, fl_12_0, mi_13, ml_13, fl_13, cm_o, true_and, and_true, true_or, or_true, implies_true, b10_0, b10_1]
        repeat' (first | refine And.intro ?_ ?_ | intro _)
        all_goals (try (first | omega | (unfold r32; omega) | exact hQ | exact qe hQ (by omega) | exact qe hQ (by (repeat' split) <;> omega) | exact b01 | exact n01 | exact n21 | exact n31 | exact absurd trivial (by assumption)))
        refine c42' _ _ (by omega) ?_
        rw [hc]
        apply s_41_46
        try simp only [mi_12, fl_12_3, up_12_3, fl_12_0, mi_13, ml_13, fl_13, cm_o, true_and, and_true, true_or, or_true, implies_true, b10_0, b10_1]
        repeat' (first | refine And.intro ?_ ?_ | intro _)
        all_goals (try (first | omega | (unfold r32; omega) | exact hQ | exact qe hQ (by omega) | exact qe hQ (by (repeat' split) <;> omega) | exact b01 | exact n01 | exact n21 | exact n31 | exact absurd trivial (by assumption)))
        refine c44' _ _ (by omega) ?_
        rintro _ g2 ⟨rfl, hF2, hS2, hI2⟩
        apply s_41_59
        try simp only [mi_12, fl_12_3, up_12_3, fl_12_0, mi_13, ml_13, fl_13, cm_o, true_and, and_true, true_or, or_true, implies_true, b10_0, b10_1]
        repeat' (first | refine And.intro ?_ ?_ | intro _)
        all_goals (try (first | omega | (unfold r32; omega) | exact hQ | exact qe hQ (by omega) | exact qe hQ (by (repeat' split) <;> omega) | exact b01 | exact n01 | exact n21 | exact n31 | exact absurd trivial (by assumption)))
        exact ih g2 (FK_t hF hF2) hS2 hI2 _
  · have fin' := hQ none g ⟨rfl, fun o k _ => by
      by_cases hok : o = 11 ∧ k = 3
      · rw [hok.1, hok.2, hk, mup_e]
      · rw [mup_n hok], hS, hI⟩
    apply s_41_0
    try simp only [mi_12, fl_12_3, up_12_3, fl_12_0, mi_13, ml_13, fl_13, cm_o, hk, true_and, and_true, true_or, or_true, implies_true, b10_0, b10_1]
    repeat' (first | refine And.intro ?_ ?_ | intro _)
    all_goals (try (first | omega | (unfold r32; omega) | exact hQ | exact qe hQ (by omega) | exact qe hQ (by (repeat' split) <;> omega) | exact b01 | exact n01 | exact n21 | exact n31 | exact absurd trivial (by assumption)))
    all_goals (exact fin')
