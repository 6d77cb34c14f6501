/-! the store -/
theorem sumN_b {n : Nat} {a : Nat → Int} {lo hi : Int} (h : ∀ i, i < n → lo ≤ a i ∧ a i ≤ hi) : (n : Int) * lo ≤ sumN n a ∧ sumN n a ≤ (n : Int) * hi := by
  induction n with
  | zero => simp [sumN]
  | succ n ih =>
    have z := ih (fun i hi => h i (by omega))
    have y := h n (by omega)
    unfold sumN
    rw [show ((n + 1 : Nat) : Int) = (n : Int) + 1 by omega, Int.add_mul, Int.add_mul]
    omega
theorem celp_congr {g g' : mF} {c : Nat} {p : Int} (h1 : g' (19 + 6 * c) 0 = g (19 + 6 * c) 0) (h2 : ∀ k, g' (20 + 6 * c) k = g (20 + 6 * c) k) : celp g' c p = celp g c p := by
  unfold celp
  simp only [h1, h2]
theorem celp_nn (g : mF) (c : Nat) (p : Int) : 0 ≤ celp g c p := by
  unfold celp
  have z := (sumN_b (n := (g (19 + 6 * c) 0).toNat) (a := fun i => if g (20 + 6 * c) i = p then (1 : Int) else 0) (lo := 0) (hi := 1) (fun i _ => by split <;> omega)).1
  omega
theorem c78 (X : mX) (g : mF) (a p : Int) (ha : 0 ≤ a ∧ a ≤ 3) (hp : 0 ≤ p ∧ p ≤ 7) : Ret X 0 78 [(2, 9), (0, a), (0, p)] g (some (0, g 9 (8 * a + p).toNat)) g := by
  intro d Q hd hQ
  have e : (a * 8 + p).toNat = (8 * a + p).toNat := by omega
  apply s_78_0
  try simp only [mi_9, fl_9_0, mi_10, ml_10, fl_10, up_10, e, true_and, and_true, true_or, or_true, implies_true, b10_0, b10_1]
  repeat' (first | refine And.intro ?_ ?_ | intro _)
  all_goals (try (first | omega | (unfold r32; omega) | exact hQ | exact qe hQ (by omega) | exact qe hQ (by (repeat' split) <;> omega) | exact b01))
theorem c79 (X : mX) (g : mF) (a p v : Int) (ha : 0 ≤ a ∧ a ≤ 3) (hp : 0 ≤ p ∧ p ≤ 7) (hv : r32 (g 9 (8 * a + p).toNat + v)) : Ret X 0 79 [(2, 9), (0, a), (0, p), (0, v)] g none (mup g 9 (8 * a + p).toNat (g 9 (8 * a + p).toNat + v)) := by
  intro d Q hd hQ
  unfold r32 at hv
  have e : (a * 8 + p).toNat = (8 * a + p).toNat := by omega
  apply s_79_0
  try simp only [mi_9, fl_9_0, mi_10, ml_10, fl_10, up_10, e, true_and, and_true, true_or, or_true, implies_true, b10_0, b10_1]
  repeat' (first | refine And.intro ?_ ?_ | intro _)
  all_goals (try (first | omega | (unfold r32; omega) | exact hQ | exact qe hQ (by omega) | exact qe hQ (by (repeat' split) <;> omega) | exact b01))
theorem c81 (X : mX) (g : mF) (p : Int) (hp : 0 ≤ p ∧ p ≤ 7) (hB : ∀ j, j < 32 → 0 ≤ g 9 j ∧ g 9 j ≤ 999) : Ret X 1 81 [(2, 9), (0, p), (3, 0), (3, 0)] g (some (0, sumN 4 (fun j => g 9 (8 * j + p.toNat)))) g := by
  intro d Q hd hQ
  apply s_81_0
  try simp only [mi_9, true_and, and_true, true_or, or_true, implies_true, b10_0, b10_1]
  repeat' (first | refine And.intro ?_ ?_ | intro _)
  all_goals (try (first | omega | (unfold r32; omega) | exact hQ | exact qe hQ (by omega) | exact qe hQ (by (repeat' split) <;> omega) | exact b01))
  refine lup (P := fun i => Wp X d SH 81 4 [(2, 9), (0, p), (0, sumN i (fun j => g 9 (8 * j + p.toNat))), (0, (i : Int))] [] SH (fl g) Q) 4 ?_ ?_ 0 (by omega)
  · skip
    apply s_81_4
    try simp only [mi_9, true_and, and_true, true_or, or_true, implies_true, b10_0, b10_1]
    repeat' (first | refine And.intro ?_ ?_ | intro _)
    all_goals (try (first | omega | (unfold r32; omega) | exact hQ | exact qe hQ (by omega) | exact qe hQ (by (repeat' split) <;> omega) | exact b01))
  · intro i hi ih
    have e1 : (8 * (i : Int) + p).toNat = 8 * i + p.toNat := by omega
    have e2 : ((i + 1 : Nat) : Int) = (i : Int) + 1 := by omega
    have b1 := sumN_b (n := i) (a := fun j => g 9 (8 * j + p.toNat)) (lo := 0) (hi := 999) (fun j hj => hB _ (by omega))
    have b2 := hB (8 * i + p.toNat) (by omega)
    simp only [e2, sumN] at ih
    apply s_81_4
    try simp only [mi_9, true_and, and_true, true_or, or_true, implies_true, b10_0, b10_1]
    repeat' (first | refine And.intro ?_ ?_ | intro _)
    all_goals (try (first | omega | (unfold r32; omega) | exact hQ | exact qe hQ (by omega) | exact qe hQ (by (repeat' split) <;> omega) | exact b01))
    refine c78 X g _ _ (by omega) (by omega) _ _ (by omega) ?_
    apply s_81_16
    try simp only [mi_9, e1, true_and, and_true, true_or, or_true, implies_true, b10_0, b10_1]
    repeat' (first | refine And.intro ?_ ?_ | intro _)
    all_goals (try (first | omega | (unfold r32; omega) | exact hQ | exact qe hQ (by omega) | exact qe hQ (by (repeat' split) <;> omega) | exact b01))
/-- jar -/
theorem T_jar (X : mX) (g : mF) (a p : Int) {n : Nat} (hI : Istore n g) : ∃ r, Ret X 60 97 [(2, 1), (0, a), (0, p)] g (some (0, r)) g ∧ Ret X 60 170 [(2, 87), (0, a), (0, p)] g (some (0, r)) g := by
  by_cases h : (0 ≤ a ∧ a ≤ 3) ∧ (0 ≤ p ∧ p ≤ 7)
  · have z := hI.1 (8 * a + p).toNat (by omega)
    have e := z.1
    refine ⟨g 9 (8 * a + p).toNat, ?_, ?_⟩
    · intro d Q hd hQ
      repeat' (first
        | (exfalso; omega)
        | (exact absurd trivial (by assumption))
        | (apply s_97_0; try simp only [mi_1, fl_1_3, mi_9, true_and, and_true, true_or, or_true, implies_true, b10_0, b10_1])
        | (apply s_97_4; try simp only [mi_1, fl_1_3, mi_9, true_and, and_true, true_or, or_true, implies_true, b10_0, b10_1])
        | (apply s_97_11; try simp only [mi_1, fl_1_3, mi_9, true_and, and_true, true_or, or_true, implies_true, b10_0, b10_1])
        | (apply s_97_27; try simp only [mi_1, fl_1_3, mi_9, true_and, and_true, true_or, or_true, implies_true, b10_0, b10_1])
        | (refine c132 X _ _ _ _ (by omega) ?_)
        | (refine c131 X _ _ _ _ (by omega) ?_)
        | (refine c78 X g _ _ (by omega) (by omega) _ _ (by omega) ?_)
        | (refine And.intro ?_ ?_)
        | (intro _)
        | omega
        | (unfold r32; omega)
        | (exact hQ)
        | (exact qe hQ (by omega))
        | (exact qe hQ (by (repeat' split) <;> omega))
        | (exact b01))
    · intro d Q hd hQ
      repeat' (first
        | (exfalso; omega)
        | (exact absurd trivial (by assumption))
        | (apply s_170_0; try simp only [mi_87, fl_87_11, mi_97, ml_97, fl_97, up_97, e, true_and, and_true, true_or, or_true, implies_true, b10_0, b10_1])
        | (apply s_170_4; try simp only [mi_87, fl_87_11, mi_97, ml_97, fl_97, up_97, e, true_and, and_true, true_or, or_true, implies_true, b10_0, b10_1])
        | (apply s_170_11; try simp only [mi_87, fl_87_11, mi_97, ml_97, fl_97, up_97, e, true_and, and_true, true_or, or_true, implies_true, b10_0, b10_1])
        | (refine c166 X _ _ _ _ (by omega) ?_)
        | (refine c165 X _ _ _ _ (by omega) ?_)
        | (refine And.intro ?_ ?_)
        | (intro _)
        | omega
        | (unfold r32; omega)
        | (exact hQ)
        | (exact qe hQ (by omega))
        | (exact qe hQ (by (repeat' split) <;> omega))
        | (exact b01))
  · refine ⟨-1001, ?_, ?_⟩
    · intro d Q hd hQ
      repeat' (first
        | (exfalso; omega)
        | (exact absurd trivial (by assumption))
        | (apply s_97_0; try simp only [mi_1, fl_1_3, mi_9, true_and, and_true, true_or, or_true, implies_true, b10_0, b10_1])
        | (apply s_97_4; try simp only [mi_1, fl_1_3, mi_9, true_and, and_true, true_or, or_true, implies_true, b10_0, b10_1])
        | (apply s_97_11; try simp only [mi_1, fl_1_3, mi_9, true_and, and_true, true_or, or_true, implies_true, b10_0, b10_1])
        | (apply s_97_27; try simp only [mi_1, fl_1_3, mi_9, true_and, and_true, true_or, or_true, implies_true, b10_0, b10_1])
        | (refine c132 X _ _ _ _ (by omega) ?_)
        | (refine c131 X _ _ _ _ (by omega) ?_)
        | (refine And.intro ?_ ?_)
        | (intro _)
        | omega
        | (unfold r32; omega)
        | (exact hQ)
        | (exact qe hQ (by omega))
        | (exact qe hQ (by (repeat' split) <;> omega))
        | (exact b01))
    · intro d Q hd hQ
      repeat' (first
        | (exfalso; omega)
        | (exact absurd trivial (by assumption))
        | (apply s_170_0; try simp only [mi_87, fl_87_11, mi_97, ml_97, fl_97, up_97, true_and, and_true, true_or, or_true, implies_true, b10_0, b10_1])
        | (apply s_170_4; try simp only [mi_87, fl_87_11, mi_97, ml_97, fl_97, up_97, true_and, and_true, true_or, or_true, implies_true, b10_0, b10_1])
        | (apply s_170_11; try simp only [mi_87, fl_87_11, mi_97, ml_97, fl_97, up_97, true_and, and_true, true_or, or_true, implies_true, b10_0, b10_1])
        | (refine c166 X _ _ _ _ (by omega) ?_)
        | (refine c165 X _ _ _ _ (by omega) ?_)
        | (refine And.intro ?_ ?_)
        | (intro _)
        | omega
        | (unfold r32; omega)
        | (exact hQ)
        | (exact qe hQ (by omega))
        | (exact qe hQ (by (repeat' split) <;> omega))
        | (exact b01))
theorem Istore_le {n : Nat} {g : mF} (h : Istore n g) : Istore (n + 1) g := ⟨h.1, h.2.1, fun p hp => ⟨(h.2.2 p hp).1, by have := (h.2.2 p hp).2; omega⟩⟩
/-- bring -/
theorem T_bring (X : mX) (g : mF) (a p v : Int) {n : Nat} (hn : n < 512) (hI : Istore n g) : ∃ r g1 g2, Ret X 60 96 [(2, 1), (0, a), (0, p), (0, v)] g (some (0, r)) g1 ∧ Ret X 60 169 [(2, 87), (0, a), (0, p), (0, v)] g1 (some (0, r)) g2 ∧ Istore (n + 1) g2 ∧ Chg (fun o _ => o = 9 ∨ o = 96 ∨ o = 97) g g2 := by
  by_cases h : (0 ≤ a ∧ a ≤ 3) ∧ (0 ≤ p ∧ p ≤ 7)
  · obtain ⟨ha, hp⟩ := h
    by_cases hv : 1 ≤ v ∧ v ≤ 99
    · have z := hI.1 (8 * a + p).toNat (by omega)
      by_cases hf : g 9 (8 * a + p).toNat + v ≤ 999
      · have y := hI.2.2 p.toNat (by omega)
        have y0 := hI.2.1 p.toNat (by omega)
        have w0 := (hI.1 p.toNat (by omega)).2
        have w1 := (hI.1 (8 + p.toNat) (by omega)).2
        have w2 := (hI.1 (16 + p.toNat) (by omega)).2
        have w3 := (hI.1 (24 + p.toNat) (by omega)).2
        have k0 := celp_nn g 0 (p.toNat : Int)
        have k1 := celp_nn g 1 (p.toNat : Int)
        have k2 := celp_nn g 2 (p.toNat : Int)
        have k3 := celp_nn g 3 (p.toNat : Int)
        have q0 : 0 ≤ g 97 p.toNat := by omega
        have q1 : g 97 p.toNat ≤ 60000 := by omega
        have e := z.1
        refine ⟨g 9 (8 * a + p).toNat + v, mup g 9 (8 * a + p).toNat (g 9 (8 * a + p).toNat + v), mup (mup (mup g 9 (8 * a + p).toNat (g 9 (8 * a + p).toNat + v)) 96 (8 * a + p).toNat (g 9 (8 * a + p).toNat + v)) 97 p.toNat (g 97 p.toNat + v), ?_, ?_, ?_, Chg_w (Chg_t (Chg_t Chg_1 Chg_1) Chg_1) (fun a b z => by omega)⟩
        · intro d Q hd hQ
          have c := c79 X g a p v ha hp (by unfold r32; omega)
          have c2 := c78 X (mup g 9 (8 * a + p).toNat (g 9 (8 * a + p).toNat + v)) a p ha hp
          rw [mup_e] at c2
          repeat' (first
            | (exfalso; omega)
            | (exact absurd trivial (by assumption))
            | (apply s_96_0; try simp only [mi_1, fl_1_3, mi_9, true_and, and_true, true_or, or_true, implies_true, b10_0, b10_1])
            | (apply s_96_4; try simp only [mi_1, fl_1_3, mi_9, true_and, and_true, true_or, or_true, implies_true, b10_0, b10_1])
            | (apply s_96_11; try simp only [mi_1, fl_1_3, mi_9, true_and, and_true, true_or, or_true, implies_true, b10_0, b10_1])
            | (apply s_96_25; try simp only [mi_1, fl_1_3, mi_9, true_and, and_true, true_or, or_true, implies_true, b10_0, b10_1])
            | (apply s_96_41; try simp only [mi_1, fl_1_3, mi_9, true_and, and_true, true_or, or_true, implies_true, b10_0, b10_1])
            | (apply s_96_63; try simp only [mi_1, fl_1_3, mi_9, true_and, and_true, true_or, or_true, implies_true, b10_0, b10_1])
            | (apply s_96_72; try simp only [mi_1, fl_1_3, mi_9, true_and, and_true, true_or, or_true, implies_true, b10_0, b10_1])
            | (refine c132 X _ _ _ _ (by omega) ?_)
            | (refine c131 X _ _ _ _ (by omega) ?_)
            | (refine c130 X _ _ _ _ _ _ (by omega) ?_)
            | (refine c _ _ (by omega) ?_)
            | (refine c2 _ _ (by omega) ?_)
            | (refine c78 X g _ _ (by omega) (by omega) _ _ (by omega) ?_)
            | (refine And.intro ?_ ?_)
            | (intro _)
            | omega
            | (unfold r32; omega)
            | (exact hQ)
            | (exact qe hQ (by omega))
            | (exact qe hQ (by (repeat' split) <;> omega))
            | (exact b01))
        · intro d Q hd hQ
          have e1 : mup g 9 (8 * a + p).toNat (g 9 (8 * a + p).toNat + v) 96 (8 * a + p).toNat = g 9 (8 * a + p).toNat := by rw [mup_n (by omega), e]
          have e2 : mup (mup g 9 (8 * a + p).toNat (g 9 (8 * a + p).toNat + v)) 96 (8 * a + p).toNat (g 9 (8 * a + p).toNat + v) 97 p.toNat = g 97 p.toNat := by rw [mup_n (by omega), mup_n (by omega)]
          have e3 : mup (mup (mup g 9 (8 * a + p).toNat (g 9 (8 * a + p).toNat + v)) 96 (8 * a + p).toNat (g 9 (8 * a + p).toNat + v)) 97 p.toNat (g 97 p.toNat + v) 96 (8 * a + p).toNat = g 9 (8 * a + p).toNat + v := by rw [mup_n (by omega), mup_e]
          repeat' (first
            | (exfalso; omega)
            | (exact absurd trivial (by assumption))
            | (apply s_169_0; try simp only [mi_87, fl_87_11, mi_97, ml_97, fl_97, up_97, fl_87_12, mi_98, ml_98, fl_98, up_98, e1, e2, e3, true_and, and_true, true_or, or_true, implies_true, b10_0, b10_1])
            | (apply s_169_4; try simp only [mi_87, fl_87_11, mi_97, ml_97, fl_97, up_97, fl_87_12, mi_98, ml_98, fl_98, up_98, e1, e2, e3, true_and, and_true, true_or, or_true, implies_true, b10_0, b10_1])
            | (apply s_169_11; try simp only [mi_87, fl_87_11, mi_97, ml_97, fl_97, up_97, fl_87_12, mi_98, ml_98, fl_98, up_98, e1, e2, e3, true_and, and_true, true_or, or_true, implies_true, b10_0, b10_1])
            | (apply s_169_27; try simp only [mi_87, fl_87_11, mi_97, ml_97, fl_97, up_97, fl_87_12, mi_98, ml_98, fl_98, up_98, e1, e2, e3, true_and, and_true, true_or, or_true, implies_true, b10_0, b10_1])
            | (apply s_169_72; try simp only [mi_87, fl_87_11, mi_97, ml_97, fl_97, up_97, fl_87_12, mi_98, ml_98, fl_98, up_98, e1, e2, e3, true_and, and_true, true_or, or_true, implies_true, b10_0, b10_1])
            | (apply s_169_82; try simp only [mi_87, fl_87_11, mi_97, ml_97, fl_97, up_97, fl_87_12, mi_98, ml_98, fl_98, up_98, e1, e2, e3, true_and, and_true, true_or, or_true, implies_true, b10_0, b10_1])
            | (refine c166 X _ _ _ _ (by omega) ?_)
            | (refine c165 X _ _ _ _ (by omega) ?_)
            | (refine c144 X _ _ _ _ _ _ (by omega) ?_)
            | (refine And.intro ?_ ?_)
            | (intro _)
            | omega
            | (unfold r32; omega)
            | (exact hQ)
            | (exact qe hQ (by omega))
            | (exact qe hQ (by (repeat' split) <;> omega))
            | (exact b01))
        · have f9 : ∀ k, mup (mup (mup g 9 (8 * a + p).toNat (g 9 (8 * a + p).toNat + v)) 96 (8 * a + p).toNat (g 9 (8 * a + p).toNat + v)) 97 p.toNat (g 97 p.toNat + v) 9 k = if k = (8 * a + p).toNat then g 9 (8 * a + p).toNat + v else g 9 k := by intro k; simp [mup]
          have f96 : ∀ k, mup (mup (mup g 9 (8 * a + p).toNat (g 9 (8 * a + p).toNat + v)) 96 (8 * a + p).toNat (g 9 (8 * a + p).toNat + v)) 97 p.toNat (g 97 p.toNat + v) 96 k = if k = (8 * a + p).toNat then g 9 (8 * a + p).toNat + v else g 96 k := by intro k; simp [mup]
          have f97 : ∀ k, mup (mup (mup g 9 (8 * a + p).toNat (g 9 (8 * a + p).toNat + v)) 96 (8 * a + p).toNat (g 9 (8 * a + p).toNat + v)) 97 p.toNat (g 97 p.toNat + v) 97 k = if k = p.toNat then g 97 p.toNat + v else g 97 k := by intro k; simp [mup]
          have fo : ∀ o k, ¬ (o = 9 ∨ o = 96 ∨ o = 97) → mup (mup (mup g 9 (8 * a + p).toNat (g 9 (8 * a + p).toNat + v)) 96 (8 * a + p).toNat (g 9 (8 * a + p).toNat + v)) 97 p.toNat (g 97 p.toNat + v) o k = g o k := by
            intro o k ho
            rw [mup_n (by omega), mup_n (by omega), mup_n (by omega)]
          generalize mup (mup (mup g 9 (8 * a + p).toNat (g 9 (8 * a + p).toNat + v)) 96 (8 * a + p).toNat (g 9 (8 * a + p).toNat + v)) 97 p.toNat (g 97 p.toNat + v) = g2 at f9 f96 f97 fo ⊢
          have fc : ∀ c q, c < 4 → celp g2 c q = celp g c q := fun c q hc => celp_congr (fo _ _ (by omega)) (fun k => fo _ _ (by omega))
          refine ⟨fun j hj => ?_, fun q hq => ?_, fun q hq => ?_⟩
          · have u := hI.1 j hj
            rw [f9, f96]
            split <;> omega
          · rw [fo 98 q (by omega), fo 10 q (by omega)]
            exact hI.2.1 q hq
          · have u := hI.2.2 q hq
            have j0 : a = 0 → g 9 (8 * a + p).toNat = g 9 p.toNat := fun h => by rw [show (8 * a + p).toNat = p.toNat by omega]
            have j1 : a = 1 → g 9 (8 * a + p).toNat = g 9 (8 + p.toNat) := fun h => by rw [show (8 * a + p).toNat = 8 + p.toNat by omega]
            have j2 : a = 2 → g 9 (8 * a + p).toNat = g 9 (16 + p.toNat) := fun h => by rw [show (8 * a + p).toNat = 16 + p.toNat by omega]
            have j3 : a = 3 → g 9 (8 * a + p).toNat = g 9 (24 + p.toNat) := fun h => by rw [show (8 * a + p).toNat = 24 + p.toNat by omega]
            rw [fc 0 _ (by omega), fc 1 _ (by omega), fc 2 _ (by omega), fc 3 _ (by omega), fo 10 q (by omega), f97, f9, f9, f9, f9]
            by_cases hqp : q = p.toNat
            · subst hqp
              rw [if_pos rfl]
              (repeat' split) <;> omega
            · rw [if_neg hqp]
              (repeat' split) <;> omega
      · refine ⟨-1004, g, g, ?_, ?_, Istore_le hI, Chg_w Chg_r (fun _ _ z => z.elim)⟩
        · intro d Q hd hQ
          repeat' (first
            | (exfalso; omega)
            | (exact absurd trivial (by assumption))
            | (apply s_96_0; try simp only [mi_1, fl_1_3, mi_9, true_and, and_true, true_or, or_true, implies_true, b10_0, b10_1])
            | (apply s_96_4; try simp only [mi_1, fl_1_3, mi_9, true_and, and_true, true_or, or_true, implies_true, b10_0, b10_1])
            | (apply s_96_11; try simp only [mi_1, fl_1_3, mi_9, true_and, and_true, true_or, or_true, implies_true, b10_0, b10_1])
            | (apply s_96_25; try simp only [mi_1, fl_1_3, mi_9, true_and, and_true, true_or, or_true, implies_true, b10_0, b10_1])
            | (apply s_96_41; try simp only [mi_1, fl_1_3, mi_9, true_and, and_true, true_or, or_true, implies_true, b10_0, b10_1])
            | (apply s_96_63; try simp only [mi_1, fl_1_3, mi_9, true_and, and_true, true_or, or_true, implies_true, b10_0, b10_1])
            | (apply s_96_72; try simp only [mi_1, fl_1_3, mi_9, true_and, and_true, true_or, or_true, implies_true, b10_0, b10_1])
            | (refine c132 X _ _ _ _ (by omega) ?_)
            | (refine c131 X _ _ _ _ (by omega) ?_)
            | (refine c130 X _ _ _ _ _ _ (by omega) ?_)
            | (refine c78 X g _ _ (by omega) (by omega) _ _ (by omega) ?_)
            | (refine And.intro ?_ ?_)
            | (intro _)
            | omega
            | (unfold r32; omega)
            | (exact hQ)
            | (exact qe hQ (by omega))
            | (exact qe hQ (by (repeat' split) <;> omega))
            | (exact b01))
        · intro d Q hd hQ
          have e := z.1
          repeat' (first
            | (exfalso; omega)
            | (exact absurd trivial (by assumption))
            | (apply s_169_0; try simp only [mi_87, fl_87_11, mi_97, ml_97, fl_97, up_97, fl_87_12, mi_98, ml_98, fl_98, up_98, e, true_and, and_true, true_or, or_true, implies_true, b10_0, b10_1])
            | (apply s_169_4; try simp only [mi_87, fl_87_11, mi_97, ml_97, fl_97, up_97, fl_87_12, mi_98, ml_98, fl_98, up_98, e, true_and, and_true, true_or, or_true, implies_true, b10_0, b10_1])
            | (apply s_169_11; try simp only [mi_87, fl_87_11, mi_97, ml_97, fl_97, up_97, fl_87_12, mi_98, ml_98, fl_98, up_98, e, true_and, and_true, true_or, or_true, implies_true, b10_0, b10_1])
            | (apply s_169_27; try simp only [mi_87, fl_87_11, mi_97, ml_97, fl_97, up_97, fl_87_12, mi_98, ml_98, fl_98, up_98, e, true_and, and_true, true_or, or_true, implies_true, b10_0, b10_1])
            | (apply s_169_72; try simp only [mi_87, fl_87_11, mi_97, ml_97, fl_97, up_97, fl_87_12, mi_98, ml_98, fl_98, up_98, e, true_and, and_true, true_or, or_true, implies_true, b10_0, b10_1])
            | (apply s_169_82; try simp only [mi_87, fl_87_11, mi_97, ml_97, fl_97, up_97, fl_87_12, mi_98, ml_98, fl_98, up_98, e, true_and, and_true, true_or, or_true, implies_true, b10_0, b10_1])
            | (refine c166 X _ _ _ _ (by omega) ?_)
            | (refine c165 X _ _ _ _ (by omega) ?_)
            | (refine c144 X _ _ _ _ _ _ (by omega) ?_)
            | (refine And.intro ?_ ?_)
            | (intro _)
            | omega
            | (unfold r32; omega)
            | (exact hQ)
            | (exact qe hQ (by omega))
            | (exact qe hQ (by (repeat' split) <;> omega))
            | (exact b01))
    · refine ⟨-1002, g, g, ?_, ?_, Istore_le hI, Chg_w Chg_r (fun _ _ z => z.elim)⟩
      · intro d Q hd hQ
        repeat' (first
          | (exfalso; omega)
          | (exact absurd trivial (by assumption))
          | (apply s_96_0; try simp only [mi_1, fl_1_3, mi_9, true_and, and_true, true_or, or_true, implies_true, b10_0, b10_1])
          | (apply s_96_4; try simp only [mi_1, fl_1_3, mi_9, true_and, and_true, true_or, or_true, implies_true, b10_0, b10_1])
          | (apply s_96_11; try simp only [mi_1, fl_1_3, mi_9, true_and, and_true, true_or, or_true, implies_true, b10_0, b10_1])
          | (apply s_96_25; try simp only [mi_1, fl_1_3, mi_9, true_and, and_true, true_or, or_true, implies_true, b10_0, b10_1])
          | (apply s_96_41; try simp only [mi_1, fl_1_3, mi_9, true_and, and_true, true_or, or_true, implies_true, b10_0, b10_1])
          | (apply s_96_63; try simp only [mi_1, fl_1_3, mi_9, true_and, and_true, true_or, or_true, implies_true, b10_0, b10_1])
          | (apply s_96_72; try simp only [mi_1, fl_1_3, mi_9, true_and, and_true, true_or, or_true, implies_true, b10_0, b10_1])
          | (refine c132 X _ _ _ _ (by omega) ?_)
          | (refine c131 X _ _ _ _ (by omega) ?_)
          | (refine c130 X _ _ _ _ _ _ (by omega) ?_)
          | (refine And.intro ?_ ?_)
          | (intro _)
          | omega
          | (unfold r32; omega)
          | (exact hQ)
          | (exact qe hQ (by omega))
          | (exact qe hQ (by (repeat' split) <;> omega))
          | (exact b01))
      · intro d Q hd hQ
        repeat' (first
          | (exfalso; omega)
          | (exact absurd trivial (by assumption))
          | (apply s_169_0; try simp only [mi_87, fl_87_11, mi_97, ml_97, fl_97, up_97, fl_87_12, mi_98, ml_98, fl_98, up_98, true_and, and_true, true_or, or_true, implies_true, b10_0, b10_1])
          | (apply s_169_4; try simp only [mi_87, fl_87_11, mi_97, ml_97, fl_97, up_97, fl_87_12, mi_98, ml_98, fl_98, up_98, true_and, and_true, true_or, or_true, implies_true, b10_0, b10_1])
          | (apply s_169_11; try simp only [mi_87, fl_87_11, mi_97, ml_97, fl_97, up_97, fl_87_12, mi_98, ml_98, fl_98, up_98, true_and, and_true, true_or, or_true, implies_true, b10_0, b10_1])
          | (apply s_169_27; try simp only [mi_87, fl_87_11, mi_97, ml_97, fl_97, up_97, fl_87_12, mi_98, ml_98, fl_98, up_98, true_and, and_true, true_or, or_true, implies_true, b10_0, b10_1])
          | (apply s_169_72; try simp only [mi_87, fl_87_11, mi_97, ml_97, fl_97, up_97, fl_87_12, mi_98, ml_98, fl_98, up_98, true_and, and_true, true_or, or_true, implies_true, b10_0, b10_1])
          | (apply s_169_82; try simp only [mi_87, fl_87_11, mi_97, ml_97, fl_97, up_97, fl_87_12, mi_98, ml_98, fl_98, up_98, true_and, and_true, true_or, or_true, implies_true, b10_0, b10_1])
          | (refine c166 X _ _ _ _ (by omega) ?_)
          | (refine c165 X _ _ _ _ (by omega) ?_)
          | (refine c144 X _ _ _ _ _ _ (by omega) ?_)
          | (refine And.intro ?_ ?_)
          | (intro _)
          | omega
          | (unfold r32; omega)
          | (exact hQ)
          | (exact qe hQ (by omega))
          | (exact qe hQ (by (repeat' split) <;> omega))
          | (exact b01))
  · refine ⟨-1001, g, g, ?_, ?_, Istore_le hI, Chg_w Chg_r (fun _ _ z => z.elim)⟩
    · intro d Q hd hQ
      repeat' (first
        | (exfalso; omega)
        | (exact absurd trivial (by assumption))
        | (apply s_96_0; try simp only [mi_1, fl_1_3, mi_9, true_and, and_true, true_or, or_true, implies_true, b10_0, b10_1])
        | (apply s_96_4; try simp only [mi_1, fl_1_3, mi_9, true_and, and_true, true_or, or_true, implies_true, b10_0, b10_1])
        | (apply s_96_11; try simp only [mi_1, fl_1_3, mi_9, true_and, and_true, true_or, or_true, implies_true, b10_0, b10_1])
        | (apply s_96_25; try simp only [mi_1, fl_1_3, mi_9, true_and, and_true, true_or, or_true, implies_true, b10_0, b10_1])
        | (apply s_96_41; try simp only [mi_1, fl_1_3, mi_9, true_and, and_true, true_or, or_true, implies_true, b10_0, b10_1])
        | (apply s_96_63; try simp only [mi_1, fl_1_3, mi_9, true_and, and_true, true_or, or_true, implies_true, b10_0, b10_1])
        | (apply s_96_72; try simp only [mi_1, fl_1_3, mi_9, true_and, and_true, true_or, or_true, implies_true, b10_0, b10_1])
        | (refine c132 X _ _ _ _ (by omega) ?_)
        | (refine c131 X _ _ _ _ (by omega) ?_)
        | (refine c130 X _ _ _ _ _ _ (by omega) ?_)
        | (refine And.intro ?_ ?_)
        | (intro _)
        | omega
        | (unfold r32; omega)
        | (exact hQ)
        | (exact qe hQ (by omega))
        | (exact qe hQ (by (repeat' split) <;> omega))
        | (exact b01))
    · intro d Q hd hQ
      repeat' (first
        | (exfalso; omega)
        | (exact absurd trivial (by assumption))
        | (apply s_169_0; try simp only [mi_87, fl_87_11, mi_97, ml_97, fl_97, up_97, fl_87_12, mi_98, ml_98, fl_98, up_98, true_and, and_true, true_or, or_true, implies_true, b10_0, b10_1])
        | (apply s_169_4; try simp only [mi_87, fl_87_11, mi_97, ml_97, fl_97, up_97, fl_87_12, mi_98, ml_98, fl_98, up_98, true_and, and_true, true_or, or_true, implies_true, b10_0, b10_1])
        | (apply s_169_11; try simp only [mi_87, fl_87_11, mi_97, ml_97, fl_97, up_97, fl_87_12, mi_98, ml_98, fl_98, up_98, true_and, and_true, true_or, or_true, implies_true, b10_0, b10_1])
        | (apply s_169_27; try simp only [mi_87, fl_87_11, mi_97, ml_97, fl_97, up_97, fl_87_12, mi_98, ml_98, fl_98, up_98, true_and, and_true, true_or, or_true, implies_true, b10_0, b10_1])
        | (apply s_169_72; try simp only [mi_87, fl_87_11, mi_97, ml_97, fl_97, up_97, fl_87_12, mi_98, ml_98, fl_98, up_98, true_and, and_true, true_or, or_true, implies_true, b10_0, b10_1])
        | (apply s_169_82; try simp only [mi_87, fl_87_11, mi_97, ml_97, fl_97, up_97, fl_87_12, mi_98, ml_98, fl_98, up_98, true_and, and_true, true_or, or_true, implies_true, b10_0, b10_1])
        | (refine c166 X _ _ _ _ (by omega) ?_)
        | (refine c165 X _ _ _ _ (by omega) ?_)
        | (refine c144 X _ _ _ _ _ _ (by omega) ?_)
        | (refine And.intro ?_ ?_)
        | (intro _)
        | omega
        | (unfold r32; omega)
        | (exact hQ)
        | (exact qe hQ (by omega))
        | (exact qe hQ (by (repeat' split) <;> omega))
        | (exact b01))
/-- many cells of one row get a value -/
def mfl (g : mF) (o a n : Nat) (v : Int) : mF := fun x k => if x = o ∧ a ≤ k ∧ k < a + n then v else g x k
theorem mfl_0 {g : mF} {o a : Nat} {v : Int} : mfl g o a 0 v = g := by
  funext x k
  unfold mfl
  rw [if_neg (by omega)]
theorem mfl_s {g : mF} {o a n : Nat} {v : Int} : mup (mfl g o a n v) o (a + n) v = mfl g o a (n + 1) v := by
  funext x k
  unfold mfl mup
  by_cases h1 : x = o ∧ k = a + n
  · rw [if_pos h1, if_pos (by omega)]
  · rw [if_neg h1]
    show (if x = o ∧ a ≤ k ∧ k < a + n then v else g x k) = (if x = o ∧ a ≤ k ∧ k < a + (n + 1) then v else g x k)
    by_cases h2 : x = o ∧ a ≤ k ∧ k < a + n
    · rw [if_pos h2, if_pos (by omega)]
    · rw [if_neg h2, if_neg (by omega)]
theorem mfl_n {g : mF} {o a n x k : Nat} {v : Int} (h : ¬ (x = o ∧ a ≤ k ∧ k < a + n)) : mfl g o a n v x k = g x k := by unfold mfl; rw [if_neg h]
theorem mfl_e {g : mF} {o a n k : Nat} {v : Int} (h : a ≤ k ∧ k < a + n) : mfl g o a n v o k = v := by unfold mfl; rw [if_pos ⟨rfl, h⟩]
/-- damp -/
theorem T_damp (X : mX) (g : mF) (a b v : Int) (hI : Iair g) : ∃ r g1 g2, Ret X 60 95 [(2, 1), (0, a), (0, b), (0, v), (3, 0)] g (some (0, r)) g1 ∧ Ret X 60 168 [(2, 87), (0, a), (0, b), (0, v), (3, 0)] g1 (some (0, r)) g2 ∧ Iair g2 ∧ Chg (fun o k => o = 7 ∨ o = 95 ∨ o = 11 ∧ k = 3) g g2 ∧ (g2 = g ∨ g2 11 3 = 0) := by
  obtain ⟨h1, h2, h3, h4⟩ := id hI
  by_cases h : ((0 ≤ a ∧ a ≤ 99) ∧ (a ≤ b ∧ b ≤ 99)) ∧ (0 ≤ v ∧ v ≤ 50)
  · obtain ⟨⟨ha, hb⟩, hv⟩ := h
    refine ⟨1, mup (mfl g 7 a.toNat (b - a + 1).toNat v) 11 3 0, mfl (mup (mfl g 7 a.toNat (b - a + 1).toNat v) 11 3 0) 95 a.toNat (b - a + 1).toNat v, ?_, ?_, ?_, ?_, Or.inr ?_⟩
    · intro d Q hd hQ
      apply s_95_0
      try simp only [mi_1, fl_1_2, mi_6, fl_6_1, mi_8, ml_8, fl_8, up_8, fl_1_4, mi_12, fl_12_3, up_12_3, true_and, and_true, true_or, or_true, implies_true, b10_0, b10_1]
      repeat' (first | refine And.intro ?_ ?_ | intro _)
      all_goals (try (first | omega | (unfold r32; omega) | exact hQ | exact qe hQ (by omega) | exact qe hQ (by (repeat' split) <;> omega) | exact b01))
      refine c130 X _ _ _ _ _ _ (by omega) ?_
      apply s_95_7
      try simp only [mi_1, fl_1_2, mi_6, fl_6_1, mi_8, ml_8, fl_8, up_8, fl_1_4, mi_12, fl_12_3, up_12_3, true_and, and_true, true_or, or_true, implies_true, b10_0, b10_1]
      repeat' (first | refine And.intro ?_ ?_ | intro _)
      all_goals (try (first | omega | (unfold r32; omega) | exact hQ | exact qe hQ (by omega) | exact qe hQ (by (repeat' split) <;> omega) | exact b01))
      refine c130 X _ _ _ _ _ _ (by omega) ?_
      apply s_95_17
      try simp only [mi_1, fl_1_2, mi_6, fl_6_1, mi_8, ml_8, fl_8, up_8, fl_1_4, mi_12, fl_12_3, up_12_3, true_and, and_true, true_or, or_true, implies_true, b10_0, b10_1]
      repeat' (first | refine And.intro ?_ ?_ | intro _)
      all_goals (try (first | omega | (unfold r32; omega) | exact hQ | exact qe hQ (by omega) | exact qe hQ (by (repeat' split) <;> omega) | exact b01))
      refine c130 X _ _ _ _ _ _ (by omega) ?_
      apply s_95_27
      try simp only [mi_1, fl_1_2, mi_6, fl_6_1, mi_8, ml_8, fl_8, up_8, fl_1_4, mi_12, fl_12_3, up_12_3, true_and, and_true, true_or, or_true, implies_true, b10_0, b10_1]
      repeat' (first | refine And.intro ?_ ?_ | intro _)
      all_goals (try (first | omega | (unfold r32; omega) | exact hQ | exact qe hQ (by omega) | exact qe hQ (by (repeat' split) <;> omega) | exact b01))
      have key := lup (P := fun i => Wp X d SH 95 37 [(2, 1), (0, a), (0, b), (0, v), (0, a + (i : Int))] [] SH (fl (mfl g 7 a.toNat i v)) Q) (b - a + 1).toNat ?_ ?_ 0 (by omega)
      · rw [mfl_0, show a + ((0 : Nat) : Int) = a by omega] at key
        exact key
      · skip
        apply s_95_37
        try simp only [mi_1, fl_1_2, mi_6, fl_6_1, mi_8, ml_8, fl_8, up_8, fl_1_4, mi_12, fl_12_3, up_12_3, true_and, and_true, true_or, or_true, implies_true, b10_0, b10_1]
        repeat' (first | refine And.intro ?_ ?_ | intro _)
        all_goals (try (first | omega | (unfold r32; omega) | exact hQ | exact qe hQ (by omega) | exact qe hQ (by (repeat' split) <;> omega) | exact b01))
      · intro i hi ih
        have e1 : (a + (i : Int)).toNat = a.toNat + i := by omega
        apply s_95_37
        try simp only [mi_1, fl_1_2, mi_6, fl_6_1, mi_8, ml_8, fl_8, up_8, fl_1_4, mi_12, fl_12_3, up_12_3, e1, mfl_s, true_and, and_true, true_or, or_true, implies_true, b10_0, b10_1]
        repeat' (first | refine And.intro ?_ ?_ | intro _)
        all_goals (try (first | omega | (unfold r32; omega) | exact hQ | exact qe hQ (by omega) | exact qe hQ (by (repeat' split) <;> omega) | exact b01))
        apply s_95_54
        try simp only [mi_1, fl_1_2, mi_6, fl_6_1, mi_8, ml_8, fl_8, up_8, fl_1_4, mi_12, fl_12_3, up_12_3, true_and, and_true, true_or, or_true, implies_true, b10_0, b10_1]
        repeat' (first | refine And.intro ?_ ?_ | intro _)
        all_goals (try (first | omega | (unfold r32; omega) | exact hQ | exact qe hQ (by omega) | exact qe hQ (by (repeat' split) <;> omega) | exact b01))
        rw [show a + ((i + 1 : Nat) : Int) = a + (i : Int) + 1 by omega] at ih
        exact ih
    · intro d Q hd hQ
      generalize mup (mfl g 7 a.toNat (b - a + 1).toNat v) 11 3 0 = g1 at hQ ⊢
      apply s_168_0
      try simp only [mi_87, fl_87_10, mi_96, ml_96, fl_96, up_96, true_and, and_true, true_or, or_true, implies_true, b10_0, b10_1]
      repeat' (first | refine And.intro ?_ ?_ | intro _)
      all_goals (try (first | omega | (unfold r32; omega) | exact hQ | exact qe hQ (by omega) | exact qe hQ (by (repeat' split) <;> omega) | exact b01))
      refine c144 X _ _ _ _ _ _ (by omega) ?_
      apply s_168_9
      try simp only [mi_87, fl_87_10, mi_96, ml_96, fl_96, up_96, true_and, and_true, true_or, or_true, implies_true, b10_0, b10_1]
      repeat' (first | refine And.intro ?_ ?_ | intro _)
      all_goals (try (first | omega | (unfold r32; omega) | exact hQ | exact qe hQ (by omega) | exact qe hQ (by (repeat' split) <;> omega) | exact b01))
      refine c144 X _ _ _ _ _ _ (by omega) ?_
      apply s_168_22
      try simp only [mi_87, fl_87_10, mi_96, ml_96, fl_96, up_96, true_and, and_true, true_or, or_true, implies_true, b10_0, b10_1]
      repeat' (first | refine And.intro ?_ ?_ | intro _)
      all_goals (try (first | omega | (unfold r32; omega) | exact hQ | exact qe hQ (by omega) | exact qe hQ (by (repeat' split) <;> omega) | exact b01))
      refine c144 X _ _ _ _ _ _ (by omega) ?_
      apply s_168_34
      try simp only [mi_87, fl_87_10, mi_96, ml_96, fl_96, up_96, true_and, and_true, true_or, or_true, implies_true, b10_0, b10_1]
      repeat' (first | refine And.intro ?_ ?_ | intro _)
      all_goals (try (first | omega | (unfold r32; omega) | exact hQ | exact qe hQ (by omega) | exact qe hQ (by (repeat' split) <;> omega) | exact b01))
      have key := lup (P := fun i => Wp X d SH 168 44 [(2, 87), (0, a), (0, b), (0, v), (0, a + (i : Int))] [] SH (fl (mfl g1 95 a.toNat i v)) Q) (b - a + 1).toNat ?_ ?_ 0 (by omega)
      · rw [mfl_0, show a + ((0 : Nat) : Int) = a by omega] at key
        exact key
      · skip
        apply s_168_44
        try simp only [mi_87, fl_87_10, mi_96, ml_96, fl_96, up_96, true_and, and_true, true_or, or_true, implies_true, b10_0, b10_1]
        repeat' (first | refine And.intro ?_ ?_ | intro _)
        all_goals (try (first | omega | (unfold r32; omega) | exact hQ | exact qe hQ (by omega) | exact qe hQ (by (repeat' split) <;> omega) | exact b01))
      · intro i hi ih
        have e1 : (a + (i : Int)).toNat = a.toNat + i := by omega
        apply s_168_44
        try simp only [mi_87, fl_87_10, mi_96, ml_96, fl_96, up_96, e1, mfl_s, true_and, and_true, true_or, or_true, implies_true, b10_0, b10_1]
        repeat' (first | refine And.intro ?_ ?_ | intro _)
        all_goals (try (first | omega | (unfold r32; omega) | exact hQ | exact qe hQ (by omega) | exact qe hQ (by (repeat' split) <;> omega) | exact b01))
        apply s_168_58
        try simp only [mi_87, fl_87_10, mi_96, ml_96, fl_96, up_96, true_and, and_true, true_or, or_true, implies_true, b10_0, b10_1]
        repeat' (first | refine And.intro ?_ ?_ | intro _)
        all_goals (try (first | omega | (unfold r32; omega) | exact hQ | exact qe hQ (by omega) | exact qe hQ (by (repeat' split) <;> omega) | exact b01))
        rw [show a + ((i + 1 : Nat) : Int) = a + (i : Int) + 1 by omega] at ih
        exact ih
    · refine ⟨fun q hq => ?_, fun q hq => ?_, ?_, ?_⟩
      · rw [mfl_n (by omega), mup_n (by omega), mfl_n (by omega), mfl_n (by omega), mup_n (by omega), mfl_n (by omega)]
        exact h1 q hq
      · by_cases hq2 : a.toNat ≤ q ∧ q < a.toNat + (b - a + 1).toNat
        · rw [mfl_e hq2, mfl_n (by omega), mup_n (by omega), mfl_e hq2]
          omega
        · rw [mfl_n (by omega), mup_n (by omega), mfl_n (by omega), mfl_n (by omega), mup_n (by omega), mfl_n (by omega)]
          exact h2 q hq
      · rw [mfl_n (by omega), mup_n (by omega), mfl_n (by omega)]
        exact h3
      · rw [mfl_n (by omega), mup_n (by omega), mfl_n (by omega)]
        exact h4
    · intro o k ho
      rw [mfl_n (by omega), mup_n (by omega), mfl_n (by omega)]
    · rw [mfl_n (by omega), mup_e]
  · refine ⟨-1002, g, g, ?_, ?_, hI, Chg_w Chg_r (fun _ _ z => z.elim), Or.inl rfl⟩
    · intro d Q hd hQ
      apply s_95_0
      try simp only [mi_1, fl_1_2, mi_6, fl_6_1, mi_8, ml_8, fl_8, up_8, fl_1_4, mi_12, fl_12_3, up_12_3, true_and, and_true, true_or, or_true, implies_true, b10_0, b10_1]
      repeat' (first | refine And.intro ?_ ?_ | intro _)
      all_goals (try (first | omega | (unfold r32; omega) | exact hQ | exact qe hQ (by omega) | exact qe hQ (by (repeat' split) <;> omega) | exact b01))
      refine c130 X _ _ _ _ _ _ (by omega) ?_
      apply s_95_7
      try simp only [mi_1, fl_1_2, mi_6, fl_6_1, mi_8, ml_8, fl_8, up_8, fl_1_4, mi_12, fl_12_3, up_12_3, true_and, and_true, true_or, or_true, implies_true, b10_0, b10_1]
      repeat' (first | refine And.intro ?_ ?_ | intro _)
      all_goals (try (first | omega | (unfold r32; omega) | exact hQ | exact qe hQ (by omega) | exact qe hQ (by (repeat' split) <;> omega) | exact b01))
      refine c130 X _ _ _ _ _ _ (by omega) ?_
      apply s_95_17
      try simp only [mi_1, fl_1_2, mi_6, fl_6_1, mi_8, ml_8, fl_8, up_8, fl_1_4, mi_12, fl_12_3, up_12_3, true_and, and_true, true_or, or_true, implies_true, b10_0, b10_1]
      repeat' (first | refine And.intro ?_ ?_ | intro _)
      all_goals (try (first | omega | (unfold r32; omega) | exact hQ | exact qe hQ (by omega) | exact qe hQ (by (repeat' split) <;> omega) | exact b01))
      refine c130 X _ _ _ _ _ _ (by omega) ?_
      apply s_95_27
      try simp only [mi_1, fl_1_2, mi_6, fl_6_1, mi_8, ml_8, fl_8, up_8, fl_1_4, mi_12, fl_12_3, up_12_3, true_and, and_true, true_or, or_true, implies_true, b10_0, b10_1]
      repeat' (first | refine And.intro ?_ ?_ | intro _)
      all_goals (try (first | omega | (unfold r32; omega) | exact hQ | exact qe hQ (by omega) | exact qe hQ (by (repeat' split) <;> omega) | exact b01))
    · intro d Q hd hQ
      apply s_168_0
      try simp only [mi_87, fl_87_10, mi_96, ml_96, fl_96, up_96, true_and, and_true, true_or, or_true, implies_true, b10_0, b10_1]
      repeat' (first | refine And.intro ?_ ?_ | intro _)
      all_goals (try (first | omega | (unfold r32; omega) | exact hQ | exact qe hQ (by omega) | exact qe hQ (by (repeat' split) <;> omega) | exact b01))
      refine c144 X _ _ _ _ _ _ (by omega) ?_
      apply s_168_9
      try simp only [mi_87, fl_87_10, mi_96, ml_96, fl_96, up_96, true_and, and_true, true_or, or_true, implies_true, b10_0, b10_1]
      repeat' (first | refine And.intro ?_ ?_ | intro _)
      all_goals (try (first | omega | (unfold r32; omega) | exact hQ | exact qe hQ (by omega) | exact qe hQ (by (repeat' split) <;> omega) | exact b01))
      refine c144 X _ _ _ _ _ _ (by omega) ?_
      apply s_168_22
      try simp only [mi_87, fl_87_10, mi_96, ml_96, fl_96, up_96, true_and, and_true, true_or, or_true, implies_true, b10_0, b10_1]
      repeat' (first | refine And.intro ?_ ?_ | intro _)
      all_goals (try (first | omega | (unfold r32; omega) | exact hQ | exact qe hQ (by omega) | exact qe hQ (by (repeat' split) <;> omega) | exact b01))
      refine c144 X _ _ _ _ _ _ (by omega) ?_
      apply s_168_34
      try simp only [mi_87, fl_87_10, mi_96, ml_96, fl_96, up_96, true_and, and_true, true_or, or_true, implies_true, b10_0, b10_1]
      repeat' (first | refine And.intro ?_ ?_ | intro _)
      all_goals (try (first | omega | (unfold r32; omega) | exact hQ | exact qe hQ (by omega) | exact qe hQ (by (repeat' split) <;> omega) | exact b01))
