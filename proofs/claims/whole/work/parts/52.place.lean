/-! the square's place in a path -/
theorem mul_b {w h : Int} (hw : 1 ≤ w ∧ w ≤ 6) (hh : 1 ≤ h ∧ h ≤ 6) : 1 ≤ w * h ∧ w * h ≤ 36 := by
  have : w = 1 ∨ w = 2 ∨ w = 3 ∨ w = 4 ∨ w = 5 ∨ w = 6 := by omega
  rcases this with z | z | z | z | z | z <;> subst z <;> omega
theorem c60 (X : mX) (g : mF) {s : Nat} (hs : s < 6) (i : Int) (hI : Ipath g s) : Ret X 0 60 [(2, 57 + 5 * (s : Int)), (0, i)] g (some (0, if 0 ≤ i ∧ i < g (56 + 5 * s) 0 * g (56 + 5 * s) 1 then 1 else 0)) g := by
  intro d Q hd hQ
  have hb := mul_b hI.1.2 hI.2.1.2
  apply s_60_0
  try simp only [sm_o, sl_0, su_0, sl_1, su_1, hs, true_and, and_true, true_or, or_true, implies_true, b10_0, b10_1]
  repeat' (first | refine And.intro ?_ ?_ | intro _)
  all_goals (try (first | omega | (unfold r32; omega) | exact hQ | exact qe hQ (by omega) | exact qe hQ (by (repeat' split) <;> omega) | exact b01))
theorem c151 (X : mX) (g : mF) {s q : Nat} (hs : s < 6) (hq : q < 36) (hP : Ipath g s) (h4 : g (58 + 5 * s) q = -1 ∨ ∃ i : Nat, (i : Int) < g (56 + 5 * s) 2 ∧ g (58 + 5 * s) q = (i : Int) ∧ g (57 + 5 * s) i = (q : Int)) (h5 : ∀ i : Nat, (i : Int) < g (56 + 5 * s) 2 → g (58 + 5 * s) (g (57 + 5 * s) i).toNat = (i : Int)) : Ret X 0 151 [(2, 87), (0, (s : Int)), (0, (q : Int)), (3, 0)] g (some (0, g (58 + 5 * s) q)) g := by
  intro d Q hd hQ
  obtain ⟨-, -, ⟨p3, p4, p5⟩, p6⟩ := hP
  have e : ((s : Int)).toNat = s := by omega
  have hat : ∀ k : Nat, (k : Int) < g (56 + 5 * s) 2 → g 90 (36 * s + k) = (q : Int) → g (58 + 5 * s) q = (k : Int) := by
    intro k hk hc
    have a := h5 k hk
    rw [← (p6 k hk).1, hc, show ((q : Int)).toNat = q by omega] at a
    exact a
  have step : ∀ k : Nat, (k : Int) < g (56 + 5 * s) 2 → g (58 + 5 * s) q ≠ (k : Int) → Wp X d SH 151 2 [(2, 87), (0, (s : Int)), (0, (q : Int)), (0, ((k + 1 : Nat) : Int))] [] SH (fl g) Q → Wp X d SH 151 2 [(2, 87), (0, (s : Int)), (0, (q : Int)), (0, (k : Int))] [] SH (fl g) Q := by
    intro k hk hn ih
    have e2 : (36 * (s : Int) + (k : Int)).toNat = 36 * s + k := by omega
    have hc : g 90 (36 * s + k) ≠ (q : Int) := fun z => hn (hat k hk z)
    rw [show ((k + 1 : Nat) : Int) = (k : Int) + 1 by omega] at ih
    apply s_151_2
    try simp only [mi_87, fl_87_4, mi_92, ml_92, fl_92, up_92, fl_87_3, mi_91, ml_91, fl_91, up_91, e, p3, e2, true_and, and_true, true_or, or_true, implies_true, b10_0, b10_1]
    repeat' (first | refine And.intro ?_ ?_ | intro _)
    all_goals (try (first | omega | (unfold r32; omega) | exact hQ | exact qe hQ (by omega) | exact qe hQ (by (repeat' split) <;> omega) | exact b01))
    all_goals (try exact ih)
  rcases h4 with hp | ⟨i, hi1, hi2, hi3⟩
  · rw [hp] at hQ
    have key := lup (P := fun k => Wp X d SH 151 2 [(2, 87), (0, (s : Int)), (0, (q : Int)), (0, (k : Int))] [] SH (fl g) Q) (g (56 + 5 * s) 2).toNat ?_ (fun k hk ih => step k (by omega) (by omega) ih) 0 (by omega)
    · apply s_151_0
      exact key
    · skip
      apply s_151_2
      try simp only [mi_87, fl_87_4, mi_92, ml_92, fl_92, up_92, fl_87_3, mi_91, ml_91, fl_91, up_91, e, p3, true_and, and_true, true_or, or_true, implies_true, b10_0, b10_1]
      repeat' (first | refine And.intro ?_ ?_ | intro _)
      all_goals (try (first | omega | (unfold r32; omega) | exact hQ | exact qe hQ (by omega) | exact qe hQ (by (repeat' split) <;> omega) | exact b01))
  · rw [hi2] at hQ
    have key := lup (P := fun k => Wp X d SH 151 2 [(2, 87), (0, (s : Int)), (0, (q : Int)), (0, (k : Int))] [] SH (fl g) Q) i ?_ (fun k hk ih => step k (by omega) (by omega) ih) 0 (by omega)
    · apply s_151_0
      exact key
    · have e2 : (36 * (s : Int) + (i : Int)).toNat = 36 * s + i := by omega
      have e3 : g 90 (36 * s + i) = (q : Int) := by rw [(p6 i hi1).1, hi3]
      apply s_151_2
      try simp only [mi_87, fl_87_4, mi_92, ml_92, fl_92, up_92, fl_87_3, mi_91, ml_91, fl_91, up_91, e, p3, e2, e3, true_and, and_true, true_or, or_true, implies_true, b10_0, b10_1]
      repeat' (first | refine And.intro ?_ ?_ | intro _)
      all_goals (try (first | omega | (unfold r32; omega) | exact hQ | exact qe hQ (by omega) | exact qe hQ (by (repeat' split) <;> omega) | exact b01))
