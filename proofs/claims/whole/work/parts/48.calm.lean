/-! calm -/
def hcl (g : mF) (n : Nat) : mF := fun o k => if k = 2 ∧ 19 ≤ o ∧ o < 19 + 6 * n ∧ (o - 19) % 6 = 0 then -1 else g o k
theorem hcl_0 {g : mF} : hcl g 0 = g := by
  funext o k
  unfold hcl
  rw [if_neg (by omega)]
theorem hcl_s {g : mF} {n : Nat} : mup (hcl g n) (19 + 6 * n) 2 (-1) = hcl g (n + 1) := by
  funext o k
  unfold hcl mup
  by_cases h1 : o = 19 + 6 * n ∧ k = 2
  · rw [if_pos h1, if_pos (by omega)]
  · rw [if_neg h1]
    show (if k = 2 ∧ 19 ≤ o ∧ o < 19 + 6 * n ∧ (o - 19) % 6 = 0 then (-1 : Int) else g o k) = (if k = 2 ∧ 19 ≤ o ∧ o < 19 + 6 * (n + 1) ∧ (o - 19) % 6 = 0 then (-1 : Int) else g o k)
    by_cases h2 : k = 2 ∧ 19 ≤ o ∧ o < 19 + 6 * n ∧ (o - 19) % 6 = 0
    · rw [if_pos h2, if_pos (by omega)]
    · rw [if_neg h2, if_neg (by omega)]
theorem hcl_n {g : mF} {n o k : Nat} (h : ¬ (k = 2 ∧ 19 ≤ o ∧ o < 19 + 6 * n ∧ (o - 19) % 6 = 0)) : hcl g n o k = g o k := by unfold hcl; rw [if_neg h]
theorem hcl_e {g : mF} {n c : Nat} (h : c < n) : hcl g n (19 + 6 * c) 2 = -1 := by unfold hcl; rw [if_pos (by omega)]
theorem c37 (X : mX) (g : mF) : Ret X 0 37 [(2, 12), (3, 0)] g none (mup (mup (mup (hcl g 4) 11 1 0) 11 2 0) 11 3 0) := by
  intro d Q hd hQ
  apply s_37_0
  try simp only [mi_12, fl_12_0, mi_13, ml_13, fl_13, cm_o, cl_2, cu_2, fl_12_1, up_12_1, fl_12_2, up_12_2, fl_12_3, up_12_3, true_and, and_true, true_or, or_true, implies_true, b10_0, b10_1]
  repeat' (first | refine And.intro ?_ ?_ | intro _)
  all_goals (try (first | omega | (unfold r32; omega) | exact hQ | exact qe hQ (by omega) | exact qe hQ (by (repeat' split) <;> omega) | exact b01))
  have key := lup (P := fun i => Wp X d SH 37 2 [(2, 12), (0, (i : Int))] [] SH (fl (hcl g i)) Q) 4 ?_ ?_ 0 (by omega)
  · rw [hcl_0] at key
    exact key
  · skip
    apply s_37_2
    try simp only [mi_12, fl_12_0, mi_13, ml_13, fl_13, cm_o, cl_2, cu_2, fl_12_1, up_12_1, fl_12_2, up_12_2, fl_12_3, up_12_3, true_and, and_true, true_or, or_true, implies_true, b10_0, b10_1]
    repeat' (first | refine And.intro ?_ ?_ | intro _)
    all_goals (try (first | omega | (unfold r32; omega) | exact hQ | exact qe hQ (by omega) | exact qe hQ (by (repeat' split) <;> omega) | exact b01))
    apply s_37_28
    try simp only [mi_12, fl_12_0, mi_13, ml_13, fl_13, cm_o, cl_2, cu_2, fl_12_1, up_12_1, fl_12_2, up_12_2, fl_12_3, up_12_3, true_and, and_true, true_or, or_true, implies_true, b10_0, b10_1]
    repeat' (first | refine And.intro ?_ ?_ | intro _)
    all_goals (try (first | omega | (unfold r32; omega) | exact hQ | exact qe hQ (by omega) | exact qe hQ (by (repeat' split) <;> omega) | exact b01))
    apply s_37_33
    try simp only [mi_12, fl_12_0, mi_13, ml_13, fl_13, cm_o, cl_2, cu_2, fl_12_1, up_12_1, fl_12_2, up_12_2, fl_12_3, up_12_3, true_and, and_true, true_or, or_true, implies_true, b10_0, b10_1]
    repeat' (first | refine And.intro ?_ ?_ | intro _)
    all_goals (try (first | omega | (unfold r32; omega) | exact hQ | exact qe hQ (by omega) | exact qe hQ (by (repeat' split) <;> omega) | exact b01))
  · intro i hi ih
    have e : ((i : Int)).toNat = i := by omega
    have e2 : ((i + 1 : Nat) : Int) = (i : Int) + 1 := by omega
    rw [e2] at ih
    apply s_37_2
    try simp only [mi_12, fl_12_0, mi_13, ml_13, fl_13, cm_o, cl_2, cu_2, fl_12_1, up_12_1, fl_12_2, up_12_2, fl_12_3, up_12_3, e, hi, hcl_s, true_and, and_true, true_or, or_true, implies_true, b10_0, b10_1]
    repeat' (first | refine And.intro ?_ ?_ | intro _)
    all_goals (try (first | omega | (unfold r32; omega) | exact hQ | exact qe hQ (by omega) | exact qe hQ (by (repeat' split) <;> omega) | exact b01))
    apply s_37_17
    try simp only [mi_12, fl_12_0, mi_13, ml_13, fl_13, cm_o, cl_2, cu_2, fl_12_1, up_12_1, fl_12_2, up_12_2, fl_12_3, up_12_3, true_and, and_true, true_or, or_true, implies_true, b10_0, b10_1]
    repeat' (first | refine And.intro ?_ ?_ | intro _)
    all_goals (try (first | omega | (unfold r32; omega) | exact hQ | exact qe hQ (by omega) | exact qe hQ (by (repeat' split) <;> omega) | exact b01))
theorem c197 (X : mX) (g : mF) (h : 0 ≤ g 86 20 ∧ g 86 20 ≤ 12 ∧ 0 ≤ g 86 22 ∧ g 86 22 ≤ 12) : Ret X 0 197 [(2, 87), (3, 0), (3, 0)] g (some (0, g 86 20 + g 86 22)) (mfl (mup (mup g 86 20 0) 86 22 0) 103 0 4 (-1)) := by
  intro d Q hd hQ
  apply s_197_0
  try simp only [mi_87, fl_87_20, up_87_20, fl_87_22, up_87_22, fl_87_18, mi_104, ml_104, fl_104, up_104, true_and, and_true, true_or, or_true, implies_true, b10_0, b10_1]
  repeat' (first | refine And.intro ?_ ?_ | intro _)
  all_goals (try (first | omega | (unfold r32; omega) | exact hQ | exact qe hQ (by omega) | exact qe hQ (by (repeat' split) <;> omega) | exact b01))
  apply s_197_15
  try simp only [mi_87, fl_87_20, up_87_20, fl_87_22, up_87_22, fl_87_18, mi_104, ml_104, fl_104, up_104, true_and, and_true, true_or, or_true, implies_true, b10_0, b10_1]
  repeat' (first | refine And.intro ?_ ?_ | intro _)
  all_goals (try (first | omega | (unfold r32; omega) | exact hQ | exact qe hQ (by omega) | exact qe hQ (by (repeat' split) <;> omega) | exact b01))
  apply s_197_20
  have key := lup (P := fun i => Wp X d SH 197 22 [(2, 87), (0, g 86 20 + g 86 22), (0, (i : Int))] [] SH (fl (mfl (mup (mup g 86 20 0) 86 22 0) 103 0 i (-1))) Q) 4 ?_ ?_ 0 (by omega)
  · rw [mfl_0] at key
    exact key
  · skip
    apply s_197_22
    try simp only [mi_87, fl_87_20, up_87_20, fl_87_22, up_87_22, fl_87_18, mi_104, ml_104, fl_104, up_104, true_and, and_true, true_or, or_true, implies_true, b10_0, b10_1]
    repeat' (first | refine And.intro ?_ ?_ | intro _)
    all_goals (try (first | omega | (unfold r32; omega) | exact hQ | exact qe hQ (by omega) | exact qe hQ (by (repeat' split) <;> omega) | exact b01))
  · intro i hi ih
    have e : ((i : Int)).toNat = 0 + i := by omega
    have e2 : ((i + 1 : Nat) : Int) = (i : Int) + 1 := by omega
    rw [e2] at ih
    apply s_197_22
    try simp only [mi_87, fl_87_20, up_87_20, fl_87_22, up_87_22, fl_87_18, mi_104, ml_104, fl_104, up_104, e, mfl_s, true_and, and_true, true_or, or_true, implies_true, b10_0, b10_1]
    repeat' (first | refine And.intro ?_ ?_ | intro _)
    all_goals (try (first | omega | (unfold r32; omega) | exact hQ | exact qe hQ (by omega) | exact qe hQ (by (repeat' split) <;> omega) | exact b01))
    apply s_197_34
    try simp only [mi_87, fl_87_20, up_87_20, fl_87_22, up_87_22, fl_87_18, mi_104, ml_104, fl_104, up_104, true_and, and_true, true_or, or_true, implies_true, b10_0, b10_1]
    repeat' (first | refine And.intro ?_ ?_ | intro _)
    all_goals (try (first | omega | (unfold r32; omega) | exact hQ | exact qe hQ (by omega) | exact qe hQ (by (repeat' split) <;> omega) | exact b01))
/-- how many links and agains there are -/
def Icnt (g : mF) : Prop := (g 86 20 = g 11 1 ∧ 0 ≤ g 11 1 ∧ g 11 1 ≤ 12) ∧ (g 86 22 = g 11 2 ∧ 0 ≤ g 11 2 ∧ g 11 2 ≤ 12)
theorem T_calm (X : mX) (g : mF) (hI : ∀ c, c < 4 → Iclk g c) (hC : Icnt g) : ∃ r g1 g2, Ret X 60 110 [(2, 1), (3, 0)] g (some (0, r)) g1 ∧ Ret X 60 197 [(2, 87), (3, 0), (3, 0)] g1 (some (0, r)) g2 ∧ (∀ c, c < 4 → Iclk g2 c) ∧ Icnt g2 ∧ g2 11 1 = 0 ∧ g2 11 2 = 0 ∧ g2 11 3 = 0 ∧ Chg (fun o k => o = 11 ∧ (k = 1 ∨ k = 2 ∨ k = 3) ∨ o = 103 ∨ o = 86 ∧ (k = 20 ∨ k = 22) ∨ (o = 19 ∨ o = 25 ∨ o = 31 ∨ o = 37) ∧ k = 2) g g2 := by
  obtain ⟨⟨n1, n2, n3⟩, ⟨n4, n5, n6⟩⟩ := hC
  generalize hg1 : mup (mup (mup (hcl g 4) 11 1 0) 11 2 0) 11 3 0 = g1
  have fo1 : ∀ o k, ¬ (o = 11 ∧ (k = 1 ∨ k = 2 ∨ k = 3) ∨ (o = 19 ∨ o = 25 ∨ o = 31 ∨ o = 37) ∧ k = 2) → g1 o k = g o k := by
    intro o k ho
    rw [← hg1, mup_n (by omega), mup_n (by omega), mup_n (by omega), hcl_n (by omega)]
  have q1 : g1 11 1 = 0 := by rw [← hg1, mup_n (by omega), mup_n (by omega), mup_e]
  have q2 : g1 11 2 = 0 := by rw [← hg1, mup_n (by omega), mup_e]
  have q3 : g1 11 3 = 0 := by rw [← hg1, mup_e]
  have q4 : ∀ c, c < 4 → g1 (19 + 6 * c) 2 = -1 := by
    intro c hc
    rw [← hg1, mup_n (by omega), mup_n (by omega), mup_n (by omega), hcl_e hc]
  generalize hg2 : mfl (mup (mup g1 86 20 0) 86 22 0) 103 0 4 (-1) = g2
  have fo2 : ∀ o k, ¬ (o = 86 ∧ (k = 20 ∨ k = 22) ∨ o = 103) → g2 o k = g1 o k := by
    intro o k ho
    rw [← hg2, mfl_n (by omega), mup_n (by omega), mup_n (by omega)]
  have p1 : g2 86 20 = 0 := by rw [← hg2, mfl_n (by omega), mup_n (by omega), mup_e]
  have p2 : g2 86 22 = 0 := by rw [← hg2, mfl_n (by omega), mup_e]
  have p3 : ∀ c, c < 4 → g2 103 c = -1 := by
    intro c hc
    rw [← hg2, mfl_e (by omega)]
  have fo : ∀ o k, ¬ (o = 11 ∧ (k = 1 ∨ k = 2 ∨ k = 3) ∨ o = 103 ∨ o = 86 ∧ (k = 20 ∨ k = 22) ∨ (o = 19 ∨ o = 25 ∨ o = 31 ∨ o = 37) ∧ k = 2) → g2 o k = g o k := by
    intro o k ho
    rw [fo2 o k (by omega), fo1 o k (by omega)]
  refine ⟨g 11 1 + g 11 2, g1, g2, ?_, ?_, ?_, ?_, ?_, ?_, ?_, fun o k ho => fo o k (by omega)⟩
  · intro d Q hd hQ
    have c := c37 X g
    rw [hg1] at c
    repeat' (first
      | (exfalso; omega)
      | (exact absurd trivial (by assumption))
      | (apply s_110_0; try simp only [mi_1, fl_1_4, mi_12, fl_12_1, up_12_1, fl_12_2, up_12_2, true_and, and_true, true_or, or_true, implies_true, b10_0, b10_1])
      | (apply s_110_23; try simp only [mi_1, fl_1_4, mi_12, fl_12_1, up_12_1, fl_12_2, up_12_2, true_and, and_true, true_or, or_true, implies_true, b10_0, b10_1])
      | (refine c _ _ (by omega) ?_)
      | (refine And.intro ?_ ?_)
      | (intro _)
      | omega
      | (unfold r32; omega)
      | (exact hQ)
      | (exact qe hQ (by omega))
      | (exact qe hQ (by (repeat' split) <;> omega))
      | (exact b01))
  · have c := c197 X g1 (by rw [fo1 86 20 (by omega), fo1 86 22 (by omega)]; omega)
    rw [hg2, fo1 86 20 (by omega), fo1 86 22 (by omega), n1, n4] at c
    exact c.le (by omega)
  · intro c hc
    obtain ⟨k1, k2, k3, k4, k5, k6, k7, k8, k9, k10, k11, k12⟩ := hI c hc
    unfold Iclk
    rw [fo 99 c (by omega), fo (19 + 6 * c) 0 (by omega), p3 c hc, fo2 (19 + 6 * c) 2 (by omega), q4 c hc, fo 104 c (by omega), fo (19 + 6 * c) 3 (by omega)]
    refine ⟨k1, k2, k3, fun j hj => ?_, fun j hj => ?_, fun j hj hl => ?_, rfl, by omega, by omega, k10, k11, k12⟩
    · rw [fo 102 _ (by omega), fo (20 + 6 * c) _ (by omega)]
      exact k4 j hj
    · rw [fo (20 + 6 * c) _ (by omega)]
      exact k5 j hj
    · rw [fo (20 + 6 * c) _ (by omega)]
      exact k6 j hj hl
  · unfold Icnt
    rw [p1, p2, fo2 11 1 (by omega), fo2 11 2 (by omega), q1, q2]
    omega
  · rw [fo2 11 1 (by omega), q1]
  · rw [fo2 11 2 (by omega), q2]
  · rw [fo2 11 3 (by omega), q3]
