/-! small methods -/
theorem qe {Q : mQ} {a b : Int} {F : mF} (h : Q (some (0, a)) F) (e : b = a) : Q (some (0, b)) F := by rw [e]; exact h
theorem b01 {c : Prop} [Decidable c] : (if c then (1 : Int) else 0) = 0 ∨ (if c then (1 : Int) else 0) = 1 := by by_cases h : c <;> simp [h]
theorem c130 (X : mX) (g : mF) (v lo hi : Int) : Ret X 0 130 [(0, v), (0, lo), (0, hi)] g (some (0, if lo ≤ v ∧ v ≤ hi then 1 else 0)) g := by
  intro d Q hd hQ
  apply s_130_0
  try simp only [true_and, and_true, true_or, or_true, implies_true, b10_0, b10_1]
  repeat' (first | refine And.intro ?_ ?_ | intro _)
  all_goals (try (first | omega | (unfold r32; omega) | exact hQ | exact qe hQ (by omega) | exact qe hQ (by (repeat' split) <;> omega) | exact b01))
theorem c131 (X : mX) (g : mF) (v : Int) : Ret X 1 131 [(0, v)] g (some (0, if 0 ≤ v ∧ v ≤ 7 then 1 else 0)) g := by
  intro d Q hd hQ
  apply s_131_0
  try simp only [mi_1, true_and, and_true, true_or, or_true, implies_true, b10_0, b10_1]
  repeat' (first | refine And.intro ?_ ?_ | intro _)
  all_goals (try (first | omega | (unfold r32; omega) | exact hQ | exact qe hQ (by omega) | exact qe hQ (by (repeat' split) <;> omega) | exact b01))
  refine c130 X g _ _ _ _ _ (by omega) ?_
  apply s_131_7
  try simp only [mi_1, true_and, and_true, true_or, or_true, implies_true, b10_0, b10_1]
  repeat' (first | refine And.intro ?_ ?_ | intro _)
  all_goals (try (first | omega | (unfold r32; omega) | exact hQ | exact qe hQ (by omega) | exact qe hQ (by (repeat' split) <;> omega) | exact b01))
theorem c132 (X : mX) (g : mF) (v : Int) : Ret X 1 132 [(0, v)] g (some (0, if 0 ≤ v ∧ v ≤ 3 then 1 else 0)) g := by
  intro d Q hd hQ
  apply s_132_0
  try simp only [mi_1, true_and, and_true, true_or, or_true, implies_true, b10_0, b10_1]
  repeat' (first | refine And.intro ?_ ?_ | intro _)
  all_goals (try (first | omega | (unfold r32; omega) | exact hQ | exact qe hQ (by omega) | exact qe hQ (by (repeat' split) <;> omega) | exact b01))
  refine c130 X g _ _ _ _ _ (by omega) ?_
  apply s_132_6
  try simp only [mi_1, true_and, and_true, true_or, or_true, implies_true, b10_0, b10_1]
  repeat' (first | refine And.intro ?_ ?_ | intro _)
  all_goals (try (first | omega | (unfold r32; omega) | exact hQ | exact qe hQ (by omega) | exact qe hQ (by (repeat' split) <;> omega) | exact b01))
theorem c133 (X : mX) (g : mF) (v : Int) : Ret X 1 133 [(0, v)] g (some (0, if 0 ≤ v ∧ v ≤ 5999 then 1 else 0)) g := by
  intro d Q hd hQ
  apply s_133_0
  try simp only [mi_1, true_and, and_true, true_or, or_true, implies_true, b10_0, b10_1]
  repeat' (first | refine And.intro ?_ ?_ | intro _)
  all_goals (try (first | omega | (unfold r32; omega) | exact hQ | exact qe hQ (by omega) | exact qe hQ (by (repeat' split) <;> omega) | exact b01))
  refine c130 X g _ _ _ _ _ (by omega) ?_
  apply s_133_8
  try simp only [mi_1, true_and, and_true, true_or, or_true, implies_true, b10_0, b10_1]
  repeat' (first | refine And.intro ?_ ?_ | intro _)
  all_goals (try (first | omega | (unfold r32; omega) | exact hQ | exact qe hQ (by omega) | exact qe hQ (by (repeat' split) <;> omega) | exact b01))
theorem c145 (X : mX) (g : mF) (v : Int) (h : -1000000 ≤ v ∧ v ≤ 1000000) : Ret X 0 145 [(0, v)] g (some (0, if v < 0 then -v else v)) g := by
  intro d Q hd hQ
  apply s_145_0
  try simp only [true_and, and_true, true_or, or_true, implies_true, b10_0, b10_1]
  repeat' (first | refine And.intro ?_ ?_ | intro _)
  all_goals (try (first | omega | (unfold r32; omega) | exact hQ | exact qe hQ (by omega) | exact qe hQ (by (repeat' split) <;> omega) | exact b01))
theorem c146 (X : mX) (g : mF) (a b : Int) : Ret X 0 146 [(0, a), (0, b)] g (some (0, if a < b then a else b)) g := by
  intro d Q hd hQ
  apply s_146_0
  try simp only [true_and, and_true, true_or, or_true, implies_true, b10_0, b10_1]
  repeat' (first | refine And.intro ?_ ?_ | intro _)
  all_goals (try (first | omega | (unfold r32; omega) | exact hQ | exact qe hQ (by omega) | exact qe hQ (by (repeat' split) <;> omega) | exact b01))
theorem c144 (X : mX) (g : mF) (v lo hi : Int) : Ret X 0 144 [(1, v), (3, 0), (1, lo), (3, 0), (1, hi), (3, 0)] g (some (0, if lo ≤ v ∧ v ≤ hi then 1 else 0)) g := by
  intro d Q hd hQ
  apply s_144_0
  try simp only [true_and, and_true, true_or, or_true, implies_true, b10_0, b10_1]
  repeat' (first | refine And.intro ?_ ?_ | intro _)
  all_goals (try (first | omega | (unfold r32; omega) | exact hQ | exact qe hQ (by omega) | exact qe hQ (by (repeat' split) <;> omega) | exact b01))
theorem tdn {a : Int} (h : 0 ≤ a) (n : Int) : Int.tdiv a n = a / n := Int.tdiv_eq_ediv_of_nonneg h
theorem tmn {a : Int} (h : 0 ≤ a) (n : Int) : Int.tmod a n = a % n := Int.tmod_eq_emod_of_nonneg h
/-! watches -/
def bg (N k : Int) : Int := if k ≤ 6 then k * N else 6 * N + (k - 6) * (120 - N)
def wdn (N r : Int) : Nat → Int
  | 0 => 0
  | j + 1 => if bg N ((j : Int) + 1) ≤ r then (j : Int) + 1 else wdn N r j
theorem wdn_le (N r : Int) : ∀ j, 0 ≤ wdn N r j ∧ wdn N r j ≤ j := by
  intro j
  induction j with
  | zero => simp [wdn]
  | succ j ih => unfold wdn; split <;> omega
theorem bg_r {N k : Int} (hN : 30 ≤ N ∧ N ≤ 90) (hk : 0 ≤ k ∧ k ≤ 12) : 0 ≤ bg N k ∧ bg N k ≤ 720 := by
  have : k = 0 ∨ k = 1 ∨ k = 2 ∨ k = 3 ∨ k = 4 ∨ k = 5 ∨ k = 6 ∨ k = 7 ∨ k = 8 ∨ k = 9 ∨ k = 10 ∨ k = 11 ∨ k = 12 := by omega
  rcases this with h | h | h | h | h | h | h | h | h | h | h | h | h <;> subst h <;> simp only [bg] <;> split <;> omega
theorem c141 (X : mX) (g : mF) (k : Int) (hN : 30 ≤ g 0 10 ∧ g 0 10 ≤ 90) (hk : 0 ≤ k ∧ k ≤ 12) : Ret X 0 141 [(2, 1), (0, k)] g (some (0, bg (g 0 10) k)) g := by
  intro d Q hd hQ
  have : k = 0 ∨ k = 1 ∨ k = 2 ∨ k = 3 ∨ k = 4 ∨ k = 5 ∨ k = 6 ∨ k = 7 ∨ k = 8 ∨ k = 9 ∨ k = 10 ∨ k = 11 ∨ k = 12 := by omega
  unfold bg at hQ
  rcases this with h | h | h | h | h | h | h | h | h | h | h | h | h <;> subst h
  all_goals
    apply s_141_0
    try simp only [mi_1, fl_1_10, up_1_10, true_and, and_true, true_or, or_true, implies_true, b10_0, b10_1]
    repeat' (first | refine And.intro ?_ ?_ | intro _)
    all_goals (try (first | omega | (unfold r32; omega) | exact hQ | exact qe hQ (by omega) | exact qe hQ (by (repeat' split) <;> omega) | exact b01))
theorem c142 (X : mX) (g : mF) (t : Int) (hN : 30 ≤ g 0 10 ∧ g 0 10 ≤ 90) (ht : 0 ≤ t ∧ t ≤ 20000) : Ret X 1 142 [(2, 1), (0, t), (3, 0), (3, 0), (3, 0)] g (some (0, wdn (g 0 10) (t % 720) 11)) g := by
  intro d Q hd hQ
  apply s_142_0
  try simp only [mi_1, tdn ht.1, tmn ht.1, true_and, and_true, true_or, or_true, implies_true, b10_0, b10_1]
  repeat' (first | refine And.intro ?_ ?_ | intro _)
  all_goals (try (first | omega | (unfold r32; omega) | exact hQ | exact qe hQ (by omega) | exact qe hQ (by (repeat' split) <;> omega) | exact b01))
  apply s_142_6
  refine lup (P := fun i => Wp X d SH 142 11 [(2, 1), (0, t), (0, t % 720), (0, wdn (g 0 10) (t % 720) i), (0, (i : Int) + 1)] [] SH (fl g) Q) 11 ?_ ?_ 0 (by omega)
  · skip
    apply s_142_11
    try simp only [mi_1, true_and, and_true, true_or, or_true, implies_true, b10_0, b10_1]
    repeat' (first | refine And.intro ?_ ?_ | intro _)
    all_goals (try (first | omega | (unfold r32; omega) | exact hQ | exact qe hQ (by omega) | exact qe hQ (by (repeat' split) <;> omega) | exact b01))
  · intro i hi ih
    apply s_142_11
    try simp only [mi_1, true_and, and_true, true_or, or_true, implies_true, b10_0, b10_1]
    repeat' (first | refine And.intro ?_ ?_ | intro _)
    all_goals (try (first | omega | (unfold r32; omega) | exact hQ | exact qe hQ (by omega) | exact qe hQ (by (repeat' split) <;> omega) | exact b01))
    refine c141 X g _ hN (by omega) _ _ (by omega) ?_
    have e : ((i + 1 : Nat) : Int) = (i : Int) + 1 := by omega
    simp only [e] at ih
    unfold wdn at ih
    apply s_142_24
    try simp only [mi_1, true_and, and_true, true_or, or_true, implies_true, b10_0, b10_1]
    repeat' (first | refine And.intro ?_ ?_ | intro _)
    all_goals (try (first | omega | (unfold r32; omega) | exact hQ | exact qe hQ (by omega) | exact qe hQ (by (repeat' split) <;> omega) | exact b01))
    · skip
      apply s_142_31
      try simp only [mi_1, true_and, and_true, true_or, or_true, implies_true, b10_0, b10_1]
      repeat' (first | refine And.intro ?_ ?_ | intro _)
      all_goals (try (first | omega | (unfold r32; omega) | exact hQ | exact qe hQ (by omega) | exact qe hQ (by (repeat' split) <;> omega) | exact b01))
      rw [if_neg (by omega)] at ih
      exact ih
    · skip
      apply s_142_31
      try simp only [mi_1, true_and, and_true, true_or, or_true, implies_true, b10_0, b10_1]
      repeat' (first | refine And.intro ?_ ?_ | intro _)
      all_goals (try (first | omega | (unfold r32; omega) | exact hQ | exact qe hQ (by omega) | exact qe hQ (by (repeat' split) <;> omega) | exact b01))
      rw [if_pos (by omega)] at ih
      exact ih
theorem c214 (X : mX) (g : mF) (k : Int) (hN : 30 ≤ g 86 42 ∧ g 86 42 ≤ 90) (hk : 0 ≤ k ∧ k ≤ 12) : Ret X 0 214 [(2, 87), (0, k)] g (some (0, bg (g 86 42) k)) g := by
  intro d Q hd hQ
  have : k = 0 ∨ k = 1 ∨ k = 2 ∨ k = 3 ∨ k = 4 ∨ k = 5 ∨ k = 6 ∨ k = 7 ∨ k = 8 ∨ k = 9 ∨ k = 10 ∨ k = 11 ∨ k = 12 := by omega
  unfold bg at hQ
  rcases this with h | h | h | h | h | h | h | h | h | h | h | h | h <;> subst h
  all_goals
    apply s_214_0
    try simp only [mi_87, fl_87_42, up_87_42, true_and, and_true, true_or, or_true, implies_true, b10_0, b10_1]
    repeat' (first | refine And.intro ?_ ?_ | intro _)
    all_goals (try (first | omega | (unfold r32; omega) | exact hQ | exact qe hQ (by omega) | exact qe hQ (by (repeat' split) <;> omega) | exact b01))
theorem c215 (X : mX) (g : mF) (t : Int) (hN : 30 ≤ g 86 42 ∧ g 86 42 ≤ 90) (ht : 0 ≤ t ∧ t ≤ 20000) : Ret X 1 215 [(2, 87), (0, t), (3, 0)] g (some (0, wdn (g 86 42) (t % 720) 11)) g := by
  intro d Q hd hQ
  have key : ∀ j : Nat, j ≤ 11 → Q (some (0, wdn (g 86 42) (t % 720) j)) (fl g) → Wp X d SH 215 3 [(2, 87), (0, t), (0, (j : Int))] [] SH (fl g) Q := by
    intro j
    induction j with
    | zero =>
      intro hj hQ
      apply s_215_3
      try simp only [mi_87, true_and, and_true, true_or, or_true, implies_true, b10_0, b10_1]
      repeat' (first | refine And.intro ?_ ?_ | intro _)
      all_goals (try (first | omega | (unfold r32; omega) | exact hQ | exact qe hQ (by omega) | exact qe hQ (by (repeat' split) <;> omega) | exact b01))
      refine c214 X g _ hN (by omega) _ _ (by omega) ?_
      have hb : bg (g 86 42) ((0 : Nat) : Int) = 0 := by unfold bg; simp
      apply s_215_8
      try simp only [mi_87, tdn ht.1, tmn ht.1, true_and, and_true, true_or, or_true, implies_true, b10_0, b10_1]
      repeat' (first | refine And.intro ?_ ?_ | intro _)
      all_goals (try (first | omega | (unfold r32; omega) | exact hQ | exact qe hQ (by omega) | exact qe hQ (by (repeat' split) <;> omega) | exact b01))
      all_goals (exfalso; omega)
    | succ j ih =>
      intro hj hQ
      apply s_215_3
      try simp only [mi_87, true_and, and_true, true_or, or_true, implies_true, b10_0, b10_1]
      repeat' (first | refine And.intro ?_ ?_ | intro _)
      all_goals (try (first | omega | (unfold r32; omega) | exact hQ | exact qe hQ (by omega) | exact qe hQ (by (repeat' split) <;> omega) | exact b01))
      refine c214 X g _ hN (by omega) _ _ (by omega) ?_
      unfold wdn at hQ
      have e : ((j + 1 : Nat) : Int) = (j : Int) + 1 := by omega
      simp only [e]
      apply s_215_8
      try simp only [mi_87, tdn ht.1, tmn ht.1, true_and, and_true, true_or, or_true, implies_true, b10_0, b10_1]
      repeat' (first | refine And.intro ?_ ?_ | intro _)
      all_goals (try (first | omega | (unfold r32; omega) | exact hQ | exact qe hQ (by omega) | exact qe hQ (by (repeat' split) <;> omega) | exact b01))
      rw [show (j : Int) + 1 + -1 = (j : Int) by omega]
      refine ih (by omega) ?_
      rw [if_neg (by omega)] at hQ
      exact hQ
  apply s_215_0
  try simp only [mi_87, true_and, and_true, true_or, or_true, implies_true, b10_0, b10_1]
  repeat' (first | refine And.intro ?_ ?_ | intro _)
  all_goals (try (first | omega | (unfold r32; omega) | exact hQ | exact qe hQ (by omega) | exact qe hQ (by (repeat' split) <;> omega) | exact b01))
  exact key 11 (by omega) hQ
