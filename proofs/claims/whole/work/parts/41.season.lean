/-! seasons, watches -/
def Chg (D : Nat → Nat → Prop) (g g' : mF) : Prop := ∀ o k, ¬ D o k → g' o k = g o k
theorem mup_n {g : mF} {o k a b : Nat} {v : Int} (h : ¬ (a = o ∧ b = k)) : mup g o k v a b = g a b := by unfold mup; rw [if_neg h]
theorem mup_e {g : mF} {o k : Nat} {v : Int} : mup g o k v o k = v := by unfold mup; rw [if_pos ⟨rfl, rfl⟩]
theorem Chg_1 {g : mF} {o k : Nat} {v : Int} : Chg (fun a b => a = o ∧ b = k) g (mup g o k v) := fun a b h => mup_n h
theorem Chg_r {g : mF} : Chg (fun _ _ => False) g g := fun _ _ _ => rfl
theorem Chg_t {D E : Nat → Nat → Prop} {g g' g'' : mF} (h1 : Chg D g g') (h2 : Chg E g' g'') : Chg (fun a b => D a b ∨ E a b) g g'' := fun a b h => (h2 a b (fun z => h (Or.inr z))).trans (h1 a b (fun z => h (Or.inl z)))
theorem Chg_w {D E : Nat → Nat → Prop} {g g' : mF} (h1 : Chg D g g') (h2 : ∀ a b, D a b → E a b) : Chg E g g' := fun a b h => h1 a b (fun z => h (h2 a b z))
theorem c122a (X : mX) (g : mF) (v : Int) (h : 30 ≤ v ∧ v ≤ 90) : Ret X 2 122 [(2, 1), (0, v), (3, 0)] g (some (0, g 0 10)) (mup g 0 10 v) := by
  intro d Q hd hQ
  apply s_122_0
  try simp only [mi_1, fl_1_10, up_1_10, true_and, and_true, true_or, or_true, implies_true, b10_0, b10_1]
  repeat' (first | refine And.intro ?_ ?_ | intro _)
  all_goals (try (first | omega | (unfold r32; omega) | exact hQ | exact qe hQ (by omega) | exact qe hQ (by (repeat' split) <;> omega) | exact b01))
  refine c130 X _ _ _ _ _ _ (by omega) ?_
  apply s_122_8
  try simp only [mi_1, fl_1_10, up_1_10, true_and, and_true, true_or, or_true, implies_true, b10_0, b10_1]
  repeat' (first | refine And.intro ?_ ?_ | intro _)
  all_goals (try (first | omega | (unfold r32; omega) | exact hQ | exact qe hQ (by omega) | exact qe hQ (by (repeat' split) <;> omega) | exact b01))
  apply s_122_20
  try simp only [mi_1, fl_1_10, up_1_10, true_and, and_true, true_or, or_true, implies_true, b10_0, b10_1]
  repeat' (first | refine And.intro ?_ ?_ | intro _)
  all_goals (try (first | omega | (unfold r32; omega) | exact hQ | exact qe hQ (by omega) | exact qe hQ (by (repeat' split) <;> omega) | exact b01))
theorem c122b (X : mX) (g : mF) (v : Int) (h : ¬ (30 ≤ v ∧ v ≤ 90)) : Ret X 2 122 [(2, 1), (0, v), (3, 0)] g (some (0, -1002)) g := by
  intro d Q hd hQ
  apply s_122_0
  try simp only [mi_1, fl_1_10, up_1_10, true_and, and_true, true_or, or_true, implies_true, b10_0, b10_1]
  repeat' (first | refine And.intro ?_ ?_ | intro _)
  all_goals (try (first | omega | (unfold r32; omega) | exact hQ | exact qe hQ (by omega) | exact qe hQ (by (repeat' split) <;> omega) | exact b01))
  refine c130 X _ _ _ _ _ _ (by omega) ?_
  apply s_122_8
  try simp only [mi_1, fl_1_10, up_1_10, true_and, and_true, true_or, or_true, implies_true, b10_0, b10_1]
  repeat' (first | refine And.intro ?_ ?_ | intro _)
  all_goals (try (first | omega | (unfold r32; omega) | exact hQ | exact qe hQ (by omega) | exact qe hQ (by (repeat' split) <;> omega) | exact b01))
theorem c213a (X : mX) (g : mF) (v : Int) (h : 30 ≤ v ∧ v ≤ 90) : Ret X 2 213 [(2, 87), (0, v), (3, 0)] g (some (0, g 86 42)) (mup g 86 42 v) := by
  intro d Q hd hQ
  apply s_213_0
  try simp only [mi_87, fl_87_42, up_87_42, true_and, and_true, true_or, or_true, implies_true, b10_0, b10_1]
  repeat' (first | refine And.intro ?_ ?_ | intro _)
  all_goals (try (first | omega | (unfold r32; omega) | exact hQ | exact qe hQ (by omega) | exact qe hQ (by (repeat' split) <;> omega) | exact b01))
  refine c144 X _ _ _ _ _ _ (by omega) ?_
  apply s_213_11
  try simp only [mi_87, fl_87_42, up_87_42, true_and, and_true, true_or, or_true, implies_true, b10_0, b10_1]
  repeat' (first | refine And.intro ?_ ?_ | intro _)
  all_goals (try (first | omega | (unfold r32; omega) | exact hQ | exact qe hQ (by omega) | exact qe hQ (by (repeat' split) <;> omega) | exact b01))
  apply s_213_23
  try simp only [mi_87, fl_87_42, up_87_42, true_and, and_true, true_or, or_true, implies_true, b10_0, b10_1]
  repeat' (first | refine And.intro ?_ ?_ | intro _)
  all_goals (try (first | omega | (unfold r32; omega) | exact hQ | exact qe hQ (by omega) | exact qe hQ (by (repeat' split) <;> omega) | exact b01))
theorem c213b (X : mX) (g : mF) (v : Int) (h : ¬ (30 ≤ v ∧ v ≤ 90)) : Ret X 2 213 [(2, 87), (0, v), (3, 0)] g (some (0, -1002)) g := by
  intro d Q hd hQ
  apply s_213_0
  try simp only [mi_87, fl_87_42, up_87_42, true_and, and_true, true_or, or_true, implies_true, b10_0, b10_1]
  repeat' (first | refine And.intro ?_ ?_ | intro _)
  all_goals (try (first | omega | (unfold r32; omega) | exact hQ | exact qe hQ (by omega) | exact qe hQ (by (repeat' split) <;> omega) | exact b01))
  refine c144 X _ _ _ _ _ _ (by omega) ?_
  apply s_213_11
  try simp only [mi_87, fl_87_42, up_87_42, true_and, and_true, true_or, or_true, implies_true, b10_0, b10_1]
  repeat' (first | refine And.intro ?_ ?_ | intro _)
  all_goals (try (first | omega | (unfold r32; omega) | exact hQ | exact qe hQ (by omega) | exact qe hQ (by (repeat' split) <;> omega) | exact b01))
/-- season -/
theorem T_season (X : mX) (g : mF) (v : Int) (hI : Iseason g) : ∃ r g1 g2, Ret X 60 122 [(2, 1), (0, v), (3, 0)] g (some (0, r)) g1 ∧ Ret X 60 213 [(2, 87), (0, v), (3, 0)] g1 (some (0, r)) g2 ∧ Iseason g2 ∧ Chg (fun o k => o = 0 ∧ k = 10 ∨ o = 86 ∧ k = 42) g g2 := by
  by_cases h : 30 ≤ v ∧ v ≤ 90
  · refine ⟨g 0 10, mup g 0 10 v, mup (mup g 0 10 v) 86 42 v, (c122a X g v h).le (by omega), ?_, ?_, Chg_t Chg_1 Chg_1⟩
    · have := (c213a X (mup g 0 10 v) v h).le (show 2 ≤ 60 by omega)
      rw [mup_n (by omega), hI.1] at this
      exact this
    · refine ⟨?_, ?_⟩
      · rw [mup_e, mup_n (by omega), mup_e]
      · rw [mup_n (by omega), mup_e]
        exact h
  · exact ⟨-1002, g, g, (c122b X g v h).le (by omega), (c213b X g v h).le (by omega), hI, Chg_w Chg_r (fun _ _ z => z.elim)⟩
theorem T_watch (X : mX) (g : mF) (t w : Int) (hI : Iseason g) : ∃ r, Ret X 60 123 [(2, 1), (0, t), (0, w), (3, 0), (3, 0)] g (some (0, r)) g ∧ Ret X 60 216 [(2, 87), (0, t), (0, w), (3, 0)] g (some (0, r)) g := by
  by_cases h : (0 ≤ t ∧ t ≤ 20000) ∧ (0 ≤ w ∧ w ≤ 2)
  · obtain ⟨ht, hw⟩ := h
    have hN := hI.2
    have hM : 30 ≤ g 86 42 ∧ g 86 42 ≤ 90 := by rw [hI.1]; exact hN
    have hk := wdn_le (g 0 10) (t % 720) 11
    have hb1 := bg_r (N := g 0 10) (k := wdn (g 0 10) (t % 720) 11) hN (by omega)
    have hb2 := bg_r (N := g 0 10) (k := wdn (g 0 10) (t % 720) 11 + 1) hN (by omega)
    refine ⟨if w = 0 then wdn (g 0 10) (t % 720) 11 else if w = 1 then t - t % 720 + bg (g 0 10) (wdn (g 0 10) (t % 720) 11) else bg (g 0 10) (wdn (g 0 10) (t % 720) 11 + 1) - t % 720, ?_, ?_⟩
    · intro d Q hd hQ
      apply s_123_0
      try simp only [mi_1, true_and, and_true, true_or, or_true, implies_true, b10_0, b10_1]
      repeat' (first | refine And.intro ?_ ?_ | intro _)
      all_goals (try (first | omega | (unfold r32; omega) | exact hQ | exact qe hQ (by omega) | exact qe hQ (by (repeat' split) <;> omega) | exact b01))
      refine c130 X _ _ _ _ _ _ (by omega) ?_
      apply s_123_8
      try simp only [mi_1, true_and, and_true, true_or, or_true, implies_true, b10_0, b10_1]
      repeat' (first | refine And.intro ?_ ?_ | intro _)
      all_goals (try (first | omega | (unfold r32; omega) | exact hQ | exact qe hQ (by omega) | exact qe hQ (by (repeat' split) <;> omega) | exact b01))
      refine c130 X _ _ _ _ _ _ (by omega) ?_
      apply s_123_17
      try simp only [mi_1, true_and, and_true, true_or, or_true, implies_true, b10_0, b10_1]
      repeat' (first | refine And.intro ?_ ?_ | intro _)
      all_goals (try (first | omega | (unfold r32; omega) | exact hQ | exact qe hQ (by omega) | exact qe hQ (by (repeat' split) <;> omega) | exact b01))
      refine c142 X _ _ hN ht _ _ (by omega) ?_
      apply s_123_29
      try simp only [mi_1, tdn ht.1, tmn ht.1, true_and, and_true, true_or, or_true, implies_true, b10_0, b10_1]
      repeat' (first | refine And.intro ?_ ?_ | intro _)
      all_goals (try (first | omega | (unfold r32; omega) | exact hQ | exact qe hQ (by omega) | exact qe hQ (by (repeat' split) <;> omega) | exact b01))
      apply s_123_43
      try simp only [mi_1, true_and, and_true, true_or, or_true, implies_true, b10_0, b10_1]
      repeat' (first | refine And.intro ?_ ?_ | intro _)
      all_goals (try (first | omega | (unfold r32; omega) | exact hQ | exact qe hQ (by omega) | exact qe hQ (by (repeat' split) <;> omega) | exact b01))
      · refine c141 X _ _ hN (by omega) _ _ (by omega) ?_
        apply s_123_66
        try simp only [mi_1, true_and, and_true, true_or, or_true, implies_true, b10_0, b10_1]
        repeat' (first | refine And.intro ?_ ?_ | intro _)
        all_goals (try (first | omega | (unfold r32; omega) | exact hQ | exact qe hQ (by omega) | exact qe hQ (by (repeat' split) <;> omega) | exact b01))
      · refine c141 X _ _ hN (by omega) _ _ (by omega) ?_
        apply s_123_57
        try simp only [mi_1, true_and, and_true, true_or, or_true, implies_true, b10_0, b10_1]
        repeat' (first | refine And.intro ?_ ?_ | intro _)
        all_goals (try (first | omega | (unfold r32; omega) | exact hQ | exact qe hQ (by omega) | exact qe hQ (by (repeat' split) <;> omega) | exact b01))
    · have e := hI.1
      intro d Q hd hQ
      apply s_216_0
      try simp only [mi_87, true_and, and_true, true_or, or_true, implies_true, b10_0, b10_1]
      repeat' (first | refine And.intro ?_ ?_ | intro _)
      all_goals (try (first | omega | (unfold r32; omega) | exact hQ | exact qe hQ (by omega) | exact qe hQ (by (repeat' split) <;> omega) | exact b01))
      refine c144 X _ _ _ _ _ _ (by omega) ?_
      apply s_216_9
      try simp only [mi_87, true_and, and_true, true_or, or_true, implies_true, b10_0, b10_1]
      repeat' (first | refine And.intro ?_ ?_ | intro _)
      all_goals (try (first | omega | (unfold r32; omega) | exact hQ | exact qe hQ (by omega) | exact qe hQ (by (repeat' split) <;> omega) | exact b01))
      refine c144 X _ _ _ _ _ _ (by omega) ?_
      apply s_216_21
      try simp only [mi_87, true_and, and_true, true_or, or_true, implies_true, b10_0, b10_1]
      repeat' (first | refine And.intro ?_ ?_ | intro _)
      all_goals (try (first | omega | (unfold r32; omega) | exact hQ | exact qe hQ (by omega) | exact qe hQ (by (repeat' split) <;> omega) | exact b01))
      refine c215 X _ _ hM ht _ _ (by omega) ?_
      rw [e]
      apply s_216_33
      try simp only [mi_87, tdn ht.1, tmn ht.1, true_and, and_true, true_or, or_true, implies_true, b10_0, b10_1]
      repeat' (first | refine And.intro ?_ ?_ | intro _)
      all_goals (try (first | omega | (unfold r32; omega) | exact hQ | exact qe hQ (by omega) | exact qe hQ (by (repeat' split) <;> omega) | exact b01))
      · refine c214 X _ _ hM (by omega) _ _ (by omega) ?_
        rw [e]
        apply s_216_70
        try simp only [mi_87, tdn ht.1, tmn ht.1, true_and, and_true, true_or, or_true, implies_true, b10_0, b10_1]
        repeat' (first | refine And.intro ?_ ?_ | intro _)
        all_goals (try (first | omega | (unfold r32; omega) | exact hQ | exact qe hQ (by omega) | exact qe hQ (by (repeat' split) <;> omega) | exact b01))
      · refine c214 X _ _ hM (by omega) _ _ (by omega) ?_
        rw [e]
        apply s_216_59
        try simp only [mi_87, true_and, and_true, true_or, or_true, implies_true, b10_0, b10_1]
        repeat' (first | refine And.intro ?_ ?_ | intro _)
        all_goals (try (first | omega | (unfold r32; omega) | exact hQ | exact qe hQ (by omega) | exact qe hQ (by (repeat' split) <;> omega) | exact b01))
  · refine ⟨-1002, ?_, ?_⟩
    · intro d Q hd hQ
      apply s_123_0
      try simp only [mi_1, true_and, and_true, true_or, or_true, implies_true, b10_0, b10_1]
      repeat' (first | refine And.intro ?_ ?_ | intro _)
      all_goals (try (first | omega | (unfold r32; omega) | exact hQ | exact qe hQ (by omega) | exact qe hQ (by (repeat' split) <;> omega) | exact b01))
      refine c130 X _ _ _ _ _ _ (by omega) ?_
      apply s_123_8
      try simp only [mi_1, true_and, and_true, true_or, or_true, implies_true, b10_0, b10_1]
      repeat' (first | refine And.intro ?_ ?_ | intro _)
      all_goals (try (first | omega | (unfold r32; omega) | exact hQ | exact qe hQ (by omega) | exact qe hQ (by (repeat' split) <;> omega) | exact b01))
      refine c130 X _ _ _ _ _ _ (by omega) ?_
      apply s_123_17
      try simp only [mi_1, true_and, and_true, true_or, or_true, implies_true, b10_0, b10_1]
      repeat' (first | refine And.intro ?_ ?_ | intro _)
      all_goals (try (first | omega | (unfold r32; omega) | exact hQ | exact qe hQ (by omega) | exact qe hQ (by (repeat' split) <;> omega) | exact b01))
    · intro d Q hd hQ
      apply s_216_0
      try simp only [mi_87, true_and, and_true, true_or, or_true, implies_true, b10_0, b10_1]
      repeat' (first | refine And.intro ?_ ?_ | intro _)
      all_goals (try (first | omega | (unfold r32; omega) | exact hQ | exact qe hQ (by omega) | exact qe hQ (by (repeat' split) <;> omega) | exact b01))
      refine c144 X _ _ _ _ _ _ (by omega) ?_
      apply s_216_9
      try simp only [mi_87, true_and, and_true, true_or, or_true, implies_true, b10_0, b10_1]
      repeat' (first | refine And.intro ?_ ?_ | intro _)
      all_goals (try (first | omega | (unfold r32; omega) | exact hQ | exact qe hQ (by omega) | exact qe hQ (by (repeat' split) <;> omega) | exact b01))
      refine c144 X _ _ _ _ _ _ (by omega) ?_
      apply s_216_21
      try simp only [mi_87, true_and, and_true, true_or, or_true, implies_true, b10_0, b10_1]
      repeat' (first | refine And.intro ?_ ?_ | intro _)
      all_goals (try (first | omega | (unfold r32; omega) | exact hQ | exact qe hQ (by omega) | exact qe hQ (by (repeat' split) <;> omega) | exact b01))
