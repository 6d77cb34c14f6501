/-! gone -/
/-- ticks at which a walk along the path comes to its cells -/
def wlk (G : mF) (pw : Nat → Int) (t : Int) : Nat → Int
  | 0 => t
  | i + 1 => wlk G pw t i + btk G (-1) (pw i) (wlk G pw t i)
theorem wlk_b {G : mF} {pw : Nat → Int} {t : Int} (hG : Gair G) (ht : 0 ≤ t) : ∀ i : Nat, (∀ k, k < i → 0 ≤ pw k ∧ pw k ≤ 7) → t ≤ wlk G pw t i ∧ wlk G pw t i ≤ t + 90 * (i : Int) := by
  intro i
  induction i with
  | zero => intro _; unfold wlk; omega
  | succ i ih =>
    intro h
    have a := ih (fun k hk => h k (by omega))
    have b := btk_b (D := -1) (t := wlk G pw t i) hG (h i (by omega)) (by omega) (by omega)
    unfold wlk
    omega
/-- heard near a tick -/
def HP (he : Nat → Int) (H : Int) (w t : Int) : Prop := ∃ j : Nat, (j : Int) < H ∧ t - he j ≤ w ∧ he j - t ≤ w
def OKP (bc bl he : Nat → Int) (nb H w : Int) (c p : Nat) (tk : Nat → Int) : Prop := ∀ k : Nat, (k : Int) < nb → bc k = (c : Int) → bl k ≤ (p : Int) → HP he H w (tk (bl k).toNat)
theorem absI {w v : Int} : (w < (if 0 ≤ v then v else -v)) = ¬ (v ≤ w ∧ -v ≤ w) := by
  apply propext
  split <;> omega
theorem absM {w v : Int} : (w < (if v < 0 then -v else v)) = ¬ (v ≤ w ∧ -v ≤ w) := by
  apply propext
  split <;> omega
theorem c12 (X : mX) {g : mF} {t w : Int} (ht : 0 ≤ t ∧ t ≤ 100000) (hh : 0 ≤ g 43 1 ∧ g 43 1 ≤ 24) (hH : ∀ j : Nat, (j : Int) < g 43 1 → 0 ≤ g 46 j ∧ g 46 j ≤ 20000) : (HP (g 46) (g 43 1) w t → Ret X 1 12 [(2, 44), (0, t), (0, w), (3, 0)] g (some (0, 1)) g) ∧ (¬ HP (g 46) (g 43 1) w t → Ret X 1 12 [(2, 44), (0, t), (0, w), (3, 0)] g (some (0, 0)) g) := by
  constructor
  · rintro ⟨j, j1, j2, j3⟩ d Q hd hQ
    have key : ∀ m k : Nat, k + m = j → Wp X d SH 12 2 [(2, 44), (0, t), (0, w), (0, (k : Int))] [] SH (fl g) Q := by
      intro m
      induction m with
      | zero =>
        intro k hk
        have : k = j := by omega
        subst this
        have e2 : ((k : Int)).toNat = k := by omega
        have hb := hH k j1
        apply s_12_2
        try simp only [mi_44, fl_44_1, up_44_1, fl_44_4, mi_47, ml_47, fl_47, up_47, e2, absI, true_and, and_true, true_or, or_true, implies_true, b10_0, b10_1]
        repeat' (first | refine And.intro ?_ ?_ | intro _)
        all_goals (try (first | omega | (unfold r32; omega) | exact hQ | exact qe hQ (by omega) | exact qe hQ (by (repeat' split) <;> omega) | exact b01 | exact n01 | exact n21 | exact n31 | exact absurd trivial (by assumption)))
      | succ m ih =>
        intro k hk
        have e2 : ((k : Int)).toNat = k := by omega
        have e10 : ((k + 1 : Nat) : Int) = (k : Int) + 1 := by omega
        have hb := hH k (by omega)
        have nx := ih (k + 1) (by omega)
        rw [e10] at nx
        apply s_12_2
        try simp only [mi_44, fl_44_1, up_44_1, fl_44_4, mi_47, ml_47, fl_47, up_47, e2, absI, true_and, and_true, true_or, or_true, implies_true, b10_0, b10_1]
        repeat' (first | refine And.intro ?_ ?_ | intro _)
        all_goals (try (first | omega | (unfold r32; omega) | exact hQ | exact qe hQ (by omega) | exact qe hQ (by (repeat' split) <;> omega) | exact b01 | exact n01 | exact n21 | exact n31 | exact absurd trivial (by assumption)))
        all_goals (try exact nx)
    apply s_12_0
    try simp only [mi_44, fl_44_1, up_44_1, fl_44_4, mi_47, ml_47, fl_47, up_47, true_and, and_true, true_or, or_true, implies_true, b10_0, b10_1]
    repeat' (first | refine And.intro ?_ ?_ | intro _)
    all_goals (try (first | omega | (unfold r32; omega) | exact hQ | exact qe hQ (by omega) | exact qe hQ (by (repeat' split) <;> omega) | exact b01 | exact n01 | exact n21 | exact n31 | exact absurd trivial (by assumption)))
    exact key j 0 (by omega)
  · intro hn d Q hd hQ
    have key := lup (P := fun k => Wp X d SH 12 2 [(2, 44), (0, t), (0, w), (0, (k : Int))] [] SH (fl g) Q) (g 43 1).toNat ?_ ?_ 0 (by omega)
    · skip
      apply s_12_0
      try simp only [mi_44, fl_44_1, up_44_1, fl_44_4, mi_47, ml_47, fl_47, up_47, true_and, and_true, true_or, or_true, implies_true, b10_0, b10_1]
      repeat' (first | refine And.intro ?_ ?_ | intro _)
      all_goals (try (first | omega | (unfold r32; omega) | exact hQ | exact qe hQ (by omega) | exact qe hQ (by (repeat' split) <;> omega) | exact b01 | exact n01 | exact n21 | exact n31 | exact absurd trivial (by assumption)))
      all_goals (try exact key)
    · skip
      apply s_12_2
      try simp only [mi_44, fl_44_1, up_44_1, fl_44_4, mi_47, ml_47, fl_47, up_47, true_and, and_true, true_or, or_true, implies_true, b10_0, b10_1]
      repeat' (first | refine And.intro ?_ ?_ | intro _)
      all_goals (try (first | omega | (unfold r32; omega) | exact hQ | exact qe hQ (by omega) | exact qe hQ (by (repeat' split) <;> omega) | exact b01 | exact n01 | exact n21 | exact n31 | exact absurd trivial (by assumption)))
    · intro k hk ih
      have e2 : ((k : Int)).toNat = k := by omega
      have e10 : ((k + 1 : Nat) : Int) = (k : Int) + 1 := by omega
      have hb := hH k (by omega)
      have hk2 : ¬ (t - g 46 k ≤ w ∧ g 46 k - t ≤ w) := fun z => hn ⟨k, by omega, z.1, z.2⟩
      rw [e10] at ih
      apply s_12_2
      try simp only [mi_44, fl_44_1, up_44_1, fl_44_4, mi_47, ml_47, fl_47, up_47, e2, absI, true_and, and_true, true_or, or_true, implies_true, b10_0, b10_1]
      repeat' (first | refine And.intro ?_ ?_ | intro _)
      all_goals (try (first | omega | (unfold r32; omega) | exact hQ | exact qe hQ (by omega) | exact qe hQ (by (repeat' split) <;> omega) | exact b01 | exact n01 | exact n21 | exact n31 | exact absurd trivial (by assumption)))
      all_goals (try exact ih)
theorem c210 (X : mX) {g : mF} {he : Nat → Int} {H t w : Int} (ht : 0 ≤ t ∧ t ≤ 100000) (f38 : g 86 38 = H) (hh : 0 ≤ H ∧ H ≤ 24) (hH : ∀ j : Nat, (j : Int) < H → g 117 j = he j ∧ 0 ≤ he j ∧ he j ≤ 20000) : (HP he H w t → Ret X 1 210 [(2, 87), (0, t), (0, w), (3, 0), (3, 0)] g (some (0, 1)) g) ∧ (¬ HP he H w t → Ret X 1 210 [(2, 87), (0, t), (0, w), (3, 0), (3, 0)] g (some (0, 0)) g) := by
  have stp : ∀ d Q (k : Nat) (v : Int), 1 ≤ d → (k : Int) < H → (v = 0 ∨ v = 1) → (∀ u : Int, (u = if v = 1 ∨ (t - he k ≤ w ∧ he k - t ≤ w) then 1 else 0) → Wp X d SH 210 5 [(2, 87), (0, t), (0, w), (0, u), (0, ((k + 1 : Nat) : Int))] [] SH (fl g) Q) → Wp X d SH 210 5 [(2, 87), (0, t), (0, w), (0, v), (0, (k : Int))] [] SH (fl g) Q := by
    intro d Q k v hd hk hv nx
    have e2 : ((k : Int)).toNat = k := by omega
    have e10 : ((k + 1 : Nat) : Int) = (k : Int) + 1 := by omega
    obtain ⟨q1, q2, q3⟩ := hH k hk
    rw [e10] at nx
    apply s_210_5
    try simp only [mi_87, fl_87_38, up_87_38, fl_87_39, mi_118, ml_118, fl_118, up_118, f38, e2, q1, true_and, and_true, true_or, or_true, implies_true, b10_0, b10_1]
    repeat' (first | refine And.intro ?_ ?_ | intro _)
    all_goals (try (first | omega | (unfold r32; omega) | exact hQ | exact qe hQ (by omega) | exact qe hQ (by (repeat' split) <;> omega) | exact b01 | exact n01 | exact n21 | exact n31 | exact absurd trivial (by assumption)))
    · have n1 := nx 1 (by rw [if_pos (Or.inl (by omega))])
      apply s_210_34
      try simp only [mi_87, fl_87_38, up_87_38, fl_87_39, mi_118, ml_118, fl_118, up_118, true_and, and_true, true_or, or_true, implies_true, b10_0, b10_1]
      repeat' (first | refine And.intro ?_ ?_ | intro _)
      all_goals (try (first | omega | (unfold r32; omega) | exact hQ | exact qe hQ (by omega) | exact qe hQ (by (repeat' split) <;> omega) | exact b01 | exact n01 | exact n21 | exact n31 | exact absurd trivial (by assumption)))
      apply s_210_39
      try simp only [mi_87, fl_87_38, up_87_38, fl_87_39, mi_118, ml_118, fl_118, up_118, true_and, and_true, true_or, or_true, implies_true, b10_0, b10_1]
      repeat' (first | refine And.intro ?_ ?_ | intro _)
      all_goals (try (first | omega | (unfold r32; omega) | exact hQ | exact qe hQ (by omega) | exact qe hQ (by (repeat' split) <;> omega) | exact b01 | exact n01 | exact n21 | exact n31 | exact absurd trivial (by assumption)))
      all_goals (try exact n1)
    · refine c145 X g _ (by omega) _ _ (by omega) ?_
      apply s_210_30
      try simp only [mi_87, fl_87_38, up_87_38, fl_87_39, mi_118, ml_118, fl_118, up_118, absM, true_and, and_true, true_or, or_true, implies_true, b10_0, b10_1]
      repeat' (first | refine And.intro ?_ ?_ | intro _)
      all_goals (try (first | omega | (unfold r32; omega) | exact hQ | exact qe hQ (by omega) | exact qe hQ (by (repeat' split) <;> omega) | exact b01 | exact n01 | exact n21 | exact n31 | exact absurd trivial (by assumption)))
      · have n1 := nx 0 (by rw [if_neg (by omega)])
        apply s_210_39
        try simp only [mi_87, fl_87_38, up_87_38, fl_87_39, mi_118, ml_118, fl_118, up_118, true_and, and_true, true_or, or_true, implies_true, b10_0, b10_1]
        repeat' (first | refine And.intro ?_ ?_ | intro _)
        all_goals (try (first | omega | (unfold r32; omega) | exact hQ | exact qe hQ (by omega) | exact qe hQ (by (repeat' split) <;> omega) | exact b01 | exact n01 | exact n21 | exact n31 | exact absurd trivial (by assumption)))
        all_goals (try exact n1)
      · have n1 := nx 1 (by rw [if_pos (by omega)])
        apply s_210_34
        try simp only [mi_87, fl_87_38, up_87_38, fl_87_39, mi_118, ml_118, fl_118, up_118, true_and, and_true, true_or, or_true, implies_true, b10_0, b10_1]
        repeat' (first | refine And.intro ?_ ?_ | intro _)
        all_goals (try (first | omega | (unfold r32; omega) | exact hQ | exact qe hQ (by omega) | exact qe hQ (by (repeat' split) <;> omega) | exact b01 | exact n01 | exact n21 | exact n31 | exact absurd trivial (by assumption)))
        apply s_210_39
        try simp only [mi_87, fl_87_38, up_87_38, fl_87_39, mi_118, ml_118, fl_118, up_118, true_and, and_true, true_or, or_true, implies_true, b10_0, b10_1]
        repeat' (first | refine And.intro ?_ ?_ | intro _)
        all_goals (try (first | omega | (unfold r32; omega) | exact hQ | exact qe hQ (by omega) | exact qe hQ (by (repeat' split) <;> omega) | exact b01 | exact n01 | exact n21 | exact n31 | exact absurd trivial (by assumption)))
        all_goals (try exact n1)
  constructor
  · rintro ⟨j, j1, j2, j3⟩ d Q hd hQ
    have key : ∀ m k : Nat, (k : Int) + m = H → ∀ v : Int, (v = 0 ∨ v = 1) → (k ≤ j ∨ v = 1) → Wp X d SH 210 5 [(2, 87), (0, t), (0, w), (0, v), (0, (k : Int))] [] SH (fl g) Q := by
      intro m
      induction m with
      | zero =>
        intro k hk v hv hkv
        have hv1 : v = 1 := by omega
        subst hv1
        apply s_210_5
        try simp only [mi_87, fl_87_38, up_87_38, fl_87_39, mi_118, ml_118, fl_118, up_118, f38, true_and, and_true, true_or, or_true, implies_true, b10_0, b10_1]
        repeat' (first | refine And.intro ?_ ?_ | intro _)
        all_goals (try (first | omega | (unfold r32; omega) | exact hQ | exact qe hQ (by omega) | exact qe hQ (by (repeat' split) <;> omega) | exact b01 | exact n01 | exact n21 | exact n31 | exact absurd trivial (by assumption)))
      | succ m ih =>
        intro k hk v hv hkv
        refine stp d Q k v hd (by omega) hv (fun u hu => ih (k + 1) (by omega) u (by rw [hu]; split <;> omega) ?_)
        by_cases hkj : k = j
        · subst hkj
          right
          rw [hu, if_pos (Or.inr ⟨j2, j3⟩)]
        · rcases hkv with z | z
          · left; omega
          · right
            rw [hu, if_pos (Or.inl z)]
    apply s_210_0
    try simp only [mi_87, fl_87_38, up_87_38, fl_87_39, mi_118, ml_118, fl_118, up_118, true_and, and_true, true_or, or_true, implies_true, b10_0, b10_1]
    repeat' (first | refine And.intro ?_ ?_ | intro _)
    all_goals (try (first | omega | (unfold r32; omega) | exact hQ | exact qe hQ (by omega) | exact qe hQ (by (repeat' split) <;> omega) | exact b01 | exact n01 | exact n21 | exact n31 | exact absurd trivial (by assumption)))
    exact key H.toNat 0 (by omega) 0 (Or.inl rfl) (Or.inl (by omega))
  · intro hn d Q hd hQ
    have key : ∀ m k : Nat, (k : Int) + m = H → Wp X d SH 210 5 [(2, 87), (0, t), (0, w), (0, 0), (0, (k : Int))] [] SH (fl g) Q := by
      intro m
      induction m with
      | zero =>
        intro k hk
        apply s_210_5
        try simp only [mi_87, fl_87_38, up_87_38, fl_87_39, mi_118, ml_118, fl_118, up_118, f38, true_and, and_true, true_or, or_true, implies_true, b10_0, b10_1]
        repeat' (first | refine And.intro ?_ ?_ | intro _)
        all_goals (try (first | omega | (unfold r32; omega) | exact hQ | exact qe hQ (by omega) | exact qe hQ (by (repeat' split) <;> omega) | exact b01 | exact n01 | exact n21 | exact n31 | exact absurd trivial (by assumption)))
      | succ m ih =>
        intro k hk
        refine stp d Q k 0 hd (by omega) (Or.inl rfl) (fun u hu => ?_)
        have hu0 : u = 0 := by
          rw [hu, if_neg]
          rintro (z | z)
          · omega
          · exact hn ⟨k, by omega, z.1, z.2⟩
        subst hu0
        exact ih (k + 1) (by omega)
    apply s_210_0
    try simp only [mi_87, fl_87_38, up_87_38, fl_87_39, mi_118, ml_118, fl_118, up_118, true_and, and_true, true_or, or_true, implies_true, b10_0, b10_1]
    repeat' (first | refine And.intro ?_ ?_ | intro _)
    all_goals (try (first | omega | (unfold r32; omega) | exact hQ | exact qe hQ (by omega) | exact qe hQ (by (repeat' split) <;> omega) | exact b01 | exact n01 | exact n21 | exact n31 | exact absurd trivial (by assumption)))
    exact key H.toNat 0 (by omega)
theorem c11 (X : mX) {g : mF} {c p : Nat} {w : Int} {tk : Nat → Int} (hp : p < 36) (hb : 0 ≤ g 43 0 ∧ g 43 0 ≤ 12) (hB : ∀ j : Nat, (j : Int) < g 43 0 → 0 ≤ g 44 j ∧ g 44 j ≤ 3 ∧ 0 ≤ g 45 j ∧ g 45 j ≤ 35) (hh : 0 ≤ g 43 1 ∧ g 43 1 ≤ 24) (hH : ∀ j : Nat, (j : Int) < g 43 1 → 0 ≤ g 46 j ∧ g 46 j ≤ 20000) (htk : ∀ i, i ≤ p → g 55 i = tk i ∧ 0 ≤ tk i ∧ tk i ≤ 100000) : (OKP (g 44) (g 45) (g 46) (g 43 0) (g 43 1) w c p tk → Ret X 2 11 [(2, 44), (0, (c : Int)), (0, (p : Int)), (2, 56), (0, w), (3, 0)] g (some (0, 1)) g) ∧ (¬ OKP (g 44) (g 45) (g 46) (g 43 0) (g 43 1) w c p tk → Ret X 2 11 [(2, 44), (0, (c : Int)), (0, (p : Int)), (2, 56), (0, w), (3, 0)] g (some (0, 0)) g) := by
  have skip : ∀ d Q (k : Nat), 2 ≤ d → (k : Int) < g 43 0 → (g 44 k = (c : Int) → g 45 k ≤ (p : Int) → HP (g 46) (g 43 1) w (tk (g 45 k).toNat)) → Wp X d SH 11 3 [(2, 44), (0, (c : Int)), (0, (p : Int)), (2, 56), (0, w), (0, ((k + 1 : Nat) : Int))] [] SH (fl g) Q → Wp X d SH 11 3 [(2, 44), (0, (c : Int)), (0, (p : Int)), (2, 56), (0, w), (0, (k : Int))] [] SH (fl g) Q := by
    intro d Q k hd hk hok nx
    have e2 : ((k : Int)).toNat = k := by omega
    have e10 : ((k + 1 : Nat) : Int) = (k : Int) + 1 := by omega
    obtain ⟨q1, q2, q3, q4⟩ := hB k hk
    rw [e10] at nx
    apply s_11_3
    try simp only [mi_44, fl_44_0, up_44_0, fl_44_2, mi_45, ml_45, fl_45, up_45, fl_44_3, mi_46, ml_46, fl_46, up_46, e2, mi_56, ml_56, fl_56, true_and, and_true, true_or, or_true, implies_true, b10_0, b10_1]
    repeat' (first | refine And.intro ?_ ?_ | intro _)
    all_goals (try (first | omega | (unfold r32; omega) | exact hQ | exact qe hQ (by omega) | exact qe hQ (by (repeat' split) <;> omega) | exact b01 | exact n01 | exact n21 | exact n31 | exact absurd trivial (by assumption)))
    · skip
      apply s_11_54
      try simp only [mi_44, fl_44_0, up_44_0, fl_44_2, mi_45, ml_45, fl_45, up_45, fl_44_3, mi_46, ml_46, fl_46, up_46, true_and, and_true, true_or, or_true, implies_true, b10_0, b10_1]
      repeat' (first | refine And.intro ?_ ?_ | intro _)
      all_goals (try (first | omega | (unfold r32; omega) | exact hQ | exact qe hQ (by omega) | exact qe hQ (by (repeat' split) <;> omega) | exact b01 | exact n01 | exact n21 | exact n31 | exact absurd trivial (by assumption)))
      all_goals (try exact nx)
    · skip
      apply s_11_54
      try simp only [mi_44, fl_44_0, up_44_0, fl_44_2, mi_45, ml_45, fl_45, up_45, fl_44_3, mi_46, ml_46, fl_46, up_46, true_and, and_true, true_or, or_true, implies_true, b10_0, b10_1]
      repeat' (first | refine And.intro ?_ ?_ | intro _)
      all_goals (try (first | omega | (unfold r32; omega) | exact hQ | exact qe hQ (by omega) | exact qe hQ (by (repeat' split) <;> omega) | exact b01 | exact n01 | exact n21 | exact n31 | exact absurd trivial (by assumption)))
      all_goals (try exact nx)
    · have z := htk (g 45 k).toNat (by omega)
      rw [z.1]
      refine (c12 X (g := g) (w := w) (t := tk (g 45 k).toNat) z.2 hh hH).1 (hok (by omega) (by omega)) _ _ (by omega) ?_
      apply s_11_49
      try simp only [mi_44, fl_44_0, up_44_0, fl_44_2, mi_45, ml_45, fl_45, up_45, fl_44_3, mi_46, ml_46, fl_46, up_46, true_and, and_true, true_or, or_true, implies_true, b10_0, b10_1]
      repeat' (first | refine And.intro ?_ ?_ | intro _)
      all_goals (try (first | omega | (unfold r32; omega) | exact hQ | exact qe hQ (by omega) | exact qe hQ (by (repeat' split) <;> omega) | exact b01 | exact n01 | exact n21 | exact n31 | exact absurd trivial (by assumption)))
      apply s_11_54
      try simp only [mi_44, fl_44_0, up_44_0, fl_44_2, mi_45, ml_45, fl_45, up_45, fl_44_3, mi_46, ml_46, fl_46, up_46, true_and, and_true, true_or, or_true, implies_true, b10_0, b10_1]
      repeat' (first | refine And.intro ?_ ?_ | intro _)
      all_goals (try (first | omega | (unfold r32; omega) | exact hQ | exact qe hQ (by omega) | exact qe hQ (by (repeat' split) <;> omega) | exact b01 | exact n01 | exact n21 | exact n31 | exact absurd trivial (by assumption)))
      all_goals (try exact nx)
  constructor
  · intro hok d Q hd hQ
    have key := lup (P := fun k => Wp X d SH 11 3 [(2, 44), (0, (c : Int)), (0, (p : Int)), (2, 56), (0, w), (0, (k : Int))] [] SH (fl g) Q) (g 43 0).toNat ?_ ?_ 0 (by omega)
    · skip
      apply s_11_0
      try simp only [mi_44, fl_44_0, up_44_0, fl_44_2, mi_45, ml_45, fl_45, up_45, fl_44_3, mi_46, ml_46, fl_46, up_46, true_and, and_true, true_or, or_true, implies_true, b10_0, b10_1]
      repeat' (first | refine And.intro ?_ ?_ | intro _)
      all_goals (try (first | omega | (unfold r32; omega) | exact hQ | exact qe hQ (by omega) | exact qe hQ (by (repeat' split) <;> omega) | exact b01 | exact n01 | exact n21 | exact n31 | exact absurd trivial (by assumption)))
      all_goals (try exact key)
    · skip
      apply s_11_3
      try simp only [mi_44, fl_44_0, up_44_0, fl_44_2, mi_45, ml_45, fl_45, up_45, fl_44_3, mi_46, ml_46, fl_46, up_46, true_and, and_true, true_or, or_true, implies_true, b10_0, b10_1]
      repeat' (first | refine And.intro ?_ ?_ | intro _)
      all_goals (try (first | omega | (unfold r32; omega) | exact hQ | exact qe hQ (by omega) | exact qe hQ (by (repeat' split) <;> omega) | exact b01 | exact n01 | exact n21 | exact n31 | exact absurd trivial (by assumption)))
    · intro k hk ih
      exact skip d Q k hd (by omega) (fun h1 h2 => hok k (by omega) h1 h2) ih
  · intro hn d Q hd hQ
    -- the first ball that was not heard
    have key : ∀ m k : Nat, (k : Int) + m = g 43 0 → (¬ ∀ k' : Nat, k ≤ k' → (k' : Int) < g 43 0 → g 44 k' = (c : Int) → g 45 k' ≤ (p : Int) → HP (g 46) (g 43 1) w (tk (g 45 k').toNat)) → Wp X d SH 11 3 [(2, 44), (0, (c : Int)), (0, (p : Int)), (2, 56), (0, w), (0, (k : Int))] [] SH (fl g) Q := by
      intro m
      induction m with
      | zero =>
        intro k hk hnk
        exact absurd (fun k' h1 h2 _ _ => absurd h2 (by omega)) hnk
      | succ m ih =>
        intro k hk hnk
        by_cases hz : g 44 k = (c : Int) → g 45 k ≤ (p : Int) → HP (g 46) (g 43 1) w (tk (g 45 k).toNat)
        · refine skip d Q k hd (by omega) hz (ih (k + 1) (by omega) (fun hall => hnk (fun k' h1 h2 h3 h4 => ?_)))
          by_cases hkk : k' = k
          · subst hkk; exact hz h3 h4
          · exact hall k' (by omega) h2 h3 h4
        · have h1 : g 44 k = (c : Int) := by
            by_cases q : g 44 k = (c : Int)
            · exact q
            · exact absurd (fun z => absurd z q) hz
          have h2 : g 45 k ≤ (p : Int) := by
            by_cases q : g 45 k ≤ (p : Int)
            · exact q
            · exact absurd (fun _ z => absurd z q) hz
          have h3 : ¬ HP (g 46) (g 43 1) w (tk (g 45 k).toNat) := fun z => hz (fun _ _ => z)
          have e2 : ((k : Int)).toNat = k := by omega
          obtain ⟨q1, q2, q3, q4⟩ := hB k (by omega)
          have z := htk (g 45 k).toNat (by omega)
          clear hz
          apply s_11_3
          try simp only [mi_44, fl_44_0, up_44_0, fl_44_2, mi_45, ml_45, fl_45, up_45, fl_44_3, mi_46, ml_46, fl_46, up_46, e2, mi_56, ml_56, fl_56, true_and, and_true, true_or, or_true, implies_true, b10_0, b10_1]
          repeat' (first | refine And.intro ?_ ?_ | intro _)
          all_goals (try (first | omega | (unfold r32; omega) | exact hQ | exact qe hQ (by omega) | exact qe hQ (by (repeat' split) <;> omega) | exact b01 | exact n01 | exact n21 | exact n31 | exact absurd trivial (by assumption)))
          rw [z.1]
          refine (c12 X (g := g) (w := w) (t := tk (g 45 k).toNat) z.2 hh hH).2 h3 _ _ (by omega) ?_
          apply s_11_49
          try simp only [mi_44, fl_44_0, up_44_0, fl_44_2, mi_45, ml_45, fl_45, up_45, fl_44_3, mi_46, ml_46, fl_46, up_46, true_and, and_true, true_or, or_true, implies_true, b10_0, b10_1]
          repeat' (first | refine And.intro ?_ ?_ | intro _)
          all_goals (try (first | omega | (unfold r32; omega) | exact hQ | exact qe hQ (by omega) | exact qe hQ (by (repeat' split) <;> omega) | exact b01 | exact n01 | exact n21 | exact n31 | exact absurd trivial (by assumption)))
    apply s_11_0
    try simp only [mi_44, fl_44_0, up_44_0, fl_44_2, mi_45, ml_45, fl_45, up_45, fl_44_3, mi_46, ml_46, fl_46, up_46, true_and, and_true, true_or, or_true, implies_true, b10_0, b10_1]
    repeat' (first | refine And.intro ?_ ?_ | intro _)
    all_goals (try (first | omega | (unfold r32; omega) | exact hQ | exact qe hQ (by omega) | exact qe hQ (by (repeat' split) <;> omega) | exact b01 | exact n01 | exact n21 | exact n31 | exact absurd trivial (by assumption)))
    exact key (g 43 0).toNat 0 (by omega) (fun hall => hn (fun k h1 h2 h3 => hall k (by omega) h1 h2 h3))
noncomputable def rsF (G : mF) (pw : Nat → Int) (bc bl he : Nat → Int) (nb H w t : Int) (c p : Nat) (a : Int) : Int := @ite Int (wlk G pw a (p + 1) ≤ t ∧ OKP bc bl he nb H w c p (wlk G pw a)) (Classical.propDecidable _) (wlk G pw a (p + 1)) (-1)
theorem rsF_y {G : mF} {pw bc bl he : Nat → Int} {nb H w t : Int} {c p : Nat} {a : Int} (h : wlk G pw a (p + 1) ≤ t ∧ OKP bc bl he nb H w c p (wlk G pw a)) : rsF G pw bc bl he nb H w t c p a = wlk G pw a (p + 1) := by unfold rsF; rw [if_pos h]
theorem rsF_n {G : mF} {pw bc bl he : Nat → Int} {nb H w t : Int} {c p : Nat} {a : Int} (h : ¬ (wlk G pw a (p + 1) ≤ t ∧ OKP bc bl he nb H w c p (wlk G pw a))) : rsF G pw bc bl he nb H w t c p a = -1 := by unfold rsF; rw [if_neg h]
theorem c29 (X : mX) (g : mF) {c p : Nat} (hc : c < 4) (hp : p < 36) : ((∀ i, i ≤ p → g (20 + 6 * c) i ≠ -1) → Ret X 0 29 [(2, 20 + 6 * (c : Int)), (0, (p : Int)), (3, 0)] g (some (0, 1)) g) ∧ ((¬ ∀ i, i ≤ p → g (20 + 6 * c) i ≠ -1) → Ret X 0 29 [(2, 20 + 6 * (c : Int)), (0, (p : Int)), (3, 0)] g (some (0, 0)) g) := by
  constructor
  · intro hl d Q hd hQ
    have key := lup (P := fun k => Wp X d SH 29 2 [(2, 20 + 6 * (c : Int)), (0, (p : Int)), (0, (k : Int))] [] SH (fl g) Q) (p + 1) ?_ ?_ 0 (by omega)
    · skip
      apply s_29_0
      try simp only [cm_o, cl_1, cm_1, cn_1, ca_1, cz_1, true_and, and_true, true_or, or_true, implies_true, b10_0, b10_1]
      repeat' (first | refine And.intro ?_ ?_ | intro _)
      all_goals (try (first | omega | (unfold r32; omega) | exact hQ | exact qe hQ (by omega) | exact qe hQ (by (repeat' split) <;> omega) | exact b01 | exact n01 | exact n21 | exact n31 | exact absurd trivial (by assumption)))
      all_goals (try exact key)
    · skip
      apply s_29_2
      try simp only [cm_o, cl_1, cm_1, cn_1, ca_1, cz_1, true_and, and_true, true_or, or_true, implies_true, b10_0, b10_1]
      repeat' (first | refine And.intro ?_ ?_ | intro _)
      all_goals (try (first | omega | (unfold r32; omega) | exact hQ | exact qe hQ (by omega) | exact qe hQ (by (repeat' split) <;> omega) | exact b01 | exact n01 | exact n21 | exact n31 | exact absurd trivial (by assumption)))
    · intro k hk ih
      have e2 : ((k : Int)).toNat = k := by omega
      have e10 : ((k + 1 : Nat) : Int) = (k : Int) + 1 := by omega
      have hk2 := hl k (by omega)
      rw [e10] at ih
      apply s_29_2
      try simp only [cm_o, cl_1, cm_1, cn_1, ca_1, cz_1, hc, e2, true_and, and_true, true_or, or_true, implies_true, b10_0, b10_1]
      repeat' (first | refine And.intro ?_ ?_ | intro _)
      all_goals (try (first | omega | (unfold r32; omega) | exact hQ | exact qe hQ (by omega) | exact qe hQ (by (repeat' split) <;> omega) | exact b01 | exact n01 | exact n21 | exact n31 | exact absurd trivial (by assumption)))
      all_goals (try exact ih)
  · intro hl d Q hd hQ
    have key : ∀ m k : Nat, k + m = p + 1 → (∀ i, i < k → g (20 + 6 * c) i ≠ -1) → Wp X d SH 29 2 [(2, 20 + 6 * (c : Int)), (0, (p : Int)), (0, (k : Int))] [] SH (fl g) Q := by
      intro m
      induction m with
      | zero => intro k hk hpre; exact absurd (fun i hi => hpre i (by omega)) hl
      | succ m ih =>
        intro k hk hpre
        have e2 : ((k : Int)).toNat = k := by omega
        have e10 : ((k + 1 : Nat) : Int) = (k : Int) + 1 := by omega
        by_cases hz : g (20 + 6 * c) k = -1
        · skip
          apply s_29_2
          try simp only [cm_o, cl_1, cm_1, cn_1, ca_1, cz_1, hc, e2, true_and, and_true, true_or, or_true, implies_true, b10_0, b10_1]
          repeat' (first | refine And.intro ?_ ?_ | intro _)
          all_goals (try (first | omega | (unfold r32; omega) | exact hQ | exact qe hQ (by omega) | exact qe hQ (by (repeat' split) <;> omega) | exact b01 | exact n01 | exact n21 | exact n31 | exact absurd trivial (by assumption)))
        · have nx := ih (k + 1) (by omega) (fun i hi => by
            by_cases hik : i = k
            · subst hik; exact hz
            · exact hpre i (by omega))
          rw [e10] at nx
          apply s_29_2
          try simp only [cm_o, cl_1, cm_1, cn_1, ca_1, cz_1, hc, e2, true_and, and_true, true_or, or_true, implies_true, b10_0, b10_1]
          repeat' (first | refine And.intro ?_ ?_ | intro _)
          all_goals (try (first | omega | (unfold r32; omega) | exact hQ | exact qe hQ (by omega) | exact qe hQ (by (repeat' split) <;> omega) | exact b01 | exact n01 | exact n21 | exact n31 | exact absurd trivial (by assumption)))
          all_goals (try exact nx)
    apply s_29_0
    try simp only [cm_o, cl_1, cm_1, cn_1, ca_1, cz_1, true_and, and_true, true_or, or_true, implies_true, b10_0, b10_1]
    repeat' (first | refine And.intro ?_ ?_ | intro _)
    all_goals (try (first | omega | (unfold r32; omega) | exact hQ | exact qe hQ (by omega) | exact qe hQ (by (repeat' split) <;> omega) | exact b01 | exact n01 | exact n21 | exact n31 | exact absurd trivial (by assumption)))
    exact key (p + 1) 0 (by omega) (fun i hi => absurd hi (by omega))
theorem c30 (X : mX) {G g : mF} {c p : Nat} {t : Int} (hc : c < 4) (hp : p < 36) (hA : Agree G g) (hG : Gair G) (hD : g 5 2 = -1) (ht : 0 ≤ t ∧ t ≤ 6000) (hpw : ∀ i, i ≤ p → 0 ≤ G (20 + 6 * c) i ∧ G (20 + 6 * c) i ≤ 7) : Rel X 2 30 [(2, 20 + 6 * (c : Int)), (0, (p : Int)), (0, t), (2, 6), (2, 56), (3, 0), (3, 0)] g (fun ro h => ro = some (0, wlk G (G (20 + 6 * c)) t (p + 1)) ∧ (∀ o k, o ≠ 55 → h o k = g o k) ∧ ∀ i, i ≤ p → h 55 i = wlk G (G (20 + 6 * c)) t i) := by
  intro d Q hd hQ
  have key := lup (P := fun k => ∀ h : mF, (∀ o k, o ≠ 55 → h o k = g o k) → (∀ i, i < k → h 55 i = wlk G (G (20 + 6 * c)) t i) → Wp X d SH 30 6 [(2, 20 + 6 * (c : Int)), (0, (p : Int)), (0, t), (2, 6), (2, 56), (0, wlk G (G (20 + 6 * c)) t k), (0, (k : Int))] [] SH (fl h) Q) (p + 1) ?_ ?_ 0 (by omega)
  · skip
    apply s_30_0
    try simp only [cm_o, cl_1, cm_1, cn_1, ca_1, cz_1, mi_6, true_and, and_true, true_or, or_true, implies_true, b10_0, b10_1]
    repeat' (first | refine And.intro ?_ ?_ | intro _)
    all_goals (try (first | omega | (unfold r32; omega) | exact hQ | exact qe hQ (by omega) | exact qe hQ (by (repeat' split) <;> omega) | exact b01 | exact n01 | exact n21 | exact n31 | exact absurd trivial (by assumption)))
    exact key g (fun _ _ _ => rfl) (fun i hi => absurd hi (by omega))
  · intro h hF hv
    have hq := hQ _ h ⟨rfl, hF, fun i hi => hv i (by omega)⟩
    apply s_30_6
    try simp only [cm_o, cl_1, cm_1, cn_1, ca_1, cz_1, mi_6, true_and, and_true, true_or, or_true, implies_true, b10_0, b10_1]
    repeat' (first | refine And.intro ?_ ?_ | intro _)
    all_goals (try (first | omega | (unfold r32; omega) | exact hQ | exact qe hQ (by omega) | exact qe hQ (by (repeat' split) <;> omega) | exact b01 | exact n01 | exact n21 | exact n31 | exact absurd trivial (by assumption)))
    all_goals (try exact hq)
  · intro k hk ih h hF hv
    have e2 : ((k : Int)).toNat = k := by omega
    have e10 : ((k + 1 : Nat) : Int) = (k : Int) + 1 := by omega
    have hwb := wlk_b (G := G) (pw := G (20 + 6 * c)) (t := t) hG ht.1 k (fun i hi => hpw i (by omega))
    have hpk := hpw k (by omega)
    generalize hh1 : mup h 55 k (wlk G (G (20 + 6 * c)) t k) = h1
    have hF1 : ∀ o k, o ≠ 55 → h1 o k = g o k := fun o i ho => by rw [← hh1, mup_n (by omega)]; exact hF o i ho
    have nx := ih h1 hF1 (fun i hi => by
      by_cases hik : i = k
      · subst hik; rw [← hh1, mup_e]
      · rw [← hh1, mup_n (by omega)]; exact hv i (by omega))
    have hA1 : Agree G h1 := fun o i ho => by
      have ho2 := ho
      unfold InpS at ho2
      rw [hF1 o i (by omega)]; exact hA o i ho
    have c2' := c2 X (D := -1) (p := G (20 + 6 * c) k) (t := wlk G (G (20 + 6 * c)) t k) hA1 hG (by rw [hF1 _ _ (by omega)]; exact hD) (by omega) hpk (by omega)
    have f20 : h1 (20 + 6 * c) k = G (20 + 6 * c) k := hA1 _ _ (by unfold InpS; omega)
    have hbt := btk_b (D := -1) (t := wlk G (G (20 + 6 * c)) t k) hG hpk (by omega) (by omega)
    simp only [e10, wlk] at nx
    have m55 : mis SH 56 10 := mi_56
    have l55 : mln SH 56 = 36 := ml_56
    apply s_30_6
    try simp only [cm_o, cl_1, cm_1, cn_1, ca_1, cz_1, mi_6, m55, l55, e2, up_56, hh1, true_and, and_true, true_or, or_true, implies_true, b10_0, b10_1]
    repeat' (first | refine And.intro ?_ ?_ | intro _)
    all_goals (try (first | omega | (unfold r32; omega) | exact hQ | exact qe hQ (by omega) | exact qe hQ (by (repeat' split) <;> omega) | exact b01 | exact n01 | exact n21 | exact n31 | exact absurd trivial (by assumption)))
    apply s_30_19
    try simp only [cm_o, cl_1, cm_1, cn_1, ca_1, cz_1, mi_6, hc, e2, f20, true_and, and_true, true_or, or_true, implies_true, b10_0, b10_1]
    repeat' (first | refine And.intro ?_ ?_ | intro _)
    all_goals (try (first | omega | (unfold r32; omega) | exact hQ | exact qe hQ (by omega) | exact qe hQ (by (repeat' split) <;> omega) | exact b01 | exact n01 | exact n21 | exact n31 | exact absurd trivial (by assumption)))
    refine c2' _ _ (by omega) ?_
    apply s_30_34
    try simp only [cm_o, cl_1, cm_1, cn_1, ca_1, cz_1, mi_6, true_and, and_true, true_or, or_true, implies_true, b10_0, b10_1]
    repeat' (first | refine And.intro ?_ ?_ | intro _)
    all_goals (try (first | omega | (unfold r32; omega) | exact hQ | exact qe hQ (by omega) | exact qe hQ (by (repeat' split) <;> omega) | exact b01 | exact n01 | exact n21 | exact n31 | exact absurd trivial (by assumption)))
    all_goals (try exact nx)
theorem c211 (X : mX) {G g : mF} {c p : Nat} {a t w : Int} (hc : c < 4) (hp : p < 36) (hA : MAg (-1) G g) (hG : Gair G) (hpn : (p : Int) < G (19 + 6 * c) 0) (ha : 0 ≤ a ∧ a ≤ 6000) {bc bl he : Nat → Int} {nb nh : Int} (f24 : g 86 24 = nb) (f38 : g 86 38 = nh) (hb : 0 ≤ nb ∧ nb ≤ 12) (hB : ∀ j : Nat, (j : Int) < nb → g 107 j = bc j ∧ g 108 j = bl j ∧ 0 ≤ bc j ∧ bc j ≤ 3 ∧ 0 ≤ bl j ∧ bl j ≤ 35) (hh : 0 ≤ nh ∧ nh ≤ 24) (hH : ∀ j : Nat, (j : Int) < nh → g 117 j = he j ∧ 0 ≤ he j ∧ he j ≤ 20000) (hpw : ∀ i, i ≤ p → 0 ≤ G (20 + 6 * c) i ∧ G (20 + 6 * c) i ≤ 7) : Ret X 3 211 [(2, 87), (0, (c : Int)), (0, (p : Int)), (0, a), (0, t), (0, w), (3, 0), (3, 0), (3, 0)] g (some (0, rsF G (G (20 + 6 * c)) bc bl he nb nh w t c p a)) g := by
  intro d Q hd hQ
  have fail : (¬ OKP bc bl he nb nh w c p (wlk G (G (20 + 6 * c)) a)) → Q (some (0, -1)) (fl g) := by
    intro hn
    rw [rsF_n (fun z => hn z.2)] at hQ
    exact hQ
  have key : ∀ m i : Nat, i + m = p + 1 → (∀ k : Nat, (k : Int) < nb → bc k = (c : Int) → bl k < (i : Int) → HP he nh w (wlk G (G (20 + 6 * c)) a (bl k).toNat)) → ∀ v8, Wp X d SH 211 6 [(2, 87), (0, (c : Int)), (0, (p : Int)), (0, a), (0, t), (0, w), (0, wlk G (G (20 + 6 * c)) a i), (0, (i : Int)), v8] [] SH (fl g) Q := by
    intro m
    induction m with
    | zero =>
      intro i hi hpre v8
      have hip : i = p + 1 := by omega
      subst hip
      have hok : OKP bc bl he nb nh w c p (wlk G (G (20 + 6 * c)) a) := fun k h1 h2 h3 => hpre k h1 h2 (by omega)
      by_cases hlt : wlk G (G (20 + 6 * c)) a (p + 1) ≤ t
      · rw [rsF_y ⟨hlt, hok⟩] at hQ
        apply s_211_6
        try simp only [mi_87, fl_87_24, up_87_24, fl_87_25, mi_108, ml_108, fl_108, up_108, fl_87_26, mi_109, ml_109, fl_109, up_109, fl_87_17, mi_103, ml_103, fl_103, up_103, true_and, and_true, true_or, or_true, implies_true, b10_0, b10_1]
        repeat' (first | refine And.intro ?_ ?_ | intro _)
        all_goals (try (first | omega | (unfold r32; omega) | exact hQ | exact qe hQ (by omega) | exact qe hQ (by (repeat' split) <;> omega) | exact b01 | exact n01 | exact n21 | exact n31 | exact absurd trivial (by assumption)))
      · rw [rsF_n (fun z => hlt z.1)] at hQ
        apply s_211_6
        try simp only [mi_87, fl_87_24, up_87_24, fl_87_25, mi_108, ml_108, fl_108, up_108, fl_87_26, mi_109, ml_109, fl_109, up_109, fl_87_17, mi_103, ml_103, fl_103, up_103, true_and, and_true, true_or, or_true, implies_true, b10_0, b10_1]
        repeat' (first | refine And.intro ?_ ?_ | intro _)
        all_goals (try (first | omega | (unfold r32; omega) | exact hQ | exact qe hQ (by omega) | exact qe hQ (by (repeat' split) <;> omega) | exact b01 | exact n01 | exact n21 | exact n31 | exact absurd trivial (by assumption)))
    | succ m ih =>
      intro i hi hpre v8
      have ei : ((i : Int)).toNat = i := by omega
      have eci : (36 * (c : Int) + (i : Int)).toNat = 36 * c + i := by omega
      have e11 : ((i + 1 : Nat) : Int) = (i : Int) + 1 := by omega
      have hwb := wlk_b (G := G) (pw := G (20 + 6 * c)) (t := a) hG ha.1 i (fun k hk => hpw k (by omega))
      have hpi := hpw i (by omega)
      have f102 : g 102 (36 * c + i) = G (20 + 6 * c) i := ((hA.2.2.2.1 c hc).2.2.2.1 i (by omega)).1
      have hbt := btk_b (D := -1) (t := wlk G (G (20 + 6 * c)) a i) hG hpi (by omega) (by omega)
      have inner : ∀ m k : Nat, (k : Int) + m = nb → (∀ k' : Nat, k' < k → bc k' = (c : Int) → bl k' = (i : Int) → HP he nh w (wlk G (G (20 + 6 * c)) a i)) → Wp X d SH 211 15 [(2, 87), (0, (c : Int)), (0, (p : Int)), (0, a), (0, t), (0, w), (0, wlk G (G (20 + 6 * c)) a i), (0, (i : Int)), (0, (k : Int))] [] SH (fl g) Q := by
        intro m2
        induction m2 with
        | zero =>
          intro k hk hpre2
          have nx := ih (i + 1) (by omega) (fun k' h1 h2 h3 => by
            by_cases hbl : bl k' = (i : Int)
            · rw [hbl, ei]
              exact hpre2 k' (by omega) h2 hbl
            · exact hpre k' h1 h2 (by omega))
          have c184' := c184 X (p := G (20 + 6 * c) i) (t := wlk G (G (20 + 6 * c)) a i) hA hG (by omega) hpi (by omega)
          simp only [e11, wlk] at nx
          apply s_211_15
          try simp only [mi_87, fl_87_24, up_87_24, fl_87_25, mi_108, ml_108, fl_108, up_108, fl_87_26, mi_109, ml_109, fl_109, up_109, fl_87_17, mi_103, ml_103, fl_103, up_103, f24, eci, f102, true_and, and_true, true_or, or_true, implies_true, b10_0, b10_1]
          repeat' (first | refine And.intro ?_ ?_ | intro _)
          all_goals (try (first | omega | (unfold r32; omega) | exact hQ | exact qe hQ (by omega) | exact qe hQ (by (repeat' split) <;> omega) | exact b01 | exact n01 | exact n21 | exact n31 | exact absurd trivial (by assumption)))
          refine c184' _ _ (by omega) ?_
          apply s_211_86
          try simp only [mi_87, fl_87_24, up_87_24, fl_87_25, mi_108, ml_108, fl_108, up_108, fl_87_26, mi_109, ml_109, fl_109, up_109, fl_87_17, mi_103, ml_103, fl_103, up_103, true_and, and_true, true_or, or_true, implies_true, b10_0, b10_1]
          repeat' (first | refine And.intro ?_ ?_ | intro _)
          all_goals (try (first | omega | (unfold r32; omega) | exact hQ | exact qe hQ (by omega) | exact qe hQ (by (repeat' split) <;> omega) | exact b01 | exact n01 | exact n21 | exact n31 | exact absurd trivial (by assumption)))
          all_goals (try exact nx _)
        | succ m2 ih2 =>
          intro k hk hpre2
          have ek : ((k : Int)).toNat = k := by omega
          have e10 : ((k + 1 : Nat) : Int) = (k : Int) + 1 := by omega
          obtain ⟨q0, q1, q2, q3, q4, q5⟩ := hB k (by omega)
          have hor := c210 X (g := g) (he := he) (H := nh) (t := wlk G (G (20 + 6 * c)) a i) (w := w) (by omega) f38 hh hH
          by_cases hz : bc k = (c : Int) → bl k = (i : Int) → HP he nh w (wlk G (G (20 + 6 * c)) a i)
          · have nx := ih2 (k + 1) (by omega) (fun k' h1 h2 h3 => by
              by_cases hkk : k' = k
              · subst hkk; exact hz h2 h3
              · exact hpre2 k' (by omega) h2 h3)
            rw [e10] at nx
            apply s_211_15
            try simp only [mi_87, fl_87_24, up_87_24, fl_87_25, mi_108, ml_108, fl_108, up_108, fl_87_26, mi_109, ml_109, fl_109, up_109, fl_87_17, mi_103, ml_103, fl_103, up_103, f24, ek, q0, q1, true_and, and_true, true_or, or_true, implies_true, b10_0, b10_1]
            repeat' (first | refine And.intro ?_ ?_ | intro _)
            all_goals (try (first | omega | (unfold r32; omega) | exact hQ | exact qe hQ (by omega) | exact qe hQ (by (repeat' split) <;> omega) | exact b01 | exact n01 | exact n21 | exact n31 | exact absurd trivial (by assumption)))
            · skip
              apply s_211_60
              try simp only [mi_87, fl_87_24, up_87_24, fl_87_25, mi_108, ml_108, fl_108, up_108, fl_87_26, mi_109, ml_109, fl_109, up_109, fl_87_17, mi_103, ml_103, fl_103, up_103, true_and, and_true, true_or, or_true, implies_true, b10_0, b10_1]
              repeat' (first | refine And.intro ?_ ?_ | intro _)
              all_goals (try (first | omega | (unfold r32; omega) | exact hQ | exact qe hQ (by omega) | exact qe hQ (by (repeat' split) <;> omega) | exact b01 | exact n01 | exact n21 | exact n31 | exact absurd trivial (by assumption)))
              all_goals (try exact nx)
            · skip
              apply s_211_60
              try simp only [mi_87, fl_87_24, up_87_24, fl_87_25, mi_108, ml_108, fl_108, up_108, fl_87_26, mi_109, ml_109, fl_109, up_109, fl_87_17, mi_103, ml_103, fl_103, up_103, true_and, and_true, true_or, or_true, implies_true, b10_0, b10_1]
              repeat' (first | refine And.intro ?_ ?_ | intro _)
              all_goals (try (first | omega | (unfold r32; omega) | exact hQ | exact qe hQ (by omega) | exact qe hQ (by (repeat' split) <;> omega) | exact b01 | exact n01 | exact n21 | exact n31 | exact absurd trivial (by assumption)))
              all_goals (try exact nx)
            · refine hor.1 (hz (by omega) (by omega)) _ _ (by omega) ?_
              apply s_211_55
              try simp only [mi_87, fl_87_24, up_87_24, fl_87_25, mi_108, ml_108, fl_108, up_108, fl_87_26, mi_109, ml_109, fl_109, up_109, fl_87_17, mi_103, ml_103, fl_103, up_103, true_and, and_true, true_or, or_true, implies_true, b10_0, b10_1]
              repeat' (first | refine And.intro ?_ ?_ | intro _)
              all_goals (try (first | omega | (unfold r32; omega) | exact hQ | exact qe hQ (by omega) | exact qe hQ (by (repeat' split) <;> omega) | exact b01 | exact n01 | exact n21 | exact n31 | exact absurd trivial (by assumption)))
              apply s_211_60
              try simp only [mi_87, fl_87_24, up_87_24, fl_87_25, mi_108, ml_108, fl_108, up_108, fl_87_26, mi_109, ml_109, fl_109, up_109, fl_87_17, mi_103, ml_103, fl_103, up_103, true_and, and_true, true_or, or_true, implies_true, b10_0, b10_1]
              repeat' (first | refine And.intro ?_ ?_ | intro _)
              all_goals (try (first | omega | (unfold r32; omega) | exact hQ | exact qe hQ (by omega) | exact qe hQ (by (repeat' split) <;> omega) | exact b01 | exact n01 | exact n21 | exact n31 | exact absurd trivial (by assumption)))
              all_goals (try exact nx)
          · have h1 : bc k = (c : Int) := by
              by_cases q : bc k = (c : Int)
              · exact q
              · exact absurd (fun z => absurd z q) hz
            have h2 : bl k = (i : Int) := by
              by_cases q : bl k = (i : Int)
              · exact q
              · exact absurd (fun _ z => absurd z q) hz
            have h3 : ¬ HP he nh w (wlk G (G (20 + 6 * c)) a i) := fun z => hz (fun _ _ => z)
            have hf := fail (fun hok => h3 (by
              have z := hok k (by omega) h1 (by omega)
              rw [h2, ei] at z
              exact z))
            clear hz
            apply s_211_15
            try simp only [mi_87, fl_87_24, up_87_24, fl_87_25, mi_108, ml_108, fl_108, up_108, fl_87_26, mi_109, ml_109, fl_109, up_109, fl_87_17, mi_103, ml_103, fl_103, up_103, f24, ek, q0, q1, true_and, and_true, true_or, or_true, implies_true, b10_0, b10_1]
            repeat' (first | refine And.intro ?_ ?_ | intro _)
            all_goals (try (first | omega | (unfold r32; omega) | exact hQ | exact qe hQ (by omega) | exact qe hQ (by (repeat' split) <;> omega) | exact b01 | exact n01 | exact n21 | exact n31 | exact absurd trivial (by assumption)))
            refine hor.2 h3 _ _ (by omega) ?_
            apply s_211_55
            try simp only [mi_87, fl_87_24, up_87_24, fl_87_25, mi_108, ml_108, fl_108, up_108, fl_87_26, mi_109, ml_109, fl_109, up_109, fl_87_17, mi_103, ml_103, fl_103, up_103, true_and, and_true, true_or, or_true, implies_true, b10_0, b10_1]
            repeat' (first | refine And.intro ?_ ?_ | intro _)
            all_goals (try (first | omega | (unfold r32; omega) | exact hQ | exact qe hQ (by omega) | exact qe hQ (by (repeat' split) <;> omega) | exact b01 | exact n01 | exact n21 | exact n31 | exact absurd trivial (by assumption)))
            all_goals (try exact hf)
      have i0 := inner nb.toNat 0 (by omega) (fun k' hk' => absurd hk' (by omega))
      apply s_211_6
      try simp only [mi_87, fl_87_24, up_87_24, fl_87_25, mi_108, ml_108, fl_108, up_108, fl_87_26, mi_109, ml_109, fl_109, up_109, fl_87_17, mi_103, ml_103, fl_103, up_103, true_and, and_true, true_or, or_true, implies_true, b10_0, b10_1]
      repeat' (first | refine And.intro ?_ ?_ | intro _)
      all_goals (try (first | omega | (unfold r32; omega) | exact hQ | exact qe hQ (by omega) | exact qe hQ (by (repeat' split) <;> omega) | exact b01 | exact n01 | exact n21 | exact n31 | exact absurd trivial (by assumption)))
      all_goals (try exact i0)
  apply s_211_0
  try simp only [mi_87, fl_87_24, up_87_24, fl_87_25, mi_108, ml_108, fl_108, up_108, fl_87_26, mi_109, ml_109, fl_109, up_109, fl_87_17, mi_103, ml_103, fl_103, up_103, true_and, and_true, true_or, or_true, implies_true, b10_0, b10_1]
  repeat' (first | refine And.intro ?_ ?_ | intro _)
  all_goals (try (first | omega | (unfold r32; omega) | exact hQ | exact qe hQ (by omega) | exact qe hQ (by (repeat' split) <;> omega) | exact b01 | exact n01 | exact n21 | exact n31 | exact absurd trivial (by assumption)))
  exact key (p + 1) 0 (by omega) (fun k h1 h2 h3 => by have := hB k h1; omega) _
def gnF (r : Nat → Int) : Nat → Int × Int × Int
  | 0 => (-1, -1, 0)
  | j + 1 => if r j < 0 then gnF r j else (if (gnF r j).2.2 = 0 then r j else min (gnF r j).1 (r j), max (gnF r j).2.1 (r j), (gnF r j).2.2 + 1)
theorem gnF_b {r : Nat → Int} {M : Int} (hM : 0 ≤ M) (hr : ∀ j, -1 ≤ r j ∧ r j ≤ M) : ∀ j : Nat, (0 ≤ (gnF r j).2.2 ∧ (gnF r j).2.2 ≤ j) ∧ ((gnF r j).2.2 = 0 → (gnF r j).1 = -1 ∧ (gnF r j).2.1 = -1) ∧ ((gnF r j).2.2 ≠ 0 → 0 ≤ (gnF r j).1) ∧ -1 ≤ (gnF r j).1 ∧ (gnF r j).1 ≤ M ∧ -1 ≤ (gnF r j).2.1 ∧ (gnF r j).2.1 ≤ M := by
  intro j
  induction j with
  | zero =>
    show (0 ≤ (0 : Int) ∧ (0 : Int) ≤ ((0 : Nat) : Int)) ∧ ((0 : Int) = 0 → (-1 : Int) = -1 ∧ (-1 : Int) = -1) ∧ ((0 : Int) ≠ 0 → 0 ≤ (-1 : Int)) ∧ -1 ≤ (-1 : Int) ∧ (-1 : Int) ≤ M ∧ -1 ≤ (-1 : Int) ∧ (-1 : Int) ≤ M
    omega
  | succ j ih =>
    have z := hr j
    unfold gnF
    by_cases hz : r j < 0
    · rw [if_pos hz]; omega
    · rw [if_neg hz]
      simp only []
      split <;> omega
theorem T_gone (X : mX) (g : mF) (a1 p1 t a b w x : Int) (hb32 : r32 b) (ha32 : r32 a) (h : NI g) (hBl : Ibell g) (hH : Ihear g) : PR X 121 212 [(2, 1), (0, a1), (0, p1), (0, t), (0, a), (0, b), (0, w), (0, x), (3, 0), (3, 0), (3, 0), (3, 0), (3, 0), (3, 0)] [(2, 87), (0, a1), (0, p1), (0, t), (0, a), (0, b), (0, w), (0, x), (3, 0), (3, 0), (3, 0), (3, 0), (3, 0)] g (fun g2 => ∀ o k, o ≠ 55 → g2 o k = g o k) := by
  obtain ⟨i1, i2, i3, i4, i5⟩ := NI_in h
  obtain ⟨b1, b2, b3, b4⟩ := id hBl
  obtain ⟨n1, n2, n3, n4⟩ := id hH
  unfold r32 at hb32 ha32
  intro d Q hd hQ
  by_cases ha : 0 ≤ a1 ∧ a1 ≤ 3
  · obtain ⟨c, rfl⟩ : ∃ c : Nat, a1 = (c : Int) := ⟨a1.toNat, by omega⟩
    have hc : c < 4 := by omega
    obtain ⟨k1, k2, k3, k4, k5, k6, -⟩ := h.2.1 c hc
    have hb99 : 0 ≤ g 99 c ∧ g 99 c ≤ 36 := by omega
    by_cases hi : 0 ≤ p1 ∧ p1 < g (19 + 6 * c) 0
    · obtain ⟨p, rfl⟩ : ∃ p : Nat, p1 = (p : Int) := ⟨p1.toNat, by omega⟩
      have hp : p < 36 := by omega
      by_cases hr : (0 ≤ t ∧ t ≤ 5999) ∧ (0 ≤ a ∧ a ≤ 5999) ∧ (a ≤ b ∧ b ≤ 5999) ∧ b - a ≤ 300 ∧ (0 ≤ w ∧ w ≤ 60) ∧ (0 ≤ x ∧ x ≤ 2)
      · obtain ⟨ht, haa, hbb, hba, hw, hx⟩ := hr
        by_cases hl : ∀ i, i ≤ p → g (20 + 6 * c) i ≠ -1
        · have ep : inp g (20 + 6 * c) = g (20 + 6 * c) := funext (fun k => inp_e (by unfold InpS; omega))
          have hpw : ∀ i, i ≤ p → 0 ≤ inp g (20 + 6 * c) i ∧ inp g (20 + 6 * c) i ≤ 7 := fun i hi => by
            rw [ep]
            have := k5 i (by omega)
            have := hl i hi
            omega
          have epn : (p : Int) < inp g (19 + 6 * c) 0 := by rw [inp_e (by unfold InpS; omega)]; omega
          generalize hrf : (fun j : Nat => rsF (inp g) (inp g (20 + 6 * c)) (g 44) (g 45) (g 46) (g 43 0) (g 43 1) w t c p (a + (j : Int))) = rf
          have hrfj : ∀ j : Nat, rf j = rsF (inp g) (inp g (20 + 6 * c)) (g 44) (g 45) (g 46) (g 43 0) (g 43 1) w t c p (a + (j : Int)) := fun j => by rw [← hrf]
          have hrb : ∀ j, -1 ≤ rf j ∧ rf j ≤ 5999 := fun j => by
            rw [hrfj]
            by_cases hz : wlk (inp g) (inp g (20 + 6 * c)) (a + (j : Int)) (p + 1) ≤ t ∧ OKP (g 44) (g 45) (g 46) (g 43 0) (g 43 1) w c p (wlk (inp g) (inp g (20 + 6 * c)) (a + (j : Int)))
            · rw [rsF_y hz]
              have z := wlk_b (t := a + (j : Int)) (pw := inp g (20 + 6 * c)) i1.1 (by omega) (p + 1) (fun k hk => hpw k (by omega))
              omega
            · rw [rsF_n hz]; omega
          have gb := gnF_b (r := rf) (M := 5999) (by omega) hrb
          have fin : ∀ g1, (∀ o k, o ≠ 55 → g1 o k = g o k) → ∀ v, (v = if x = 0 then (gnF rf (b - a + 1).toNat).1 else if x = 1 then (gnF rf (b - a + 1).toNat).2.1 else (gnF rf (b - a + 1).toNat).2.2) → Q (some (0, v)) (fl g1) := by
            intro g1 hF v hv
            refine hQ _ g1 ⟨v, rfl, ?_⟩
            clear hQ
            intro d Q hd hQ
            have hq := hQ (some (0, v)) g1 ⟨rfl, hF⟩
            clear hQ
            have hA1 : MAg (-1) (inp g) g1 := (MAg_of (D := -1) h (fun o k ho => hF o k (by omega)) (by rw [hF _ _ (by omega)]; exact h.1.2.2.2)).1
            have c175' := c175 X g1 hc (p : Int) (by rw [hF _ _ (by omega)]; exact hb99)
            rw [hF 99 c (by omega)] at c175'
            have f102 : ∀ i, i ≤ p → g1 102 (36 * c + i) = g (20 + 6 * c) i := fun i hi => by rw [hF _ _ (by omega)]; exact k4 i (by omega)
            have loopA := lup (P := fun k => Wp X d SH 212 97 [(2, 87), (0, (c : Int)), (0, (p : Int)), (0, t), (0, a), (0, b), (0, w), (0, x), (0, (k : Int)), (3, 0), (3, 0), (3, 0), (3, 0)] [] SH (fl g1) Q) (p + 1) ?_ ?_ 0 (by omega)
            · skip
              apply s_212_0
              try simp only [mi_87, fl_87_17, mi_103, ml_103, fl_103, up_103, true_and, and_true, true_or, or_true, implies_true, b10_0, b10_1]
              repeat' (first | refine And.intro ?_ ?_ | intro _)
              all_goals (try (first | omega | (unfold r32; omega) | exact hQ | exact qe hQ (by omega) | exact qe hQ (by (repeat' split) <;> omega) | exact b01 | exact n01 | exact n21 | exact n31 | exact absurd trivial (by assumption)))
              refine c175' _ _ (by omega) ?_
              apply s_212_6
              try simp only [mi_87, fl_87_17, mi_103, ml_103, fl_103, up_103, true_and, and_true, true_or, or_true, implies_true, b10_0, b10_1]
              repeat' (first | refine And.intro ?_ ?_ | intro _)
              all_goals (try (first | omega | (unfold r32; omega) | exact hQ | exact qe hQ (by omega) | exact qe hQ (by (repeat' split) <;> omega) | exact b01 | exact n01 | exact n21 | exact n31 | exact absurd trivial (by assumption)))
              refine c144 X _ _ _ _ _ _ (by omega) ?_
              apply s_212_22
              try simp only [mi_87, fl_87_17, mi_103, ml_103, fl_103, up_103, true_and, and_true, true_or, or_true, implies_true, b10_0, b10_1]
              repeat' (first | refine And.intro ?_ ?_ | intro _)
              all_goals (try (first | omega | (unfold r32; omega) | exact hQ | exact qe hQ (by omega) | exact qe hQ (by (repeat' split) <;> omega) | exact b01 | exact n01 | exact n21 | exact n31 | exact absurd trivial (by assumption)))
              refine c144 X _ _ _ _ _ _ (by omega) ?_
              apply s_212_35
              try simp only [mi_87, fl_87_17, mi_103, ml_103, fl_103, up_103, true_and, and_true, true_or, or_true, implies_true, b10_0, b10_1]
              repeat' (first | refine And.intro ?_ ?_ | intro _)
              all_goals (try (first | omega | (unfold r32; omega) | exact hQ | exact qe hQ (by omega) | exact qe hQ (by (repeat' split) <;> omega) | exact b01 | exact n01 | exact n21 | exact n31 | exact absurd trivial (by assumption)))
              refine c144 X _ _ _ _ _ _ (by omega) ?_
              apply s_212_50
              try simp only [mi_87, fl_87_17, mi_103, ml_103, fl_103, up_103, true_and, and_true, true_or, or_true, implies_true, b10_0, b10_1]
              repeat' (first | refine And.intro ?_ ?_ | intro _)
              all_goals (try (first | omega | (unfold r32; omega) | exact hQ | exact qe hQ (by omega) | exact qe hQ (by (repeat' split) <;> omega) | exact b01 | exact n01 | exact n21 | exact n31 | exact absurd trivial (by assumption)))
              refine c144 X _ _ _ _ _ _ (by omega) ?_
              apply s_212_74
              try simp only [mi_87, fl_87_17, mi_103, ml_103, fl_103, up_103, true_and, and_true, true_or, or_true, implies_true, b10_0, b10_1]
              repeat' (first | refine And.intro ?_ ?_ | intro _)
              all_goals (try (first | omega | (unfold r32; omega) | exact hQ | exact qe hQ (by omega) | exact qe hQ (by (repeat' split) <;> omega) | exact b01 | exact n01 | exact n21 | exact n31 | exact absurd trivial (by assumption)))
              refine c144 X _ _ _ _ _ _ (by omega) ?_
              apply s_212_87
              try simp only [mi_87, fl_87_17, mi_103, ml_103, fl_103, up_103, true_and, and_true, true_or, or_true, implies_true, b10_0, b10_1]
              repeat' (first | refine And.intro ?_ ?_ | intro _)
              all_goals (try (first | omega | (unfold r32; omega) | exact hQ | exact qe hQ (by omega) | exact qe hQ (by (repeat' split) <;> omega) | exact b01 | exact n01 | exact n21 | exact n31 | exact absurd trivial (by assumption)))
              all_goals (try exact loopA)
            · have loopB := lup (P := fun j => ∀ v12, Wp X d SH 212 141 [(2, 87), (0, (c : Int)), (0, (p : Int)), (0, t), (0, a), (0, b), (0, w), (0, x), (0, (gnF rf j).1), (0, (gnF rf j).2.1), (0, (gnF rf j).2.2), (0, a + (j : Int)), v12] [] SH (fl g1) Q) (b - a + 1).toNat ?_ ?_ 0 (by omega)
              · have l0 := loopB (3, 0)
                simp only [gnF] at l0
                rw [show a + ((0 : Nat) : Int) = a by omega] at l0
                apply s_212_97
                try simp only [mi_87, fl_87_17, mi_103, ml_103, fl_103, up_103, true_and, and_true, true_or, or_true, implies_true, b10_0, b10_1]
                repeat' (first | refine And.intro ?_ ?_ | intro _)
                all_goals (try (first | omega | (unfold r32; omega) | exact hQ | exact qe hQ (by omega) | exact qe hQ (by (repeat' split) <;> omega) | exact b01 | exact n01 | exact n21 | exact n31 | exact absurd trivial (by assumption)))
                all_goals (try exact l0)
              · intro v12
                apply s_212_141
                try simp only [mi_87, fl_87_17, mi_103, ml_103, fl_103, up_103, true_and, and_true, true_or, or_true, implies_true, b10_0, b10_1]
                repeat' (first | refine And.intro ?_ ?_ | intro _)
                all_goals (try (first | omega | (unfold r32; omega) | exact hQ | exact qe hQ (by omega) | exact qe hQ (by (repeat' split) <;> omega) | exact b01 | exact n01 | exact n21 | exact n31 | exact absurd trivial (by assumption)))
                · rw [← show v = (gnF rf (b - a + 1).toNat).2.2 by rw [hv, if_neg (by assumption), if_neg (by assumption)]]
                  exact hq
                · rw [← show v = (gnF rf (b - a + 1).toNat).2.1 by rw [hv, if_neg (by assumption), if_pos (by omega)]]
                  exact hq
                · rw [← show v = (gnF rf (b - a + 1).toNat).1 by rw [hv, if_pos (by omega)]]
                  exact hq
              · intro j hj ih v12
                have e10 : a + ((j + 1 : Nat) : Int) = a + (j : Int) + 1 := by omega
                have c211' := c211 X (G := inp g) (g := g1) (c := c) (p := p) (a := a + (j : Int)) (t := t) (w := w) hc hp hA1 i1.1 epn (by omega) (bc := g 44) (bl := g 45) (he := g 46) (nb := g 43 0) (nh := g 43 1) (by rw [hF _ _ (by omega)]; exact b1) (by rw [hF _ _ (by omega)]; exact n1) ⟨b2, b3⟩ (fun j hj => by rw [hF _ _ (by omega), hF _ _ (by omega)]; exact b4 j hj) ⟨n2, n3⟩ (fun j hj => by rw [hF _ _ (by omega)]; exact n4 j hj) hpw
                rw [← hrfj] at c211'
                have gbj := gb j
                have hrbj := hrb j
                rw [e10] at ih
                unfold gnF at ih
                generalize hG1 : (gnF rf j).1 = g1' at *
                generalize hG2 : (gnF rf j).2.1 = g2' at *
                generalize hG3 : (gnF rf j).2.2 = g3' at *
                apply s_212_141
                try simp only [mi_87, fl_87_17, mi_103, ml_103, fl_103, up_103, true_and, and_true, true_or, or_true, implies_true, b10_0, b10_1]
                repeat' (first | refine And.intro ?_ ?_ | intro _)
                all_goals (try (first | omega | (unfold r32; omega) | exact hQ | exact qe hQ (by omega) | exact qe hQ (by (repeat' split) <;> omega) | exact b01 | exact n01 | exact n21 | exact n31 | exact absurd trivial (by assumption)))
                refine c211' _ _ (by omega) ?_
                by_cases hz : rf j < 0
                · rw [if_pos hz] at ih
                  simp only [hG1, hG2, hG3] at ih
                  apply s_212_159
                  try simp only [mi_87, fl_87_17, mi_103, ml_103, fl_103, up_103, true_and, and_true, true_or, or_true, implies_true, b10_0, b10_1]
                  repeat' (first | refine And.intro ?_ ?_ | intro _)
                  all_goals (try (first | omega | (unfold r32; omega) | exact hQ | exact qe hQ (by omega) | exact qe hQ (by (repeat' split) <;> omega) | exact b01 | exact n01 | exact n21 | exact n31 | exact absurd trivial (by assumption)))
                  apply s_212_206
                  try simp only [mi_87, fl_87_17, mi_103, ml_103, fl_103, up_103, true_and, and_true, true_or, or_true, implies_true, b10_0, b10_1]
                  repeat' (first | refine And.intro ?_ ?_ | intro _)
                  all_goals (try (first | omega | (unfold r32; omega) | exact hQ | exact qe hQ (by omega) | exact qe hQ (by (repeat' split) <;> omega) | exact b01 | exact n01 | exact n21 | exact n31 | exact absurd trivial (by assumption)))
                  all_goals (try exact ih _)
                · rw [if_neg hz] at ih
                  simp only [] at ih
                  have fin2 : ∀ y, (y = if g3' = 0 then rf j else min g1' (rf j)) → ∀ v8, Wp X d SH 212 185 [(2, 87), (0, (c : Int)), (0, (p : Int)), (0, t), (0, a), (0, b), (0, w), (0, x), v8, (0, g2'), (0, g3'), (0, a + (j : Int)), (0, rf j)] [(0, y)] SH (fl g1) Q := by
                    intro y hy v8
                    rw [← hy] at ih
                    apply s_212_185
                    try simp only [mi_87, fl_87_17, mi_103, ml_103, fl_103, up_103, true_and, and_true, true_or, or_true, implies_true, b10_0, b10_1]
                    repeat' (first | refine And.intro ?_ ?_ | intro _)
                    all_goals (try (first | omega | (unfold r32; omega) | exact hQ | exact qe hQ (by omega) | exact qe hQ (by (repeat' split) <;> omega) | exact b01 | exact n01 | exact n21 | exact n31 | exact absurd trivial (by assumption)))
                    · rw [show max g2' (rf j) = g2' by omega] at ih
                      apply s_212_201
                      try simp only [mi_87, fl_87_17, mi_103, ml_103, fl_103, up_103, true_and, and_true, true_or, or_true, implies_true, b10_0, b10_1]
                      repeat' (first | refine And.intro ?_ ?_ | intro _)
                      all_goals (try (first | omega | (unfold r32; omega) | exact hQ | exact qe hQ (by omega) | exact qe hQ (by (repeat' split) <;> omega) | exact b01 | exact n01 | exact n21 | exact n31 | exact absurd trivial (by assumption)))
                      apply s_212_206
                      try simp only [mi_87, fl_87_17, mi_103, ml_103, fl_103, up_103, true_and, and_true, true_or, or_true, implies_true, b10_0, b10_1]
                      repeat' (first | refine And.intro ?_ ?_ | intro _)
                      all_goals (try (first | omega | (unfold r32; omega) | exact hQ | exact qe hQ (by omega) | exact qe hQ (by (repeat' split) <;> omega) | exact b01 | exact n01 | exact n21 | exact n31 | exact absurd trivial (by assumption)))
                      all_goals (try exact ih _)
                    · rw [show max g2' (rf j) = rf j by omega] at ih
                      apply s_212_201
                      try simp only [mi_87, fl_87_17, mi_103, ml_103, fl_103, up_103, true_and, and_true, true_or, or_true, implies_true, b10_0, b10_1]
                      repeat' (first | refine And.intro ?_ ?_ | intro _)
                      all_goals (try (first | omega | (unfold r32; omega) | exact hQ | exact qe hQ (by omega) | exact qe hQ (by (repeat' split) <;> omega) | exact b01 | exact n01 | exact n21 | exact n31 | exact absurd trivial (by assumption)))
                      apply s_212_206
                      try simp only [mi_87, fl_87_17, mi_103, ml_103, fl_103, up_103, true_and, and_true, true_or, or_true, implies_true, b10_0, b10_1]
                      repeat' (first | refine And.intro ?_ ?_ | intro _)
                      all_goals (try (first | omega | (unfold r32; omega) | exact hQ | exact qe hQ (by omega) | exact qe hQ (by (repeat' split) <;> omega) | exact b01 | exact n01 | exact n21 | exact n31 | exact absurd trivial (by assumption)))
                      all_goals (try exact ih _)
                  apply s_212_159
                  try simp only [mi_87, fl_87_17, mi_103, ml_103, fl_103, up_103, true_and, and_true, true_or, or_true, implies_true, b10_0, b10_1]
                  repeat' (first | refine And.intro ?_ ?_ | intro _)
                  all_goals (try (first | omega | (unfold r32; omega) | exact hQ | exact qe hQ (by omega) | exact qe hQ (by (repeat' split) <;> omega) | exact b01 | exact n01 | exact n21 | exact n31 | exact absurd trivial (by assumption)))
                  · skip
                    apply s_212_178
                    try simp only [mi_87, fl_87_17, mi_103, ml_103, fl_103, up_103, true_and, and_true, true_or, or_true, implies_true, b10_0, b10_1]
                    repeat' (first | refine And.intro ?_ ?_ | intro _)
                    all_goals (try (first | omega | (unfold r32; omega) | exact hQ | exact qe hQ (by omega) | exact qe hQ (by (repeat' split) <;> omega) | exact b01 | exact n01 | exact n21 | exact n31 | exact absurd trivial (by assumption)))
                    exact fin2 _ (by split <;> omega) _
                  · exact fin2 _ (by split <;> omega) _
                  · skip
                    apply s_212_178
                    try simp only [mi_87, fl_87_17, mi_103, ml_103, fl_103, up_103, true_and, and_true, true_or, or_true, implies_true, b10_0, b10_1]
                    repeat' (first | refine And.intro ?_ ?_ | intro _)
                    all_goals (try (first | omega | (unfold r32; omega) | exact hQ | exact qe hQ (by omega) | exact qe hQ (by (repeat' split) <;> omega) | exact b01 | exact n01 | exact n21 | exact n31 | exact absurd trivial (by assumption)))
                    exact fin2 _ (by split <;> omega) _
            · intro k hk ih
              have eck : (36 * (c : Int) + (k : Int)).toNat = 36 * c + k := by omega
              have e10 : ((k + 1 : Nat) : Int) = (k : Int) + 1 := by omega
              have fk := f102 k (by omega)
              have hlk := hl k (by omega)
              have hk5 := k5 k (by omega)
              rw [e10] at ih
              apply s_212_97
              try simp only [mi_87, fl_87_17, mi_103, ml_103, fl_103, up_103, eck, fk, true_and, and_true, true_or, or_true, implies_true, b10_0, b10_1]
              repeat' (first | refine And.intro ?_ ?_ | intro _)
              all_goals (try (first | omega | (unfold r32; omega) | exact hQ | exact qe hQ (by omega) | exact qe hQ (by (repeat' split) <;> omega) | exact b01 | exact n01 | exact n21 | exact n31 | exact absurd trivial (by assumption)))
              all_goals (try exact ih)
          have c29' := (c29 X g hc hp).1 hl
          have loop := lup (P := fun j => ∀ h1 : mF, (∀ o k, o ≠ 55 → h1 o k = g o k) → ∀ v13, Wp X d SH 121 117 [(2, 1), (0, (c : Int)), (0, (p : Int)), (0, t), (0, a), (0, b), (0, w), (0, x), (2, 20 + 6 * (c : Int)), (0, (gnF rf j).1), (0, (gnF rf j).2.1), (0, (gnF rf j).2.2), (0, a + (j : Int)), v13] [] SH (fl h1) Q) (b - a + 1).toNat ?_ ?_ 0 (by omega)
          · have l0 := loop g (fun _ _ _ => rfl) (3, 0)
            simp only [gnF] at l0
            rw [show a + ((0 : Nat) : Int) = a by omega] at l0
            apply s_121_0
            try simp only [mi_1, fl_1_4, mi_12, cm_o, fl_1_2, mi_6, fl_1_9, mi_56, ml_56, fl_56, up_56, fl_1_5, mi_44, true_and, and_true, true_or, or_true, implies_true, b10_0, b10_1]
            repeat' (first | refine And.intro ?_ ?_ | intro _)
            all_goals (try (first | omega | (unfold r32; omega) | exact hQ | exact qe hQ (by omega) | exact qe hQ (by (repeat' split) <;> omega) | exact b01 | exact n01 | exact n21 | exact n31 | exact absurd trivial (by assumption)))
            refine c32 X g hc _ _ (by omega) ?_
            apply s_121_8
            try simp only [mi_1, fl_1_4, mi_12, cm_o, fl_1_2, mi_6, fl_1_9, mi_56, ml_56, fl_56, up_56, fl_1_5, mi_44, hc, true_and, and_true, true_or, or_true, implies_true, b10_0, b10_1]
            repeat' (first | refine And.intro ?_ ?_ | intro _)
            all_goals (try (first | omega | (unfold r32; omega) | exact hQ | exact qe hQ (by omega) | exact qe hQ (by (repeat' split) <;> omega) | exact b01 | exact n01 | exact n21 | exact n31 | exact absurd trivial (by assumption)))
            refine c14 X g hc _ _ _ (by omega) ?_
            apply s_121_21
            try simp only [mi_1, fl_1_4, mi_12, cm_o, fl_1_2, mi_6, fl_1_9, mi_56, ml_56, fl_56, up_56, fl_1_5, mi_44, true_and, and_true, true_or, or_true, implies_true, b10_0, b10_1]
            repeat' (first | refine And.intro ?_ ?_ | intro _)
            all_goals (try (first | omega | (unfold r32; omega) | exact hQ | exact qe hQ (by omega) | exact qe hQ (by (repeat' split) <;> omega) | exact b01 | exact n01 | exact n21 | exact n31 | exact absurd trivial (by assumption)))
            refine c133 X _ _ _ _ (by omega) ?_
            apply s_121_32
            try simp only [mi_1, fl_1_4, mi_12, cm_o, fl_1_2, mi_6, fl_1_9, mi_56, ml_56, fl_56, up_56, fl_1_5, mi_44, true_and, and_true, true_or, or_true, implies_true, b10_0, b10_1]
            repeat' (first | refine And.intro ?_ ?_ | intro _)
            all_goals (try (first | omega | (unfold r32; omega) | exact hQ | exact qe hQ (by omega) | exact qe hQ (by (repeat' split) <;> omega) | exact b01 | exact n01 | exact n21 | exact n31 | exact absurd trivial (by assumption)))
            refine c133 X _ _ _ _ (by omega) ?_
            apply s_121_40
            try simp only [mi_1, fl_1_4, mi_12, cm_o, fl_1_2, mi_6, fl_1_9, mi_56, ml_56, fl_56, up_56, fl_1_5, mi_44, true_and, and_true, true_or, or_true, implies_true, b10_0, b10_1]
            repeat' (first | refine And.intro ?_ ?_ | intro _)
            all_goals (try (first | omega | (unfold r32; omega) | exact hQ | exact qe hQ (by omega) | exact qe hQ (by (repeat' split) <;> omega) | exact b01 | exact n01 | exact n21 | exact n31 | exact absurd trivial (by assumption)))
            refine c133 X _ _ _ _ (by omega) ?_
            apply s_121_48
            try simp only [mi_1, fl_1_4, mi_12, cm_o, fl_1_2, mi_6, fl_1_9, mi_56, ml_56, fl_56, up_56, fl_1_5, mi_44, true_and, and_true, true_or, or_true, implies_true, b10_0, b10_1]
            repeat' (first | refine And.intro ?_ ?_ | intro _)
            all_goals (try (first | omega | (unfold r32; omega) | exact hQ | exact qe hQ (by omega) | exact qe hQ (by (repeat' split) <;> omega) | exact b01 | exact n01 | exact n21 | exact n31 | exact absurd trivial (by assumption)))
            refine c130 X _ _ _ _ _ _ (by omega) ?_
            apply s_121_63
            try simp only [mi_1, fl_1_4, mi_12, cm_o, fl_1_2, mi_6, fl_1_9, mi_56, ml_56, fl_56, up_56, fl_1_5, mi_44, true_and, and_true, true_or, or_true, implies_true, b10_0, b10_1]
            repeat' (first | refine And.intro ?_ ?_ | intro _)
            all_goals (try (first | omega | (unfold r32; omega) | exact hQ | exact qe hQ (by omega) | exact qe hQ (by (repeat' split) <;> omega) | exact b01 | exact n01 | exact n21 | exact n31 | exact absurd trivial (by assumption)))
            refine c130 X _ _ _ _ _ _ (by omega) ?_
            apply s_121_74
            try simp only [mi_1, fl_1_4, mi_12, cm_o, fl_1_2, mi_6, fl_1_9, mi_56, ml_56, fl_56, up_56, fl_1_5, mi_44, true_and, and_true, true_or, or_true, implies_true, b10_0, b10_1]
            repeat' (first | refine And.intro ?_ ?_ | intro _)
            all_goals (try (first | omega | (unfold r32; omega) | exact hQ | exact qe hQ (by omega) | exact qe hQ (by (repeat' split) <;> omega) | exact b01 | exact n01 | exact n21 | exact n31 | exact absurd trivial (by assumption)))
            refine c130 X _ _ _ _ _ _ (by omega) ?_
            apply s_121_84
            try simp only [mi_1, fl_1_4, mi_12, cm_o, fl_1_2, mi_6, fl_1_9, mi_56, ml_56, fl_56, up_56, fl_1_5, mi_44, hc, true_and, and_true, true_or, or_true, implies_true, b10_0, b10_1]
            repeat' (first | refine And.intro ?_ ?_ | intro _)
            all_goals (try (first | omega | (unfold r32; omega) | exact hQ | exact qe hQ (by omega) | exact qe hQ (by (repeat' split) <;> omega) | exact b01 | exact n01 | exact n21 | exact n31 | exact absurd trivial (by assumption)))
            refine c29' _ _ (by omega) ?_
            apply s_121_97
            try simp only [mi_1, fl_1_4, mi_12, cm_o, fl_1_2, mi_6, fl_1_9, mi_56, ml_56, fl_56, up_56, fl_1_5, mi_44, true_and, and_true, true_or, or_true, implies_true, b10_0, b10_1]
            repeat' (first | refine And.intro ?_ ?_ | intro _)
            all_goals (try (first | omega | (unfold r32; omega) | exact hQ | exact qe hQ (by omega) | exact qe hQ (by (repeat' split) <;> omega) | exact b01 | exact n01 | exact n21 | exact n31 | exact absurd trivial (by assumption)))
            all_goals (try exact l0)
          · intro h1 hF1 v13
            apply s_121_117
            try simp only [mi_1, fl_1_4, mi_12, cm_o, fl_1_2, mi_6, fl_1_9, mi_56, ml_56, fl_56, up_56, fl_1_5, mi_44, true_and, and_true, true_or, or_true, implies_true, b10_0, b10_1]
            repeat' (first | refine And.intro ?_ ?_ | intro _)
            all_goals (try (first | omega | (unfold r32; omega) | exact hQ | exact qe hQ (by omega) | exact qe hQ (by (repeat' split) <;> omega) | exact b01 | exact n01 | exact n21 | exact n31 | exact absurd trivial (by assumption)))
            · exact fin h1 hF1 _ (by rw [if_neg (by assumption), if_neg (by assumption)])
            · exact fin h1 hF1 _ (by rw [if_neg (by assumption), if_pos (by omega)])
            · exact fin h1 hF1 _ (by rw [if_pos (by omega)])
          · intro j hj ih h1 hF1 v13
            have e10 : a + ((j + 1 : Nat) : Int) = a + (j : Int) + 1 := by omega
            have hA1 : Agree (inp g) h1 := fun o k ho => by
              have ho2 := ho
              unfold InpS at ho2
              rw [hF1 _ _ (by omega), inp_e ho]
            have c30' := c30 X (g := h1) (t := a + (j : Int)) hc hp hA1 i1.1 (by rw [hF1 _ _ (by omega)]; exact h.1.2.2.1) (by omega) hpw
            have gbj := gb j
            have hrbj := hrb j
            have hrj := hrfj j
            rw [e10] at ih
            unfold gnF at ih
            have hwkb : ∀ i, i ≤ p + 1 → a + (j : Int) ≤ wlk (inp g) (inp g (20 + 6 * c)) (a + (j : Int)) i ∧ wlk (inp g) (inp g (20 + 6 * c)) (a + (j : Int)) i ≤ 20000 := fun i hi => by
              have z := wlk_b (t := a + (j : Int)) (pw := inp g (20 + 6 * c)) i1.1 (by omega) i (fun k hk => hpw k (by omega))
              omega
            have hw1 := hwkb (p + 1) (Nat.le_refl _)
            generalize hG1 : (gnF rf j).1 = g1' at *
            generalize hG2 : (gnF rf j).2.1 = g2' at *
            generalize hG3 : (gnF rf j).2.2 = g3' at *
            apply s_121_117
            try simp only [mi_1, fl_1_4, mi_12, cm_o, fl_1_2, mi_6, fl_1_9, mi_56, ml_56, fl_56, up_56, fl_1_5, mi_44, hc, true_and, and_true, true_or, or_true, implies_true, b10_0, b10_1]
            repeat' (first | refine And.intro ?_ ?_ | intro _)
            all_goals (try (first | omega | (unfold r32; omega) | exact hQ | exact qe hQ (by omega) | exact qe hQ (by (repeat' split) <;> omega) | exact b01 | exact n01 | exact n21 | exact n31 | exact absurd trivial (by assumption)))
            refine c30' _ _ (by omega) ?_
            rintro _ h2 ⟨rfl, hF2, hv2⟩
            have hFF : ∀ o k, o ≠ 55 → h2 o k = g o k := fun o k ho => by rw [hF2 o k ho, hF1 o k ho]
            have ih2 := ih h2 hFF
            have c11' := c11 X (g := h2) (c := c) (p := p) (w := w) (tk := wlk (inp g) (inp g (20 + 6 * c)) (a + (j : Int))) hp (by rw [hFF _ _ (by omega)]; exact ⟨b2, b3⟩) (fun j hj => by
              rw [hFF _ _ (by omega)] at hj
              rw [hFF _ _ (by omega), hFF _ _ (by omega)]
              exact (b4 j hj).2.2) (by rw [hFF _ _ (by omega)]; exact ⟨n2, n3⟩) (fun j hj => by
              rw [hFF _ _ (by omega)] at hj
              rw [hFF _ _ (by omega)]
              exact (n4 j hj).2) (fun i hi => ⟨hv2 i hi, by have := hwkb i (by omega); omega⟩)
            rw [show h2 44 = g 44 from funext (fun k => hFF _ _ (by omega)), show h2 45 = g 45 from funext (fun k => hFF _ _ (by omega)), show h2 46 = g 46 from funext (fun k => hFF _ _ (by omega)), hFF 43 0 (by omega), hFF 43 1 (by omega)] at c11'
            by_cases hlt : wlk (inp g) (inp g (20 + 6 * c)) (a + (j : Int)) (p + 1) ≤ t
            · by_cases hok : OKP (g 44) (g 45) (g 46) (g 43 0) (g 43 1) w c p (wlk (inp g) (inp g (20 + 6 * c)) (a + (j : Int)))
              · rw [rsF_y ⟨hlt, hok⟩] at hrj
                rw [if_neg (by omega)] at ih2
                simp only [] at ih2
                rw [← hrj] at hlt hw1 ⊢
                have fin2 : ∀ y, (y = if g3' = 0 then rf j else min g1' (rf j)) → ∀ v9, Wp X d SH 121 183 [(2, 1), (0, (c : Int)), (0, (p : Int)), (0, t), (0, a), (0, b), (0, w), (0, x), (2, 20 + 6 * (c : Int)), v9, (0, g2'), (0, g3'), (0, a + (j : Int)), (0, rf j)] [(0, y)] SH (fl h2) Q := by
                  intro y hy v9
                  rw [← hy] at ih2
                  apply s_121_183
                  try simp only [mi_1, fl_1_4, mi_12, cm_o, fl_1_2, mi_6, fl_1_9, mi_56, ml_56, fl_56, up_56, fl_1_5, mi_44, true_and, and_true, true_or, or_true, implies_true, b10_0, b10_1]
                  repeat' (first | refine And.intro ?_ ?_ | intro _)
                  all_goals (try (first | omega | (unfold r32; omega) | exact hQ | exact qe hQ (by omega) | exact qe hQ (by (repeat' split) <;> omega) | exact b01 | exact n01 | exact n21 | exact n31 | exact absurd trivial (by assumption)))
                  apply s_121_185
                  try simp only [mi_1, fl_1_4, mi_12, cm_o, fl_1_2, mi_6, fl_1_9, mi_56, ml_56, fl_56, up_56, fl_1_5, mi_44, true_and, and_true, true_or, or_true, implies_true, b10_0, b10_1]
                  repeat' (first | refine And.intro ?_ ?_ | intro _)
                  all_goals (try (first | omega | (unfold r32; omega) | exact hQ | exact qe hQ (by omega) | exact qe hQ (by (repeat' split) <;> omega) | exact b01 | exact n01 | exact n21 | exact n31 | exact absurd trivial (by assumption)))
                  apply s_121_194
                  try simp only [mi_1, fl_1_4, mi_12, cm_o, fl_1_2, mi_6, fl_1_9, mi_56, ml_56, fl_56, up_56, fl_1_5, mi_44, true_and, and_true, true_or, or_true, implies_true, b10_0, b10_1]
                  repeat' (first | refine And.intro ?_ ?_ | intro _)
                  all_goals (try (first | omega | (unfold r32; omega) | exact hQ | exact qe hQ (by omega) | exact qe hQ (by (repeat' split) <;> omega) | exact b01 | exact n01 | exact n21 | exact n31 | exact absurd trivial (by assumption)))
                  apply s_121_197
                  try simp only [mi_1, fl_1_4, mi_12, cm_o, fl_1_2, mi_6, fl_1_9, mi_56, ml_56, fl_56, up_56, fl_1_5, mi_44, true_and, and_true, true_or, or_true, implies_true, b10_0, b10_1]
                  repeat' (first | refine And.intro ?_ ?_ | intro _)
                  all_goals (try (first | omega | (unfold r32; omega) | exact hQ | exact qe hQ (by omega) | exact qe hQ (by (repeat' split) <;> omega) | exact b01 | exact n01 | exact n21 | exact n31 | exact absurd trivial (by assumption)))
                  all_goals (try exact ih2 _)
                apply s_121_140
                try simp only [mi_1, fl_1_4, mi_12, cm_o, fl_1_2, mi_6, fl_1_9, mi_56, ml_56, fl_56, up_56, fl_1_5, mi_44, true_and, and_true, true_or, or_true, implies_true, b10_0, b10_1]
                repeat' (first | refine And.intro ?_ ?_ | intro _)
                all_goals (try (first | omega | (unfold r32; omega) | exact hQ | exact qe hQ (by omega) | exact qe hQ (by (repeat' split) <;> omega) | exact b01 | exact n01 | exact n21 | exact n31 | exact absurd trivial (by assumption)))
                refine c11'.1 hok _ _ (by omega) ?_
                apply s_121_163
                try simp only [mi_1, fl_1_4, mi_12, cm_o, fl_1_2, mi_6, fl_1_9, mi_56, ml_56, fl_56, up_56, fl_1_5, mi_44, true_and, and_true, true_or, or_true, implies_true, b10_0, b10_1]
                repeat' (first | refine And.intro ?_ ?_ | intro _)
                all_goals (try (first | omega | (unfold r32; omega) | exact hQ | exact qe hQ (by omega) | exact qe hQ (by (repeat' split) <;> omega) | exact b01 | exact n01 | exact n21 | exact n31 | exact absurd trivial (by assumption)))
                · exact fin2 _ (by rw [if_neg (by assumption)]) _
                · exact fin2 _ (by rw [if_pos (by omega)]) _
              · rw [rsF_n (fun z => hok z.2)] at hrj
                rw [if_pos (by omega)] at ih2
                simp only [hG1, hG2, hG3] at ih2
                apply s_121_140
                try simp only [mi_1, fl_1_4, mi_12, cm_o, fl_1_2, mi_6, fl_1_9, mi_56, ml_56, fl_56, up_56, fl_1_5, mi_44, true_and, and_true, true_or, or_true, implies_true, b10_0, b10_1]
                repeat' (first | refine And.intro ?_ ?_ | intro _)
                all_goals (try (first | omega | (unfold r32; omega) | exact hQ | exact qe hQ (by omega) | exact qe hQ (by (repeat' split) <;> omega) | exact b01 | exact n01 | exact n21 | exact n31 | exact absurd trivial (by assumption)))
                refine c11'.2 hok _ _ (by omega) ?_
                apply s_121_163
                try simp only [mi_1, fl_1_4, mi_12, cm_o, fl_1_2, mi_6, fl_1_9, mi_56, ml_56, fl_56, up_56, fl_1_5, mi_44, true_and, and_true, true_or, or_true, implies_true, b10_0, b10_1]
                repeat' (first | refine And.intro ?_ ?_ | intro _)
                all_goals (try (first | omega | (unfold r32; omega) | exact hQ | exact qe hQ (by omega) | exact qe hQ (by (repeat' split) <;> omega) | exact b01 | exact n01 | exact n21 | exact n31 | exact absurd trivial (by assumption)))
                apply s_121_197
                try simp only [mi_1, fl_1_4, mi_12, cm_o, fl_1_2, mi_6, fl_1_9, mi_56, ml_56, fl_56, up_56, fl_1_5, mi_44, true_and, and_true, true_or, or_true, implies_true, b10_0, b10_1]
                repeat' (first | refine And.intro ?_ ?_ | intro _)
                all_goals (try (first | omega | (unfold r32; omega) | exact hQ | exact qe hQ (by omega) | exact qe hQ (by (repeat' split) <;> omega) | exact b01 | exact n01 | exact n21 | exact n31 | exact absurd trivial (by assumption)))
                all_goals (try exact ih2 _)
            · rw [rsF_n (fun z => hlt z.1)] at hrj
              rw [if_pos (by omega)] at ih2
              simp only [hG1, hG2, hG3] at ih2
              apply s_121_140
              try simp only [mi_1, fl_1_4, mi_12, cm_o, fl_1_2, mi_6, fl_1_9, mi_56, ml_56, fl_56, up_56, fl_1_5, mi_44, true_and, and_true, true_or, or_true, implies_true, b10_0, b10_1]
              repeat' (first | refine And.intro ?_ ?_ | intro _)
              all_goals (try (first | omega | (unfold r32; omega) | exact hQ | exact qe hQ (by omega) | exact qe hQ (by (repeat' split) <;> omega) | exact b01 | exact n01 | exact n21 | exact n31 | exact absurd trivial (by assumption)))
              apply s_121_197
              try simp only [mi_1, fl_1_4, mi_12, cm_o, fl_1_2, mi_6, fl_1_9, mi_56, ml_56, fl_56, up_56, fl_1_5, mi_44, true_and, and_true, true_or, or_true, implies_true, b10_0, b10_1]
              repeat' (first | refine And.intro ?_ ?_ | intro _)
              all_goals (try (first | omega | (unfold r32; omega) | exact hQ | exact qe hQ (by omega) | exact qe hQ (by (repeat' split) <;> omega) | exact b01 | exact n01 | exact n21 | exact n31 | exact absurd trivial (by assumption)))
              all_goals (try exact ih2 _)
        · have c29' := (c29 X g hc hp).2 hl
          have r1 : Ret X 60 121 [(2, 1), (0, (c : Int)), (0, (p : Int)), (0, t), (0, a), (0, b), (0, w), (0, x), (3, 0), (3, 0), (3, 0), (3, 0), (3, 0), (3, 0)] g (some (0, -1003)) g := by
            intro d Q hd hQ
            apply s_121_0
            try simp only [mi_1, fl_1_4, mi_12, cm_o, fl_1_2, mi_6, fl_1_9, mi_56, ml_56, fl_56, up_56, fl_1_5, mi_44, true_and, and_true, true_or, or_true, implies_true, b10_0, b10_1]
            repeat' (first | refine And.intro ?_ ?_ | intro _)
            all_goals (try (first | omega | (unfold r32; omega) | exact hQ | exact qe hQ (by omega) | exact qe hQ (by (repeat' split) <;> omega) | exact b01 | exact n01 | exact n21 | exact n31 | exact absurd trivial (by assumption)))
            refine c32 X g hc _ _ (by omega) ?_
            apply s_121_8
            try simp only [mi_1, fl_1_4, mi_12, cm_o, fl_1_2, mi_6, fl_1_9, mi_56, ml_56, fl_56, up_56, fl_1_5, mi_44, hc, true_and, and_true, true_or, or_true, implies_true, b10_0, b10_1]
            repeat' (first | refine And.intro ?_ ?_ | intro _)
            all_goals (try (first | omega | (unfold r32; omega) | exact hQ | exact qe hQ (by omega) | exact qe hQ (by (repeat' split) <;> omega) | exact b01 | exact n01 | exact n21 | exact n31 | exact absurd trivial (by assumption)))
            refine c14 X g hc _ _ _ (by omega) ?_
            apply s_121_21
            try simp only [mi_1, fl_1_4, mi_12, cm_o, fl_1_2, mi_6, fl_1_9, mi_56, ml_56, fl_56, up_56, fl_1_5, mi_44, true_and, and_true, true_or, or_true, implies_true, b10_0, b10_1]
            repeat' (first | refine And.intro ?_ ?_ | intro _)
            all_goals (try (first | omega | (unfold r32; omega) | exact hQ | exact qe hQ (by omega) | exact qe hQ (by (repeat' split) <;> omega) | exact b01 | exact n01 | exact n21 | exact n31 | exact absurd trivial (by assumption)))
            refine c133 X _ _ _ _ (by omega) ?_
            apply s_121_32
            try simp only [mi_1, fl_1_4, mi_12, cm_o, fl_1_2, mi_6, fl_1_9, mi_56, ml_56, fl_56, up_56, fl_1_5, mi_44, true_and, and_true, true_or, or_true, implies_true, b10_0, b10_1]
            repeat' (first | refine And.intro ?_ ?_ | intro _)
            all_goals (try (first | omega | (unfold r32; omega) | exact hQ | exact qe hQ (by omega) | exact qe hQ (by (repeat' split) <;> omega) | exact b01 | exact n01 | exact n21 | exact n31 | exact absurd trivial (by assumption)))
            refine c133 X _ _ _ _ (by omega) ?_
            apply s_121_40
            try simp only [mi_1, fl_1_4, mi_12, cm_o, fl_1_2, mi_6, fl_1_9, mi_56, ml_56, fl_56, up_56, fl_1_5, mi_44, true_and, and_true, true_or, or_true, implies_true, b10_0, b10_1]
            repeat' (first | refine And.intro ?_ ?_ | intro _)
            all_goals (try (first | omega | (unfold r32; omega) | exact hQ | exact qe hQ (by omega) | exact qe hQ (by (repeat' split) <;> omega) | exact b01 | exact n01 | exact n21 | exact n31 | exact absurd trivial (by assumption)))
            refine c133 X _ _ _ _ (by omega) ?_
            apply s_121_48
            try simp only [mi_1, fl_1_4, mi_12, cm_o, fl_1_2, mi_6, fl_1_9, mi_56, ml_56, fl_56, up_56, fl_1_5, mi_44, true_and, and_true, true_or, or_true, implies_true, b10_0, b10_1]
            repeat' (first | refine And.intro ?_ ?_ | intro _)
            all_goals (try (first | omega | (unfold r32; omega) | exact hQ | exact qe hQ (by omega) | exact qe hQ (by (repeat' split) <;> omega) | exact b01 | exact n01 | exact n21 | exact n31 | exact absurd trivial (by assumption)))
            refine c130 X _ _ _ _ _ _ (by omega) ?_
            apply s_121_63
            try simp only [mi_1, fl_1_4, mi_12, cm_o, fl_1_2, mi_6, fl_1_9, mi_56, ml_56, fl_56, up_56, fl_1_5, mi_44, true_and, and_true, true_or, or_true, implies_true, b10_0, b10_1]
            repeat' (first | refine And.intro ?_ ?_ | intro _)
            all_goals (try (first | omega | (unfold r32; omega) | exact hQ | exact qe hQ (by omega) | exact qe hQ (by (repeat' split) <;> omega) | exact b01 | exact n01 | exact n21 | exact n31 | exact absurd trivial (by assumption)))
            refine c130 X _ _ _ _ _ _ (by omega) ?_
            apply s_121_74
            try simp only [mi_1, fl_1_4, mi_12, cm_o, fl_1_2, mi_6, fl_1_9, mi_56, ml_56, fl_56, up_56, fl_1_5, mi_44, true_and, and_true, true_or, or_true, implies_true, b10_0, b10_1]
            repeat' (first | refine And.intro ?_ ?_ | intro _)
            all_goals (try (first | omega | (unfold r32; omega) | exact hQ | exact qe hQ (by omega) | exact qe hQ (by (repeat' split) <;> omega) | exact b01 | exact n01 | exact n21 | exact n31 | exact absurd trivial (by assumption)))
            refine c130 X _ _ _ _ _ _ (by omega) ?_
            apply s_121_84
            try simp only [mi_1, fl_1_4, mi_12, cm_o, fl_1_2, mi_6, fl_1_9, mi_56, ml_56, fl_56, up_56, fl_1_5, mi_44, hc, true_and, and_true, true_or, or_true, implies_true, b10_0, b10_1]
            repeat' (first | refine And.intro ?_ ?_ | intro _)
            all_goals (try (first | omega | (unfold r32; omega) | exact hQ | exact qe hQ (by omega) | exact qe hQ (by (repeat' split) <;> omega) | exact b01 | exact n01 | exact n21 | exact n31 | exact absurd trivial (by assumption)))
            refine c29' _ _ (by omega) ?_
            apply s_121_97
            try simp only [mi_1, fl_1_4, mi_12, cm_o, fl_1_2, mi_6, fl_1_9, mi_56, ml_56, fl_56, up_56, fl_1_5, mi_44, true_and, and_true, true_or, or_true, implies_true, b10_0, b10_1]
            repeat' (first | refine And.intro ?_ ?_ | intro _)
            all_goals (try (first | omega | (unfold r32; omega) | exact hQ | exact qe hQ (by omega) | exact qe hQ (by (repeat' split) <;> omega) | exact b01 | exact n01 | exact n21 | exact n31 | exact absurd trivial (by assumption)))
          have r2 : Ret X 60 212 [(2, 87), (0, (c : Int)), (0, (p : Int)), (0, t), (0, a), (0, b), (0, w), (0, x), (3, 0), (3, 0), (3, 0), (3, 0), (3, 0)] g (some (0, -1003)) g := by
            intro d Q hd hQ
            have loopA : ∀ m k : Nat, k + m = p + 1 → (∀ i, i < k → g (20 + 6 * c) i ≠ -1) → Wp X d SH 212 97 [(2, 87), (0, (c : Int)), (0, (p : Int)), (0, t), (0, a), (0, b), (0, w), (0, x), (0, (k : Int)), (3, 0), (3, 0), (3, 0), (3, 0)] [] SH (fl g) Q := by
              intro m
              induction m with
              | zero => intro k hk hpre; exact absurd (fun i hi => hpre i (by omega)) hl
              | succ m ih =>
                intro k hk hpre
                have eck : (36 * (c : Int) + (k : Int)).toNat = 36 * c + k := by omega
                have e10 : ((k + 1 : Nat) : Int) = (k : Int) + 1 := by omega
                have fk := k4 k (by omega)
                have hk5 := k5 k (by omega)
                by_cases hz : g (20 + 6 * c) k = -1
                · skip
                  apply s_212_97
                  try simp only [mi_87, fl_87_17, mi_103, ml_103, fl_103, up_103, eck, fk, true_and, and_true, true_or, or_true, implies_true, b10_0, b10_1]
                  repeat' (first | refine And.intro ?_ ?_ | intro _)
                  all_goals (try (first | omega | (unfold r32; omega) | exact hQ | exact qe hQ (by omega) | exact qe hQ (by (repeat' split) <;> omega) | exact b01 | exact n01 | exact n21 | exact n31 | exact absurd trivial (by assumption)))
                · have nx := ih (k + 1) (by omega) (fun i hi => by
                    by_cases hik : i = k
                    · subst hik; exact hz
                    · exact hpre i (by omega))
                  rw [e10] at nx
                  apply s_212_97
                  try simp only [mi_87, fl_87_17, mi_103, ml_103, fl_103, up_103, eck, fk, true_and, and_true, true_or, or_true, implies_true, b10_0, b10_1]
                  repeat' (first | refine And.intro ?_ ?_ | intro _)
                  all_goals (try (first | omega | (unfold r32; omega) | exact hQ | exact qe hQ (by omega) | exact qe hQ (by (repeat' split) <;> omega) | exact b01 | exact n01 | exact n21 | exact n31 | exact absurd trivial (by assumption)))
                  all_goals (try exact nx)
            have l0 := loopA (p + 1) 0 (by omega) (fun i hi => absurd hi (by omega))
            apply s_212_0
            try simp only [mi_87, fl_87_17, mi_103, ml_103, fl_103, up_103, true_and, and_true, true_or, or_true, implies_true, b10_0, b10_1]
            repeat' (first | refine And.intro ?_ ?_ | intro _)
            all_goals (try (first | omega | (unfold r32; omega) | exact hQ | exact qe hQ (by omega) | exact qe hQ (by (repeat' split) <;> omega) | exact b01 | exact n01 | exact n21 | exact n31 | exact absurd trivial (by assumption)))
            refine c175 X g hc _ hb99 _ _ (by omega) ?_
            apply s_212_6
            try simp only [mi_87, fl_87_17, mi_103, ml_103, fl_103, up_103, true_and, and_true, true_or, or_true, implies_true, b10_0, b10_1]
            repeat' (first | refine And.intro ?_ ?_ | intro _)
            all_goals (try (first | omega | (unfold r32; omega) | exact hQ | exact qe hQ (by omega) | exact qe hQ (by (repeat' split) <;> omega) | exact b01 | exact n01 | exact n21 | exact n31 | exact absurd trivial (by assumption)))
            refine c144 X _ _ _ _ _ _ (by omega) ?_
            apply s_212_22
            try simp only [mi_87, fl_87_17, mi_103, ml_103, fl_103, up_103, true_and, and_true, true_or, or_true, implies_true, b10_0, b10_1]
            repeat' (first | refine And.intro ?_ ?_ | intro _)
            all_goals (try (first | omega | (unfold r32; omega) | exact hQ | exact qe hQ (by omega) | exact qe hQ (by (repeat' split) <;> omega) | exact b01 | exact n01 | exact n21 | exact n31 | exact absurd trivial (by assumption)))
            refine c144 X _ _ _ _ _ _ (by omega) ?_
            apply s_212_35
            try simp only [mi_87, fl_87_17, mi_103, ml_103, fl_103, up_103, true_and, and_true, true_or, or_true, implies_true, b10_0, b10_1]
            repeat' (first | refine And.intro ?_ ?_ | intro _)
            all_goals (try (first | omega | (unfold r32; omega) | exact hQ | exact qe hQ (by omega) | exact qe hQ (by (repeat' split) <;> omega) | exact b01 | exact n01 | exact n21 | exact n31 | exact absurd trivial (by assumption)))
            refine c144 X _ _ _ _ _ _ (by omega) ?_
            apply s_212_50
            try simp only [mi_87, fl_87_17, mi_103, ml_103, fl_103, up_103, true_and, and_true, true_or, or_true, implies_true, b10_0, b10_1]
            repeat' (first | refine And.intro ?_ ?_ | intro _)
            all_goals (try (first | omega | (unfold r32; omega) | exact hQ | exact qe hQ (by omega) | exact qe hQ (by (repeat' split) <;> omega) | exact b01 | exact n01 | exact n21 | exact n31 | exact absurd trivial (by assumption)))
            refine c144 X _ _ _ _ _ _ (by omega) ?_
            apply s_212_74
            try simp only [mi_87, fl_87_17, mi_103, ml_103, fl_103, up_103, true_and, and_true, true_or, or_true, implies_true, b10_0, b10_1]
            repeat' (first | refine And.intro ?_ ?_ | intro _)
            all_goals (try (first | omega | (unfold r32; omega) | exact hQ | exact qe hQ (by omega) | exact qe hQ (by (repeat' split) <;> omega) | exact b01 | exact n01 | exact n21 | exact n31 | exact absurd trivial (by assumption)))
            refine c144 X _ _ _ _ _ _ (by omega) ?_
            apply s_212_87
            try simp only [mi_87, fl_87_17, mi_103, ml_103, fl_103, up_103, true_and, and_true, true_or, or_true, implies_true, b10_0, b10_1]
            repeat' (first | refine And.intro ?_ ?_ | intro _)
            all_goals (try (first | omega | (unfold r32; omega) | exact hQ | exact qe hQ (by omega) | exact qe hQ (by (repeat' split) <;> omega) | exact b01 | exact n01 | exact n21 | exact n31 | exact absurd trivial (by assumption)))
            all_goals (try exact l0)
          exact PR_of r1 r2 (fun _ _ _ => rfl) d Q hd hQ
      · have r1 : Ret X 60 121 [(2, 1), (0, (c : Int)), (0, (p : Int)), (0, t), (0, a), (0, b), (0, w), (0, x), (3, 0), (3, 0), (3, 0), (3, 0), (3, 0), (3, 0)] g (some (0, -1002)) g := by
          intro d Q hd hQ
          apply s_121_0
          try simp only [mi_1, fl_1_4, mi_12, cm_o, fl_1_2, mi_6, fl_1_9, mi_56, ml_56, fl_56, up_56, fl_1_5, mi_44, true_and, and_true, true_or, or_true, implies_true, b10_0, b10_1]
          repeat' (first | refine And.intro ?_ ?_ | intro _)
          all_goals (try (first | omega | (unfold r32; omega) | exact hQ | exact qe hQ (by omega) | exact qe hQ (by (repeat' split) <;> omega) | exact b01 | exact n01 | exact n21 | exact n31 | exact absurd trivial (by assumption)))
          refine c32 X g hc _ _ (by omega) ?_
          apply s_121_8
          try simp only [mi_1, fl_1_4, mi_12, cm_o, fl_1_2, mi_6, fl_1_9, mi_56, ml_56, fl_56, up_56, fl_1_5, mi_44, hc, true_and, and_true, true_or, or_true, implies_true, b10_0, b10_1]
          repeat' (first | refine And.intro ?_ ?_ | intro _)
          all_goals (try (first | omega | (unfold r32; omega) | exact hQ | exact qe hQ (by omega) | exact qe hQ (by (repeat' split) <;> omega) | exact b01 | exact n01 | exact n21 | exact n31 | exact absurd trivial (by assumption)))
          refine c14 X g hc _ _ _ (by omega) ?_
          apply s_121_21
          try simp only [mi_1, fl_1_4, mi_12, cm_o, fl_1_2, mi_6, fl_1_9, mi_56, ml_56, fl_56, up_56, fl_1_5, mi_44, true_and, and_true, true_or, or_true, implies_true, b10_0, b10_1]
          repeat' (first | refine And.intro ?_ ?_ | intro _)
          all_goals (try (first | omega | (unfold r32; omega) | exact hQ | exact qe hQ (by omega) | exact qe hQ (by (repeat' split) <;> omega) | exact b01 | exact n01 | exact n21 | exact n31 | exact absurd trivial (by assumption)))
          refine c133 X _ _ _ _ (by omega) ?_
          apply s_121_32
          try simp only [mi_1, fl_1_4, mi_12, cm_o, fl_1_2, mi_6, fl_1_9, mi_56, ml_56, fl_56, up_56, fl_1_5, mi_44, true_and, and_true, true_or, or_true, implies_true, b10_0, b10_1]
          repeat' (first | refine And.intro ?_ ?_ | intro _)
          all_goals (try (first | omega | (unfold r32; omega) | exact hQ | exact qe hQ (by omega) | exact qe hQ (by (repeat' split) <;> omega) | exact b01 | exact n01 | exact n21 | exact n31 | exact absurd trivial (by assumption)))
          refine c133 X _ _ _ _ (by omega) ?_
          apply s_121_40
          try simp only [mi_1, fl_1_4, mi_12, cm_o, fl_1_2, mi_6, fl_1_9, mi_56, ml_56, fl_56, up_56, fl_1_5, mi_44, true_and, and_true, true_or, or_true, implies_true, b10_0, b10_1]
          repeat' (first | refine And.intro ?_ ?_ | intro _)
          all_goals (try (first | omega | (unfold r32; omega) | exact hQ | exact qe hQ (by omega) | exact qe hQ (by (repeat' split) <;> omega) | exact b01 | exact n01 | exact n21 | exact n31 | exact absurd trivial (by assumption)))
          refine c133 X _ _ _ _ (by omega) ?_
          apply s_121_48
          try simp only [mi_1, fl_1_4, mi_12, cm_o, fl_1_2, mi_6, fl_1_9, mi_56, ml_56, fl_56, up_56, fl_1_5, mi_44, true_and, and_true, true_or, or_true, implies_true, b10_0, b10_1]
          repeat' (first | refine And.intro ?_ ?_ | intro _)
          all_goals (try (first | omega | (unfold r32; omega) | exact hQ | exact qe hQ (by omega) | exact qe hQ (by (repeat' split) <;> omega) | exact b01 | exact n01 | exact n21 | exact n31 | exact absurd trivial (by assumption)))
          refine c130 X _ _ _ _ _ _ (by omega) ?_
          apply s_121_63
          try simp only [mi_1, fl_1_4, mi_12, cm_o, fl_1_2, mi_6, fl_1_9, mi_56, ml_56, fl_56, up_56, fl_1_5, mi_44, true_and, and_true, true_or, or_true, implies_true, b10_0, b10_1]
          repeat' (first | refine And.intro ?_ ?_ | intro _)
          all_goals (try (first | omega | (unfold r32; omega) | exact hQ | exact qe hQ (by omega) | exact qe hQ (by (repeat' split) <;> omega) | exact b01 | exact n01 | exact n21 | exact n31 | exact absurd trivial (by assumption)))
          refine c130 X _ _ _ _ _ _ (by omega) ?_
          apply s_121_74
          try simp only [mi_1, fl_1_4, mi_12, cm_o, fl_1_2, mi_6, fl_1_9, mi_56, ml_56, fl_56, up_56, fl_1_5, mi_44, true_and, and_true, true_or, or_true, implies_true, b10_0, b10_1]
          repeat' (first | refine And.intro ?_ ?_ | intro _)
          all_goals (try (first | omega | (unfold r32; omega) | exact hQ | exact qe hQ (by omega) | exact qe hQ (by (repeat' split) <;> omega) | exact b01 | exact n01 | exact n21 | exact n31 | exact absurd trivial (by assumption)))
          refine c130 X _ _ _ _ _ _ (by omega) ?_
          apply s_121_84
          try simp only [mi_1, fl_1_4, mi_12, cm_o, fl_1_2, mi_6, fl_1_9, mi_56, ml_56, fl_56, up_56, fl_1_5, mi_44, true_and, and_true, true_or, or_true, implies_true, b10_0, b10_1]
          repeat' (first | refine And.intro ?_ ?_ | intro _)
          all_goals (try (first | omega | (unfold r32; omega) | exact hQ | exact qe hQ (by omega) | exact qe hQ (by (repeat' split) <;> omega) | exact b01 | exact n01 | exact n21 | exact n31 | exact absurd trivial (by assumption)))
        have r2 : Ret X 60 212 [(2, 87), (0, (c : Int)), (0, (p : Int)), (0, t), (0, a), (0, b), (0, w), (0, x), (3, 0), (3, 0), (3, 0), (3, 0), (3, 0)] g (some (0, -1002)) g := by
          intro d Q hd hQ
          apply s_212_0
          try simp only [mi_87, fl_87_17, mi_103, ml_103, fl_103, up_103, true_and, and_true, true_or, or_true, implies_true, b10_0, b10_1]
          repeat' (first | refine And.intro ?_ ?_ | intro _)
          all_goals (try (first | omega | (unfold r32; omega) | exact hQ | exact qe hQ (by omega) | exact qe hQ (by (repeat' split) <;> omega) | exact b01 | exact n01 | exact n21 | exact n31 | exact absurd trivial (by assumption)))
          refine c175 X g hc _ hb99 _ _ (by omega) ?_
          apply s_212_6
          try simp only [mi_87, fl_87_17, mi_103, ml_103, fl_103, up_103, true_and, and_true, true_or, or_true, implies_true, b10_0, b10_1]
          repeat' (first | refine And.intro ?_ ?_ | intro _)
          all_goals (try (first | omega | (unfold r32; omega) | exact hQ | exact qe hQ (by omega) | exact qe hQ (by (repeat' split) <;> omega) | exact b01 | exact n01 | exact n21 | exact n31 | exact absurd trivial (by assumption)))
          refine c144 X _ _ _ _ _ _ (by omega) ?_
          apply s_212_22
          try simp only [mi_87, fl_87_17, mi_103, ml_103, fl_103, up_103, true_and, and_true, true_or, or_true, implies_true, b10_0, b10_1]
          repeat' (first | refine And.intro ?_ ?_ | intro _)
          all_goals (try (first | omega | (unfold r32; omega) | exact hQ | exact qe hQ (by omega) | exact qe hQ (by (repeat' split) <;> omega) | exact b01 | exact n01 | exact n21 | exact n31 | exact absurd trivial (by assumption)))
          refine c144 X _ _ _ _ _ _ (by omega) ?_
          apply s_212_35
          try simp only [mi_87, fl_87_17, mi_103, ml_103, fl_103, up_103, true_and, and_true, true_or, or_true, implies_true, b10_0, b10_1]
          repeat' (first | refine And.intro ?_ ?_ | intro _)
          all_goals (try (first | omega | (unfold r32; omega) | exact hQ | exact qe hQ (by omega) | exact qe hQ (by (repeat' split) <;> omega) | exact b01 | exact n01 | exact n21 | exact n31 | exact absurd trivial (by assumption)))
          refine c144 X _ _ _ _ _ _ (by omega) ?_
          apply s_212_50
          try simp only [mi_87, fl_87_17, mi_103, ml_103, fl_103, up_103, true_and, and_true, true_or, or_true, implies_true, b10_0, b10_1]
          repeat' (first | refine And.intro ?_ ?_ | intro _)
          all_goals (try (first | omega | (unfold r32; omega) | exact hQ | exact qe hQ (by omega) | exact qe hQ (by (repeat' split) <;> omega) | exact b01 | exact n01 | exact n21 | exact n31 | exact absurd trivial (by assumption)))
          refine c144 X _ _ _ _ _ _ (by omega) ?_
          apply s_212_74
          try simp only [mi_87, fl_87_17, mi_103, ml_103, fl_103, up_103, true_and, and_true, true_or, or_true, implies_true, b10_0, b10_1]
          repeat' (first | refine And.intro ?_ ?_ | intro _)
          all_goals (try (first | omega | (unfold r32; omega) | exact hQ | exact qe hQ (by omega) | exact qe hQ (by (repeat' split) <;> omega) | exact b01 | exact n01 | exact n21 | exact n31 | exact absurd trivial (by assumption)))
          refine c144 X _ _ _ _ _ _ (by omega) ?_
          apply s_212_87
          try simp only [mi_87, fl_87_17, mi_103, ml_103, fl_103, up_103, true_and, and_true, true_or, or_true, implies_true, b10_0, b10_1]
          repeat' (first | refine And.intro ?_ ?_ | intro _)
          all_goals (try (first | omega | (unfold r32; omega) | exact hQ | exact qe hQ (by omega) | exact qe hQ (by (repeat' split) <;> omega) | exact b01 | exact n01 | exact n21 | exact n31 | exact absurd trivial (by assumption)))
        exact PR_of r1 r2 (fun _ _ _ => rfl) d Q hd hQ
    · have r1 : Ret X 60 121 [(2, 1), (0, (c : Int)), (0, p1), (0, t), (0, a), (0, b), (0, w), (0, x), (3, 0), (3, 0), (3, 0), (3, 0), (3, 0), (3, 0)] g (some (0, -1001)) g := by
        intro d Q hd hQ
        apply s_121_0
        try simp only [mi_1, fl_1_4, mi_12, cm_o, fl_1_2, mi_6, fl_1_9, mi_56, ml_56, fl_56, up_56, fl_1_5, mi_44, true_and, and_true, true_or, or_true, implies_true, b10_0, b10_1]
        repeat' (first | refine And.intro ?_ ?_ | intro _)
        all_goals (try (first | omega | (unfold r32; omega) | exact hQ | exact qe hQ (by omega) | exact qe hQ (by (repeat' split) <;> omega) | exact b01 | exact n01 | exact n21 | exact n31 | exact absurd trivial (by assumption)))
        refine c32 X g hc _ _ (by omega) ?_
        apply s_121_8
        try simp only [mi_1, fl_1_4, mi_12, cm_o, fl_1_2, mi_6, fl_1_9, mi_56, ml_56, fl_56, up_56, fl_1_5, mi_44, hc, true_and, and_true, true_or, or_true, implies_true, b10_0, b10_1]
        repeat' (first | refine And.intro ?_ ?_ | intro _)
        all_goals (try (first | omega | (unfold r32; omega) | exact hQ | exact qe hQ (by omega) | exact qe hQ (by (repeat' split) <;> omega) | exact b01 | exact n01 | exact n21 | exact n31 | exact absurd trivial (by assumption)))
        refine c14 X g hc _ _ _ (by omega) ?_
        apply s_121_21
        try simp only [mi_1, fl_1_4, mi_12, cm_o, fl_1_2, mi_6, fl_1_9, mi_56, ml_56, fl_56, up_56, fl_1_5, mi_44, true_and, and_true, true_or, or_true, implies_true, b10_0, b10_1]
        repeat' (first | refine And.intro ?_ ?_ | intro _)
        all_goals (try (first | omega | (unfold r32; omega) | exact hQ | exact qe hQ (by omega) | exact qe hQ (by (repeat' split) <;> omega) | exact b01 | exact n01 | exact n21 | exact n31 | exact absurd trivial (by assumption)))
      have r2 : Ret X 60 212 [(2, 87), (0, (c : Int)), (0, p1), (0, t), (0, a), (0, b), (0, w), (0, x), (3, 0), (3, 0), (3, 0), (3, 0), (3, 0)] g (some (0, -1001)) g := by
        intro d Q hd hQ
        apply s_212_0
        try simp only [mi_87, fl_87_17, mi_103, ml_103, fl_103, up_103, true_and, and_true, true_or, or_true, implies_true, b10_0, b10_1]
        repeat' (first | refine And.intro ?_ ?_ | intro _)
        all_goals (try (first | omega | (unfold r32; omega) | exact hQ | exact qe hQ (by omega) | exact qe hQ (by (repeat' split) <;> omega) | exact b01 | exact n01 | exact n21 | exact n31 | exact absurd trivial (by assumption)))
        refine c175 X g hc _ hb99 _ _ (by omega) ?_
        apply s_212_6
        try simp only [mi_87, fl_87_17, mi_103, ml_103, fl_103, up_103, true_and, and_true, true_or, or_true, implies_true, b10_0, b10_1]
        repeat' (first | refine And.intro ?_ ?_ | intro _)
        all_goals (try (first | omega | (unfold r32; omega) | exact hQ | exact qe hQ (by omega) | exact qe hQ (by (repeat' split) <;> omega) | exact b01 | exact n01 | exact n21 | exact n31 | exact absurd trivial (by assumption)))
      exact PR_of r1 r2 (fun _ _ _ => rfl) d Q hd hQ
  · have r1 : Ret X 60 121 [(2, 1), (0, a1), (0, p1), (0, t), (0, a), (0, b), (0, w), (0, x), (3, 0), (3, 0), (3, 0), (3, 0), (3, 0), (3, 0)] g (some (0, -1001)) g := by
      intro d Q hd hQ
      apply s_121_0
      try simp only [mi_1, fl_1_4, mi_12, cm_o, fl_1_2, mi_6, fl_1_9, mi_56, ml_56, fl_56, up_56, fl_1_5, mi_44, true_and, and_true, true_or, or_true, implies_true, b10_0, b10_1]
      repeat' (first | refine And.intro ?_ ?_ | intro _)
      all_goals (try (first | omega | (unfold r32; omega) | exact hQ | exact qe hQ (by omega) | exact qe hQ (by (repeat' split) <;> omega) | exact b01 | exact n01 | exact n21 | exact n31 | exact absurd trivial (by assumption)))
      refine c32n X g _ ha _ _ (by omega) ?_
      apply s_121_8
      try simp only [mi_1, fl_1_4, mi_12, cm_o, fl_1_2, mi_6, fl_1_9, mi_56, ml_56, fl_56, up_56, fl_1_5, mi_44, true_and, and_true, true_or, or_true, implies_true, b10_0, b10_1]
      repeat' (first | refine And.intro ?_ ?_ | intro _)
      all_goals (try (first | omega | (unfold r32; omega) | exact hQ | exact qe hQ (by omega) | exact qe hQ (by (repeat' split) <;> omega) | exact b01 | exact n01 | exact n21 | exact n31 | exact absurd trivial (by assumption)))
    have r2 : Ret X 60 212 [(2, 87), (0, a1), (0, p1), (0, t), (0, a), (0, b), (0, w), (0, x), (3, 0), (3, 0), (3, 0), (3, 0), (3, 0)] g (some (0, -1001)) g := by
      intro d Q hd hQ
      apply s_212_0
      try simp only [mi_87, fl_87_17, mi_103, ml_103, fl_103, up_103, true_and, and_true, true_or, or_true, implies_true, b10_0, b10_1]
      repeat' (first | refine And.intro ?_ ?_ | intro _)
      all_goals (try (first | omega | (unfold r32; omega) | exact hQ | exact qe hQ (by omega) | exact qe hQ (by (repeat' split) <;> omega) | exact b01 | exact n01 | exact n21 | exact n31 | exact absurd trivial (by assumption)))
      refine c175n X g _ _ ha _ _ (by omega) ?_
      apply s_212_6
      try simp only [mi_87, fl_87_17, mi_103, ml_103, fl_103, up_103, true_and, and_true, true_or, or_true, implies_true, b10_0, b10_1]
      repeat' (first | refine And.intro ?_ ?_ | intro _)
      all_goals (try (first | omega | (unfold r32; omega) | exact hQ | exact qe hQ (by omega) | exact qe hQ (by (repeat' split) <;> omega) | exact b01 | exact n01 | exact n21 | exact n31 | exact absurd trivial (by assumption)))
    exact PR_of r1 r2 (fun _ _ _ => rfl) d Q hd hQ
