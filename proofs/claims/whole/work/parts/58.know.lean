/-! the class's night -/
def ltS (G s : mF) (c : Nat) : Nat → Int
  | 0 => G (19 + 6 * c) 2
  | k + 1 => if G 15 k = (c : Int) ∧ s (3 + (G 13 k).toNat) (G 14 k).toNat ≠ -1 ∧ (ltS G s c k = -1 ∨ s (3 + (G 13 k).toNat) (G 14 k).toNat < ltS G s c k) then s (3 + (G 13 k).toNat) (G 14 k).toNat else ltS G s c k
def lt (G s : mF) (c : Nat) : Int := ltS G s c (G 11 1).toNat
def nxS (G s : mF) : Nat → Int × Int
  | 0 => (-1, -1)
  | c + 1 => if s 0 c = -1 ∧ lt G s c ≠ -1 ∧ ((nxS G s c).1 = -1 ∨ lt G s c < (nxS G s c).2) then ((c : Int), lt G s c) else nxS G s c
noncomputable def agS (G : mF) (D : Int) (c : Nat) (s : mF) : Nat → mF
  | 0 => s
  | k + 1 => if G 17 k = (c : Int) ∧ agS G D c s k 2 c ≤ G 16 k ∧ agS G D c s k (3 + c) (G 18 k).toNat = -1 then fireS G D c (G 18 k).toNat (G 16 k) (agS G D c s k) else agS G D c s k
def litS (G : mF) (c : Nat) (t : Int) (s : mF) : mF := mup (mup (mup s 0 c t) 1 c (if t = G (19 + 6 * c) 2 then G (19 + 6 * c) 3 else 0)) 2 c t
noncomputable def comeS (G : mF) (D : Int) (c : Nat) (s : mF) : mF := agS G D c (fireS G D c (if lt G s c = G (19 + 6 * c) 2 then G (19 + 6 * c) 3 else 0).toNat (lt G s c) (litS G c (lt G s c) s)) (G 11 2).toNat
noncomputable def nightS (G : mF) (D : Int) : Nat → mF
  | 0 => fun _ _ => -1
  | r + 1 => if (nxS G (nightS G D r) 4).1 = -1 then nightS G D r else comeS G D (nxS G (nightS G D r) 4).1.toNat (nightS G D r)
def Glk (G : mF) : Prop := (0 ≤ G 11 1 ∧ G 11 1 ≤ 12) ∧ (∀ k : Nat, (k : Int) < G 11 1 → (0 ≤ G 13 k ∧ G 13 k ≤ 3) ∧ (0 ≤ G 14 k ∧ G 14 k ≤ 35) ∧ (0 ≤ G 15 k ∧ G 15 k ≤ 3))
def Gag (G : mF) : Prop := (0 ≤ G 11 2 ∧ G 11 2 ≤ 12) ∧ (∀ k : Nat, (k : Int) < G 11 2 → (0 ≤ G 16 k ∧ G 16 k ≤ 5999) ∧ (0 ≤ G 17 k ∧ G 17 k ≤ 3) ∧ (0 ≤ G 18 k ∧ G 18 k ≤ 35))
theorem ltS_b {G s : mF} {c : Nat} {M : Int} (hG : CG G) (hL : Glk G) (hI : SI G M s) (hM : 5999 ≤ M) (hc : c < 4) : ∀ k : Nat, (k : Int) ≤ G 11 1 → -1 ≤ ltS G s c k ∧ ltS G s c k ≤ M := by
  intro k
  induction k with
  | zero =>
    intro _
    have z := (hG.2 c hc).2.1
    unfold ltS
    omega
  | succ k ih =>
    intro hk
    have y := ih (by omega)
    have z := hL.2 k (by omega)
    have w := hI (G 13 k).toNat (by omega)
    have v := (w.2.2.2 (G 14 k).toNat (by omega)).1
    unfold ltS
    split <;> omega
theorem lt_b {G s : mF} {c : Nat} {M : Int} (hG : CG G) (hL : Glk G) (hI : SI G M s) (hM : 5999 ≤ M) (hc : c < 4) : -1 ≤ lt G s c ∧ lt G s c ≤ M := ltS_b hG hL hI hM hc _ (by have := hL.1; omega)
theorem nxS_b {G s : mF} {M : Int} (hG : CG G) (hL : Glk G) (hI : SI G M s) (hM : 5999 ≤ M) : ∀ c : Nat, c ≤ 4 → (nxS G s c).1 = -1 ∨ (0 ≤ (nxS G s c).1 ∧ (nxS G s c).1 < (c : Int) ∧ s 0 (nxS G s c).1.toNat = -1 ∧ (nxS G s c).2 = lt G s (nxS G s c).1.toNat ∧ (nxS G s c).2 ≠ -1) := by
  intro c
  induction c with
  | zero => intro _; exact Or.inl rfl
  | succ c ih =>
    intro hc
    have y := ih (by omega)
    unfold nxS
    by_cases h : s 0 c = -1 ∧ lt G s c ≠ -1 ∧ ((nxS G s c).1 = -1 ∨ lt G s c < (nxS G s c).2)
    · rw [if_pos h]
      right
      rw [show ((c : Int)).toNat = c by omega]
      exact ⟨by omega, by show (c : Int) < ((c + 1 : Nat) : Int); omega, h.1, rfl, h.2.1⟩
    · rw [if_neg h]
      rcases y with y | ⟨y1, y2, y3⟩
      · exact Or.inl y
      · exact Or.inr ⟨y1, by omega, y3⟩
theorem c43 (X : mX) {c : Nat} (hc : c < 4) {G g s : mF} (hA : Agree G g) (hL : Glk G) (hS : CS g s) : Ret X 0 43 [(2, 12), (0, (c : Int)), (3, 0), (3, 0), (3, 0)] g (some (0, lt G s c)) g := by
  intro d Q hd hQ
  have e0 : ((c : Int)).toNat = c := by omega
  have e1 : g (19 + 6 * c) 2 = G (19 + 6 * c) 2 := hA _ _ (by unfold InpS; omega)
  have e2 : g 11 1 = G 11 1 := hA _ _ (by unfold InpS; omega)
  have hl := hL.1
  have key := lup (P := fun k => ∀ v, Wp X d SH 43 12 [(2, 12), (0, (c : Int)), (0, ltS G s c k), (0, (k : Int)), v] [] SH (fl g) Q) (G 11 1).toNat ?_ ?_ 0 (by omega)
  · skip
    apply s_43_0
    try simp only [mi_12, fl_12_0, mi_13, ml_13, fl_13, cm_o, cl_2, cu_2, fl_12_1, up_12_1, fl_12_6, mi_16, ml_16, fl_16, up_16, fl_12_4, mi_14, ml_14, fl_14, up_14, cl_7, cm_7, cn_7, ca_7, cz_7, fl_12_5, mi_15, ml_15, fl_15, up_15, hc, e0, e1, true_and, and_true, true_or, or_true, implies_true, b10_0, b10_1]
    repeat' (first | refine And.intro ?_ ?_ | intro _)
    all_goals (try (first | omega | (unfold r32; omega) | exact hQ | exact qe hQ (by omega) | exact qe hQ (by (repeat' split) <;> omega) | exact b01 | exact n01 | exact n21 | exact n31 | exact absurd trivial (by assumption)))
    apply s_43_10
    try simp only [mi_12, fl_12_0, mi_13, ml_13, fl_13, cm_o, cl_2, cu_2, fl_12_1, up_12_1, fl_12_6, mi_16, ml_16, fl_16, up_16, fl_12_4, mi_14, ml_14, fl_14, up_14, cl_7, cm_7, cn_7, ca_7, cz_7, fl_12_5, mi_15, ml_15, fl_15, up_15, true_and, and_true, true_or, or_true, implies_true, b10_0, b10_1]
    repeat' (first | refine And.intro ?_ ?_ | intro _)
    all_goals (try (first | omega | (unfold r32; omega) | exact hQ | exact qe hQ (by omega) | exact qe hQ (by (repeat' split) <;> omega) | exact b01 | exact n01 | exact n21 | exact n31 | exact absurd trivial (by assumption)))
    exact key _
  · intro v
    apply s_43_12
    try simp only [mi_12, fl_12_0, mi_13, ml_13, fl_13, cm_o, cl_2, cu_2, fl_12_1, up_12_1, fl_12_6, mi_16, ml_16, fl_16, up_16, fl_12_4, mi_14, ml_14, fl_14, up_14, cl_7, cm_7, cn_7, ca_7, cz_7, fl_12_5, mi_15, ml_15, fl_15, up_15, e2, true_and, and_true, true_or, or_true, implies_true, b10_0, b10_1]
    repeat' (first | refine And.intro ?_ ?_ | intro _)
    all_goals (try (first | omega | (unfold r32; omega) | exact hQ | exact qe hQ (by omega) | exact qe hQ (by (repeat' split) <;> omega) | exact b01 | exact n01 | exact n21 | exact n31 | exact absurd trivial (by assumption)))
  · intro k hk ih v
    have z := hL.2 k (by omega)
    have e3 : ((k : Int)).toNat = k := by omega
    have e4 : g 13 k = G 13 k := hA _ _ (by unfold InpS; omega)
    have e5 : g 14 k = G 14 k := hA _ _ (by unfold InpS; omega)
    have e6 : g 15 k = G 15 k := hA _ _ (by unfold InpS; omega)
    obtain ⟨b, hb⟩ : ∃ b : Nat, G 13 k = (b : Int) := ⟨(G 13 k).toNat, by omega⟩
    have hb4 : b < 4 := by omega
    obtain ⟨i, hi⟩ : ∃ i : Nat, G 14 k = (i : Int) := ⟨(G 14 k).toNat, by omega⟩
    have e7 : ((b : Int)).toNat = b := by omega
    have e8 : ((i : Int)).toNat = i := by omega
    have e9 := ((hS b hb4).2.2.2 i (by omega)).1
    have e10 : ((k + 1 : Nat) : Int) = (k : Int) + 1 := by omega
    unfold ltS at ih
    rw [hb, e7, hi, e8, e10] at ih
    apply s_43_12
    try simp only [mi_12, fl_12_0, mi_13, ml_13, fl_13, cm_o, cl_2, cu_2, fl_12_1, up_12_1, fl_12_6, mi_16, ml_16, fl_16, up_16, fl_12_4, mi_14, ml_14, fl_14, up_14, cl_7, cm_7, cn_7, ca_7, cz_7, fl_12_5, mi_15, ml_15, fl_15, up_15, e2, e3, e4, e5, e6, e7, e8, hb, hi, hb4, e9, true_and, and_true, true_or, or_true, implies_true, b10_0, b10_1]
    repeat' (first | refine And.intro ?_ ?_ | intro _)
    all_goals (try (first | omega | (unfold r32; omega) | exact hQ | exact qe hQ (by omega) | exact qe hQ (by (repeat' split) <;> omega) | exact b01 | exact n01 | exact n21 | exact n31 | exact absurd trivial (by assumption)))
    · rw [if_neg (by omega)] at ih
      apply s_43_73
      try simp only [mi_12, fl_12_0, mi_13, ml_13, fl_13, cm_o, cl_2, cu_2, fl_12_1, up_12_1, fl_12_6, mi_16, ml_16, fl_16, up_16, fl_12_4, mi_14, ml_14, fl_14, up_14, cl_7, cm_7, cn_7, ca_7, cz_7, fl_12_5, mi_15, ml_15, fl_15, up_15, true_and, and_true, true_or, or_true, implies_true, b10_0, b10_1]
      repeat' (first | refine And.intro ?_ ?_ | intro _)
      all_goals (try (first | omega | (unfold r32; omega) | exact hQ | exact qe hQ (by omega) | exact qe hQ (by (repeat' split) <;> omega) | exact b01 | exact n01 | exact n21 | exact n31 | exact absurd trivial (by assumption)))
      exact ih _
    · skip
      apply s_43_53
      try simp only [mi_12, fl_12_0, mi_13, ml_13, fl_13, cm_o, cl_2, cu_2, fl_12_1, up_12_1, fl_12_6, mi_16, ml_16, fl_16, up_16, fl_12_4, mi_14, ml_14, fl_14, up_14, cl_7, cm_7, cn_7, ca_7, cz_7, fl_12_5, mi_15, ml_15, fl_15, up_15, true_and, and_true, true_or, or_true, implies_true, b10_0, b10_1]
      repeat' (first | refine And.intro ?_ ?_ | intro _)
      all_goals (try (first | omega | (unfold r32; omega) | exact hQ | exact qe hQ (by omega) | exact qe hQ (by (repeat' split) <;> omega) | exact b01 | exact n01 | exact n21 | exact n31 | exact absurd trivial (by assumption)))
      · rw [if_neg (by omega)] at ih
        apply s_43_73
        try simp only [mi_12, fl_12_0, mi_13, ml_13, fl_13, cm_o, cl_2, cu_2, fl_12_1, up_12_1, fl_12_6, mi_16, ml_16, fl_16, up_16, fl_12_4, mi_14, ml_14, fl_14, up_14, cl_7, cm_7, cn_7, ca_7, cz_7, fl_12_5, mi_15, ml_15, fl_15, up_15, true_and, and_true, true_or, or_true, implies_true, b10_0, b10_1]
        repeat' (first | refine And.intro ?_ ?_ | intro _)
        all_goals (try (first | omega | (unfold r32; omega) | exact hQ | exact qe hQ (by omega) | exact qe hQ (by (repeat' split) <;> omega) | exact b01 | exact n01 | exact n21 | exact n31 | exact absurd trivial (by assumption)))
        exact ih _
      · rw [if_pos (by omega)] at ih
        apply s_43_70
        try simp only [mi_12, fl_12_0, mi_13, ml_13, fl_13, cm_o, cl_2, cu_2, fl_12_1, up_12_1, fl_12_6, mi_16, ml_16, fl_16, up_16, fl_12_4, mi_14, ml_14, fl_14, up_14, cl_7, cm_7, cn_7, ca_7, cz_7, fl_12_5, mi_15, ml_15, fl_15, up_15, true_and, and_true, true_or, or_true, implies_true, b10_0, b10_1]
        repeat' (first | refine And.intro ?_ ?_ | intro _)
        all_goals (try (first | omega | (unfold r32; omega) | exact hQ | exact qe hQ (by omega) | exact qe hQ (by (repeat' split) <;> omega) | exact b01 | exact n01 | exact n21 | exact n31 | exact absurd trivial (by assumption)))
        apply s_43_73
        try simp only [mi_12, fl_12_0, mi_13, ml_13, fl_13, cm_o, cl_2, cu_2, fl_12_1, up_12_1, fl_12_6, mi_16, ml_16, fl_16, up_16, fl_12_4, mi_14, ml_14, fl_14, up_14, cl_7, cm_7, cn_7, ca_7, cz_7, fl_12_5, mi_15, ml_15, fl_15, up_15, true_and, and_true, true_or, or_true, implies_true, b10_0, b10_1]
        repeat' (first | refine And.intro ?_ ?_ | intro _)
        all_goals (try (first | omega | (unfold r32; omega) | exact hQ | exact qe hQ (by omega) | exact qe hQ (by (repeat' split) <;> omega) | exact b01 | exact n01 | exact n21 | exact n31 | exact absurd trivial (by assumption)))
        exact ih _
      · rw [if_neg (by omega)] at ih
        apply s_43_73
        try simp only [mi_12, fl_12_0, mi_13, ml_13, fl_13, cm_o, cl_2, cu_2, fl_12_1, up_12_1, fl_12_6, mi_16, ml_16, fl_16, up_16, fl_12_4, mi_14, ml_14, fl_14, up_14, cl_7, cm_7, cn_7, ca_7, cz_7, fl_12_5, mi_15, ml_15, fl_15, up_15, true_and, and_true, true_or, or_true, implies_true, b10_0, b10_1]
        repeat' (first | refine And.intro ?_ ?_ | intro _)
        all_goals (try (first | omega | (unfold r32; omega) | exact hQ | exact qe hQ (by omega) | exact qe hQ (by (repeat' split) <;> omega) | exact b01 | exact n01 | exact n21 | exact n31 | exact absurd trivial (by assumption)))
        exact ih _
      · rw [if_pos (by omega)] at ih
        apply s_43_70
        try simp only [mi_12, fl_12_0, mi_13, ml_13, fl_13, cm_o, cl_2, cu_2, fl_12_1, up_12_1, fl_12_6, mi_16, ml_16, fl_16, up_16, fl_12_4, mi_14, ml_14, fl_14, up_14, cl_7, cm_7, cn_7, ca_7, cz_7, fl_12_5, mi_15, ml_15, fl_15, up_15, true_and, and_true, true_or, or_true, implies_true, b10_0, b10_1]
        repeat' (first | refine And.intro ?_ ?_ | intro _)
        all_goals (try (first | omega | (unfold r32; omega) | exact hQ | exact qe hQ (by omega) | exact qe hQ (by (repeat' split) <;> omega) | exact b01 | exact n01 | exact n21 | exact n31 | exact absurd trivial (by assumption)))
        apply s_43_73
        try simp only [mi_12, fl_12_0, mi_13, ml_13, fl_13, cm_o, cl_2, cu_2, fl_12_1, up_12_1, fl_12_6, mi_16, ml_16, fl_16, up_16, fl_12_4, mi_14, ml_14, fl_14, up_14, cl_7, cm_7, cn_7, ca_7, cz_7, fl_12_5, mi_15, ml_15, fl_15, up_15, true_and, and_true, true_or, or_true, implies_true, b10_0, b10_1]
        repeat' (first | refine And.intro ?_ ?_ | intro _)
        all_goals (try (first | omega | (unfold r32; omega) | exact hQ | exact qe hQ (by omega) | exact qe hQ (by (repeat' split) <;> omega) | exact b01 | exact n01 | exact n21 | exact n31 | exact absurd trivial (by assumption)))
        exact ih _
theorem c42 (X : mX) {G g s : mF} (hA : Agree G g) (hL : Glk G) (hS : CS g s) : Ret X 1 42 [(2, 12), (3, 0), (3, 0), (3, 0), (3, 0)] g (some (0, (nxS G s 4).1)) g := by
  intro d Q hd hQ
  have key := lup (P := fun k => ∀ v, Wp X d SH 42 6 [(2, 12), (0, (nxS G s k).1), (0, (nxS G s k).2), (0, (k : Int)), v] [] SH (fl g) Q) 4 ?_ ?_ 0 (by omega)
  · skip
    apply s_42_0
    try simp only [mi_12, fl_12_0, mi_13, ml_13, fl_13, cm_o, cl_4, cu_4, true_and, and_true, true_or, or_true, implies_true, b10_0, b10_1]
    repeat' (first | refine And.intro ?_ ?_ | intro _)
    all_goals (try (first | omega | (unfold r32; omega) | exact hQ | exact qe hQ (by omega) | exact qe hQ (by (repeat' split) <;> omega) | exact b01 | exact n01 | exact n21 | exact n31 | exact absurd trivial (by assumption)))
    exact key _
  · intro v
    apply s_42_6
    try simp only [mi_12, fl_12_0, mi_13, ml_13, fl_13, cm_o, cl_4, cu_4, true_and, and_true, true_or, or_true, implies_true, b10_0, b10_1]
    repeat' (first | refine And.intro ?_ ?_ | intro _)
    all_goals (try (first | omega | (unfold r32; omega) | exact hQ | exact qe hQ (by omega) | exact qe hQ (by (repeat' split) <;> omega) | exact b01 | exact n01 | exact n21 | exact n31 | exact absurd trivial (by assumption)))
  · intro k hk ih v
    have e0 : ((k : Int)).toNat = k := by omega
    have e1 := (hS k hk).1
    have e10 : ((k + 1 : Nat) : Int) = (k : Int) + 1 := by omega
    unfold nxS at ih
    rw [e10] at ih
    apply s_42_6
    try simp only [mi_12, fl_12_0, mi_13, ml_13, fl_13, cm_o, cl_4, cu_4, hk, e0, e1, true_and, and_true, true_or, or_true, implies_true, b10_0, b10_1]
    repeat' (first | refine And.intro ?_ ?_ | intro _)
    all_goals (try (first | omega | (unfold r32; omega) | exact hQ | exact qe hQ (by omega) | exact qe hQ (by (repeat' split) <;> omega) | exact b01 | exact n01 | exact n21 | exact n31 | exact absurd trivial (by assumption)))
    · rw [if_neg (by omega)] at ih
      apply s_42_33
      try simp only [mi_12, fl_12_0, mi_13, ml_13, fl_13, cm_o, cl_4, cu_4, true_and, and_true, true_or, or_true, implies_true, b10_0, b10_1]
      repeat' (first | refine And.intro ?_ ?_ | intro _)
      all_goals (try (first | omega | (unfold r32; omega) | exact hQ | exact qe hQ (by omega) | exact qe hQ (by (repeat' split) <;> omega) | exact b01 | exact n01 | exact n21 | exact n31 | exact absurd trivial (by assumption)))
      apply s_42_57
      try simp only [mi_12, fl_12_0, mi_13, ml_13, fl_13, cm_o, cl_4, cu_4, true_and, and_true, true_or, or_true, implies_true, b10_0, b10_1]
      repeat' (first | refine And.intro ?_ ?_ | intro _)
      all_goals (try (first | omega | (unfold r32; omega) | exact hQ | exact qe hQ (by omega) | exact qe hQ (by (repeat' split) <;> omega) | exact b01 | exact n01 | exact n21 | exact n31 | exact absurd trivial (by assumption)))
      exact ih _
    · refine c43 X hk hA hL hS _ _ (by omega) ?_
      apply s_42_29
      try simp only [mi_12, fl_12_0, mi_13, ml_13, fl_13, cm_o, cl_4, cu_4, true_and, and_true, true_or, or_true, implies_true, b10_0, b10_1]
      repeat' (first | refine And.intro ?_ ?_ | intro _)
      all_goals (try (first | omega | (unfold r32; omega) | exact hQ | exact qe hQ (by omega) | exact qe hQ (by (repeat' split) <;> omega) | exact b01 | exact n01 | exact n21 | exact n31 | exact absurd trivial (by assumption)))
      apply s_42_33
      try simp only [mi_12, fl_12_0, mi_13, ml_13, fl_13, cm_o, cl_4, cu_4, true_and, and_true, true_or, or_true, implies_true, b10_0, b10_1]
      repeat' (first | refine And.intro ?_ ?_ | intro _)
      all_goals (try (first | omega | (unfold r32; omega) | exact hQ | exact qe hQ (by omega) | exact qe hQ (by (repeat' split) <;> omega) | exact b01 | exact n01 | exact n21 | exact n31 | exact absurd trivial (by assumption)))
      · rw [if_neg (by omega)] at ih
        apply s_42_57
        try simp only [mi_12, fl_12_0, mi_13, ml_13, fl_13, cm_o, cl_4, cu_4, true_and, and_true, true_or, or_true, implies_true, b10_0, b10_1]
        repeat' (first | refine And.intro ?_ ?_ | intro _)
        all_goals (try (first | omega | (unfold r32; omega) | exact hQ | exact qe hQ (by omega) | exact qe hQ (by (repeat' split) <;> omega) | exact b01 | exact n01 | exact n21 | exact n31 | exact absurd trivial (by assumption)))
        exact ih _
      · rw [if_pos (by omega)] at ih
        apply s_42_52
        try simp only [mi_12, fl_12_0, mi_13, ml_13, fl_13, cm_o, cl_4, cu_4, true_and, and_true, true_or, or_true, implies_true, b10_0, b10_1]
        repeat' (first | refine And.intro ?_ ?_ | intro _)
        all_goals (try (first | omega | (unfold r32; omega) | exact hQ | exact qe hQ (by omega) | exact qe hQ (by (repeat' split) <;> omega) | exact b01 | exact n01 | exact n21 | exact n31 | exact absurd trivial (by assumption)))
        apply s_42_57
        try simp only [mi_12, fl_12_0, mi_13, ml_13, fl_13, cm_o, cl_4, cu_4, true_and, and_true, true_or, or_true, implies_true, b10_0, b10_1]
        repeat' (first | refine And.intro ?_ ?_ | intro _)
        all_goals (try (first | omega | (unfold r32; omega) | exact hQ | exact qe hQ (by omega) | exact qe hQ (by (repeat' split) <;> omega) | exact b01 | exact n01 | exact n21 | exact n31 | exact absurd trivial (by assumption)))
        exact ih _
      · rw [if_neg (by omega)] at ih
        apply s_42_57
        try simp only [mi_12, fl_12_0, mi_13, ml_13, fl_13, cm_o, cl_4, cu_4, true_and, and_true, true_or, or_true, implies_true, b10_0, b10_1]
        repeat' (first | refine And.intro ?_ ?_ | intro _)
        all_goals (try (first | omega | (unfold r32; omega) | exact hQ | exact qe hQ (by omega) | exact qe hQ (by (repeat' split) <;> omega) | exact b01 | exact n01 | exact n21 | exact n31 | exact absurd trivial (by assumption)))
        exact ih _
      · rw [if_pos (by omega)] at ih
        apply s_42_52
        try simp only [mi_12, fl_12_0, mi_13, ml_13, fl_13, cm_o, cl_4, cu_4, true_and, and_true, true_or, or_true, implies_true, b10_0, b10_1]
        repeat' (first | refine And.intro ?_ ?_ | intro _)
        all_goals (try (first | omega | (unfold r32; omega) | exact hQ | exact qe hQ (by omega) | exact qe hQ (by (repeat' split) <;> omega) | exact b01 | exact n01 | exact n21 | exact n31 | exact absurd trivial (by assumption)))
        apply s_42_57
        try simp only [mi_12, fl_12_0, mi_13, ml_13, fl_13, cm_o, cl_4, cu_4, true_and, and_true, true_or, or_true, implies_true, b10_0, b10_1]
        repeat' (first | refine And.intro ?_ ?_ | intro _)
        all_goals (try (first | omega | (unfold r32; omega) | exact hQ | exact qe hQ (by omega) | exact qe hQ (by (repeat' split) <;> omega) | exact b01 | exact n01 | exact n21 | exact n31 | exact absurd trivial (by assumption)))
        exact ih _
