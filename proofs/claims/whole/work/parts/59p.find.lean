/-! the reference's night -/
/-- clocks that came: a mask -/
def cam (s : mF) : Int := (if s 0 0 = -1 then 0 else 1) + (if s 0 1 = -1 then 0 else 2) + (if s 0 2 = -1 then 0 else 4) + (if s 0 3 = -1 then 0 else 8)
theorem cam_b (s : mF) : 0 ≤ cam s ∧ cam s ≤ 15 := by
  unfold cam
  (repeat' split) <;> omega
theorem bit_t : ∀ x : Fin 16, ∀ c : Fin 4, ((Int32.ofInt ((Int32.ofInt (x.val : Int) >>> (Int32.ofInt (c.val : Int) &&& 31)).toInt) &&& Int32.ofInt 1).toInt) = ((x.val / 2 ^ c.val % 2 : Nat) : Int) := by decide +kernel
theorem bit_o : ∀ x : Fin 16, ∀ c : Fin 4, ((Int32.ofInt (x.val : Int) ||| Int32.ofInt ((Int32.ofInt 1 <<< (Int32.ofInt (c.val : Int) &&& 31)).toInt)).toInt) = (if x.val / 2 ^ c.val % 2 = 1 then (x.val : Int) else (x.val : Int) + ((2 ^ c.val : Nat) : Int)) := by decide +kernel
theorem cam_t {s : mF} {c : Nat} (hc : c < 4) : ((Int32.ofInt ((Int32.ofInt (cam s) >>> (Int32.ofInt (c : Int) &&& 31)).toInt) &&& Int32.ofInt 1).toInt) = if s 0 c = -1 then 0 else 1 := by
  have hb := cam_b s
  have z := bit_t ⟨(cam s).toNat, by omega⟩ ⟨c, hc⟩
  simp only [] at z
  rw [show (((cam s).toNat : Nat) : Int) = cam s by omega] at z
  rw [z]
  unfold cam
  match c, hc with
  | 0, _ => (repeat' split) <;> simp_all
  | 1, _ => (repeat' split) <;> simp_all
  | 2, _ => (repeat' split) <;> simp_all
  | 3, _ => (repeat' split) <;> simp_all
theorem cam_o {s s' : mF} {c : Nat} (hc : c < 4) (h0 : s 0 c = -1) (h1 : s' 0 c ≠ -1) (h2 : ∀ k, k ≠ c → s' 0 k = s 0 k) : ((Int32.ofInt (cam s) ||| Int32.ofInt ((Int32.ofInt 1 <<< (Int32.ofInt (c : Int) &&& 31)).toInt)).toInt) = cam s' := by
  have hb := cam_b s
  have z := bit_o ⟨(cam s).toNat, by omega⟩ ⟨c, hc⟩
  simp only [] at z
  rw [show (((cam s).toNat : Nat) : Int) = cam s by omega] at z
  rw [z]
  unfold cam
  match c, hc with
  | 0, _ =>
    rw [h2 1 (by omega), h2 2 (by omega), h2 3 (by omega), if_pos h0, if_neg h1]
    (repeat' split) <;> simp_all
  | 1, _ =>
    rw [h2 0 (by omega), h2 2 (by omega), h2 3 (by omega), if_pos h0, if_neg h1]
    (repeat' split) <;> simp_all
  | 2, _ =>
    rw [h2 1 (by omega), h2 0 (by omega), h2 3 (by omega), if_pos h0, if_neg h1]
    (repeat' split) <;> simp_all
  | 3, _ =>
    rw [h2 1 (by omega), h2 2 (by omega), h2 0 (by omega), if_pos h0, if_neg h1]
    (repeat' split) <;> simp_all
def mlS (G s : mF) (c : Nat) : Nat → Int × Int
  | 0 => (if G (19 + 6 * c) 2 < 0 then 1000000 else G (19 + 6 * c) 2, G (19 + 6 * c) 3)
  | k + 1 => if G 15 k = (c : Int) ∧ 0 ≤ s (3 + (G 13 k).toNat) (G 14 k).toNat ∧ s (3 + (G 13 k).toNat) (G 14 k).toNat < (mlS G s c k).1 then (s (3 + (G 13 k).toNat) (G 14 k).toNat, 0) else mlS G s c k
theorem mlS_p {G s : mF} {c : Nat} {M : Int} (hG : CG G) (hL : Glk G) (hI : SI G M s) (hM : 5999 ≤ M ∧ M ≤ 40000) (hc : c < 4) : ∀ k : Nat, (k : Int) ≤ G 11 1 → (ltS G s c k = -1 → G (19 + 6 * c) 2 = -1 ∧ (mlS G s c k).1 = 1000000) ∧ (ltS G s c k ≠ -1 → (mlS G s c k).1 = ltS G s c k ∧ (mlS G s c k).2 = (if ltS G s c k = G (19 + 6 * c) 2 then G (19 + 6 * c) 3 else 0) ∧ (G (19 + 6 * c) 2 ≠ -1 → ltS G s c k ≤ G (19 + 6 * c) 2)) ∧ -1 ≤ ltS G s c k ∧ ltS G s c k ≤ M := by
  intro k
  induction k with
  | zero =>
    intro _
    have z := (hG.2 c hc).2.1
    unfold ltS mlS
    refine ⟨fun h => ⟨h, by rw [if_pos (by omega)]⟩, fun h => ⟨by rw [if_neg (by omega)], by rw [if_pos rfl], fun _ => by omega⟩, by omega, by omega⟩
  | succ k ih =>
    intro hk
    obtain ⟨y1, y2, y3, y4⟩ := ih (by omega)
    have z := hL.2 k (by omega)
    have w := hI (G 13 k).toNat (by omega)
    have v := (w.2.2.2 (G 14 k).toNat (by omega)).1
    have hz := (hG.2 c hc).2.1
    unfold ltS mlS
    generalize s (3 + (G 13 k).toNat) (G 14 k).toNat = b at v ⊢
    by_cases hcl : G 15 k = (c : Int) ∧ b ≠ -1 ∧ (ltS G s c k = -1 ∨ b < ltS G s c k)
    · have hcm : G 15 k = (c : Int) ∧ 0 ≤ b ∧ b < (mlS G s c k).1 := by
        refine ⟨hcl.1, by omega, ?_⟩
        by_cases hl : ltS G s c k = -1
        · rw [(y1 hl).2]; omega
        · rw [(y2 hl).1]; omega
      rw [if_pos hcl, if_pos hcm]
      refine ⟨fun h => by omega, fun _ => ⟨rfl, ?_, ?_⟩, by omega, by omega⟩
      · by_cases hl : ltS G s c k = -1
        · have := (y1 hl).1
          rw [if_neg (by omega)]
        · have := (y2 hl).2.2
          rw [if_neg (by omega)]
      · intro hh
        by_cases hl : ltS G s c k = -1
        · have := (y1 hl).1
          omega
        · have := (y2 hl).2.2 hh
          omega
    · have hcm : ¬ (G 15 k = (c : Int) ∧ 0 ≤ b ∧ b < (mlS G s c k).1) := by
        intro hh
        refine hcl ⟨hh.1, by omega, ?_⟩
        by_cases hl : ltS G s c k = -1
        · exact Or.inl hl
        · have := (y2 hl).1
          exact Or.inr (by omega)
      rw [if_neg hcl, if_neg hcm]
      exact ⟨y1, y2, y3, y4⟩
theorem c191 (X : mX) {c : Nat} (hc : c < 4) {G g s : mF} {D M : Int} (hA : MAg D G g) (hL : Glk G) (hS : MS g s) (hI : SI G M s) : Rel X 0 191 [(2, 87), (0, (c : Int)), (0, cam s), (3, 0), (3, 0), (3, 0)] g (fun ro g' => ro = none ∧ (∀ o k, ¬ (o = 86 ∧ (k = 36 ∨ k = 37)) → g' o k = g o k) ∧ g' 86 36 = (mlS G s c (G 11 1).toNat).1 ∧ g' 86 37 = (mlS G s c (G 11 1).toNat).2) := by
  intro d Q hd hQ
  have e0 : ((c : Int)).toNat = c := by omega
  obtain ⟨-, -, -, a4, a5, a6⟩ := hA
  obtain ⟨b1, b2, b3, -⟩ := a4 c hc
  have hl := hL.1
  have key := lup (P := fun k => ∀ h : mF, (∀ o k, ¬ (o = 86 ∧ (k = 36 ∨ k = 37)) → h o k = g o k) → h 86 36 = (mlS G s c k).1 → h 86 37 = (mlS G s c k).2 → ∀ v4 v5, v4.1 ≠ 1 → Wp X d SH 191 36 [(2, 87), (0, (c : Int)), (0, cam s), (0, (k : Int)), v4, v5] [] SH (fl h) Q) (G 11 1).toNat ?_ ?_ 0 (by omega)
  · have fin : ∀ h : mF, (∀ o k, ¬ (o = 86 ∧ (k = 36 ∨ k = 37)) → h o k = g o k) → h 86 36 = (mlS G s c 0).1 → Wp X d SH 191 24 [(2, 87), (0, (c : Int)), (0, cam s), (3, 0), (3, 0), (3, 0)] [] SH (fl h) Q := by
      intro h hF h36
      have f104 : h 104 c = G (19 + 6 * c) 3 := by rw [hF _ _ (by omega)]; exact b3
      generalize hh2 : mup h 86 37 (G (19 + 6 * c) 3) = h2
      have k0 := key h2 (fun o k ho => by rw [← hh2, mup_n (by omega)]; exact hF o k ho) (by rw [← hh2, mup_n (by omega)]; exact h36) (by rw [← hh2, mup_e]; rfl)
      apply s_191_24
      try simp only [mi_87, fl_87_18, mi_104, ml_104, fl_104, up_104, fl_87_36, up_87_36, fl_87_19, mi_105, ml_105, fl_105, up_105, fl_87_37, up_87_37, fl_87_20, up_87_20, fl_87_21, mi_106, ml_106, fl_106, up_106, fl_87_33, mi_115, ml_115, fl_115, up_115, e0, f104, hh2, true_and, and_true, true_or, or_true, implies_true, b10_0, b10_1]
      repeat' (first | refine And.intro ?_ ?_ | intro _)
      all_goals (try (first | omega | (unfold r32; omega) | exact hQ | exact qe hQ (by omega) | exact qe hQ (by (repeat' split) <;> omega) | exact b01 | exact n01 | exact n21 | exact n31 | exact absurd trivial (by assumption)))
      apply s_191_34
      try simp only [mi_87, fl_87_18, mi_104, ml_104, fl_104, up_104, fl_87_36, up_87_36, fl_87_19, mi_105, ml_105, fl_105, up_105, fl_87_37, up_87_37, fl_87_20, up_87_20, fl_87_21, mi_106, ml_106, fl_106, up_106, fl_87_33, mi_115, ml_115, fl_115, up_115, true_and, and_true, true_or, or_true, implies_true, b10_0, b10_1]
      repeat' (first | refine And.intro ?_ ?_ | intro _)
      all_goals (try (first | omega | (unfold r32; omega) | exact hQ | exact qe hQ (by omega) | exact qe hQ (by (repeat' split) <;> omega) | exact b01 | exact n01 | exact n21 | exact n31 | exact absurd trivial (by assumption)))
      exact k0 _ _ n31
    apply s_191_0
    try simp only [mi_87, fl_87_18, mi_104, ml_104, fl_104, up_104, fl_87_36, up_87_36, fl_87_19, mi_105, ml_105, fl_105, up_105, fl_87_37, up_87_37, fl_87_20, up_87_20, fl_87_21, mi_106, ml_106, fl_106, up_106, fl_87_33, mi_115, ml_115, fl_115, up_115, e0, b2, true_and, and_true, true_or, or_true, implies_true, b10_0, b10_1]
    repeat' (first | refine And.intro ?_ ?_ | intro _)
    all_goals (try (first | omega | (unfold r32; omega) | exact hQ | exact qe hQ (by omega) | exact qe hQ (by (repeat' split) <;> omega) | exact b01 | exact n01 | exact n21 | exact n31 | exact absurd trivial (by assumption)))
    · skip
      apply s_191_21
      try simp only [mi_87, fl_87_18, mi_104, ml_104, fl_104, up_104, fl_87_36, up_87_36, fl_87_19, mi_105, ml_105, fl_105, up_105, fl_87_37, up_87_37, fl_87_20, up_87_20, fl_87_21, mi_106, ml_106, fl_106, up_106, fl_87_33, mi_115, ml_115, fl_115, up_115, true_and, and_true, true_or, or_true, implies_true, b10_0, b10_1]
      repeat' (first | refine And.intro ?_ ?_ | intro _)
      all_goals (try (first | omega | (unfold r32; omega) | exact hQ | exact qe hQ (by omega) | exact qe hQ (by (repeat' split) <;> omega) | exact b01 | exact n01 | exact n21 | exact n31 | exact absurd trivial (by assumption)))
      exact fin _ (fun o k ho => mup_n (by omega)) (by rw [mup_e]; unfold mlS; rw [if_neg (by omega)])
    · skip
      apply s_191_21
      try simp only [mi_87, fl_87_18, mi_104, ml_104, fl_104, up_104, fl_87_36, up_87_36, fl_87_19, mi_105, ml_105, fl_105, up_105, fl_87_37, up_87_37, fl_87_20, up_87_20, fl_87_21, mi_106, ml_106, fl_106, up_106, fl_87_33, mi_115, ml_115, fl_115, up_115, true_and, and_true, true_or, or_true, implies_true, b10_0, b10_1]
      repeat' (first | refine And.intro ?_ ?_ | intro _)
      all_goals (try (first | omega | (unfold r32; omega) | exact hQ | exact qe hQ (by omega) | exact qe hQ (by (repeat' split) <;> omega) | exact b01 | exact n01 | exact n21 | exact n31 | exact absurd trivial (by assumption)))
      exact fin _ (fun o k ho => mup_n (by omega)) (by rw [mup_e]; unfold mlS; rw [if_pos (by omega)])
  · intro h hF h36 h37 v4 v5 hv4
    have f20 : h 86 20 = G 11 1 := by rw [hF _ _ (by omega)]; exact a5
    have hq := hQ none h ⟨rfl, hF, h36, h37⟩
    apply s_191_36
    try simp only [mi_87, fl_87_18, mi_104, ml_104, fl_104, up_104, fl_87_36, up_87_36, fl_87_19, mi_105, ml_105, fl_105, up_105, fl_87_37, up_87_37, fl_87_20, up_87_20, fl_87_21, mi_106, ml_106, fl_106, up_106, fl_87_33, mi_115, ml_115, fl_115, up_115, f20, true_and, and_true, true_or, or_true, implies_true, b10_0, b10_1]
    repeat' (first | refine And.intro ?_ ?_ | intro _)
    all_goals (try (first | omega | (unfold r32; omega) | exact hQ | exact qe hQ (by omega) | exact qe hQ (by (repeat' split) <;> omega) | exact b01 | exact n01 | exact n21 | exact n31 | exact absurd trivial (by assumption)))
    all_goals (exact hq)
  · intro k hk ih h hF h36 h37 v4 v5 hv4
    have z := hL.2 k (by omega)
    have f20 : h 86 20 = G 11 1 := by rw [hF _ _ (by omega)]; exact a5
    obtain ⟨q1, q2, q3⟩ := a6 k (by omega)
    have f0 : h 105 (3 * k) = G 13 k := by rw [hF _ _ (by omega)]; exact q1
    have f1 : h 105 (3 * k + 1) = G 14 k := by rw [hF _ _ (by omega)]; exact q2
    have f2 : h 105 (3 * k + 2) = G 15 k := by rw [hF _ _ (by omega)]; exact q3
    obtain ⟨b, hb⟩ : ∃ b : Nat, G 13 k = (b : Int) := ⟨(G 13 k).toNat, by omega⟩
    have hb4 : b < 4 := by omega
    obtain ⟨i, hi⟩ : ∃ i : Nat, G 14 k = (i : Int) := ⟨(G 14 k).toNat, by omega⟩
    have e1 : (3 * (k : Int)).toNat = 3 * k := by omega
    have e2 : (3 * (k : Int) + 1).toNat = 3 * k + 1 := by omega
    have e3 : (3 * (k : Int) + 2).toNat = 3 * k + 2 := by omega
    have e4 : (36 * (b : Int) + (i : Int)).toNat = 36 * b + i := by omega
    have e7 : ((b : Int)).toNat = b := by omega
    have e8 : ((i : Int)).toNat = i := by omega
    have e10 : ((k + 1 : Nat) : Int) = (k : Int) + 1 := by omega
    have hSb := (hS b hb4).2.2.2 i (by omega)
    have hIb := (hI b hb4).2.2.2 i (by omega)
    have f114 : h 114 (36 * b + i) = s (3 + b) i := by rw [hF _ _ (by omega)]; exact hSb.1
    have ct := cam_t (s := s) hb4
    unfold mlS at ih
    rw [hb, e7, hi, e8, e10] at ih
    have fin : ∀ v5, Wp X d SH 191 89 [(2, 87), (0, (c : Int)), (0, cam s), (0, (k : Int)), (0, (b : Int)), v5] [(0, s (3 + b) i)] SH (fl h) Q := by
      intro v5
      refine s_191_89 (by first | exact n01 | exact n21 | exact n31 | assumption) ?_
      try simp only [mi_87, fl_87_18, mi_104, ml_104, fl_104, up_104, fl_87_36, up_87_36, fl_87_19, mi_105, ml_105, fl_105, up_105, fl_87_37, up_87_37, fl_87_20, up_87_20, fl_87_21, mi_106, ml_106, fl_106, up_106, fl_87_33, mi_115, ml_115, fl_115, up_115, e3, f2, h36, true_and, and_true, true_or, or_true, implies_true, b10_0, b10_1]
      repeat' (first | refine And.intro ?_ ?_ | intro _)
      all_goals (try (first | omega | (unfold r32; omega) | exact hQ | exact qe hQ (by omega) | exact qe hQ (by (repeat' split) <;> omega) | exact b01 | exact n01 | exact n21 | exact n31 | exact absurd trivial (by assumption)))
      · rw [if_neg (by omega)] at ih
        apply s_191_130
        try simp only [mi_87, fl_87_18, mi_104, ml_104, fl_104, up_104, fl_87_36, up_87_36, fl_87_19, mi_105, ml_105, fl_105, up_105, fl_87_37, up_87_37, fl_87_20, up_87_20, fl_87_21, mi_106, ml_106, fl_106, up_106, fl_87_33, mi_115, ml_115, fl_115, up_115, true_and, and_true, true_or, or_true, implies_true, b10_0, b10_1]
        repeat' (first | refine And.intro ?_ ?_ | intro _)
        all_goals (try (first | omega | (unfold r32; omega) | exact hQ | exact qe hQ (by omega) | exact qe hQ (by (repeat' split) <;> omega) | exact b01 | exact n01 | exact n21 | exact n31 | exact absurd trivial (by assumption)))
        exact ih h hF h36 h37 _ _ n01
      · rw [if_neg (by omega)] at ih
        apply s_191_130
        try simp only [mi_87, fl_87_18, mi_104, ml_104, fl_104, up_104, fl_87_36, up_87_36, fl_87_19, mi_105, ml_105, fl_105, up_105, fl_87_37, up_87_37, fl_87_20, up_87_20, fl_87_21, mi_106, ml_106, fl_106, up_106, fl_87_33, mi_115, ml_115, fl_115, up_115, true_and, and_true, true_or, or_true, implies_true, b10_0, b10_1]
        repeat' (first | refine And.intro ?_ ?_ | intro _)
        all_goals (try (first | omega | (unfold r32; omega) | exact hQ | exact qe hQ (by omega) | exact qe hQ (by (repeat' split) <;> omega) | exact b01 | exact n01 | exact n21 | exact n31 | exact absurd trivial (by assumption)))
        exact ih h hF h36 h37 _ _ n01
      · rw [if_neg (by omega)] at ih
        apply s_191_130
        try simp only [mi_87, fl_87_18, mi_104, ml_104, fl_104, up_104, fl_87_36, up_87_36, fl_87_19, mi_105, ml_105, fl_105, up_105, fl_87_37, up_87_37, fl_87_20, up_87_20, fl_87_21, mi_106, ml_106, fl_106, up_106, fl_87_33, mi_115, ml_115, fl_115, up_115, true_and, and_true, true_or, or_true, implies_true, b10_0, b10_1]
        repeat' (first | refine And.intro ?_ ?_ | intro _)
        all_goals (try (first | omega | (unfold r32; omega) | exact hQ | exact qe hQ (by omega) | exact qe hQ (by (repeat' split) <;> omega) | exact b01 | exact n01 | exact n21 | exact n31 | exact absurd trivial (by assumption)))
        exact ih h hF h36 h37 _ _ n01
      · rw [if_pos (by omega)] at ih
        apply s_191_125
        try simp only [mi_87, fl_87_18, mi_104, ml_104, fl_104, up_104, fl_87_36, up_87_36, fl_87_19, mi_105, ml_105, fl_105, up_105, fl_87_37, up_87_37, fl_87_20, up_87_20, fl_87_21, mi_106, ml_106, fl_106, up_106, fl_87_33, mi_115, ml_115, fl_115, up_115, true_and, and_true, true_or, or_true, implies_true, b10_0, b10_1]
        repeat' (first | refine And.intro ?_ ?_ | intro _)
        all_goals (try (first | omega | (unfold r32; omega) | exact hQ | exact qe hQ (by omega) | exact qe hQ (by (repeat' split) <;> omega) | exact b01 | exact n01 | exact n21 | exact n31 | exact absurd trivial (by assumption)))
        apply s_191_130
        try simp only [mi_87, fl_87_18, mi_104, ml_104, fl_104, up_104, fl_87_36, up_87_36, fl_87_19, mi_105, ml_105, fl_105, up_105, fl_87_37, up_87_37, fl_87_20, up_87_20, fl_87_21, mi_106, ml_106, fl_106, up_106, fl_87_33, mi_115, ml_115, fl_115, up_115, true_and, and_true, true_or, or_true, implies_true, b10_0, b10_1]
        repeat' (first | refine And.intro ?_ ?_ | intro _)
        all_goals (try (first | omega | (unfold r32; omega) | exact hQ | exact qe hQ (by omega) | exact qe hQ (by (repeat' split) <;> omega) | exact b01 | exact n01 | exact n21 | exact n31 | exact absurd trivial (by assumption)))
        refine ih _ (fun o k ho => ?_) ?_ ?_ _ _ n01
        · rw [mup_n (by omega), mup_n (by omega)]
          exact hF o k ho
        · rw [mup_n (by omega), mup_e]
        · rw [mup_e]
    by_cases hz : s 0 b = -1
    · rw [if_pos hz] at ct
      have hs1 : s (3 + b) i = -1 := by omega
      rw [hs1] at fin
      apply s_191_36
      try simp only [mi_87, fl_87_18, mi_104, ml_104, fl_104, up_104, fl_87_36, up_87_36, fl_87_19, mi_105, ml_105, fl_105, up_105, fl_87_37, up_87_37, fl_87_20, up_87_20, fl_87_21, mi_106, ml_106, fl_106, up_106, fl_87_33, mi_115, ml_115, fl_115, up_115, f20, e1, f0, hb, true_and, and_true, true_or, or_true, implies_true, b10_0, b10_1]
      repeat' (first | refine And.intro ?_ ?_ | intro _)
      all_goals (try (first | omega | (unfold r32; omega) | exact hQ | exact qe hQ (by omega) | exact qe hQ (by (repeat' split) <;> omega) | exact b01 | exact n01 | exact n21 | exact n31 | exact absurd trivial (by assumption)))
      apply s_191_54
      try simp only [mi_87, fl_87_18, mi_104, ml_104, fl_104, up_104, fl_87_36, up_87_36, fl_87_19, mi_105, ml_105, fl_105, up_105, fl_87_37, up_87_37, fl_87_20, up_87_20, fl_87_21, mi_106, ml_106, fl_106, up_106, fl_87_33, mi_115, ml_115, fl_115, up_115, ct, true_and, and_true, true_or, or_true, implies_true, b10_0, b10_1]
      repeat' (first | refine And.intro ?_ ?_ | intro _)
      all_goals (try (first | omega | (unfold r32; omega) | exact hQ | exact qe hQ (by omega) | exact qe hQ (by (repeat' split) <;> omega) | exact b01 | exact n01 | exact n21 | exact n31 | exact absurd trivial (by assumption)))
      exact fin _
    · rw [if_neg hz] at ct
      apply s_191_36
      try simp only [mi_87, fl_87_18, mi_104, ml_104, fl_104, up_104, fl_87_36, up_87_36, fl_87_19, mi_105, ml_105, fl_105, up_105, fl_87_37, up_87_37, fl_87_20, up_87_20, fl_87_21, mi_106, ml_106, fl_106, up_106, fl_87_33, mi_115, ml_115, fl_115, up_115, f20, e1, f0, hb, true_and, and_true, true_or, or_true, implies_true, b10_0, b10_1]
      repeat' (first | refine And.intro ?_ ?_ | intro _)
      all_goals (try (first | omega | (unfold r32; omega) | exact hQ | exact qe hQ (by omega) | exact qe hQ (by (repeat' split) <;> omega) | exact b01 | exact n01 | exact n21 | exact n31 | exact absurd trivial (by assumption)))
      apply s_191_54
      try simp only [mi_87, fl_87_18, mi_104, ml_104, fl_104, up_104, fl_87_36, up_87_36, fl_87_19, mi_105, ml_105, fl_105, up_105, fl_87_37, up_87_37, fl_87_20, up_87_20, fl_87_21, mi_106, ml_106, fl_106, up_106, fl_87_33, mi_115, ml_115, fl_115, up_115, ct, e2, f1, hi, e4, f114, true_and, and_true, true_or, or_true, implies_true, b10_0, b10_1]
      repeat' (first | refine And.intro ?_ ?_ | intro _)
      all_goals (try (first | omega | (unfold r32; omega) | exact hQ | exact qe hQ (by omega) | exact qe hQ (by (repeat' split) <;> omega) | exact b01 | exact n01 | exact n21 | exact n31 | exact absurd trivial (by assumption)))
      exact fin _
