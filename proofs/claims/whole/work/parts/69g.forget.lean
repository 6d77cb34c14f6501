/-! what a clock that is mounted anew loses -/
def cp (rd : Nat → Int × Int × Int) (kp : Int × Int × Int → Bool) : Nat → Nat × (Nat → Int × Int × Int)
  | 0 => (0, fun _ => (0, 0, 0))
  | k + 1 => if kp (rd k) = true then ((cp rd kp k).1 + 1, fun j => if j = (cp rd kp k).1 then rd k else (cp rd kp k).2 j) else cp rd kp k
theorem cp_y {rd : Nat → Int × Int × Int} {kp : Int × Int × Int → Bool} {k : Nat} (h : kp (rd k) = true) : cp rd kp (k + 1) = ((cp rd kp k).1 + 1, fun j => if j = (cp rd kp k).1 then rd k else (cp rd kp k).2 j) := by
  show (if kp (rd k) = true then _ else _) = _
  rw [if_pos h]
theorem cp_n {rd : Nat → Int × Int × Int} {kp : Int × Int × Int → Bool} {k : Nat} (h : ¬ kp (rd k) = true) : cp rd kp (k + 1) = cp rd kp k := by
  show (if kp (rd k) = true then _ else _) = _
  rw [if_neg h]
theorem cp_le {rd : Nat → Int × Int × Int} {kp : Int × Int × Int → Bool} : ∀ k, (cp rd kp k).1 ≤ k := by
  intro k
  induction k with
  | zero => exact Nat.le_refl _
  | succ k ih =>
    by_cases h : kp (rd k) = true
    · rw [cp_y h]; show _ + 1 ≤ k + 1; omega
    · rw [cp_n h]; omega
theorem cp_c {rd rd' : Nat → Int × Int × Int} {kp : Int × Int × Int → Bool} : ∀ k, (∀ i, i < k → rd i = rd' i) → cp rd kp k = cp rd' kp k := by
  intro k
  induction k with
  | zero => intro _; rfl
  | succ k ih =>
    intro h
    have e := h k (by omega)
    by_cases hk : kp (rd k) = true
    · rw [cp_y hk, cp_y (rd := rd') (by rw [← e]; exact hk), ih (fun i hi => h i (by omega)), e]
    · rw [cp_n hk, cp_n (rd := rd') (by rw [← e]; exact hk), ih (fun i hi => h i (by omega))]
theorem cp_m {rd : Nat → Int × Int × Int} {kp : Int × Int × Int → Bool} : ∀ k j, j < (cp rd kp k).1 → ∃ i, i < k ∧ (cp rd kp k).2 j = rd i ∧ kp (rd i) = true := by
  intro k
  induction k with
  | zero => intro j hj; exact absurd hj (by show ¬ j < 0; omega)
  | succ k ih =>
    intro j hj
    by_cases h : kp (rd k) = true
    · rw [cp_y h] at hj ⊢
      simp only [] at hj ⊢
      by_cases hjk : j = (cp rd kp k).1
      · rw [if_pos hjk]
        exact ⟨k, by omega, rfl, h⟩
      · rw [if_neg hjk]
        obtain ⟨i, i1, i2, i3⟩ := ih j (by omega)
        exact ⟨i, by omega, i2, i3⟩
    · rw [cp_n h] at hj ⊢
      obtain ⟨i, i1, i2, i3⟩ := ih j hj
      exact ⟨i, by omega, i2, i3⟩
theorem cp_l {rd : Nat → Int × Int × Int} {kp : Int × Int × Int → Bool} : ∀ k, lsO (cp rd kp k).2 (cp rd kp k).1 = (lsO rd k).filter kp := by
  intro k
  induction k with
  | zero => rfl
  | succ k ih =>
    rw [lsO_s, List.filter_append]
    by_cases h : kp (rd k) = true
    · rw [cp_y h]
      simp only []
      rw [lsO_s, if_pos rfl, lsO_congr (rd := fun j => if j = (cp rd kp k).1 then rd k else (cp rd kp k).2 j) (rd' := (cp rd kp k).2) (fun i hi => by rw [if_neg (by omega)]), ih, List.filter_cons, if_pos h, List.filter_nil]
    · rw [cp_n h, ih, List.filter_cons, if_neg h, List.filter_nil, List.append_nil]
theorem byT_f {l : List (Int × Int × Int)} {kp : Int × Int × Int → Bool} {n : Nat} : (byT l n).filter kp = byT (l.filter kp) n := by
  induction n with
  | zero => rfl
  | succ n ih =>
    rw [byT_s, byT_s, List.filter_append, ih, List.filter_filter, List.filter_filter]
    congr 1
    apply List.filter_congr
    intro x _
    exact Bool.and_comm _ _
def kL (c : Nat) (x : Int × Int × Int) : Bool := decide (x.1 ≠ (c : Int) ∧ x.2.2 ≠ (c : Int))
def kA (c : Nat) (x : Int × Int × Int) : Bool := decide (x.2.1 ≠ (c : Int))
def kB (c : Nat) (x : Int × Int × Int) : Bool := decide (x.1 ≠ (c : Int))
def rdL (g : mF) (k : Nat) : Int × Int × Int := (g 13 k, g 14 k, g 15 k)
def rdN (g : mF) (k : Nat) : Int × Int × Int := (g 105 (3 * k), g 105 (3 * k + 1), g 105 (3 * k + 2))
def rdB (g : mF) (k : Nat) : Int × Int × Int := (g 44 k, g 45 k, 0)
def rdD (g : mF) (k : Nat) : Int × Int × Int := (g 107 k, g 108 k, 0)
theorem c36 (X : mX) {g : mF} {c : Nat} (hc : c < 4) (h1 : 0 ≤ g 11 1 ∧ g 11 1 ≤ 12) (h2 : 0 ≤ g 11 2 ∧ g 11 2 ≤ 12) : Rel X 1 36 [(2, 12), (0, (c : Int)), (3, 0), (3, 0)] g (fun ro h => ro = none ∧ (∀ o k, ¬ (o = 19 + 6 * c ∧ k = 2 ∨ 13 ≤ o ∧ o ≤ 18 ∨ o = 11 ∧ (k = 1 ∨ k = 2 ∨ k = 3)) → h o k = g o k) ∧ h (19 + 6 * c) 2 = -1 ∧ h 11 1 = ((cp (rdL g) (kL c) (g 11 1).toNat).1 : Int) ∧ h 11 2 = ((cp (rdC g) (kA c) (g 11 2).toNat).1 : Int) ∧ h 11 3 = 0 ∧ (∀ j, j < (cp (rdL g) (kL c) (g 11 1).toNat).1 → rdL h j = (cp (rdL g) (kL c) (g 11 1).toNat).2 j) ∧ (∀ j, j < (cp (rdC g) (kA c) (g 11 2).toNat).1 → rdC h j = (cp (rdC g) (kA c) (g 11 2).toNat).2 j)) := by
  intro d Q hd hQ
  have e0 : ((c : Int)).toNat = c := by omega
  have loopA := lup (P := fun k => ∀ h : mF, (∀ o i, ¬ (o = 19 + 6 * c ∧ i = 2 ∨ 13 ≤ o ∧ o ≤ 18 ∨ o = 11 ∧ i = 1) → h o i = g o i) → h (19 + 6 * c) 2 = -1 → h 11 1 = ((cp (rdL g) (kL c) (g 11 1).toNat).1 : Int) → (∀ j, j < (cp (rdL g) (kL c) (g 11 1).toNat).1 → rdL h j = (cp (rdL g) (kL c) (g 11 1).toNat).2 j) → (∀ j, j < (cp (rdC g) (kA c) k).1 → rdC h j = (cp (rdC g) (kA c) k).2 j) → (∀ j, k ≤ j → rdC h j = rdC g j) → Wp X d SH 36 96 [(2, 12), (0, (c : Int)), (0, ((cp (rdC g) (kA c) k).1 : Int)), (0, (k : Int))] [] SH (fl h) Q) (g 11 2).toNat ?_ ?_ 0 (by omega)
  · have loopL := lup (P := fun k => ∀ h : mF, (∀ o i, ¬ (o = 19 + 6 * c ∧ i = 2 ∨ 13 ≤ o ∧ o ≤ 15) → h o i = g o i) → h (19 + 6 * c) 2 = -1 → (∀ j, j < (cp (rdL g) (kL c) k).1 → rdL h j = (cp (rdL g) (kL c) k).2 j) → (∀ j, k ≤ j → rdL h j = rdL g j) → Wp X d SH 36 14 [(2, 12), (0, (c : Int)), (0, ((cp (rdL g) (kL c) k).1 : Int)), (0, (k : Int))] [] SH (fl h) Q) (g 11 1).toNat ?_ ?_ 0 (by omega)
    · generalize hh1 : mup g (19 + 6 * c) 2 (-1) = m1
      have l0 := loopL m1 (fun o i ho => by rw [← hh1, mup_n (by omega)]) (by rw [← hh1, mup_e]) (fun j hj => absurd hj (by show ¬ j < 0; omega)) (fun j _ => by
        unfold rdL
        rw [← hh1, mup_n (by omega), mup_n (by omega), mup_n (by omega)])
      apply s_36_0
      try simp only [mi_12, fl_12_0, mi_13, ml_13, fl_13, cm_o, cl_2, cu_2, fl_12_1, up_12_1, fl_12_4, mi_14, ml_14, fl_14, up_14, fl_12_6, mi_16, ml_16, fl_16, up_16, fl_12_5, mi_15, ml_15, fl_15, up_15, fl_12_2, up_12_2, fl_12_8, mi_18, ml_18, fl_18, up_18, fl_12_3, up_12_3, hc, e0, hh1, true_and, and_true, true_or, or_true, implies_true, b10_0, b10_1]
      repeat' (first | refine And.intro ?_ ?_ | intro _)
      all_goals (try (first | omega | (unfold r32; omega) | exact hQ | exact qe hQ (by omega) | exact qe hQ (by (repeat' split) <;> omega) | exact b01 | exact n01 | exact n21 | exact n31 | exact absurd trivial (by assumption)))
      apply s_36_10
      try simp only [mi_12, fl_12_0, mi_13, ml_13, fl_13, cm_o, cl_2, cu_2, fl_12_1, up_12_1, fl_12_4, mi_14, ml_14, fl_14, up_14, fl_12_6, mi_16, ml_16, fl_16, up_16, fl_12_5, mi_15, ml_15, fl_15, up_15, fl_12_2, up_12_2, fl_12_8, mi_18, ml_18, fl_18, up_18, fl_12_3, up_12_3, true_and, and_true, true_or, or_true, implies_true, b10_0, b10_1]
      repeat' (first | refine And.intro ?_ ?_ | intro _)
      all_goals (try (first | omega | (unfold r32; omega) | exact hQ | exact qe hQ (by omega) | exact qe hQ (by (repeat' split) <;> omega) | exact b01 | exact n01 | exact n21 | exact n31 | exact absurd trivial (by assumption)))
      all_goals (try exact l0)
    · intro h hF hh2 hL1 hL2
      have f1 : h 11 1 = g 11 1 := hF _ _ (by omega)
      generalize hm : mup h 11 1 ((cp (rdL g) (kL c) (g 11 1).toNat).1 : Int) = m1
      have fm : ∀ o i, ¬ (o = 11 ∧ i = 1) → m1 o i = h o i := fun o i ho => by rw [← hm, mup_n ho]
      have la := loopA m1 (fun o i ho => by rw [fm _ _ (by omega)]; exact hF o i (by omega)) (by rw [fm _ _ (by omega)]; exact hh2) (by rw [← hm, mup_e]) (fun j hj => by
        rw [← hL1 j hj]
        unfold rdL
        rw [fm _ _ (by omega), fm _ _ (by omega), fm _ _ (by omega)]) (fun j hj => absurd hj (by show ¬ j < 0; omega)) (fun j _ => by
        unfold rdC
        rw [fm _ _ (by omega), fm _ _ (by omega), fm _ _ (by omega), hF _ _ (by omega), hF _ _ (by omega), hF _ _ (by omega)])
      apply s_36_14
      try simp only [mi_12, fl_12_0, mi_13, ml_13, fl_13, cm_o, cl_2, cu_2, fl_12_1, up_12_1, fl_12_4, mi_14, ml_14, fl_14, up_14, fl_12_6, mi_16, ml_16, fl_16, up_16, fl_12_5, mi_15, ml_15, fl_15, up_15, fl_12_2, up_12_2, fl_12_8, mi_18, ml_18, fl_18, up_18, fl_12_3, up_12_3, f1, hm, true_and, and_true, true_or, or_true, implies_true, b10_0, b10_1]
      repeat' (first | refine And.intro ?_ ?_ | intro _)
      all_goals (try (first | omega | (unfold r32; omega) | exact hQ | exact qe hQ (by omega) | exact qe hQ (by (repeat' split) <;> omega) | exact b01 | exact n01 | exact n21 | exact n31 | exact absurd trivial (by assumption)))
      apply s_36_92
      try simp only [mi_12, fl_12_0, mi_13, ml_13, fl_13, cm_o, cl_2, cu_2, fl_12_1, up_12_1, fl_12_4, mi_14, ml_14, fl_14, up_14, fl_12_6, mi_16, ml_16, fl_16, up_16, fl_12_5, mi_15, ml_15, fl_15, up_15, fl_12_2, up_12_2, fl_12_8, mi_18, ml_18, fl_18, up_18, fl_12_3, up_12_3, true_and, and_true, true_or, or_true, implies_true, b10_0, b10_1]
      repeat' (first | refine And.intro ?_ ?_ | intro _)
      all_goals (try (first | omega | (unfold r32; omega) | exact hQ | exact qe hQ (by omega) | exact qe hQ (by (repeat' split) <;> omega) | exact b01 | exact n01 | exact n21 | exact n31 | exact absurd trivial (by assumption)))
      all_goals (try exact la)
    · intro k hk ih h hF hh2 hL1 hL2
      have e2 : ((k : Int)).toNat = k := by omega
      have e10 : ((k + 1 : Nat) : Int) = (k : Int) + 1 := by omega
      have f1 : h 11 1 = g 11 1 := hF _ _ (by omega)
      have hrk := hL2 k (Nat.le_refl _)
      have f13 : h 13 k = g 13 k := (Prod.mk.inj hrk).1
      have f14 : h 14 k = g 14 k := (Prod.mk.inj (Prod.mk.inj hrk).2).1
      have f15 : h 15 k = g 15 k := (Prod.mk.inj (Prod.mk.inj hrk).2).2
      have hle := cp_le (rd := rdL g) (kp := kL c) k
      rw [e10] at ih
      by_cases hz : g 13 k ≠ (c : Int) ∧ g 15 k ≠ (c : Int)
      · have hkp : kL c (rdL g k) = true := decide_eq_true hz
        rw [cp_y hkp] at ih
        simp only [] at ih
        generalize hcn : (cp (rdL g) (kL c) k).1 = cn at ih hL1 hle
        have ec : ((cn : Int)).toNat = cn := by omega
        generalize hm1 : mup h 13 cn (g 13 k) = m1
        have g14 : m1 14 k = g 14 k := by rw [← hm1, mup_n (by omega)]; exact f14
        generalize hm2 : mup m1 14 cn (g 14 k) = m2
        have g15 : m2 15 k = g 15 k := by rw [← hm2, mup_n (by omega), ← hm1, mup_n (by omega)]; exact f15
        generalize hm3 : mup m2 15 cn (g 15 k) = m3
        have f3 : ∀ o i, ¬ ((o = 13 ∨ o = 14 ∨ o = 15) ∧ i = cn) → m3 o i = h o i := fun o i ho => by rw [← hm3, mup_n (by omega), ← hm2, mup_n (by omega), ← hm1, mup_n (by omega)]
        have nx := ih m3 (fun o i ho => by rw [f3 _ _ (by omega)]; exact hF o i (by omega)) (by rw [f3 _ _ (by omega)]; exact hh2) (fun j hj => by
          by_cases hjc : j = cn
          · rw [if_pos hjc, hjc]
            unfold rdL
            rw [← hm3, mup_n (by omega), mup_n (by omega), mup_e, ← hm2, mup_n (by omega), mup_e, ← hm1, mup_e]
          · rw [if_neg hjc, ← hL1 j (by omega)]
            unfold rdL
            rw [f3 _ _ (by omega), f3 _ _ (by omega), f3 _ _ (by omega)]) (fun j hj => by
          rw [← hL2 j (by omega)]
          unfold rdL
          rw [f3 _ _ (by omega), f3 _ _ (by omega), f3 _ _ (by omega)])
        rw [show ((cn + 1 : Nat) : Int) = (cn : Int) + 1 by omega] at nx
        apply s_36_14
        try simp only [mi_12, fl_12_0, mi_13, ml_13, fl_13, cm_o, cl_2, cu_2, fl_12_1, up_12_1, fl_12_4, mi_14, ml_14, fl_14, up_14, fl_12_6, mi_16, ml_16, fl_16, up_16, fl_12_5, mi_15, ml_15, fl_15, up_15, fl_12_2, up_12_2, fl_12_8, mi_18, ml_18, fl_18, up_18, fl_12_3, up_12_3, f1, e2, ec, f13, f15, hm1, true_and, and_true, true_or, or_true, implies_true, b10_0, b10_1]
        repeat' (first | refine And.intro ?_ ?_ | intro _)
        all_goals (try (first | omega | (unfold r32; omega) | exact hQ | exact qe hQ (by omega) | exact qe hQ (by (repeat' split) <;> omega) | exact b01 | exact n01 | exact n21 | exact n31 | exact absurd trivial (by assumption)))
        apply s_36_54
        try simp only [mi_12, fl_12_0, mi_13, ml_13, fl_13, cm_o, cl_2, cu_2, fl_12_1, up_12_1, fl_12_4, mi_14, ml_14, fl_14, up_14, fl_12_6, mi_16, ml_16, fl_16, up_16, fl_12_5, mi_15, ml_15, fl_15, up_15, fl_12_2, up_12_2, fl_12_8, mi_18, ml_18, fl_18, up_18, fl_12_3, up_12_3, e2, ec, g14, hm2, true_and, and_true, true_or, or_true, implies_true, b10_0, b10_1]
        repeat' (first | refine And.intro ?_ ?_ | intro _)
        all_goals (try (first | omega | (unfold r32; omega) | exact hQ | exact qe hQ (by omega) | exact qe hQ (by (repeat' split) <;> omega) | exact b01 | exact n01 | exact n21 | exact n31 | exact absurd trivial (by assumption)))
        apply s_36_66
        try simp only [mi_12, fl_12_0, mi_13, ml_13, fl_13, cm_o, cl_2, cu_2, fl_12_1, up_12_1, fl_12_4, mi_14, ml_14, fl_14, up_14, fl_12_6, mi_16, ml_16, fl_16, up_16, fl_12_5, mi_15, ml_15, fl_15, up_15, fl_12_2, up_12_2, fl_12_8, mi_18, ml_18, fl_18, up_18, fl_12_3, up_12_3, e2, ec, g15, hm3, true_and, and_true, true_or, or_true, implies_true, b10_0, b10_1]
        repeat' (first | refine And.intro ?_ ?_ | intro _)
        all_goals (try (first | omega | (unfold r32; omega) | exact hQ | exact qe hQ (by omega) | exact qe hQ (by (repeat' split) <;> omega) | exact b01 | exact n01 | exact n21 | exact n31 | exact absurd trivial (by assumption)))
        apply s_36_78
        try simp only [mi_12, fl_12_0, mi_13, ml_13, fl_13, cm_o, cl_2, cu_2, fl_12_1, up_12_1, fl_12_4, mi_14, ml_14, fl_14, up_14, fl_12_6, mi_16, ml_16, fl_16, up_16, fl_12_5, mi_15, ml_15, fl_15, up_15, fl_12_2, up_12_2, fl_12_8, mi_18, ml_18, fl_18, up_18, fl_12_3, up_12_3, true_and, and_true, true_or, or_true, implies_true, b10_0, b10_1]
        repeat' (first | refine And.intro ?_ ?_ | intro _)
        all_goals (try (first | omega | (unfold r32; omega) | exact hQ | exact qe hQ (by omega) | exact qe hQ (by (repeat' split) <;> omega) | exact b01 | exact n01 | exact n21 | exact n31 | exact absurd trivial (by assumption)))
        apply s_36_81
        try simp only [mi_12, fl_12_0, mi_13, ml_13, fl_13, cm_o, cl_2, cu_2, fl_12_1, up_12_1, fl_12_4, mi_14, ml_14, fl_14, up_14, fl_12_6, mi_16, ml_16, fl_16, up_16, fl_12_5, mi_15, ml_15, fl_15, up_15, fl_12_2, up_12_2, fl_12_8, mi_18, ml_18, fl_18, up_18, fl_12_3, up_12_3, true_and, and_true, true_or, or_true, implies_true, b10_0, b10_1]
        repeat' (first | refine And.intro ?_ ?_ | intro _)
        all_goals (try (first | omega | (unfold r32; omega) | exact hQ | exact qe hQ (by omega) | exact qe hQ (by (repeat' split) <;> omega) | exact b01 | exact n01 | exact n21 | exact n31 | exact absurd trivial (by assumption)))
        all_goals (try exact nx)
      · have hkp : ¬ kL c (rdL g k) = true := fun z => hz (of_decide_eq_true z)
        rw [cp_n hkp] at ih
        have nx := ih h hF hh2 hL1 (fun j hj => hL2 j (by omega))
        apply s_36_14
        try simp only [mi_12, fl_12_0, mi_13, ml_13, fl_13, cm_o, cl_2, cu_2, fl_12_1, up_12_1, fl_12_4, mi_14, ml_14, fl_14, up_14, fl_12_6, mi_16, ml_16, fl_16, up_16, fl_12_5, mi_15, ml_15, fl_15, up_15, fl_12_2, up_12_2, fl_12_8, mi_18, ml_18, fl_18, up_18, fl_12_3, up_12_3, f1, e2, f13, f15, true_and, and_true, true_or, or_true, implies_true, b10_0, b10_1]
        repeat' (first | refine And.intro ?_ ?_ | intro _)
        all_goals (try (first | omega | (unfold r32; omega) | exact hQ | exact qe hQ (by omega) | exact qe hQ (by (repeat' split) <;> omega) | exact b01 | exact n01 | exact n21 | exact n31 | exact absurd trivial (by assumption)))
        all_goals
          apply s_36_81
          try simp only [mi_12, fl_12_0, mi_13, ml_13, fl_13, cm_o, cl_2, cu_2, fl_12_1, up_12_1, fl_12_4, mi_14, ml_14, fl_14, up_14, fl_12_6, mi_16, ml_16, fl_16, up_16, fl_12_5, mi_15, ml_15, fl_15, up_15, fl_12_2, up_12_2, fl_12_8, mi_18, ml_18, fl_18, up_18, fl_12_3, up_12_3, true_and, and_true, true_or, or_true, implies_true, b10_0, b10_1]
          repeat' (first | refine And.intro ?_ ?_ | intro _)
          all_goals (try (first | omega | (unfold r32; omega) | exact hQ | exact qe hQ (by omega) | exact qe hQ (by (repeat' split) <;> omega) | exact b01 | exact n01 | exact n21 | exact n31 | exact absurd trivial (by assumption)))
          all_goals (try exact nx)
  · intro h hF hh2 h111 hL hA1 hA2
    have f2 : h 11 2 = g 11 2 := hF _ _ (by omega)
    generalize hm : mup (mup h 11 2 ((cp (rdC g) (kA c) (g 11 2).toNat).1 : Int)) 11 3 0 = m1
    have fm : ∀ o i, ¬ (o = 11 ∧ (i = 2 ∨ i = 3)) → m1 o i = h o i := fun o i ho => by rw [← hm, mup_n (by omega), mup_n (by omega)]
    have hq := hQ none m1 ⟨rfl, fun o k ho => by rw [fm _ _ (by omega)]; exact hF o k (by omega), by rw [fm _ _ (by omega)]; exact hh2, by rw [fm _ _ (by omega)]; exact h111, by rw [← hm, mup_n (by omega), mup_e], by rw [← hm, mup_e], fun j hj => by
      rw [← hL j hj]
      unfold rdL
      rw [fm _ _ (by omega), fm _ _ (by omega), fm _ _ (by omega)], fun j hj => by
      rw [← hA1 j hj]
      unfold rdC
      rw [fm _ _ (by omega), fm _ _ (by omega), fm _ _ (by omega)]⟩
    apply s_36_96
    try simp only [mi_12, fl_12_0, mi_13, ml_13, fl_13, cm_o, cl_2, cu_2, fl_12_1, up_12_1, fl_12_4, mi_14, ml_14, fl_14, up_14, fl_12_6, mi_16, ml_16, fl_16, up_16, fl_12_5, mi_15, ml_15, fl_15, up_15, fl_12_2, up_12_2, fl_12_8, mi_18, ml_18, fl_18, up_18, fl_12_3, up_12_3, f2, true_and, and_true, true_or, or_true, implies_true, b10_0, b10_1]
    repeat' (first | refine And.intro ?_ ?_ | intro _)
    all_goals (try (first | omega | (unfold r32; omega) | exact hQ | exact qe hQ (by omega) | exact qe hQ (by (repeat' split) <;> omega) | exact b01 | exact n01 | exact n21 | exact n31 | exact absurd trivial (by assumption)))
    apply s_36_134
    try simp only [mi_12, fl_12_0, mi_13, ml_13, fl_13, cm_o, cl_2, cu_2, fl_12_1, up_12_1, fl_12_4, mi_14, ml_14, fl_14, up_14, fl_12_6, mi_16, ml_16, fl_16, up_16, fl_12_5, mi_15, ml_15, fl_15, up_15, fl_12_2, up_12_2, fl_12_8, mi_18, ml_18, fl_18, up_18, fl_12_3, up_12_3, hm, true_and, and_true, true_or, or_true, implies_true, b10_0, b10_1]
    repeat' (first | refine And.intro ?_ ?_ | intro _)
    all_goals (try (first | omega | (unfold r32; omega) | exact hQ | exact qe hQ (by omega) | exact qe hQ (by (repeat' split) <;> omega) | exact b01 | exact n01 | exact n21 | exact n31 | exact absurd trivial (by assumption)))
    all_goals (try exact hq)
  · intro k hk ih h hF hh2 h111 hL hA1 hA2
    have e2 : ((k : Int)).toNat = k := by omega
    have e10 : ((k + 1 : Nat) : Int) = (k : Int) + 1 := by omega
    have f2 : h 11 2 = g 11 2 := hF _ _ (by omega)
    have hrk := hA2 k (Nat.le_refl _)
    have f17 : h 17 k = g 17 k := (Prod.mk.inj (Prod.mk.inj hrk).2).1
    have hle := cp_le (rd := rdC g) (kp := kA c) k
    rw [e10] at ih
    by_cases hz : g 17 k ≠ (c : Int)
    · have hkp : kA c (rdC g k) = true := decide_eq_true hz
      rw [cp_y hkp] at ih
      simp only [] at ih
      generalize hcn : (cp (rdC g) (kA c) k).1 = cn at ih hA1 hle
      have c35' := c35 X h (a := k) (b := cn) (by omega) (by omega)
      generalize hm1 : mup (mup (mup h 16 cn (h 16 k)) 17 cn (h 17 k)) 18 cn (h 18 k) = m3 at c35'
      have f3 : ∀ o i, ¬ ((o = 16 ∨ o = 17 ∨ o = 18) ∧ i = cn) → m3 o i = h o i := fun o i ho => by rw [← hm1, mup_n (by omega), mup_n (by omega), mup_n (by omega)]
      have nx := ih m3 (fun o i ho => by rw [f3 _ _ (by omega)]; exact hF o i (by omega)) (by rw [f3 _ _ (by omega)]; exact hh2) (by rw [f3 _ _ (by omega)]; exact h111) (fun j hj => by
        rw [← hL j hj]
        unfold rdL
        rw [f3 _ _ (by omega), f3 _ _ (by omega), f3 _ _ (by omega)]) (fun j hj => by
        by_cases hjc : j = cn
        · rw [if_pos hjc, hjc, ← hrk]
          unfold rdC
          rw [← hm1, mup_n (by omega), mup_n (by omega), mup_e, mup_n (by omega), mup_e, mup_e]
        · rw [if_neg hjc, ← hA1 j (by omega)]
          unfold rdC
          rw [f3 _ _ (by omega), f3 _ _ (by omega), f3 _ _ (by omega)]) (fun j hj => by
        rw [← hA2 j (by omega)]
        unfold rdC
        rw [f3 _ _ (by omega), f3 _ _ (by omega), f3 _ _ (by omega)])
      rw [show ((cn + 1 : Nat) : Int) = (cn : Int) + 1 by omega] at nx
      apply s_36_96
      try simp only [mi_12, fl_12_0, mi_13, ml_13, fl_13, cm_o, cl_2, cu_2, fl_12_1, up_12_1, fl_12_4, mi_14, ml_14, fl_14, up_14, fl_12_6, mi_16, ml_16, fl_16, up_16, fl_12_5, mi_15, ml_15, fl_15, up_15, fl_12_2, up_12_2, fl_12_8, mi_18, ml_18, fl_18, up_18, fl_12_3, up_12_3, f2, e2, f17, true_and, and_true, true_or, or_true, implies_true, b10_0, b10_1]
      repeat' (first | refine And.intro ?_ ?_ | intro _)
      all_goals (try (first | omega | (unfold r32; omega) | exact hQ | exact qe hQ (by omega) | exact qe hQ (by (repeat' split) <;> omega) | exact b01 | exact n01 | exact n21 | exact n31 | exact absurd trivial (by assumption)))
      refine c35' _ _ (by omega) ?_
      apply s_36_120
      try simp only [mi_12, fl_12_0, mi_13, ml_13, fl_13, cm_o, cl_2, cu_2, fl_12_1, up_12_1, fl_12_4, mi_14, ml_14, fl_14, up_14, fl_12_6, mi_16, ml_16, fl_16, up_16, fl_12_5, mi_15, ml_15, fl_15, up_15, fl_12_2, up_12_2, fl_12_8, mi_18, ml_18, fl_18, up_18, fl_12_3, up_12_3, true_and, and_true, true_or, or_true, implies_true, b10_0, b10_1]
      repeat' (first | refine And.intro ?_ ?_ | intro _)
      all_goals (try (first | omega | (unfold r32; omega) | exact hQ | exact qe hQ (by omega) | exact qe hQ (by (repeat' split) <;> omega) | exact b01 | exact n01 | exact n21 | exact n31 | exact absurd trivial (by assumption)))
      apply s_36_123
      try simp only [mi_12, fl_12_0, mi_13, ml_13, fl_13, cm_o, cl_2, cu_2, fl_12_1, up_12_1, fl_12_4, mi_14, ml_14, fl_14, up_14, fl_12_6, mi_16, ml_16, fl_16, up_16, fl_12_5, mi_15, ml_15, fl_15, up_15, fl_12_2, up_12_2, fl_12_8, mi_18, ml_18, fl_18, up_18, fl_12_3, up_12_3, true_and, and_true, true_or, or_true, implies_true, b10_0, b10_1]
      repeat' (first | refine And.intro ?_ ?_ | intro _)
      all_goals (try (first | omega | (unfold r32; omega) | exact hQ | exact qe hQ (by omega) | exact qe hQ (by (repeat' split) <;> omega) | exact b01 | exact n01 | exact n21 | exact n31 | exact absurd trivial (by assumption)))
      all_goals (try exact nx)
    · have hkp : ¬ kA c (rdC g k) = true := fun z => hz (of_decide_eq_true z)
      rw [cp_n hkp] at ih
      have nx := ih h hF hh2 h111 hL hA1 (fun j hj => hA2 j (by omega))
      apply s_36_96
      try simp only [mi_12, fl_12_0, mi_13, ml_13, fl_13, cm_o, cl_2, cu_2, fl_12_1, up_12_1, fl_12_4, mi_14, ml_14, fl_14, up_14, fl_12_6, mi_16, ml_16, fl_16, up_16, fl_12_5, mi_15, ml_15, fl_15, up_15, fl_12_2, up_12_2, fl_12_8, mi_18, ml_18, fl_18, up_18, fl_12_3, up_12_3, f2, e2, f17, true_and, and_true, true_or, or_true, implies_true, b10_0, b10_1]
      repeat' (first | refine And.intro ?_ ?_ | intro _)
      all_goals (try (first | omega | (unfold r32; omega) | exact hQ | exact qe hQ (by omega) | exact qe hQ (by (repeat' split) <;> omega) | exact b01 | exact n01 | exact n21 | exact n31 | exact absurd trivial (by assumption)))
      apply s_36_123
      try simp only [mi_12, fl_12_0, mi_13, ml_13, fl_13, cm_o, cl_2, cu_2, fl_12_1, up_12_1, fl_12_4, mi_14, ml_14, fl_14, up_14, fl_12_6, mi_16, ml_16, fl_16, up_16, fl_12_5, mi_15, ml_15, fl_15, up_15, fl_12_2, up_12_2, fl_12_8, mi_18, ml_18, fl_18, up_18, fl_12_3, up_12_3, true_and, and_true, true_or, or_true, implies_true, b10_0, b10_1]
      repeat' (first | refine And.intro ?_ ?_ | intro _)
      all_goals (try (first | omega | (unfold r32; omega) | exact hQ | exact qe hQ (by omega) | exact qe hQ (by (repeat' split) <;> omega) | exact b01 | exact n01 | exact n21 | exact n31 | exact absurd trivial (by assumption)))
      all_goals (try exact nx)
theorem c5 (X : mX) {g : mF} {c : Nat} (h0 : 0 ≤ g 43 0 ∧ g 43 0 ≤ 12) : Rel X 0 5 [(2, 44), (0, (c : Int)), (3, 0), (3, 0)] g (fun ro h => ro = none ∧ (∀ o k, ¬ (o = 44 ∨ o = 45 ∨ o = 43 ∧ k = 0) → h o k = g o k) ∧ h 43 0 = ((cp (rdB g) (kB c) (g 43 0).toNat).1 : Int) ∧ ∀ j, j < (cp (rdB g) (kB c) (g 43 0).toNat).1 → rdB h j = (cp (rdB g) (kB c) (g 43 0).toNat).2 j) := by
  intro d Q hd hQ
  have loop := lup (P := fun k => ∀ h : mF, (∀ o i, ¬ (o = 44 ∨ o = 45) → h o i = g o i) → (∀ j, j < (cp (rdB g) (kB c) k).1 → rdB h j = (cp (rdB g) (kB c) k).2 j) → (∀ j, k ≤ j → rdB h j = rdB g j) → Wp X d SH 5 4 [(2, 44), (0, (c : Int)), (0, ((cp (rdB g) (kB c) k).1 : Int)), (0, (k : Int))] [] SH (fl h) Q) (g 43 0).toNat ?_ ?_ 0 (by omega)
  · have l0 := loop g (fun _ _ _ => rfl) (fun j hj => absurd hj (by show ¬ j < 0; omega)) (fun _ _ => rfl)
    apply s_5_0
    try simp only [mi_44, fl_44_0, up_44_0, fl_44_2, mi_45, ml_45, fl_45, up_45, fl_44_3, mi_46, ml_46, fl_46, up_46, true_and, and_true, true_or, or_true, implies_true, b10_0, b10_1]
    repeat' (first | refine And.intro ?_ ?_ | intro _)
    all_goals (try (first | omega | (unfold r32; omega) | exact hQ | exact qe hQ (by omega) | exact qe hQ (by (repeat' split) <;> omega) | exact b01 | exact n01 | exact n21 | exact n31 | exact absurd trivial (by assumption)))
    all_goals (try exact l0)
  · intro h hF hB1 hB2
    have f1 : h 43 0 = g 43 0 := hF _ _ (by omega)
    generalize hm : mup h 43 0 ((cp (rdB g) (kB c) (g 43 0).toNat).1 : Int) = m1
    have fm : ∀ o i, ¬ (o = 43 ∧ i = 0) → m1 o i = h o i := fun o i ho => by rw [← hm, mup_n ho]
    have hq := hQ none m1 ⟨rfl, fun o k ho => by rw [fm _ _ (by omega)]; exact hF o k (by omega), by rw [← hm, mup_e], fun j hj => by
      rw [← hB1 j hj]
      unfold rdB
      rw [fm _ _ (by omega), fm _ _ (by omega)]⟩
    apply s_5_4
    try simp only [mi_44, fl_44_0, up_44_0, fl_44_2, mi_45, ml_45, fl_45, up_45, fl_44_3, mi_46, ml_46, fl_46, up_46, f1, hm, true_and, and_true, true_or, or_true, implies_true, b10_0, b10_1]
    repeat' (first | refine And.intro ?_ ?_ | intro _)
    all_goals (try (first | omega | (unfold r32; omega) | exact hQ | exact qe hQ (by omega) | exact qe hQ (by (repeat' split) <;> omega) | exact b01 | exact n01 | exact n21 | exact n31 | exact absurd trivial (by assumption)))
    all_goals (try exact hq)
  · intro k hk ih h hF hB1 hB2
    have e2 : ((k : Int)).toNat = k := by omega
    have e10 : ((k + 1 : Nat) : Int) = (k : Int) + 1 := by omega
    have f1 : h 43 0 = g 43 0 := hF _ _ (by omega)
    have hrk := hB2 k (Nat.le_refl _)
    have f44 : h 44 k = g 44 k := (Prod.mk.inj hrk).1
    have f45 : h 45 k = g 45 k := (Prod.mk.inj (Prod.mk.inj hrk).2).1
    have hle := cp_le (rd := rdB g) (kp := kB c) k
    rw [e10] at ih
    by_cases hz : g 44 k ≠ (c : Int)
    · have hkp : kB c (rdB g k) = true := decide_eq_true hz
      rw [cp_y hkp] at ih
      simp only [] at ih
      generalize hcn : (cp (rdB g) (kB c) k).1 = cn at ih hB1 hle
      have ec : ((cn : Int)).toNat = cn := by omega
      generalize hm1 : mup h 44 cn (g 44 k) = m1
      have g45 : m1 45 k = g 45 k := by rw [← hm1, mup_n (by omega)]; exact f45
      generalize hm2 : mup m1 45 cn (g 45 k) = m2
      have f3 : ∀ o i, ¬ ((o = 44 ∨ o = 45) ∧ i = cn) → m2 o i = h o i := fun o i ho => by rw [← hm2, mup_n (by omega), ← hm1, mup_n (by omega)]
      have nx := ih m2 (fun o i ho => by rw [f3 _ _ (by omega)]; exact hF o i (by omega)) (fun j hj => by
        by_cases hjc : j = cn
        · rw [if_pos hjc, hjc]
          unfold rdB
          rw [← hm2, mup_n (by omega), mup_e, ← hm1, mup_e]
        · rw [if_neg hjc, ← hB1 j (by omega)]
          unfold rdB
          rw [f3 _ _ (by omega), f3 _ _ (by omega)]) (fun j hj => by
        rw [← hB2 j (by omega)]
        unfold rdB
        rw [f3 _ _ (by omega), f3 _ _ (by omega)])
      rw [show ((cn + 1 : Nat) : Int) = (cn : Int) + 1 by omega] at nx
      apply s_5_4
      try simp only [mi_44, fl_44_0, up_44_0, fl_44_2, mi_45, ml_45, fl_45, up_45, fl_44_3, mi_46, ml_46, fl_46, up_46, f1, e2, ec, f44, hm1, true_and, and_true, true_or, or_true, implies_true, b10_0, b10_1]
      repeat' (first | refine And.intro ?_ ?_ | intro _)
      all_goals (try (first | omega | (unfold r32; omega) | exact hQ | exact qe hQ (by omega) | exact qe hQ (by (repeat' split) <;> omega) | exact b01 | exact n01 | exact n21 | exact n31 | exact absurd trivial (by assumption)))
      apply s_5_34
      try simp only [mi_44, fl_44_0, up_44_0, fl_44_2, mi_45, ml_45, fl_45, up_45, fl_44_3, mi_46, ml_46, fl_46, up_46, e2, ec, g45, hm2, true_and, and_true, true_or, or_true, implies_true, b10_0, b10_1]
      repeat' (first | refine And.intro ?_ ?_ | intro _)
      all_goals (try (first | omega | (unfold r32; omega) | exact hQ | exact qe hQ (by omega) | exact qe hQ (by (repeat' split) <;> omega) | exact b01 | exact n01 | exact n21 | exact n31 | exact absurd trivial (by assumption)))
      apply s_5_46
      try simp only [mi_44, fl_44_0, up_44_0, fl_44_2, mi_45, ml_45, fl_45, up_45, fl_44_3, mi_46, ml_46, fl_46, up_46, true_and, and_true, true_or, or_true, implies_true, b10_0, b10_1]
      repeat' (first | refine And.intro ?_ ?_ | intro _)
      all_goals (try (first | omega | (unfold r32; omega) | exact hQ | exact qe hQ (by omega) | exact qe hQ (by (repeat' split) <;> omega) | exact b01 | exact n01 | exact n21 | exact n31 | exact absurd trivial (by assumption)))
      apply s_5_49
      try simp only [mi_44, fl_44_0, up_44_0, fl_44_2, mi_45, ml_45, fl_45, up_45, fl_44_3, mi_46, ml_46, fl_46, up_46, true_and, and_true, true_or, or_true, implies_true, b10_0, b10_1]
      repeat' (first | refine And.intro ?_ ?_ | intro _)
      all_goals (try (first | omega | (unfold r32; omega) | exact hQ | exact qe hQ (by omega) | exact qe hQ (by (repeat' split) <;> omega) | exact b01 | exact n01 | exact n21 | exact n31 | exact absurd trivial (by assumption)))
      all_goals (try exact nx)
    · have hkp : ¬ kB c (rdB g k) = true := fun z => hz (of_decide_eq_true z)
      rw [cp_n hkp] at ih
      have nx := ih h hF hB1 (fun j hj => hB2 j (by omega))
      apply s_5_4
      try simp only [mi_44, fl_44_0, up_44_0, fl_44_2, mi_45, ml_45, fl_45, up_45, fl_44_3, mi_46, ml_46, fl_46, up_46, f1, e2, f44, true_and, and_true, true_or, or_true, implies_true, b10_0, b10_1]
      repeat' (first | refine And.intro ?_ ?_ | intro _)
      all_goals (try (first | omega | (unfold r32; omega) | exact hQ | exact qe hQ (by omega) | exact qe hQ (by (repeat' split) <;> omega) | exact b01 | exact n01 | exact n21 | exact n31 | exact absurd trivial (by assumption)))
      apply s_5_49
      try simp only [mi_44, fl_44_0, up_44_0, fl_44_2, mi_45, ml_45, fl_45, up_45, fl_44_3, mi_46, ml_46, fl_46, up_46, true_and, and_true, true_or, or_true, implies_true, b10_0, b10_1]
      repeat' (first | refine And.intro ?_ ?_ | intro _)
      all_goals (try (first | omega | (unfold r32; omega) | exact hQ | exact qe hQ (by omega) | exact qe hQ (by (repeat' split) <;> omega) | exact b01 | exact n01 | exact n21 | exact n31 | exact absurd trivial (by assumption)))
      all_goals (try exact nx)
theorem c177 (X : mX) {g : mF} {c : Nat} (hc : c < 4) (h1 : 0 ≤ g 86 20 ∧ g 86 20 ≤ 12) (h2 : 0 ≤ g 86 22 ∧ g 86 22 ≤ 12) (h3 : 0 ≤ g 86 24 ∧ g 86 24 ≤ 12) : Rel X 1 177 [(2, 87), (0, (c : Int)), (3, 0), (3, 0)] g (fun ro h => ro = none ∧ (∀ o k, ¬ (o = 103 ∧ k = c ∨ o = 105 ∨ o = 106 ∨ o = 107 ∨ o = 108 ∨ o = 86 ∧ (k = 20 ∨ k = 22 ∨ k = 24)) → h o k = g o k) ∧ h 103 c = -1 ∧ h 86 20 = ((cp (rdN g) (kL c) (g 86 20).toNat).1 : Int) ∧ h 86 22 = ((cp (rdM g) (kA c) (g 86 22).toNat).1 : Int) ∧ h 86 24 = ((cp (rdD g) (kB c) (g 86 24).toNat).1 : Int) ∧ (∀ j, j < (cp (rdN g) (kL c) (g 86 20).toNat).1 → rdN h j = (cp (rdN g) (kL c) (g 86 20).toNat).2 j) ∧ (∀ j, j < (cp (rdM g) (kA c) (g 86 22).toNat).1 → rdM h j = (cp (rdM g) (kA c) (g 86 22).toNat).2 j) ∧ (∀ j, j < (cp (rdD g) (kB c) (g 86 24).toNat).1 → rdD h j = (cp (rdD g) (kB c) (g 86 24).toNat).2 j)) := by
  intro d Q hd hQ
  have e0 : ((c : Int)).toNat = c := by omega
  have i0 : ∀ q : Nat, (3 * (q : Int)).toNat = 3 * q := fun q => by omega
  have i1 : ∀ q : Nat, (3 * (q : Int) + 1).toNat = 3 * q + 1 := fun q => by omega
  have i2 : ∀ q : Nat, (3 * (q : Int) + 2).toNat = 3 * q + 2 := fun q => by omega
  have loopB := lup (P := fun k => ∀ h : mF, (∀ o i, ¬ (o = 103 ∧ i = c ∨ o = 105 ∨ o = 106 ∨ o = 107 ∨ o = 108 ∨ o = 86 ∧ (i = 20 ∨ i = 22)) → h o i = g o i) → h 103 c = -1 → h 86 20 = ((cp (rdN g) (kL c) (g 86 20).toNat).1 : Int) → h 86 22 = ((cp (rdM g) (kA c) (g 86 22).toNat).1 : Int) → (∀ j, j < (cp (rdN g) (kL c) (g 86 20).toNat).1 → rdN h j = (cp (rdN g) (kL c) (g 86 20).toNat).2 j) → (∀ j, j < (cp (rdM g) (kA c) (g 86 22).toNat).1 → rdM h j = (cp (rdM g) (kA c) (g 86 22).toNat).2 j) → (∀ j, j < (cp (rdD g) (kB c) k).1 → rdD h j = (cp (rdD g) (kB c) k).2 j) → (∀ j, k ≤ j → rdD h j = rdD g j) → Wp X d SH 177 213 [(2, 87), (0, (c : Int)), (0, ((cp (rdD g) (kB c) k).1 : Int)), (0, (k : Int))] [] SH (fl h) Q) (g 86 24).toNat ?_ ?_ 0 (by omega)
  · have loopA := lup (P := fun k => ∀ h : mF, (∀ o i, ¬ (o = 103 ∧ i = c ∨ o = 105 ∨ o = 106 ∨ o = 86 ∧ i = 20) → h o i = g o i) → h 103 c = -1 → h 86 20 = ((cp (rdN g) (kL c) (g 86 20).toNat).1 : Int) → (∀ j, j < (cp (rdN g) (kL c) (g 86 20).toNat).1 → rdN h j = (cp (rdN g) (kL c) (g 86 20).toNat).2 j) → (∀ j, j < (cp (rdM g) (kA c) k).1 → rdM h j = (cp (rdM g) (kA c) k).2 j) → (∀ j, k ≤ j → rdM h j = rdM g j) → Wp X d SH 177 119 [(2, 87), (0, (c : Int)), (0, ((cp (rdM g) (kA c) k).1 : Int)), (0, (k : Int))] [] SH (fl h) Q) (g 86 22).toNat ?_ ?_ 0 (by omega)
    · have loopL := lup (P := fun k => ∀ h : mF, (∀ o i, ¬ (o = 103 ∧ i = c ∨ o = 105) → h o i = g o i) → h 103 c = -1 → (∀ j, j < (cp (rdN g) (kL c) k).1 → rdN h j = (cp (rdN g) (kL c) k).2 j) → (∀ j, k ≤ j → rdN h j = rdN g j) → Wp X d SH 177 11 [(2, 87), (0, (c : Int)), (0, ((cp (rdN g) (kL c) k).1 : Int)), (0, (k : Int))] [] SH (fl h) Q) (g 86 20).toNat ?_ ?_ 0 (by omega)
      · generalize hh1 : mup g 103 c (-1) = m1
        have l0 := loopL m1 (fun o i ho => by rw [← hh1, mup_n (by omega)]) (by rw [← hh1, mup_e]) (fun j hj => absurd hj (by show ¬ j < 0; omega)) (fun j _ => by
          unfold rdN
          rw [← hh1, mup_n (by omega), mup_n (by omega), mup_n (by omega)])
        apply s_177_0
        try simp only [mi_87, fl_87_18, mi_104, ml_104, fl_104, up_104, fl_87_20, up_87_20, fl_87_21, mi_106, ml_106, fl_106, up_106, fl_87_22, up_87_22, fl_87_23, mi_107, ml_107, fl_107, up_107, fl_87_24, up_87_24, fl_87_25, mi_108, ml_108, fl_108, up_108, fl_87_26, mi_109, ml_109, fl_109, up_109, e0, hh1, true_and, and_true, true_or, or_true, implies_true, b10_0, b10_1]
        repeat' (first | refine And.intro ?_ ?_ | intro _)
        all_goals (try (first | omega | (unfold r32; omega) | exact hQ | exact qe hQ (by omega) | exact qe hQ (by (repeat' split) <;> omega) | exact b01 | exact n01 | exact n21 | exact n31 | exact absurd trivial (by assumption)))
        apply s_177_7
        try simp only [mi_87, fl_87_18, mi_104, ml_104, fl_104, up_104, fl_87_20, up_87_20, fl_87_21, mi_106, ml_106, fl_106, up_106, fl_87_22, up_87_22, fl_87_23, mi_107, ml_107, fl_107, up_107, fl_87_24, up_87_24, fl_87_25, mi_108, ml_108, fl_108, up_108, fl_87_26, mi_109, ml_109, fl_109, up_109, true_and, and_true, true_or, or_true, implies_true, b10_0, b10_1]
        repeat' (first | refine And.intro ?_ ?_ | intro _)
        all_goals (try (first | omega | (unfold r32; omega) | exact hQ | exact qe hQ (by omega) | exact qe hQ (by (repeat' split) <;> omega) | exact b01 | exact n01 | exact n21 | exact n31 | exact absurd trivial (by assumption)))
        all_goals (try exact l0)
      · intro h hF hh2 hL1 hL2
        have f1 : h 86 20 = g 86 20 := hF _ _ (by omega)
        generalize hm : mup h 86 20 ((cp (rdN g) (kL c) (g 86 20).toNat).1 : Int) = m1
        have fm : ∀ o i, ¬ (o = 86 ∧ i = 20) → m1 o i = h o i := fun o i ho => by rw [← hm, mup_n ho]
        have la := loopA m1 (fun o i ho => by rw [fm _ _ (by omega)]; exact hF o i (by omega)) (by rw [fm _ _ (by omega)]; exact hh2) (by rw [← hm, mup_e]) (fun j hj => by
          rw [← hL1 j hj]
          unfold rdN
          rw [fm _ _ (by omega), fm _ _ (by omega), fm _ _ (by omega)]) (fun j hj => absurd hj (by show ¬ j < 0; omega)) (fun j _ => by
          unfold rdM
          rw [fm _ _ (by omega), fm _ _ (by omega), fm _ _ (by omega), hF _ _ (by omega), hF _ _ (by omega), hF _ _ (by omega)])
        apply s_177_11
        try simp only [mi_87, fl_87_18, mi_104, ml_104, fl_104, up_104, fl_87_20, up_87_20, fl_87_21, mi_106, ml_106, fl_106, up_106, fl_87_22, up_87_22, fl_87_23, mi_107, ml_107, fl_107, up_107, fl_87_24, up_87_24, fl_87_25, mi_108, ml_108, fl_108, up_108, fl_87_26, mi_109, ml_109, fl_109, up_109, f1, hm, true_and, and_true, true_or, or_true, implies_true, b10_0, b10_1]
        repeat' (first | refine And.intro ?_ ?_ | intro _)
        all_goals (try (first | omega | (unfold r32; omega) | exact hQ | exact qe hQ (by omega) | exact qe hQ (by (repeat' split) <;> omega) | exact b01 | exact n01 | exact n21 | exact n31 | exact absurd trivial (by assumption)))
        apply s_177_115
        try simp only [mi_87, fl_87_18, mi_104, ml_104, fl_104, up_104, fl_87_20, up_87_20, fl_87_21, mi_106, ml_106, fl_106, up_106, fl_87_22, up_87_22, fl_87_23, mi_107, ml_107, fl_107, up_107, fl_87_24, up_87_24, fl_87_25, mi_108, ml_108, fl_108, up_108, fl_87_26, mi_109, ml_109, fl_109, up_109, true_and, and_true, true_or, or_true, implies_true, b10_0, b10_1]
        repeat' (first | refine And.intro ?_ ?_ | intro _)
        all_goals (try (first | omega | (unfold r32; omega) | exact hQ | exact qe hQ (by omega) | exact qe hQ (by (repeat' split) <;> omega) | exact b01 | exact n01 | exact n21 | exact n31 | exact absurd trivial (by assumption)))
        all_goals (try exact la)
      · intro k hk ih h hF hh2 hL1 hL2
        have e10 : ((k + 1 : Nat) : Int) = (k : Int) + 1 := by omega
        have f1 : h 86 20 = g 86 20 := hF _ _ (by omega)
        have hrk := hL2 k (Nat.le_refl _)
        have f13 : h 105 (3 * k) = g 105 (3 * k) := (Prod.mk.inj hrk).1
        have f14 : h 105 (3 * k + 1) = g 105 (3 * k + 1) := (Prod.mk.inj (Prod.mk.inj hrk).2).1
        have f15 : h 105 (3 * k + 2) = g 105 (3 * k + 2) := (Prod.mk.inj (Prod.mk.inj hrk).2).2
        have hle := cp_le (rd := rdN g) (kp := kL c) k
        rw [e10] at ih
        by_cases hz : g 105 (3 * k) ≠ (c : Int) ∧ g 105 (3 * k + 2) ≠ (c : Int)
        · have hkp : kL c (rdN g k) = true := decide_eq_true hz
          rw [cp_y hkp] at ih
          simp only [] at ih
          generalize hcn : (cp (rdN g) (kL c) k).1 = cn at ih hL1 hle
          generalize hm1 : mup h 105 (3 * cn) (g 105 (3 * k)) = m1
          have g14 : m1 105 (3 * k + 1) = g 105 (3 * k + 1) := by rw [← hm1, mup_n (by omega)]; exact f14
          generalize hm2 : mup m1 105 (3 * cn + 1) (g 105 (3 * k + 1)) = m2
          have g15 : m2 105 (3 * k + 2) = g 105 (3 * k + 2) := by rw [← hm2, mup_n (by omega), ← hm1, mup_n (by omega)]; exact f15
          generalize hm3 : mup m2 105 (3 * cn + 2) (g 105 (3 * k + 2)) = m3
          have f3 : ∀ o i, ¬ (o = 105 ∧ 3 * cn ≤ i ∧ i < 3 * cn + 3) → m3 o i = h o i := fun o i ho => by rw [← hm3, mup_n (by omega), ← hm2, mup_n (by omega), ← hm1, mup_n (by omega)]
          have nx := ih m3 (fun o i ho => by rw [f3 _ _ (by omega)]; exact hF o i (by omega)) (by rw [f3 _ _ (by omega)]; exact hh2) (fun j hj => by
            by_cases hjc : j = cn
            · rw [if_pos hjc, hjc]
              unfold rdN
              rw [← hm3, mup_n (by omega), mup_n (by omega), mup_e, ← hm2, mup_n (by omega), mup_e, ← hm1, mup_e]
            · rw [if_neg hjc, ← hL1 j (by omega)]
              unfold rdN
              rw [f3 _ _ (by omega), f3 _ _ (by omega), f3 _ _ (by omega)]) (fun j hj => by
            rw [← hL2 j (by omega)]
            unfold rdN
            rw [f3 _ _ (by omega), f3 _ _ (by omega), f3 _ _ (by omega)])
          rw [show ((cn + 1 : Nat) : Int) = (cn : Int) + 1 by omega] at nx
          apply s_177_11
          try simp only [mi_87, fl_87_18, mi_104, ml_104, fl_104, up_104, fl_87_20, up_87_20, fl_87_21, mi_106, ml_106, fl_106, up_106, fl_87_22, up_87_22, fl_87_23, mi_107, ml_107, fl_107, up_107, fl_87_24, up_87_24, fl_87_25, mi_108, ml_108, fl_108, up_108, fl_87_26, mi_109, ml_109, fl_109, up_109, f1, i0, i2, f13, f15, hm1, true_and, and_true, true_or, or_true, implies_true, b10_0, b10_1]
          repeat' (first | refine And.intro ?_ ?_ | intro _)
          all_goals (try (first | omega | (unfold r32; omega) | exact hQ | exact qe hQ (by omega) | exact qe hQ (by (repeat' split) <;> omega) | exact b01 | exact n01 | exact n21 | exact n31 | exact absurd trivial (by assumption)))
          apply s_177_61
          try simp only [mi_87, fl_87_18, mi_104, ml_104, fl_104, up_104, fl_87_20, up_87_20, fl_87_21, mi_106, ml_106, fl_106, up_106, fl_87_22, up_87_22, fl_87_23, mi_107, ml_107, fl_107, up_107, fl_87_24, up_87_24, fl_87_25, mi_108, ml_108, fl_108, up_108, fl_87_26, mi_109, ml_109, fl_109, up_109, i1, g14, hm2, true_and, and_true, true_or, or_true, implies_true, b10_0, b10_1]
          repeat' (first | refine And.intro ?_ ?_ | intro _)
          all_goals (try (first | omega | (unfold r32; omega) | exact hQ | exact qe hQ (by omega) | exact qe hQ (by (repeat' split) <;> omega) | exact b01 | exact n01 | exact n21 | exact n31 | exact absurd trivial (by assumption)))
          apply s_177_81
          try simp only [mi_87, fl_87_18, mi_104, ml_104, fl_104, up_104, fl_87_20, up_87_20, fl_87_21, mi_106, ml_106, fl_106, up_106, fl_87_22, up_87_22, fl_87_23, mi_107, ml_107, fl_107, up_107, fl_87_24, up_87_24, fl_87_25, mi_108, ml_108, fl_108, up_108, fl_87_26, mi_109, ml_109, fl_109, up_109, i2, g15, hm3, true_and, and_true, true_or, or_true, implies_true, b10_0, b10_1]
          repeat' (first | refine And.intro ?_ ?_ | intro _)
          all_goals (try (first | omega | (unfold r32; omega) | exact hQ | exact qe hQ (by omega) | exact qe hQ (by (repeat' split) <;> omega) | exact b01 | exact n01 | exact n21 | exact n31 | exact absurd trivial (by assumption)))
          apply s_177_101
          try simp only [mi_87, fl_87_18, mi_104, ml_104, fl_104, up_104, fl_87_20, up_87_20, fl_87_21, mi_106, ml_106, fl_106, up_106, fl_87_22, up_87_22, fl_87_23, mi_107, ml_107, fl_107, up_107, fl_87_24, up_87_24, fl_87_25, mi_108, ml_108, fl_108, up_108, fl_87_26, mi_109, ml_109, fl_109, up_109, true_and, and_true, true_or, or_true, implies_true, b10_0, b10_1]
          repeat' (first | refine And.intro ?_ ?_ | intro _)
          all_goals (try (first | omega | (unfold r32; omega) | exact hQ | exact qe hQ (by omega) | exact qe hQ (by (repeat' split) <;> omega) | exact b01 | exact n01 | exact n21 | exact n31 | exact absurd trivial (by assumption)))
          apply s_177_104
          try simp only [mi_87, fl_87_18, mi_104, ml_104, fl_104, up_104, fl_87_20, up_87_20, fl_87_21, mi_106, ml_106, fl_106, up_106, fl_87_22, up_87_22, fl_87_23, mi_107, ml_107, fl_107, up_107, fl_87_24, up_87_24, fl_87_25, mi_108, ml_108, fl_108, up_108, fl_87_26, mi_109, ml_109, fl_109, up_109, true_and, and_true, true_or, or_true, implies_true, b10_0, b10_1]
          repeat' (first | refine And.intro ?_ ?_ | intro _)
          all_goals (try (first | omega | (unfold r32; omega) | exact hQ | exact qe hQ (by omega) | exact qe hQ (by (repeat' split) <;> omega) | exact b01 | exact n01 | exact n21 | exact n31 | exact absurd trivial (by assumption)))
          all_goals (try exact nx)
        · have hkp : ¬ kL c (rdN g k) = true := fun z => hz (of_decide_eq_true z)
          rw [cp_n hkp] at ih
          have nx := ih h hF hh2 hL1 (fun j hj => hL2 j (by omega))
          apply s_177_11
          try simp only [mi_87, fl_87_18, mi_104, ml_104, fl_104, up_104, fl_87_20, up_87_20, fl_87_21, mi_106, ml_106, fl_106, up_106, fl_87_22, up_87_22, fl_87_23, mi_107, ml_107, fl_107, up_107, fl_87_24, up_87_24, fl_87_25, mi_108, ml_108, fl_108, up_108, fl_87_26, mi_109, ml_109, fl_109, up_109, f1, i0, i2, f13, f15, true_and, and_true, true_or, or_true, implies_true, b10_0, b10_1]
          repeat' (first | refine And.intro ?_ ?_ | intro _)
          all_goals (try (first | omega | (unfold r32; omega) | exact hQ | exact qe hQ (by omega) | exact qe hQ (by (repeat' split) <;> omega) | exact b01 | exact n01 | exact n21 | exact n31 | exact absurd trivial (by assumption)))
          all_goals
            apply s_177_104
            try simp only [mi_87, fl_87_18, mi_104, ml_104, fl_104, up_104, fl_87_20, up_87_20, fl_87_21, mi_106, ml_106, fl_106, up_106, fl_87_22, up_87_22, fl_87_23, mi_107, ml_107, fl_107, up_107, fl_87_24, up_87_24, fl_87_25, mi_108, ml_108, fl_108, up_108, fl_87_26, mi_109, ml_109, fl_109, up_109, true_and, and_true, true_or, or_true, implies_true, b10_0, b10_1]
            repeat' (first | refine And.intro ?_ ?_ | intro _)
            all_goals (try (first | omega | (unfold r32; omega) | exact hQ | exact qe hQ (by omega) | exact qe hQ (by (repeat' split) <;> omega) | exact b01 | exact n01 | exact n21 | exact n31 | exact absurd trivial (by assumption)))
            all_goals (try exact nx)
    · intro h hF hh2 h20 hL hA1 hA2
      have f1 : h 86 22 = g 86 22 := hF _ _ (by omega)
      generalize hm : mup h 86 22 ((cp (rdM g) (kA c) (g 86 22).toNat).1 : Int) = m1
      have fm : ∀ o i, ¬ (o = 86 ∧ i = 22) → m1 o i = h o i := fun o i ho => by rw [← hm, mup_n ho]
      have lb := loopB m1 (fun o i ho => by rw [fm _ _ (by omega)]; exact hF o i (by omega)) (by rw [fm _ _ (by omega)]; exact hh2) (by rw [fm _ _ (by omega)]; exact h20) (by rw [← hm, mup_e]) (fun j hj => by
        rw [← hL j hj]
        unfold rdN
        rw [fm _ _ (by omega), fm _ _ (by omega), fm _ _ (by omega)]) (fun j hj => by
        rw [← hA1 j hj]
        unfold rdM
        rw [fm _ _ (by omega), fm _ _ (by omega), fm _ _ (by omega)]) (fun j hj => absurd hj (by show ¬ j < 0; omega)) (fun j _ => by
        unfold rdD
        rw [fm _ _ (by omega), fm _ _ (by omega), hF _ _ (by omega), hF _ _ (by omega)])
      apply s_177_119
      try simp only [mi_87, fl_87_18, mi_104, ml_104, fl_104, up_104, fl_87_20, up_87_20, fl_87_21, mi_106, ml_106, fl_106, up_106, fl_87_22, up_87_22, fl_87_23, mi_107, ml_107, fl_107, up_107, fl_87_24, up_87_24, fl_87_25, mi_108, ml_108, fl_108, up_108, fl_87_26, mi_109, ml_109, fl_109, up_109, f1, hm, true_and, and_true, true_or, or_true, implies_true, b10_0, b10_1]
      repeat' (first | refine And.intro ?_ ?_ | intro _)
      all_goals (try (first | omega | (unfold r32; omega) | exact hQ | exact qe hQ (by omega) | exact qe hQ (by (repeat' split) <;> omega) | exact b01 | exact n01 | exact n21 | exact n31 | exact absurd trivial (by assumption)))
      apply s_177_209
      try simp only [mi_87, fl_87_18, mi_104, ml_104, fl_104, up_104, fl_87_20, up_87_20, fl_87_21, mi_106, ml_106, fl_106, up_106, fl_87_22, up_87_22, fl_87_23, mi_107, ml_107, fl_107, up_107, fl_87_24, up_87_24, fl_87_25, mi_108, ml_108, fl_108, up_108, fl_87_26, mi_109, ml_109, fl_109, up_109, true_and, and_true, true_or, or_true, implies_true, b10_0, b10_1]
      repeat' (first | refine And.intro ?_ ?_ | intro _)
      all_goals (try (first | omega | (unfold r32; omega) | exact hQ | exact qe hQ (by omega) | exact qe hQ (by (repeat' split) <;> omega) | exact b01 | exact n01 | exact n21 | exact n31 | exact absurd trivial (by assumption)))
      all_goals (try exact lb)
    · intro k hk ih h hF hh2 h20 hL hA1 hA2
      have e10 : ((k + 1 : Nat) : Int) = (k : Int) + 1 := by omega
      have f1 : h 86 22 = g 86 22 := hF _ _ (by omega)
      have hrk := hA2 k (Nat.le_refl _)
      have f15 : h 106 (3 * k + 2) = g 106 (3 * k + 2) := (Prod.mk.inj hrk).1
      have f13 : h 106 (3 * k) = g 106 (3 * k) := (Prod.mk.inj (Prod.mk.inj hrk).2).1
      have f14 : h 106 (3 * k + 1) = g 106 (3 * k + 1) := (Prod.mk.inj (Prod.mk.inj hrk).2).2
      have hle := cp_le (rd := rdM g) (kp := kA c) k
      rw [e10] at ih
      by_cases hz : g 106 (3 * k) ≠ (c : Int)
      · have hkp : kA c (rdM g k) = true := decide_eq_true hz
        rw [cp_y hkp] at ih
        simp only [] at ih
        generalize hcn : (cp (rdM g) (kA c) k).1 = cn at ih hA1 hle
        generalize hm1 : mup h 106 (3 * cn) (g 106 (3 * k)) = m1
        have g14 : m1 106 (3 * k + 1) = g 106 (3 * k + 1) := by rw [← hm1, mup_n (by omega)]; exact f14
        generalize hm2 : mup m1 106 (3 * cn + 1) (g 106 (3 * k + 1)) = m2
        have g15 : m2 106 (3 * k + 2) = g 106 (3 * k + 2) := by rw [← hm2, mup_n (by omega), ← hm1, mup_n (by omega)]; exact f15
        generalize hm3 : mup m2 106 (3 * cn + 2) (g 106 (3 * k + 2)) = m3
        have f3 : ∀ o i, ¬ (o = 106 ∧ 3 * cn ≤ i ∧ i < 3 * cn + 3) → m3 o i = h o i := fun o i ho => by rw [← hm3, mup_n (by omega), ← hm2, mup_n (by omega), ← hm1, mup_n (by omega)]
        have nx := ih m3 (fun o i ho => by rw [f3 _ _ (by omega)]; exact hF o i (by omega)) (by rw [f3 _ _ (by omega)]; exact hh2) (by rw [f3 _ _ (by omega)]; exact h20) (fun j hj => by
          rw [← hL j hj]
          unfold rdN
          rw [f3 _ _ (by omega), f3 _ _ (by omega), f3 _ _ (by omega)]) (fun j hj => by
          by_cases hjc : j = cn
          · rw [if_pos hjc, hjc]
            unfold rdM
            rw [← hm3, mup_e, mup_n (by omega), mup_n (by omega), ← hm2, mup_n (by omega), mup_e, ← hm1, mup_e]
          · rw [if_neg hjc, ← hA1 j (by omega)]
            unfold rdM
            rw [f3 _ _ (by omega), f3 _ _ (by omega), f3 _ _ (by omega)]) (fun j hj => by
          rw [← hA2 j (by omega)]
          unfold rdM
          rw [f3 _ _ (by omega), f3 _ _ (by omega), f3 _ _ (by omega)])
        rw [show ((cn + 1 : Nat) : Int) = (cn : Int) + 1 by omega] at nx
        apply s_177_119
        try simp only [mi_87, fl_87_18, mi_104, ml_104, fl_104, up_104, fl_87_20, up_87_20, fl_87_21, mi_106, ml_106, fl_106, up_106, fl_87_22, up_87_22, fl_87_23, mi_107, ml_107, fl_107, up_107, fl_87_24, up_87_24, fl_87_25, mi_108, ml_108, fl_108, up_108, fl_87_26, mi_109, ml_109, fl_109, up_109, f1, i0, f13, hm1, true_and, and_true, true_or, or_true, implies_true, b10_0, b10_1]
        repeat' (first | refine And.intro ?_ ?_ | intro _)
        all_goals (try (first | omega | (unfold r32; omega) | exact hQ | exact qe hQ (by omega) | exact qe hQ (by (repeat' split) <;> omega) | exact b01 | exact n01 | exact n21 | exact n31 | exact absurd trivial (by assumption)))
        apply s_177_155
        try simp only [mi_87, fl_87_18, mi_104, ml_104, fl_104, up_104, fl_87_20, up_87_20, fl_87_21, mi_106, ml_106, fl_106, up_106, fl_87_22, up_87_22, fl_87_23, mi_107, ml_107, fl_107, up_107, fl_87_24, up_87_24, fl_87_25, mi_108, ml_108, fl_108, up_108, fl_87_26, mi_109, ml_109, fl_109, up_109, i1, g14, hm2, true_and, and_true, true_or, or_true, implies_true, b10_0, b10_1]
        repeat' (first | refine And.intro ?_ ?_ | intro _)
        all_goals (try (first | omega | (unfold r32; omega) | exact hQ | exact qe hQ (by omega) | exact qe hQ (by (repeat' split) <;> omega) | exact b01 | exact n01 | exact n21 | exact n31 | exact absurd trivial (by assumption)))
        apply s_177_175
        try simp only [mi_87, fl_87_18, mi_104, ml_104, fl_104, up_104, fl_87_20, up_87_20, fl_87_21, mi_106, ml_106, fl_106, up_106, fl_87_22, up_87_22, fl_87_23, mi_107, ml_107, fl_107, up_107, fl_87_24, up_87_24, fl_87_25, mi_108, ml_108, fl_108, up_108, fl_87_26, mi_109, ml_109, fl_109, up_109, i2, g15, hm3, true_and, and_true, true_or, or_true, implies_true, b10_0, b10_1]
        repeat' (first | refine And.intro ?_ ?_ | intro _)
        all_goals (try (first | omega | (unfold r32; omega) | exact hQ | exact qe hQ (by omega) | exact qe hQ (by (repeat' split) <;> omega) | exact b01 | exact n01 | exact n21 | exact n31 | exact absurd trivial (by assumption)))
        apply s_177_195
        try simp only [mi_87, fl_87_18, mi_104, ml_104, fl_104, up_104, fl_87_20, up_87_20, fl_87_21, mi_106, ml_106, fl_106, up_106, fl_87_22, up_87_22, fl_87_23, mi_107, ml_107, fl_107, up_107, fl_87_24, up_87_24, fl_87_25, mi_108, ml_108, fl_108, up_108, fl_87_26, mi_109, ml_109, fl_109, up_109, true_and, and_true, true_or, or_true, implies_true, b10_0, b10_1]
        repeat' (first | refine And.intro ?_ ?_ | intro _)
        all_goals (try (first | omega | (unfold r32; omega) | exact hQ | exact qe hQ (by omega) | exact qe hQ (by (repeat' split) <;> omega) | exact b01 | exact n01 | exact n21 | exact n31 | exact absurd trivial (by assumption)))
        apply s_177_198
        try simp only [mi_87, fl_87_18, mi_104, ml_104, fl_104, up_104, fl_87_20, up_87_20, fl_87_21, mi_106, ml_106, fl_106, up_106, fl_87_22, up_87_22, fl_87_23, mi_107, ml_107, fl_107, up_107, fl_87_24, up_87_24, fl_87_25, mi_108, ml_108, fl_108, up_108, fl_87_26, mi_109, ml_109, fl_109, up_109, true_and, and_true, true_or, or_true, implies_true, b10_0, b10_1]
        repeat' (first | refine And.intro ?_ ?_ | intro _)
        all_goals (try (first | omega | (unfold r32; omega) | exact hQ | exact qe hQ (by omega) | exact qe hQ (by (repeat' split) <;> omega) | exact b01 | exact n01 | exact n21 | exact n31 | exact absurd trivial (by assumption)))
        all_goals (try exact nx)
      · have hkp : ¬ kA c (rdM g k) = true := fun z => hz (of_decide_eq_true z)
        rw [cp_n hkp] at ih
        have nx := ih h hF hh2 h20 hL hA1 (fun j hj => hA2 j (by omega))
        apply s_177_119
        try simp only [mi_87, fl_87_18, mi_104, ml_104, fl_104, up_104, fl_87_20, up_87_20, fl_87_21, mi_106, ml_106, fl_106, up_106, fl_87_22, up_87_22, fl_87_23, mi_107, ml_107, fl_107, up_107, fl_87_24, up_87_24, fl_87_25, mi_108, ml_108, fl_108, up_108, fl_87_26, mi_109, ml_109, fl_109, up_109, f1, i0, f13, true_and, and_true, true_or, or_true, implies_true, b10_0, b10_1]
        repeat' (first | refine And.intro ?_ ?_ | intro _)
        all_goals (try (first | omega | (unfold r32; omega) | exact hQ | exact qe hQ (by omega) | exact qe hQ (by (repeat' split) <;> omega) | exact b01 | exact n01 | exact n21 | exact n31 | exact absurd trivial (by assumption)))
        apply s_177_198
        try simp only [mi_87, fl_87_18, mi_104, ml_104, fl_104, up_104, fl_87_20, up_87_20, fl_87_21, mi_106, ml_106, fl_106, up_106, fl_87_22, up_87_22, fl_87_23, mi_107, ml_107, fl_107, up_107, fl_87_24, up_87_24, fl_87_25, mi_108, ml_108, fl_108, up_108, fl_87_26, mi_109, ml_109, fl_109, up_109, true_and, and_true, true_or, or_true, implies_true, b10_0, b10_1]
        repeat' (first | refine And.intro ?_ ?_ | intro _)
        all_goals (try (first | omega | (unfold r32; omega) | exact hQ | exact qe hQ (by omega) | exact qe hQ (by (repeat' split) <;> omega) | exact b01 | exact n01 | exact n21 | exact n31 | exact absurd trivial (by assumption)))
        all_goals (try exact nx)
  · intro h hF hh2 h20 h22 hL hA hB1 hB2
    have f1 : h 86 24 = g 86 24 := hF _ _ (by omega)
    generalize hm : mup h 86 24 ((cp (rdD g) (kB c) (g 86 24).toNat).1 : Int) = m1
    have fm : ∀ o i, ¬ (o = 86 ∧ i = 24) → m1 o i = h o i := fun o i ho => by rw [← hm, mup_n ho]
    have hq := hQ none m1 ⟨rfl, fun o k ho => by rw [fm _ _ (by omega)]; exact hF o k (by omega), by rw [fm _ _ (by omega)]; exact hh2, by rw [fm _ _ (by omega)]; exact h20, by rw [fm _ _ (by omega)]; exact h22, by rw [← hm, mup_e], fun j hj => by
      rw [← hL j hj]
      unfold rdN
      rw [fm _ _ (by omega), fm _ _ (by omega), fm _ _ (by omega)], fun j hj => by
      rw [← hA j hj]
      unfold rdM
      rw [fm _ _ (by omega), fm _ _ (by omega), fm _ _ (by omega)], fun j hj => by
      rw [← hB1 j hj]
      unfold rdD
      rw [fm _ _ (by omega), fm _ _ (by omega)]⟩
    apply s_177_213
    try simp only [mi_87, fl_87_18, mi_104, ml_104, fl_104, up_104, fl_87_20, up_87_20, fl_87_21, mi_106, ml_106, fl_106, up_106, fl_87_22, up_87_22, fl_87_23, mi_107, ml_107, fl_107, up_107, fl_87_24, up_87_24, fl_87_25, mi_108, ml_108, fl_108, up_108, fl_87_26, mi_109, ml_109, fl_109, up_109, f1, hm, true_and, and_true, true_or, or_true, implies_true, b10_0, b10_1]
    repeat' (first | refine And.intro ?_ ?_ | intro _)
    all_goals (try (first | omega | (unfold r32; omega) | exact hQ | exact qe hQ (by omega) | exact qe hQ (by (repeat' split) <;> omega) | exact b01 | exact n01 | exact n21 | exact n31 | exact absurd trivial (by assumption)))
    all_goals (try exact hq)
  · intro k hk ih h hF hh2 h20 h22 hL hA hB1 hB2
    have e2 : ((k : Int)).toNat = k := by omega
    have e10 : ((k + 1 : Nat) : Int) = (k : Int) + 1 := by omega
    have f1 : h 86 24 = g 86 24 := hF _ _ (by omega)
    have hrk := hB2 k (Nat.le_refl _)
    have f44 : h 107 k = g 107 k := (Prod.mk.inj hrk).1
    have f45 : h 108 k = g 108 k := (Prod.mk.inj (Prod.mk.inj hrk).2).1
    have hle := cp_le (rd := rdD g) (kp := kB c) k
    rw [e10] at ih
    by_cases hz : g 107 k ≠ (c : Int)
    · have hkp : kB c (rdD g k) = true := decide_eq_true hz
      rw [cp_y hkp] at ih
      simp only [] at ih
      generalize hcn : (cp (rdD g) (kB c) k).1 = cn at ih hB1 hle
      have ec : ((cn : Int)).toNat = cn := by omega
      generalize hm1 : mup h 107 cn (g 107 k) = m1
      have g45 : m1 108 k = g 108 k := by rw [← hm1, mup_n (by omega)]; exact f45
      generalize hm2 : mup m1 108 cn (g 108 k) = m2
      have f3 : ∀ o i, ¬ ((o = 107 ∨ o = 108) ∧ i = cn) → m2 o i = h o i := fun o i ho => by rw [← hm2, mup_n (by omega), ← hm1, mup_n (by omega)]
      have nx := ih m2 (fun o i ho => by rw [f3 _ _ (by omega)]; exact hF o i (by omega)) (by rw [f3 _ _ (by omega)]; exact hh2) (by rw [f3 _ _ (by omega)]; exact h20) (by rw [f3 _ _ (by omega)]; exact h22) (fun j hj => by
        rw [← hL j hj]
        unfold rdN
        rw [f3 _ _ (by omega), f3 _ _ (by omega), f3 _ _ (by omega)]) (fun j hj => by
        rw [← hA j hj]
        unfold rdM
        rw [f3 _ _ (by omega), f3 _ _ (by omega), f3 _ _ (by omega)]) (fun j hj => by
        by_cases hjc : j = cn
        · rw [if_pos hjc, hjc]
          unfold rdD
          rw [← hm2, mup_n (by omega), mup_e, ← hm1, mup_e]
        · rw [if_neg hjc, ← hB1 j (by omega)]
          unfold rdD
          rw [f3 _ _ (by omega), f3 _ _ (by omega)]) (fun j hj => by
        rw [← hB2 j (by omega)]
        unfold rdD
        rw [f3 _ _ (by omega), f3 _ _ (by omega)])
      rw [show ((cn + 1 : Nat) : Int) = (cn : Int) + 1 by omega] at nx
      apply s_177_213
      try simp only [mi_87, fl_87_18, mi_104, ml_104, fl_104, up_104, fl_87_20, up_87_20, fl_87_21, mi_106, ml_106, fl_106, up_106, fl_87_22, up_87_22, fl_87_23, mi_107, ml_107, fl_107, up_107, fl_87_24, up_87_24, fl_87_25, mi_108, ml_108, fl_108, up_108, fl_87_26, mi_109, ml_109, fl_109, up_109, f1, e2, ec, f44, hm1, true_and, and_true, true_or, or_true, implies_true, b10_0, b10_1]
      repeat' (first | refine And.intro ?_ ?_ | intro _)
      all_goals (try (first | omega | (unfold r32; omega) | exact hQ | exact qe hQ (by omega) | exact qe hQ (by (repeat' split) <;> omega) | exact b01 | exact n01 | exact n21 | exact n31 | exact absurd trivial (by assumption)))
      apply s_177_243
      try simp only [mi_87, fl_87_18, mi_104, ml_104, fl_104, up_104, fl_87_20, up_87_20, fl_87_21, mi_106, ml_106, fl_106, up_106, fl_87_22, up_87_22, fl_87_23, mi_107, ml_107, fl_107, up_107, fl_87_24, up_87_24, fl_87_25, mi_108, ml_108, fl_108, up_108, fl_87_26, mi_109, ml_109, fl_109, up_109, e2, ec, g45, hm2, true_and, and_true, true_or, or_true, implies_true, b10_0, b10_1]
      repeat' (first | refine And.intro ?_ ?_ | intro _)
      all_goals (try (first | omega | (unfold r32; omega) | exact hQ | exact qe hQ (by omega) | exact qe hQ (by (repeat' split) <;> omega) | exact b01 | exact n01 | exact n21 | exact n31 | exact absurd trivial (by assumption)))
      apply s_177_255
      try simp only [mi_87, fl_87_18, mi_104, ml_104, fl_104, up_104, fl_87_20, up_87_20, fl_87_21, mi_106, ml_106, fl_106, up_106, fl_87_22, up_87_22, fl_87_23, mi_107, ml_107, fl_107, up_107, fl_87_24, up_87_24, fl_87_25, mi_108, ml_108, fl_108, up_108, fl_87_26, mi_109, ml_109, fl_109, up_109, true_and, and_true, true_or, or_true, implies_true, b10_0, b10_1]
      repeat' (first | refine And.intro ?_ ?_ | intro _)
      all_goals (try (first | omega | (unfold r32; omega) | exact hQ | exact qe hQ (by omega) | exact qe hQ (by (repeat' split) <;> omega) | exact b01 | exact n01 | exact n21 | exact n31 | exact absurd trivial (by assumption)))
      apply s_177_258
      try simp only [mi_87, fl_87_18, mi_104, ml_104, fl_104, up_104, fl_87_20, up_87_20, fl_87_21, mi_106, ml_106, fl_106, up_106, fl_87_22, up_87_22, fl_87_23, mi_107, ml_107, fl_107, up_107, fl_87_24, up_87_24, fl_87_25, mi_108, ml_108, fl_108, up_108, fl_87_26, mi_109, ml_109, fl_109, up_109, true_and, and_true, true_or, or_true, implies_true, b10_0, b10_1]
      repeat' (first | refine And.intro ?_ ?_ | intro _)
      all_goals (try (first | omega | (unfold r32; omega) | exact hQ | exact qe hQ (by omega) | exact qe hQ (by (repeat' split) <;> omega) | exact b01 | exact n01 | exact n21 | exact n31 | exact absurd trivial (by assumption)))
      all_goals (try exact nx)
    · have hkp : ¬ kB c (rdD g k) = true := fun z => hz (of_decide_eq_true z)
      rw [cp_n hkp] at ih
      have nx := ih h hF hh2 h20 h22 hL hA hB1 (fun j hj => hB2 j (by omega))
      apply s_177_213
      try simp only [mi_87, fl_87_18, mi_104, ml_104, fl_104, up_104, fl_87_20, up_87_20, fl_87_21, mi_106, ml_106, fl_106, up_106, fl_87_22, up_87_22, fl_87_23, mi_107, ml_107, fl_107, up_107, fl_87_24, up_87_24, fl_87_25, mi_108, ml_108, fl_108, up_108, fl_87_26, mi_109, ml_109, fl_109, up_109, f1, e2, f44, true_and, and_true, true_or, or_true, implies_true, b10_0, b10_1]
      repeat' (first | refine And.intro ?_ ?_ | intro _)
      all_goals (try (first | omega | (unfold r32; omega) | exact hQ | exact qe hQ (by omega) | exact qe hQ (by (repeat' split) <;> omega) | exact b01 | exact n01 | exact n21 | exact n31 | exact absurd trivial (by assumption)))
      apply s_177_258
      try simp only [mi_87, fl_87_18, mi_104, ml_104, fl_104, up_104, fl_87_20, up_87_20, fl_87_21, mi_106, ml_106, fl_106, up_106, fl_87_22, up_87_22, fl_87_23, mi_107, ml_107, fl_107, up_107, fl_87_24, up_87_24, fl_87_25, mi_108, ml_108, fl_108, up_108, fl_87_26, mi_109, ml_109, fl_109, up_109, true_and, and_true, true_or, or_true, implies_true, b10_0, b10_1]
      repeat' (first | refine And.intro ?_ ?_ | intro _)
      all_goals (try (first | omega | (unfold r32; omega) | exact hQ | exact qe hQ (by omega) | exact qe hQ (by (repeat' split) <;> omega) | exact b01 | exact n01 | exact n21 | exact n31 | exact absurd trivial (by assumption)))
      all_goals (try exact nx)
