/-! the reference's fire -/
def dst (g : mF) (c i k : Nat) : Int := (if g 100 (36 * c + i) - g 100 (36 * c + k) < 0 then -(g 100 (36 * c + i) - g 100 (36 * c + k)) else g 100 (36 * c + i) - g 100 (36 * c + k)) + (if g 101 (36 * c + i) - g 101 (36 * c + k) < 0 then -(g 101 (36 * c + i) - g 101 (36 * c + k)) else g 101 (36 * c + i) - g 101 (36 * c + k))
/-- the reference's memory holds the inputs (but for the agains) -/
def MAg (D : Int) (G g : mF) : Prop := (∀ p, p < 8 → g 94 p = G 6 p) ∧ (∀ h, h < 100 → g 95 h = G 7 h) ∧ g 86 28 = D ∧ (∀ c, c < 4 → g 99 c = G (19 + 6 * c) 0 ∧ g 103 c = G (19 + 6 * c) 2 ∧ g 104 c = G (19 + 6 * c) 3 ∧ (∀ i : Nat, (i : Int) < G (19 + 6 * c) 0 → g 102 (36 * c + i) = G (20 + 6 * c) i ∧ (0 ≤ g 100 (36 * c + i) ∧ g 100 (36 * c + i) ≤ 5) ∧ (0 ≤ g 101 (36 * c + i) ∧ g 101 (36 * c + i) ≤ 5)) ∧ ∀ i k : Nat, (i : Int) < G (19 + 6 * c) 0 → (k : Int) < G (19 + 6 * c) 0 → (dst g c i k = 1 ↔ CAd G c i k)) ∧ g 86 20 = G 11 1 ∧ (∀ k : Nat, (k : Int) < G 11 1 → g 105 (3 * k) = G 13 k ∧ g 105 (3 * k + 1) = G 14 k ∧ g 105 (3 * k + 2) = G 15 k)
/-- what the reference's night leaves as it was -/
def FM (gs g : mF) : Prop := ∀ o k, ¬ (111 ≤ o ∧ o ≤ 116 ∨ o = 86 ∧ (k = 36 ∨ k = 37)) → g o k = gs o k
theorem FM_r {g : mF} : FM g g := fun _ _ _ => rfl
theorem FM_t {a b c : mF} (h : FM a b) (h' : FM b c) : FM a c := fun o k ho => by rw [h' o k ho, h o k ho]
theorem dst_congr {g g' : mF} {c i k : Nat} (h1 : ∀ k, g' 100 k = g 100 k) (h2 : ∀ k, g' 101 k = g 101 k) : dst g' c i k = dst g c i k := by unfold dst; simp only [h1, h2]
theorem FM_ag {D : Int} {G gs g : mF} (hA : MAg D G gs) (h : FM gs g) : MAg D G g := by
  obtain ⟨a1, a2, a3, a4, a5, a6⟩ := hA
  have e1 : ∀ k, g 100 k = gs 100 k := fun k => h _ _ (by omega)
  have e2 : ∀ k, g 101 k = gs 101 k := fun k => h _ _ (by omega)
  refine ⟨fun p hp => by rw [h _ _ (by omega)]; exact a1 p hp, fun p hp => by rw [h _ _ (by omega)]; exact a2 p hp, by rw [h _ _ (by omega)]; exact a3, fun c hc => ?_, by rw [h _ _ (by omega)]; exact a5, fun k hk => ?_⟩
  · obtain ⟨b1, b2, b3, b4, b5⟩ := a4 c hc
    refine ⟨by rw [h _ _ (by omega)]; exact b1, by rw [h _ _ (by omega)]; exact b2, by rw [h _ _ (by omega)]; exact b3, fun i hi => ?_, fun i k hi hk => ?_⟩
    · rw [h _ _ (by omega), h _ _ (by omega), h _ _ (by omega)]
      exact b4 i hi
    · rw [dst_congr e1 e2]
      exact b5 i k hi hk
  · rw [h _ _ (by omega), h _ _ (by omega), h _ _ (by omega)]
    exact a6 k hk
theorem c183 (X : mX) (g : mF) {t : Int} (ht : 0 ≤ t ∧ t ≤ 100000) : Ret X 1 183 [(0, t)] g (some (0, hr t)) g := by
  intro d Q hd hQ
  unfold hr at hQ
  apply s_183_0
  try simp only [mi_87, tdn ht.1, true_and, and_true, true_or, or_true, implies_true, b10_0, b10_1]
  repeat' (first | refine And.intro ?_ ?_ | intro _)
  all_goals (try (first | omega | (unfold r32; omega) | exact hQ | exact qe hQ (by omega) | exact qe hQ (by (repeat' split) <;> omega) | exact b01 | exact n01 | exact n21 | exact n31 | exact absurd trivial (by assumption)))
  refine c146 X g _ _ _ _ (by omega) ?_
  apply s_183_9
  try simp only [mi_87, true_and, and_true, true_or, or_true, implies_true, b10_0, b10_1]
  repeat' (first | refine And.intro ?_ ?_ | intro _)
  all_goals (try (first | omega | (unfold r32; omega) | exact hQ | exact qe hQ (by omega) | exact qe hQ (by (repeat' split) <;> omega) | exact b01 | exact n01 | exact n21 | exact n31 | exact absurd trivial (by assumption)))
theorem c184 (X : mX) {G g : mF} {D p t : Int} (hA : MAg D G g) (hG : Gair G) (hDb : -1 ≤ D ∧ D ≤ 50) (hp : 0 ≤ p ∧ p ≤ 7) (ht : 0 ≤ t ∧ t ≤ 100000) : Ret X 2 184 [(2, 87), (0, p), (0, t), (3, 0)] g (some (0, btk G D p t)) g := by
  intro d Q hd hQ
  have h0 := hr_b ht.1
  have e6 := hA.1 p.toNat (by omega)
  have e7 := hA.2.1 (hr t).toNat (by omega)
  have hD := hA.2.2.1
  have b6 := hG.1 p.toNat (by omega)
  have b7 := hG.2 (hr t).toNat (by omega)
  unfold btk at hQ
  by_cases z : D = -1
  · rw [if_pos z] at hQ
    have m := mulb b6 b7
    have td := tdn (show 0 ≤ G 6 p.toNat * (100 + G 7 (hr t).toNat) by omega) 100
    repeat' (first
      | (exfalso; omega)
      | (exact absurd trivial (by assumption))
      | (apply s_184_0; try simp only [mi_87, fl_87_28, up_87_28, fl_87_10, mi_96, ml_96, fl_96, up_96, fl_87_9, mi_95, ml_95, fl_95, up_95, hD, e6, e7, td, true_and, and_true, true_or, or_true, implies_true, b10_0, b10_1])
      | (apply s_184_22; try simp only [mi_87, fl_87_28, up_87_28, fl_87_10, mi_96, ml_96, fl_96, up_96, fl_87_9, mi_95, ml_95, fl_95, up_95, hD, e6, e7, td, true_and, and_true, true_or, or_true, implies_true, b10_0, b10_1])
      | (apply s_184_23; try simp only [mi_87, fl_87_28, up_87_28, fl_87_10, mi_96, ml_96, fl_96, up_96, fl_87_9, mi_95, ml_95, fl_95, up_95, hD, e6, e7, td, true_and, and_true, true_or, or_true, implies_true, b10_0, b10_1])
      | (apply s_184_24; try simp only [mi_87, fl_87_28, up_87_28, fl_87_10, mi_96, ml_96, fl_96, up_96, fl_87_9, mi_95, ml_95, fl_95, up_95, hD, e6, e7, td, true_and, and_true, true_or, or_true, implies_true, b10_0, b10_1])
      | (refine c183 X g ht _ _ (by omega) ?_)
      | (refine And.intro ?_ ?_)
      | (intro _)
      | omega
      | (unfold r32; omega)
      | (exact hQ)
      | (exact qe hQ (by omega))
      | (exact qe hQ (by (repeat' split) <;> omega))
      | (exact b01)
      | (exact n01)
      | (exact n21)
      | (exact n31))
  · rw [if_neg z] at hQ
    have m := mulb b6 (d := D) (by omega)
    have td := tdn (show 0 ≤ G 6 p.toNat * (100 + D) by omega) 100
    repeat' (first
      | (exfalso; omega)
      | (exact absurd trivial (by assumption))
      | (apply s_184_0; try simp only [mi_87, fl_87_28, up_87_28, fl_87_10, mi_96, ml_96, fl_96, up_96, fl_87_9, mi_95, ml_95, fl_95, up_95, hD, e6, td, true_and, and_true, true_or, or_true, implies_true, b10_0, b10_1])
      | (apply s_184_22; try simp only [mi_87, fl_87_28, up_87_28, fl_87_10, mi_96, ml_96, fl_96, up_96, fl_87_9, mi_95, ml_95, fl_95, up_95, hD, e6, td, true_and, and_true, true_or, or_true, implies_true, b10_0, b10_1])
      | (apply s_184_23; try simp only [mi_87, fl_87_28, up_87_28, fl_87_10, mi_96, ml_96, fl_96, up_96, fl_87_9, mi_95, ml_95, fl_95, up_95, hD, e6, td, true_and, and_true, true_or, or_true, implies_true, b10_0, b10_1])
      | (apply s_184_24; try simp only [mi_87, fl_87_28, up_87_28, fl_87_10, mi_96, ml_96, fl_96, up_96, fl_87_9, mi_95, ml_95, fl_95, up_95, hD, e6, td, true_and, and_true, true_or, or_true, implies_true, b10_0, b10_1])
      | (refine And.intro ?_ ?_)
      | (intro _)
      | omega
      | (unfold r32; omega)
      | (exact hQ)
      | (exact qe hQ (by omega))
      | (exact qe hQ (by (repeat' split) <;> omega))
      | (exact b01)
      | (exact n01)
      | (exact n21)
      | (exact n31))
def litF (g : mF) (c i : Nat) (t : Int) : Nat → Int
  | 0 => 1000000
  | k + 1 => if dst g c i k = 1 ∧ t ≤ g 114 (36 * c + k) then (if litF g c i t k < g 115 (36 * c + k) then litF g c i t k else g 115 (36 * c + k)) else litF g c i t k
theorem litF_p (g : mF) (c i : Nat) (t : Int) : ∀ n, (litF g c i t n ≤ 1000000) ∧ (∀ k, k < n → dst g c i k = 1 → t ≤ g 114 (36 * c + k) → litF g c i t n ≤ g 115 (36 * c + k)) ∧ (litF g c i t n = 1000000 ∨ ∃ k, k < n ∧ dst g c i k = 1 ∧ t ≤ g 114 (36 * c + k) ∧ litF g c i t n = g 115 (36 * c + k)) := by
  intro n
  induction n with
  | zero => exact ⟨by unfold litF; omega, fun k hk => absurd hk (by omega), Or.inl rfl⟩
  | succ n ih =>
    obtain ⟨h1, h2, h3⟩ := ih
    unfold litF
    by_cases h : dst g c i n = 1 ∧ t ≤ g 114 (36 * c + n)
    · rw [if_pos h]
      refine ⟨by split <;> omega, fun k hk hd ht => ?_, ?_⟩
      · by_cases hkn : k = n
        · subst hkn; split <;> omega
        · have := h2 k (by omega) hd ht
          split <;> omega
      · by_cases hl : litF g c i t n < g 115 (36 * c + n)
        · rw [if_pos hl]
          rcases h3 with z | ⟨k, k1, k2, k3, k4⟩
          · exact Or.inl z
          · exact Or.inr ⟨k, by omega, k2, k3, k4⟩
        · rw [if_neg hl]
          exact Or.inr ⟨n, by omega, h.1, h.2, rfl⟩
    · rw [if_neg h]
      refine ⟨h1, fun k hk hd ht => ?_, ?_⟩
      · by_cases hkn : k = n
        · subst hkn; exact absurd ⟨hd, ht⟩ h
        · exact h2 k (by omega) hd ht
      · rcases h3 with z | ⟨k, k1, k2, k3, k4⟩
        · exact Or.inl z
        · exact Or.inr ⟨k, by omega, k2, k3, k4⟩
theorem c189 (X : mX) {G g : mF} {D : Int} {c i : Nat} (hc : c < 4) (hA : MAg D G g) (hn : 0 ≤ G (19 + 6 * c) 0 ∧ G (19 + 6 * c) 0 ≤ 36) (hi : (i : Int) < G (19 + 6 * c) 0) (t : Int) : Ret X 1 189 [(2, 87), (0, (c : Int)), (0, (i : Int)), (0, t), (3, 0), (3, 0), (3, 0), (3, 0)] g (some (0, litF g c i t (G (19 + 6 * c) 0).toNat)) g := by
  intro d Q hd hQ
  obtain ⟨a1, a2, a3, a4, a5⟩ := hA.2.2.2.1 c hc
  have e0 : ((c : Int)).toNat = c := by omega
  have ei : (36 * (c : Int) + (i : Int)).toNat = 36 * c + i := by omega
  have bi := a4 i hi
  have key := lup (P := fun k => ∀ v6 v7, v6.1 ≠ 1 → v7.1 ≠ 1 → Wp X d SH 189 7 [(2, 87), (0, (c : Int)), (0, (i : Int)), (0, t), (0, litF g c i t k), (0, (k : Int)), v6, v7] [] SH (fl g) Q) (G (19 + 6 * c) 0).toNat ?_ ?_ 0 (by omega)
  · skip
    apply s_189_0
    try simp only [mi_87, fl_87_14, mi_100, ml_100, fl_100, up_100, fl_87_15, mi_101, ml_101, fl_101, up_101, fl_87_16, mi_102, ml_102, fl_102, up_102, fl_87_33, mi_115, ml_115, fl_115, up_115, fl_87_34, mi_116, ml_116, fl_116, up_116, true_and, and_true, true_or, or_true, implies_true, b10_0, b10_1]
    repeat' (first | refine And.intro ?_ ?_ | intro _)
    all_goals (try (first | omega | (unfold r32; omega) | exact hQ | exact qe hQ (by omega) | exact qe hQ (by (repeat' split) <;> omega) | exact b01 | exact n01 | exact n21 | exact n31 | exact absurd trivial (by assumption)))
    exact key _ _ n31 n31
  · intro v6 v7 _ _
    apply s_189_7
    try simp only [mi_87, fl_87_14, mi_100, ml_100, fl_100, up_100, fl_87_15, mi_101, ml_101, fl_101, up_101, fl_87_16, mi_102, ml_102, fl_102, up_102, fl_87_33, mi_115, ml_115, fl_115, up_115, fl_87_34, mi_116, ml_116, fl_116, up_116, e0, a1, true_and, and_true, true_or, or_true, implies_true, b10_0, b10_1]
    repeat' (first | refine And.intro ?_ ?_ | intro _)
    all_goals (try (first | omega | (unfold r32; omega) | exact hQ | exact qe hQ (by omega) | exact qe hQ (by (repeat' split) <;> omega) | exact b01 | exact n01 | exact n21 | exact n31 | exact absurd trivial (by assumption)))
  · intro k hk ih v6 v7 _ _
    have bk := a4 k (by omega)
    have ek : (36 * (c : Int) + (k : Int)).toNat = 36 * c + k := by omega
    have e10 : ((k + 1 : Nat) : Int) = (k : Int) + 1 := by omega
    unfold litF at ih
    unfold dst at ih
    rw [e10] at ih
    apply s_189_7
    try simp only [mi_87, fl_87_14, mi_100, ml_100, fl_100, up_100, fl_87_15, mi_101, ml_101, fl_101, up_101, fl_87_16, mi_102, ml_102, fl_102, up_102, fl_87_33, mi_115, ml_115, fl_115, up_115, fl_87_34, mi_116, ml_116, fl_116, up_116, e0, a1, ei, ek, true_and, and_true, true_or, or_true, implies_true, b10_0, b10_1]
    repeat' (first | refine And.intro ?_ ?_ | intro _)
    all_goals (try (first | omega | (unfold r32; omega) | exact hQ | exact qe hQ (by omega) | exact qe hQ (by (repeat' split) <;> omega) | exact b01 | exact n01 | exact n21 | exact n31 | exact absurd trivial (by assumption)))
    refine c145 X g _ (by omega) _ _ (by omega) ?_
    apply s_189_45
    try simp only [mi_87, fl_87_14, mi_100, ml_100, fl_100, up_100, fl_87_15, mi_101, ml_101, fl_101, up_101, fl_87_16, mi_102, ml_102, fl_102, up_102, fl_87_33, mi_115, ml_115, fl_115, up_115, fl_87_34, mi_116, ml_116, fl_116, up_116, e0, ei, ek, true_and, and_true, true_or, or_true, implies_true, b10_0, b10_1]
    repeat' (first | refine And.intro ?_ ?_ | intro _)
    all_goals (try (first | omega | (unfold r32; omega) | exact hQ | exact qe hQ (by omega) | exact qe hQ (by (repeat' split) <;> omega) | exact b01 | exact n01 | exact n21 | exact n31 | exact absurd trivial (by assumption)))
    refine c145 X g _ (by omega) _ _ (by omega) ?_
    apply s_189_72
    try simp only [mi_87, fl_87_14, mi_100, ml_100, fl_100, up_100, fl_87_15, mi_101, ml_101, fl_101, up_101, fl_87_16, mi_102, ml_102, fl_102, up_102, fl_87_33, mi_115, ml_115, fl_115, up_115, fl_87_34, mi_116, ml_116, fl_116, up_116, ek, true_and, and_true, true_or, or_true, implies_true, b10_0, b10_1]
    repeat' (first | refine And.intro ?_ ?_ | intro _)
    all_goals (try (first | omega | (unfold r32; omega) | exact hQ | exact qe hQ (by omega) | exact qe hQ (by (repeat' split) <;> omega) | exact b01 | exact n01 | exact n21 | exact n31 | exact absurd trivial (by assumption)))
    · skip
      apply s_189_101
      try simp only [mi_87, fl_87_14, mi_100, ml_100, fl_100, up_100, fl_87_15, mi_101, ml_101, fl_101, up_101, fl_87_16, mi_102, ml_102, fl_102, up_102, fl_87_33, mi_115, ml_115, fl_115, up_115, fl_87_34, mi_116, ml_116, fl_116, up_116, true_and, and_true, true_or, or_true, implies_true, b10_0, b10_1]
      repeat' (first | refine And.intro ?_ ?_ | intro _)
      all_goals (try (first | omega | (unfold r32; omega) | exact hQ | exact qe hQ (by omega) | exact qe hQ (by (repeat' split) <;> omega) | exact b01 | exact n01 | exact n21 | exact n31 | exact absurd trivial (by assumption)))
      refine s_189_102 (by first | exact n01 | exact n21 | exact n31 | assumption) ?_
      try simp only [mi_87, fl_87_14, mi_100, ml_100, fl_100, up_100, fl_87_15, mi_101, ml_101, fl_101, up_101, fl_87_16, mi_102, ml_102, fl_102, up_102, fl_87_33, mi_115, ml_115, fl_115, up_115, fl_87_34, mi_116, ml_116, fl_116, up_116, true_and, and_true, true_or, or_true, implies_true, b10_0, b10_1]
      repeat' (first | refine And.intro ?_ ?_ | intro _)
      all_goals (try (first | omega | (unfold r32; omega) | exact hQ | exact qe hQ (by omega) | exact qe hQ (by (repeat' split) <;> omega) | exact b01 | exact n01 | exact n21 | exact n31 | exact absurd trivial (by assumption)))
      apply s_189_131
      try simp only [mi_87, fl_87_14, mi_100, ml_100, fl_100, up_100, fl_87_15, mi_101, ml_101, fl_101, up_101, fl_87_16, mi_102, ml_102, fl_102, up_102, fl_87_33, mi_115, ml_115, fl_115, up_115, fl_87_34, mi_116, ml_116, fl_116, up_116, true_and, and_true, true_or, or_true, implies_true, b10_0, b10_1]
      repeat' (first | refine And.intro ?_ ?_ | intro _)
      all_goals (try (first | omega | (unfold r32; omega) | exact hQ | exact qe hQ (by omega) | exact qe hQ (by (repeat' split) <;> omega) | exact b01 | exact n01 | exact n21 | exact n31 | exact absurd trivial (by assumption)))
      rw [if_neg (by omega)] at ih
      exact ih _ _ n01 n01
    · skip
      apply s_189_101
      try simp only [mi_87, fl_87_14, mi_100, ml_100, fl_100, up_100, fl_87_15, mi_101, ml_101, fl_101, up_101, fl_87_16, mi_102, ml_102, fl_102, up_102, fl_87_33, mi_115, ml_115, fl_115, up_115, fl_87_34, mi_116, ml_116, fl_116, up_116, true_and, and_true, true_or, or_true, implies_true, b10_0, b10_1]
      repeat' (first | refine And.intro ?_ ?_ | intro _)
      all_goals (try (first | omega | (unfold r32; omega) | exact hQ | exact qe hQ (by omega) | exact qe hQ (by (repeat' split) <;> omega) | exact b01 | exact n01 | exact n21 | exact n31 | exact absurd trivial (by assumption)))
      refine s_189_102 (by first | exact n01 | exact n21 | exact n31 | assumption) ?_
      try simp only [mi_87, fl_87_14, mi_100, ml_100, fl_100, up_100, fl_87_15, mi_101, ml_101, fl_101, up_101, fl_87_16, mi_102, ml_102, fl_102, up_102, fl_87_33, mi_115, ml_115, fl_115, up_115, fl_87_34, mi_116, ml_116, fl_116, up_116, true_and, and_true, true_or, or_true, implies_true, b10_0, b10_1]
      repeat' (first | refine And.intro ?_ ?_ | intro _)
      all_goals (try (first | omega | (unfold r32; omega) | exact hQ | exact qe hQ (by omega) | exact qe hQ (by (repeat' split) <;> omega) | exact b01 | exact n01 | exact n21 | exact n31 | exact absurd trivial (by assumption)))
      apply s_189_131
      try simp only [mi_87, fl_87_14, mi_100, ml_100, fl_100, up_100, fl_87_15, mi_101, ml_101, fl_101, up_101, fl_87_16, mi_102, ml_102, fl_102, up_102, fl_87_33, mi_115, ml_115, fl_115, up_115, fl_87_34, mi_116, ml_116, fl_116, up_116, true_and, and_true, true_or, or_true, implies_true, b10_0, b10_1]
      repeat' (first | refine And.intro ?_ ?_ | intro _)
      all_goals (try (first | omega | (unfold r32; omega) | exact hQ | exact qe hQ (by omega) | exact qe hQ (by (repeat' split) <;> omega) | exact b01 | exact n01 | exact n21 | exact n31 | exact absurd trivial (by assumption)))
      rw [if_neg (by omega)] at ih
      exact ih _ _ n01 n01
    · skip
      refine s_189_102 (by first | exact n01 | exact n21 | exact n31 | assumption) ?_
      try simp only [mi_87, fl_87_14, mi_100, ml_100, fl_100, up_100, fl_87_15, mi_101, ml_101, fl_101, up_101, fl_87_16, mi_102, ml_102, fl_102, up_102, fl_87_33, mi_115, ml_115, fl_115, up_115, fl_87_34, mi_116, ml_116, fl_116, up_116, ek, true_and, and_true, true_or, or_true, implies_true, b10_0, b10_1]
      repeat' (first | refine And.intro ?_ ?_ | intro _)
      all_goals (try (first | omega | (unfold r32; omega) | exact hQ | exact qe hQ (by omega) | exact qe hQ (by (repeat' split) <;> omega) | exact b01 | exact n01 | exact n21 | exact n31 | exact absurd trivial (by assumption)))
      refine c146 X g _ _ _ _ (by omega) ?_
      apply s_189_126
      try simp only [mi_87, fl_87_14, mi_100, ml_100, fl_100, up_100, fl_87_15, mi_101, ml_101, fl_101, up_101, fl_87_16, mi_102, ml_102, fl_102, up_102, fl_87_33, mi_115, ml_115, fl_115, up_115, fl_87_34, mi_116, ml_116, fl_116, up_116, true_and, and_true, true_or, or_true, implies_true, b10_0, b10_1]
      repeat' (first | refine And.intro ?_ ?_ | intro _)
      all_goals (try (first | omega | (unfold r32; omega) | exact hQ | exact qe hQ (by omega) | exact qe hQ (by (repeat' split) <;> omega) | exact b01 | exact n01 | exact n21 | exact n31 | exact absurd trivial (by assumption)))
      apply s_189_131
      try simp only [mi_87, fl_87_14, mi_100, ml_100, fl_100, up_100, fl_87_15, mi_101, ml_101, fl_101, up_101, fl_87_16, mi_102, ml_102, fl_102, up_102, fl_87_33, mi_115, ml_115, fl_115, up_115, fl_87_34, mi_116, ml_116, fl_116, up_116, true_and, and_true, true_or, or_true, implies_true, b10_0, b10_1]
      repeat' (first | refine And.intro ?_ ?_ | intro _)
      all_goals (try (first | omega | (unfold r32; omega) | exact hQ | exact qe hQ (by omega) | exact qe hQ (by (repeat' split) <;> omega) | exact b01 | exact n01 | exact n21 | exact n31 | exact absurd trivial (by assumption)))
      rw [if_pos (by omega)] at ih
      exact ih _ _ n01 n01
