/-! fill -/
def flT (G : mF) (sc : Nat → Int) (s : Int) : Nat → Int
  | 0 => s * 60
  | i + 1 => flT G sc s i + btk G (-1) (sc (hr (flT G sc s i) - s).toNat) (flT G sc s i)
def flP (G : mF) (sc : Nat → Int) (s : Int) (i : Nat) : Int := sc (hr (flT G sc s i) - s).toNat
theorem flT_b {G : mF} {sc : Nat → Int} {s n : Int} (hG : Gair G) (hs : 0 ≤ s ∧ s ≤ 98) (hn : n ≤ 12) (hsc : ∀ k, k < 12 → 0 ≤ sc k ∧ sc k ≤ 7) : ∀ i : Nat, (∀ k, k < i → hr (flT G sc s k) - s < n) → s * 60 ≤ flT G sc s i ∧ flT G sc s i ≤ s * 60 + 90 * (i : Int) ∧ s ≤ hr (flT G sc s i) := by
  have hh : ∀ t : Int, s * 60 ≤ t → s ≤ hr t := by
    intro t ht
    unfold hr
    split <;> omega
  intro i
  induction i with
  | zero =>
    intro _
    have e : flT G sc s 0 = s * 60 := rfl
    rw [e]
    exact ⟨by omega, by omega, hh _ (by omega)⟩
  | succ i ih =>
    intro h
    obtain ⟨a, b, c⟩ := ih (fun k hk => h k (by omega))
    have hi := h i (by omega)
    have z := hsc (hr (flT G sc s i) - s).toNat (by omega)
    have y := btk_b (D := -1) (t := flT G sc s i) hG z (by omega) (by omega)
    have e : flT G sc s (i + 1) = flT G sc s i + btk G (-1) (sc (hr (flT G sc s i) - s).toNat) (flT G sc s i) := rfl
    rw [e]
    exact ⟨by omega, by omega, hh _ (by omega)⟩
theorem flN (G : mF) (sc : Nat → Int) (s n : Int) : ∀ N : Nat, ∃ F : Nat, F ≤ N ∧ (∀ i, i < F → hr (flT G sc s i) - s < n) ∧ (F = N ∨ n ≤ hr (flT G sc s F) - s) := by
  intro N
  induction N with
  | zero => exact ⟨0, by omega, fun i hi => absurd hi (by omega), Or.inl rfl⟩
  | succ N ih =>
    obtain ⟨F, f1, f2, f3⟩ := ih
    rcases f3 with z | z
    · by_cases h : hr (flT G sc s F) - s < n
      · refine ⟨F + 1, by omega, fun i hi => ?_, Or.inl (by omega)⟩
        by_cases hiF : i = F
        · subst hiF; exact h
        · exact f2 i (by omega)
      · exact ⟨F, by omega, f2, Or.inr (by omega)⟩
    · exact ⟨F, by omega, f2, Or.inr z⟩
theorem c137 (X : mX) {G g : mF} {s n N : Int} {F : Nat} (hA : Agree G g) (hG : Gair G) (hD : g 5 2 = -1) (hs : 0 ≤ s ∧ s ≤ 98) (hn : 1 ≤ n ∧ n ≤ 12) (hN : 0 ≤ N ∧ N ≤ 36) (hsc : ∀ k, k < 12 → 0 ≤ g 53 k ∧ g 53 k ≤ 7) (hF : (F : Int) ≤ N) (hF1 : ∀ i, i < F → hr (flT G (g 53) s i) - s < n) (hF2 : (F : Int) = N ∨ n ≤ hr (flT G (g 53) s F) - s) : Rel X 2 137 [(2, 1), (0, N), (0, s), (0, n), (3, 0), (3, 0), (3, 0)] g (fun ro h => ro = some (0, (F : Int)) ∧ (∀ o k, o ≠ 54 → h o k = g o k) ∧ ∀ i, i < F → h 54 i = flP G (g 53) s i) := by
  intro d Q hd hQ
  have key := lup (P := fun i => ∀ h : mF, (∀ o k, o ≠ 54 → h o k = g o k) → (∀ k, k < i → h 54 k = flP G (g 53) s k) → ∀ v6, Wp X d SH 137 9 [(2, 1), (0, N), (0, s), (0, n), (0, flT G (g 53) s i), (0, (i : Int)), v6] [] SH (fl h) Q) F ?_ ?_ 0 (by omega)
  · have k0 := key g (fun _ _ _ => rfl) (fun k hk => absurd hk (by omega))
    have e : flT G (g 53) s 0 = s * 60 := rfl
    rw [e] at k0
    apply s_137_0
    try simp only [mi_6, mi_1, fl_1_8, mi_55, ml_55, fl_55, up_55, fl_1_7, mi_54, ml_54, fl_54, up_54, fl_1_2, true_and, and_true, true_or, or_true, implies_true, b10_0, b10_1]
    repeat' (first | refine And.intro ?_ ?_ | intro _)
    all_goals (try (first | omega | (unfold r32; omega) | exact hQ | exact qe hQ (by omega) | exact qe hQ (by (repeat' split) <;> omega) | exact b01 | exact n01 | exact n21 | exact n31 | exact absurd trivial (by assumption)))
    apply s_137_6
    try simp only [mi_6, mi_1, fl_1_8, mi_55, ml_55, fl_55, up_55, fl_1_7, mi_54, ml_54, fl_54, up_54, fl_1_2, true_and, and_true, true_or, or_true, implies_true, b10_0, b10_1]
    repeat' (first | refine And.intro ?_ ?_ | intro _)
    all_goals (try (first | omega | (unfold r32; omega) | exact hQ | exact qe hQ (by omega) | exact qe hQ (by (repeat' split) <;> omega) | exact b01 | exact n01 | exact n21 | exact n31 | exact absurd trivial (by assumption)))
    all_goals (try exact k0 _)
  · intro h hFr h54 v6
    have hb := flT_b hG hs hn.2 hsc F hF1
    have hq := hQ _ h ⟨rfl, hFr, h54⟩
    have hhb := hr_b (t := flT G (g 53) s F) (by omega)
    rcases hF2 with z | z
    · rw [z] at hq ⊢
      apply s_137_9
      try simp only [mi_6, mi_1, fl_1_8, mi_55, ml_55, fl_55, up_55, fl_1_7, mi_54, ml_54, fl_54, up_54, fl_1_2, true_and, and_true, true_or, or_true, implies_true, b10_0, b10_1]
      repeat' (first | refine And.intro ?_ ?_ | intro _)
      all_goals (try (first | omega | (unfold r32; omega) | exact hQ | exact qe hQ (by omega) | exact qe hQ (by (repeat' split) <;> omega) | exact b01 | exact n01 | exact n21 | exact n31 | exact absurd trivial (by assumption)))
      all_goals (try exact hq)
    · by_cases hFN : (F : Int) = N
      · rw [hFN] at hq ⊢
        apply s_137_9
        try simp only [mi_6, mi_1, fl_1_8, mi_55, ml_55, fl_55, up_55, fl_1_7, mi_54, ml_54, fl_54, up_54, fl_1_2, true_and, and_true, true_or, or_true, implies_true, b10_0, b10_1]
        repeat' (first | refine And.intro ?_ ?_ | intro _)
        all_goals (try (first | omega | (unfold r32; omega) | exact hQ | exact qe hQ (by omega) | exact qe hQ (by (repeat' split) <;> omega) | exact b01 | exact n01 | exact n21 | exact n31 | exact absurd trivial (by assumption)))
        all_goals (try exact hq)
      · skip
        apply s_137_9
        try simp only [mi_6, mi_1, fl_1_8, mi_55, ml_55, fl_55, up_55, fl_1_7, mi_54, ml_54, fl_54, up_54, fl_1_2, true_and, and_true, true_or, or_true, implies_true, b10_0, b10_1]
        repeat' (first | refine And.intro ?_ ?_ | intro _)
        all_goals (try (first | omega | (unfold r32; omega) | exact hQ | exact qe hQ (by omega) | exact qe hQ (by (repeat' split) <;> omega) | exact b01 | exact n01 | exact n21 | exact n31 | exact absurd trivial (by assumption)))
        refine c1 X h (t := flT G (g 53) s F) (by omega) _ _ (by omega) ?_
        apply s_137_20
        try simp only [mi_6, mi_1, fl_1_8, mi_55, ml_55, fl_55, up_55, fl_1_7, mi_54, ml_54, fl_54, up_54, fl_1_2, true_and, and_true, true_or, or_true, implies_true, b10_0, b10_1]
        repeat' (first | refine And.intro ?_ ?_ | intro _)
        all_goals (try (first | omega | (unfold r32; omega) | exact hQ | exact qe hQ (by omega) | exact qe hQ (by (repeat' split) <;> omega) | exact b01 | exact n01 | exact n21 | exact n31 | exact absurd trivial (by assumption)))
        all_goals (try exact hq)
  · intro i hi ih h hFr h54 v6
    have e2 : ((i : Int)).toNat = i := by omega
    have e10 : ((i + 1 : Nat) : Int) = (i : Int) + 1 := by omega
    have hb := flT_b hG hs hn.2 hsc i (fun k hk => hF1 k (by omega))
    have hi1 := hF1 i hi
    have f53 : h 53 (hr (flT G (g 53) s i) - s).toNat = flP G (g 53) s i := by rw [hFr _ _ (by omega)]; rfl
    have hpb : 0 ≤ flP G (g 53) s i ∧ flP G (g 53) s i ≤ 7 := hsc _ (by omega)
    generalize hh1 : mup h 54 i (flP G (g 53) s i) = h1
    have f1 : ∀ o k, ¬ (o = 54 ∧ k = i) → h1 o k = h o k := fun o k ho => by rw [← hh1, mup_n ho]
    have v1 : h1 54 i = flP G (g 53) s i := by rw [← hh1, mup_e]
    have hA1 : Agree G h1 := fun o k ho => by
      have ho2 := ho
      unfold InpS at ho2
      rw [f1 _ _ (by omega), hFr _ _ (by omega)]; exact hA o k ho
    have c2' := c2 X (D := -1) (p := flP G (g 53) s i) (t := flT G (g 53) s i) hA1 hG (by rw [f1 _ _ (by omega), hFr _ _ (by omega)]; exact hD) (by omega) hpb (by omega)
    have hbt := btk_b (D := -1) (t := flT G (g 53) s i) hG hpb (by omega) (by omega)
    have nx := ih h1 (fun o k ho => by rw [f1 _ _ (by omega)]; exact hFr o k ho) (fun k hk => by
      by_cases hki : k = i
      · subst hki; exact v1
      · rw [f1 _ _ (by omega)]; exact h54 k (by omega))
    have et : flT G (g 53) s (i + 1) = flT G (g 53) s i + btk G (-1) (flP G (g 53) s i) (flT G (g 53) s i) := rfl
    rw [et, e10] at nx
    apply s_137_9
    try simp only [mi_6, mi_1, fl_1_8, mi_55, ml_55, fl_55, up_55, fl_1_7, mi_54, ml_54, fl_54, up_54, fl_1_2, true_and, and_true, true_or, or_true, implies_true, b10_0, b10_1]
    repeat' (first | refine And.intro ?_ ?_ | intro _)
    all_goals (try (first | omega | (unfold r32; omega) | exact hQ | exact qe hQ (by omega) | exact qe hQ (by (repeat' split) <;> omega) | exact b01 | exact n01 | exact n21 | exact n31 | exact absurd trivial (by assumption)))
    refine c1 X h (t := flT G (g 53) s i) (by omega) _ _ (by omega) ?_
    apply s_137_20
    try simp only [mi_6, mi_1, fl_1_8, mi_55, ml_55, fl_55, up_55, fl_1_7, mi_54, ml_54, fl_54, up_54, fl_1_2, e2, f53, hh1, true_and, and_true, true_or, or_true, implies_true, b10_0, b10_1]
    repeat' (first | refine And.intro ?_ ?_ | intro _)
    all_goals (try (first | omega | (unfold r32; omega) | exact hQ | exact qe hQ (by omega) | exact qe hQ (by (repeat' split) <;> omega) | exact b01 | exact n01 | exact n21 | exact n31 | exact absurd trivial (by assumption)))
    apply s_137_52
    try simp only [mi_6, mi_1, fl_1_8, mi_55, ml_55, fl_55, up_55, fl_1_7, mi_54, ml_54, fl_54, up_54, fl_1_2, e2, v1, true_and, and_true, true_or, or_true, implies_true, b10_0, b10_1]
    repeat' (first | refine And.intro ?_ ?_ | intro _)
    all_goals (try (first | omega | (unfold r32; omega) | exact hQ | exact qe hQ (by omega) | exact qe hQ (by (repeat' split) <;> omega) | exact b01 | exact n01 | exact n21 | exact n31 | exact absurd trivial (by assumption)))
    refine c2' _ _ (by omega) ?_
    apply s_137_70
    try simp only [mi_6, mi_1, fl_1_8, mi_55, ml_55, fl_55, up_55, fl_1_7, mi_54, ml_54, fl_54, up_54, fl_1_2, true_and, and_true, true_or, or_true, implies_true, b10_0, b10_1]
    repeat' (first | refine And.intro ?_ ?_ | intro _)
    all_goals (try (first | omega | (unfold r32; omega) | exact hQ | exact qe hQ (by omega) | exact qe hQ (by (repeat' split) <;> omega) | exact b01 | exact n01 | exact n21 | exact n31 | exact absurd trivial (by assumption)))
    all_goals (try exact nx _)
theorem c184w (X : mX) {G g : mF} {D p t : Int} (h6 : ∀ p, p < 8 → g 94 p = G 6 p) (h7 : ∀ h, h < 100 → g 95 h = G 7 h) (hD : g 86 28 = D) (hG : Gair G) (hDb : -1 ≤ D ∧ D ≤ 50) (hp : 0 ≤ p ∧ p ≤ 7) (ht : 0 ≤ t ∧ t ≤ 100000) : Ret X 2 184 [(2, 87), (0, p), (0, t), (3, 0)] g (some (0, btk G D p t)) g := by
  intro d Q hd hQ
  have h0 := hr_b ht.1
  have e6 := h6 p.toNat (by omega)
  have e7 := h7 (hr t).toNat (by omega)
  have b6 := hG.1 p.toNat (by omega)
  have b7 := hG.2 (hr t).toNat (by omega)
  unfold btk at hQ
  by_cases z : D = -1
  · rw [if_pos z] at hQ
    have m := mulb b6 b7
    have td := tdn (show 0 ≤ G 6 p.toNat * (100 + G 7 (hr t).toNat) by omega) 100
    repeat' (first
      | (exfalso; omega)
      | (exact absurd trivial (by assumption))
      | (apply s_184_0; try simp only [mi_87, fl_87_28, up_87_28, fl_87_10, mi_96, ml_96, fl_96, up_96, fl_87_9, mi_95, ml_95, fl_95, up_95, hD, e6, e7, td, true_and, and_true, true_or, or_true, implies_true, b10_0, b10_1])
      | (apply s_184_22; try simp only [mi_87, fl_87_28, up_87_28, fl_87_10, mi_96, ml_96, fl_96, up_96, fl_87_9, mi_95, ml_95, fl_95, up_95, hD, e6, e7, td, true_and, and_true, true_or, or_true, implies_true, b10_0, b10_1])
      | (apply s_184_23; try simp only [mi_87, fl_87_28, up_87_28, fl_87_10, mi_96, ml_96, fl_96, up_96, fl_87_9, mi_95, ml_95, fl_95, up_95, hD, e6, e7, td, true_and, and_true, true_or, or_true, implies_true, b10_0, b10_1])
      | (apply s_184_24; try simp only [mi_87, fl_87_28, up_87_28, fl_87_10, mi_96, ml_96, fl_96, up_96, fl_87_9, mi_95, ml_95, fl_95, up_95, hD, e6, e7, td, true_and, and_true, true_or, or_true, implies_true, b10_0, b10_1])
      | (refine c183 X g ht _ _ (by omega) ?_)
      | (refine And.intro ?_ ?_)
      | (intro _)
      | omega
      | (unfold r32; omega)
      | (exact hQ)
      | (exact qe hQ (by omega))
      | (exact qe hQ (by (repeat' split) <;> omega))
      | (exact b01)
      | (exact n01)
      | (exact n21)
      | (exact n31))
  · rw [if_neg z] at hQ
    have m := mulb b6 (d := D) (by omega)
    have td := tdn (show 0 ≤ G 6 p.toNat * (100 + D) by omega) 100
    repeat' (first
      | (exfalso; omega)
      | (exact absurd trivial (by assumption))
      | (apply s_184_0; try simp only [mi_87, fl_87_28, up_87_28, fl_87_10, mi_96, ml_96, fl_96, up_96, fl_87_9, mi_95, ml_95, fl_95, up_95, hD, e6, td, true_and, and_true, true_or, or_true, implies_true, b10_0, b10_1])
      | (apply s_184_22; try simp only [mi_87, fl_87_28, up_87_28, fl_87_10, mi_96, ml_96, fl_96, up_96, fl_87_9, mi_95, ml_95, fl_95, up_95, hD, e6, td, true_and, and_true, true_or, or_true, implies_true, b10_0, b10_1])
      | (apply s_184_23; try simp only [mi_87, fl_87_28, up_87_28, fl_87_10, mi_96, ml_96, fl_96, up_96, fl_87_9, mi_95, ml_95, fl_95, up_95, hD, e6, td, true_and, and_true, true_or, or_true, implies_true, b10_0, b10_1])
      | (apply s_184_24; try simp only [mi_87, fl_87_28, up_87_28, fl_87_10, mi_96, ml_96, fl_96, up_96, fl_87_9, mi_95, ml_95, fl_95, up_95, hD, e6, td, true_and, and_true, true_or, or_true, implies_true, b10_0, b10_1])
      | (refine And.intro ?_ ?_)
      | (intro _)
      | omega
      | (unfold r32; omega)
      | (exact hQ)
      | (exact qe hQ (by omega))
      | (exact qe hQ (by (repeat' split) <;> omega))
      | (exact b01)
      | (exact n01)
      | (exact n21)
      | (exact n31))
theorem T_fill (X : mX) (g : mF) (a s n : Int) {m : Nat} (hn32 : r32 n) (h : NI g) (hSc : Iscent g) (hS : Istore m g) : PR X 105 186 [(2, 1), (0, a), (0, s), (0, n), (3, 0), (3, 0), (3, 0)] [(2, 87), (0, a), (0, s), (0, n), (3, 0), (3, 0), (3, 0), (3, 0), (3, 0), (3, 0)] g (fun g2 => (∀ c, c < 4 → Iclk g2 c) ∧ Istore (m + 1) g2 ∧ GC g g2 ∧ (g2 11 3 = 0 ∨ g2 11 3 = g 11 3 ∧ ∀ c k, c < 4 → g2 (20 + 6 * c) k = g (20 + 6 * c) k)) := by
  obtain ⟨i1, i2, i3, i4, i5⟩ := NI_in h
  have hC := h.2.1
  have rr : (∀ c, c < 4 → Iclk g c) ∧ Istore (m + 1) g ∧ GC g g ∧ (g 11 3 = 0 ∨ g 11 3 = g 11 3 ∧ ∀ c k, c < 4 → g (20 + 6 * c) k = g (20 + 6 * c) k) := ⟨hC, Istore_le hS, fun _ _ _ => rfl, Or.inr ⟨rfl, fun _ _ _ => rfl⟩⟩
  have h134 := c134 X g s n hn32
  have h185 := c185 X g s n hn32
  intro d Q hd hQ
  by_cases ha : 0 ≤ a ∧ a ≤ 3
  · obtain ⟨c, rfl⟩ : ∃ c : Nat, a = (c : Int) := ⟨a.toNat, by omega⟩
    have hc : c < 4 := by omega
    have e0 : ((c : Int)).toNat = c := by omega
    obtain ⟨k1, k2, k3, k4, k5, k6, k7, k8, k9, k10, k11, k12⟩ := hC c hc
    have c17' := c17 X g hc ⟨k2, k3⟩
    have c176' := c176g X (g := g) hc (n := g (19 + 6 * c) 0) (pw := g (20 + 6 * c)) ⟨k2, k3⟩ k1 (fun i hi => ⟨k4 i hi, (k5 i (by omega)).1⟩)
    rw [show sumN (g (19 + 6 * c) 0).toNat (fun i => if g (20 + 6 * c) i = -1 then (0 : Int) else 1) = grn g c from rfl] at c176'
    have hgb : 0 ≤ grn g c ∧ grn g c ≤ 36 := by
      unfold grn
      have z := sumN_b (n := (g (19 + 6 * c) 0).toNat) (a := fun i => if g (20 + 6 * c) i = -1 then (0 : Int) else 1) (lo := 0) (hi := 1) (fun i _ => by (try simp only []); split <;> omega)
      omega
    by_cases hs : (1 ≤ n ∧ n ≤ 12) ∧ 0 ≤ s ∧ s ≤ 99 - n
    · rw [if_pos hs] at h134 h185
      by_cases hg : grn g c ≤ 0
      · have hbare : ∀ i : Nat, (i : Int) < g (19 + 6 * c) 0 → g (20 + 6 * c) i = -1 := by
          intro i hi
          by_cases hz : g (20 + 6 * c) i = -1
          · exact hz
          · exfalso
            have u := sumN_upd (n := (g (19 + 6 * c) 0).toNat) (i := i) (a := fun k => if k = i then 0 else if g (20 + 6 * c) k = -1 then (0 : Int) else 1) (b := fun k => if g (20 + 6 * c) k = -1 then (0 : Int) else 1) (by omega) (fun k hk => by simp only [if_neg hk])
            have b := (sumN_b (n := (g (19 + 6 * c) 0).toNat) (a := fun k => if k = i then 0 else if g (20 + 6 * c) k = -1 then (0 : Int) else 1) (lo := 0) (hi := 1) (fun k _ => by (try simp only []); split <;> (try split) <;> omega)).1
            simp only [if_neg hz, if_true] at u
            unfold grn at hg
            omega
        have hsc : ∀ k, k < 12 → 0 ≤ g 53 k ∧ g 53 k ≤ 7 := fun k hk => (hSc k hk).2
        obtain ⟨F, hF0, hF1, hF2⟩ := flN (inp g) (g 53) s n (g (19 + 6 * c) 0).toNat
        have hF36 : F ≤ 36 := by omega
        have hfb := fun i hi => flT_b (G := inp g) (sc := g 53) (s := s) (n := n) i1.1 (by omega) hs.1.2 hsc i (fun k hk => hF1 k (Nat.lt_of_lt_of_le hk hi))
        have hplb : ∀ i, i < F → 0 ≤ flP (inp g) (g 53) s i ∧ flP (inp g) (g 53) s i ≤ 7 := fun i hi => by
          have z := hF1 i hi
          have y := hfb i (by omega)
          exact hsc _ (by omega)
        generalize hpl : flP (inp g) (g 53) s = pl at hplb
        have h9b : ∀ k, k < 32 → 0 ≤ g 9 k ∧ g 9 k ≤ 999 := fun k hk => (hS.1 k hk).2
        have c137' := c137 X (G := inp g) (g := g) (s := s) (n := n) (N := g (19 + 6 * c) 0) (F := F) (inp_ag g) i1.1 h.1.2.2.1 (by omega) hs.1 ⟨k2, k3⟩ hsc (by omega) hF1 (by omega)
        rw [hpl] at c137'
        have nb : ∀ (p : Nat) (i : Nat), 0 ≤ sumN i (fun k => if pl k = (p : Int) then (1 : Int) else 0) ∧ sumN i (fun k => if pl k = (p : Int) then (1 : Int) else 0) ≤ (i : Int) := fun p i => by
          have z := sumN_b (n := i) (a := fun k => if pl k = (p : Int) then (1 : Int) else 0) (lo := 0) (hi := 1) (fun i _ => by (try simp only []); split <;> omega)
          omega
        -- the reference, up to its last loop
        have mod : ∀ g1 : mF, (∀ o k, ¬ (o = 11 ∧ k = 3 ∨ o = 9 ∨ o = 54 ∨ o = 20 + 6 * c) → g1 o k = g o k) → ∀ d Q, 60 ≤ d → (∀ (v : Int) (m1 : mF), (v = 1 ∧ (∀ p : Nat, p < 8 → sumN F (fun i => if pl i = (p : Int) then 1 else 0) ≤ s4 (g 9) p) ∨ v = 0 ∧ ¬ ∀ p : Nat, p < 8 → sumN F (fun i => if pl i = (p : Int) then 1 else 0) ≤ s4 (g 9) p) → (∀ o k, o ≠ 110 → ¬ (o = 102 ∧ 36 * c ≤ k ∧ k < 36 * c + F) → m1 o k = g1 o k) → (∀ i, i < F → m1 102 (36 * c + i) = pl i) → ∀ v2 v3 v5 v8 v9, Wp X d SH 186 230 [(2, 87), (0, (c : Int)), v2, v3, (0, (F : Int)), v5, (0, v), (0, 0), v8, v9] [] SH (fl m1) Q) → Wp X d SH 186 0 [(2, 87), (0, (c : Int)), (0, s), (0, n), (3, 0), (3, 0), (3, 0), (3, 0), (3, 0), (3, 0)] [] SH (fl g1) Q := by
          intro g1 hg1 d Q hd hfin
          have h185' := c185 X g1 s n hn32
          rw [if_pos hs] at h185'
          have c176'' := c176g X (g := g1) hc (n := g (19 + 6 * c) 0) (pw := g (20 + 6 * c)) ⟨k2, k3⟩ (by rw [hg1 _ _ (by omega)]; exact k1) (fun i hi => ⟨by rw [hg1 _ _ (by omega)]; exact k4 i hi, (k5 i (by omega)).1⟩)
          rw [show sumN (g (19 + 6 * c) 0).toNat (fun i => if g (20 + 6 * c) i = -1 then (0 : Int) else 1) = grn g c from rfl] at c176''
          have loopC := lup (P := fun p => ∀ (v : Int) (m1 : mF), (v = 1 ∧ (∀ q : Nat, q < p → sumN F (fun i => if pl i = (q : Int) then 1 else 0) ≤ s4 (g 9) q) ∨ v = 0 ∧ ¬ ∀ p : Nat, p < 8 → sumN F (fun i => if pl i = (p : Int) then 1 else 0) ≤ s4 (g 9) p) → (∀ o k, o ≠ 110 → ¬ (o = 102 ∧ 36 * c ≤ k ∧ k < 36 * c + F) → m1 o k = g1 o k) → (∀ i, i < F → m1 102 (36 * c + i) = pl i) → (∀ p : Nat, p < 8 → m1 110 p = sumN F (fun i => if pl i = (p : Int) then 1 else 0)) → ∀ v2 v3 v5 v8 v9, v5.1 ≠ 1 → Wp X d SH 186 154 [(2, 87), (0, (c : Int)), v2, v3, (0, (F : Int)), v5, (0, v), (0, (p : Int)), v8, v9] [] SH (fl m1) Q) 8 ?_ ?_ 0 (by omega)
          · have loopB := lup (P := fun i => ∀ m1 : mF, (∀ o k, o ≠ 110 → ¬ (o = 102 ∧ 36 * c ≤ k ∧ k < 36 * c + i) → m1 o k = g1 o k) → (∀ k, k < i → m1 102 (36 * c + k) = pl k) → (∀ p : Nat, p < 8 → m1 110 p = sumN i (fun i => if pl i = (p : Int) then 1 else 0)) → ∀ v6 v7 v8 v9, Wp X d SH 186 68 [(2, 87), (0, (c : Int)), (0, s), (0, n), (0, (i : Int)), (0, flT (inp g) (g 53) s i), v6, v7, v8, v9] [] SH (fl m1) Q) F ?_ ?_ 0 (by omega)
            · have loopA := lup (P := fun p => ∀ m1 : mF, (∀ o k, o ≠ 110 → m1 o k = g1 o k) → (∀ q, q < p → m1 110 q = 0) → ∀ v5 v6 v7 v8 v9, Wp X d SH 186 38 [(2, 87), (0, (c : Int)), (0, s), (0, n), (0, (p : Int)), v5, v6, v7, v8, v9] [] SH (fl m1) Q) 8 ?_ ?_ 0 (by omega)
              · have l0 := loopA g1 (fun _ _ _ => rfl) (fun q hq => absurd hq (by omega))
                apply s_186_0
                try simp only [mi_87, fl_87_29, mi_111, ml_111, fl_111, up_111, fl_87_14, mi_100, ml_100, fl_100, up_100, fl_87_27, mi_110, ml_110, fl_110, up_110, fl_87_17, mi_103, ml_103, fl_103, up_103, fl_87_11, mi_97, ml_97, fl_97, up_97, true_and, and_true, true_or, or_true, implies_true, b10_0, b10_1]
                repeat' (first | refine And.intro ?_ ?_ | intro _)
                all_goals (try (first | omega | (unfold r32; omega) | exact hQ | exact qe hQ (by omega) | exact qe hQ (by (repeat' split) <;> omega) | exact b01 | exact n01 | exact n21 | exact n31 | exact absurd trivial (by assumption)))
                refine c174 X _ _ _ _ (by omega) ?_
                apply s_186_4
                try simp only [mi_87, fl_87_29, mi_111, ml_111, fl_111, up_111, fl_87_14, mi_100, ml_100, fl_100, up_100, fl_87_27, mi_110, ml_110, fl_110, up_110, fl_87_17, mi_103, ml_103, fl_103, up_103, fl_87_11, mi_97, ml_97, fl_97, up_97, true_and, and_true, true_or, or_true, implies_true, b10_0, b10_1]
                repeat' (first | refine And.intro ?_ ?_ | intro _)
                all_goals (try (first | omega | (unfold r32; omega) | exact hQ | exact qe hQ (by omega) | exact qe hQ (by (repeat' split) <;> omega) | exact b01 | exact n01 | exact n21 | exact n31 | exact absurd trivial (by assumption)))
                refine h185' _ _ (by omega) ?_
                apply s_186_16
                try simp only [mi_87, fl_87_29, mi_111, ml_111, fl_111, up_111, fl_87_14, mi_100, ml_100, fl_100, up_100, fl_87_27, mi_110, ml_110, fl_110, up_110, fl_87_17, mi_103, ml_103, fl_103, up_103, fl_87_11, mi_97, ml_97, fl_97, up_97, true_and, and_true, true_or, or_true, implies_true, b10_0, b10_1]
                repeat' (first | refine And.intro ?_ ?_ | intro _)
                all_goals (try (first | omega | (unfold r32; omega) | exact hQ | exact qe hQ (by omega) | exact qe hQ (by (repeat' split) <;> omega) | exact b01 | exact n01 | exact n21 | exact n31 | exact absurd trivial (by assumption)))
                refine c176'' _ _ (by omega) ?_
                apply s_186_28
                try simp only [mi_87, fl_87_29, mi_111, ml_111, fl_111, up_111, fl_87_14, mi_100, ml_100, fl_100, up_100, fl_87_27, mi_110, ml_110, fl_110, up_110, fl_87_17, mi_103, ml_103, fl_103, up_103, fl_87_11, mi_97, ml_97, fl_97, up_97, true_and, and_true, true_or, or_true, implies_true, b10_0, b10_1]
                repeat' (first | refine And.intro ?_ ?_ | intro _)
                all_goals (try (first | omega | (unfold r32; omega) | exact hQ | exact qe hQ (by omega) | exact qe hQ (by (repeat' split) <;> omega) | exact b01 | exact n01 | exact n21 | exact n31 | exact absurd trivial (by assumption)))
                all_goals (try exact l0 _ _ _ _ _)
              · intro m1 hm1 h110 v5 v6 v7 v8 v9
                have l0 := loopB m1 (fun o k h1 _ => hm1 o k h1) (fun k hk => absurd hk (by omega)) (fun p hp => h110 p hp)
                have e : flT (inp g) (g 53) s 0 = 60 * s := by show s * 60 = 60 * s; omega
                rw [e] at l0
                apply s_186_38
                try simp only [mi_87, fl_87_29, mi_111, ml_111, fl_111, up_111, fl_87_14, mi_100, ml_100, fl_100, up_100, fl_87_27, mi_110, ml_110, fl_110, up_110, fl_87_17, mi_103, ml_103, fl_103, up_103, fl_87_11, mi_97, ml_97, fl_97, up_97, true_and, and_true, true_or, or_true, implies_true, b10_0, b10_1]
                repeat' (first | refine And.intro ?_ ?_ | intro _)
                all_goals (try (first | omega | (unfold r32; omega) | exact hQ | exact qe hQ (by omega) | exact qe hQ (by (repeat' split) <;> omega) | exact b01 | exact n01 | exact n21 | exact n31 | exact absurd trivial (by assumption)))
                all_goals (try exact l0 _ _ _ _)
              · intro p hp ih m1 hm1 h110 v5 v6 v7 v8 v9
                have e2 : ((p : Int)).toNat = p := by omega
                have e10 : ((p + 1 : Nat) : Int) = (p : Int) + 1 := by omega
                rw [e10] at ih
                have nx := ih (mup m1 110 p 0) (fun o k ho => by rw [mup_n (by omega)]; exact hm1 o k ho) (fun q hq => by
                  by_cases hqp : q = p
                  · subst hqp; rw [mup_e]
                  · rw [mup_n (by omega)]; exact h110 q (by omega))
                apply s_186_38
                try simp only [mi_87, fl_87_29, mi_111, ml_111, fl_111, up_111, fl_87_14, mi_100, ml_100, fl_100, up_100, fl_87_27, mi_110, ml_110, fl_110, up_110, fl_87_17, mi_103, ml_103, fl_103, up_103, fl_87_11, mi_97, ml_97, fl_97, up_97, e2, true_and, and_true, true_or, or_true, implies_true, b10_0, b10_1]
                repeat' (first | refine And.intro ?_ ?_ | intro _)
                all_goals (try (first | omega | (unfold r32; omega) | exact hQ | exact qe hQ (by omega) | exact qe hQ (by (repeat' split) <;> omega) | exact b01 | exact n01 | exact n21 | exact n31 | exact absurd trivial (by assumption)))
                apply s_186_53
                try simp only [mi_87, fl_87_29, mi_111, ml_111, fl_111, up_111, fl_87_14, mi_100, ml_100, fl_100, up_100, fl_87_27, mi_110, ml_110, fl_110, up_110, fl_87_17, mi_103, ml_103, fl_103, up_103, fl_87_11, mi_97, ml_97, fl_97, up_97, true_and, and_true, true_or, or_true, implies_true, b10_0, b10_1]
                repeat' (first | refine And.intro ?_ ?_ | intro _)
                all_goals (try (first | omega | (unfold r32; omega) | exact hQ | exact qe hQ (by omega) | exact qe hQ (by (repeat' split) <;> omega) | exact b01 | exact n01 | exact n21 | exact n31 | exact absurd trivial (by assumption)))
                all_goals (try exact nx _ _ _ _ _)
            · intro m1 hm1 h102 h110 v6 v7 v8 v9
              have f99 : m1 99 c = g (19 + 6 * c) 0 := by rw [hm1 _ _ (by omega) (by omega), hg1 _ _ (by omega)]; exact k1
              have hb := hfb F (Nat.le_refl _)
              have hhb := hr_b (t := flT (inp g) (g 53) s F) (by omega)
              have fin : ∀ v5 v6 v7 v8 v9, v5.1 ≠ 1 → Wp X d SH 186 148 [(2, 87), (0, (c : Int)), (0, s), (0, n), (0, (F : Int)), v5, v6, v7, v8, v9] [] SH (fl m1) Q := by
                intro v5 v6 v7 v8 v9 hv5
                have l0 := loopC 1 m1 (Or.inl ⟨rfl, fun q hq => absurd hq (by omega)⟩) hm1 h102 h110
                refine s_186_148 (by first | exact n01 | exact n21 | exact n31 | assumption) ?_
                try simp only [mi_87, fl_87_29, mi_111, ml_111, fl_111, up_111, fl_87_14, mi_100, ml_100, fl_100, up_100, fl_87_27, mi_110, ml_110, fl_110, up_110, fl_87_17, mi_103, ml_103, fl_103, up_103, fl_87_11, mi_97, ml_97, fl_97, up_97, true_and, and_true, true_or, or_true, implies_true, b10_0, b10_1]
                repeat' (first | refine And.intro ?_ ?_ | intro _)
                all_goals (try (first | omega | (unfold r32; omega) | exact hQ | exact qe hQ (by omega) | exact qe hQ (by (repeat' split) <;> omega) | exact b01 | exact n01 | exact n21 | exact n31 | exact absurd trivial (by assumption)))
                exact l0 _ _ _ _ _ hv5
              rcases hF2 with z | z
              · skip
                apply s_186_68
                try simp only [mi_87, fl_87_29, mi_111, ml_111, fl_111, up_111, fl_87_14, mi_100, ml_100, fl_100, up_100, fl_87_27, mi_110, ml_110, fl_110, up_110, fl_87_17, mi_103, ml_103, fl_103, up_103, fl_87_11, mi_97, ml_97, fl_97, up_97, e0, f99, true_and, and_true, true_or, or_true, implies_true, b10_0, b10_1]
                repeat' (first | refine And.intro ?_ ?_ | intro _)
                all_goals (try (first | omega | (unfold r32; omega) | exact hQ | exact qe hQ (by omega) | exact qe hQ (by (repeat' split) <;> omega) | exact b01 | exact n01 | exact n21 | exact n31 | exact absurd trivial (by assumption)))
                all_goals (try exact fin _ _ _ _ _ n01)
              · by_cases hFN : F = (g (19 + 6 * c) 0).toNat
                · skip
                  apply s_186_68
                  try simp only [mi_87, fl_87_29, mi_111, ml_111, fl_111, up_111, fl_87_14, mi_100, ml_100, fl_100, up_100, fl_87_27, mi_110, ml_110, fl_110, up_110, fl_87_17, mi_103, ml_103, fl_103, up_103, fl_87_11, mi_97, ml_97, fl_97, up_97, e0, f99, true_and, and_true, true_or, or_true, implies_true, b10_0, b10_1]
                  repeat' (first | refine And.intro ?_ ?_ | intro _)
                  all_goals (try (first | omega | (unfold r32; omega) | exact hQ | exact qe hQ (by omega) | exact qe hQ (by (repeat' split) <;> omega) | exact b01 | exact n01 | exact n21 | exact n31 | exact absurd trivial (by assumption)))
                  all_goals (try exact fin _ _ _ _ _ n01)
                · skip
                  apply s_186_68
                  try simp only [mi_87, fl_87_29, mi_111, ml_111, fl_111, up_111, fl_87_14, mi_100, ml_100, fl_100, up_100, fl_87_27, mi_110, ml_110, fl_110, up_110, fl_87_17, mi_103, ml_103, fl_103, up_103, fl_87_11, mi_97, ml_97, fl_97, up_97, e0, f99, true_and, and_true, true_or, or_true, implies_true, b10_0, b10_1]
                  repeat' (first | refine And.intro ?_ ?_ | intro _)
                  all_goals (try (first | omega | (unfold r32; omega) | exact hQ | exact qe hQ (by omega) | exact qe hQ (by (repeat' split) <;> omega) | exact b01 | exact n01 | exact n21 | exact n31 | exact absurd trivial (by assumption)))
                  refine c183 X m1 (t := flT (inp g) (g 53) s F) (by omega) _ _ (by omega) ?_
                  apply s_186_84
                  try simp only [mi_87, fl_87_29, mi_111, ml_111, fl_111, up_111, fl_87_14, mi_100, ml_100, fl_100, up_100, fl_87_27, mi_110, ml_110, fl_110, up_110, fl_87_17, mi_103, ml_103, fl_103, up_103, fl_87_11, mi_97, ml_97, fl_97, up_97, true_and, and_true, true_or, or_true, implies_true, b10_0, b10_1]
                  repeat' (first | refine And.intro ?_ ?_ | intro _)
                  all_goals (try (first | omega | (unfold r32; omega) | exact hQ | exact qe hQ (by omega) | exact qe hQ (by (repeat' split) <;> omega) | exact b01 | exact n01 | exact n21 | exact n31 | exact absurd trivial (by assumption)))
                  all_goals (try exact fin _ _ _ _ _ n01)
            · intro i hi ih m1 hm1 h102 h110 v6 v7 v8 v9
              have e10 : ((i + 1 : Nat) : Int) = (i : Int) + 1 := by omega
              have eci : (36 * (c : Int) + (i : Int)).toNat = 36 * c + i := by omega
              have f99 : m1 99 c = g (19 + 6 * c) 0 := by rw [hm1 _ _ (by omega) (by omega), hg1 _ _ (by omega)]; exact k1
              have hb := hfb i (by omega)
              have hi1 := hF1 i hi
              have hpb := hplb i hi
              have f109 : m1 109 (hr (flT (inp g) (g 53) s i) - s).toNat = pl i := by
                rw [hm1 _ _ (by omega) (by omega), hg1 _ _ (by omega), (hSc _ (by omega)).1, ← hpl]
                rfl
              obtain ⟨q0, hq0⟩ : ∃ q0 : Nat, pl i = (q0 : Int) := ⟨(pl i).toNat, by omega⟩
              have hq08 : q0 < 8 := by omega
              have eq0 : ((q0 : Int)).toNat = q0 := by omega
              have hnq := h110 q0 hq08
              have nbq := nb q0 i
              generalize hh1 : mup m1 110 q0 (m1 110 q0 + 1) = m2
              generalize hh2 : mup m2 102 (36 * c + i) (q0 : Int) = m3
              have f3 : ∀ o k, ¬ (o = 110 ∧ k = q0 ∨ o = 102 ∧ k = 36 * c + i) → m3 o k = m1 o k := fun o k ho => by rw [← hh2, mup_n (by omega), ← hh1, mup_n (by omega)]
              have hbt := btk_b (G := inp g) (D := -1) (p := (q0 : Int)) (t := flT (inp g) (g 53) s i) i1.1 (by omega) (by omega) (by omega)
              have c184' := c184w X (G := inp g) (g := m3) (D := -1) (p := (q0 : Int)) (t := flT (inp g) (g 53) s i) (fun p hp => by rw [f3 _ _ (by omega), hm1 _ _ (by omega) (by omega), hg1 _ _ (by omega)]; exact i4.1 p hp) (fun p hp => by rw [f3 _ _ (by omega), hm1 _ _ (by omega) (by omega), hg1 _ _ (by omega)]; exact i4.2.1 p hp) (by rw [f3 _ _ (by omega), hm1 _ _ (by omega) (by omega), hg1 _ _ (by omega)]; exact i4.2.2.1) i1.1 (by omega) (by omega) (by omega)
              have et : flT (inp g) (g 53) s (i + 1) = flT (inp g) (g 53) s i + btk (inp g) (-1) (q0 : Int) (flT (inp g) (g 53) s i) := by
                rw [← hq0, ← hpl]
                rfl
              have nx := ih m3 (fun o k q1 q2 => by rw [f3 _ _ (by omega)]; exact hm1 o k q1 (by omega)) (fun k hk => by
                by_cases hki : k = i
                · subst hki; rw [← hh2, mup_e, hq0]
                · rw [f3 _ _ (by omega)]; exact h102 k (by omega)) (fun p hp => by
                simp only [sumN]
                by_cases hpq : p = q0
                · subst hpq
                  rw [← hh2, mup_n (by omega), ← hh1, mup_e, if_pos hq0, hnq]
                · rw [f3 _ _ (by omega), if_neg (by omega), Int.add_zero]; exact h110 p hp)
              rw [et, e10] at nx
              apply s_186_68
              try simp only [mi_87, fl_87_29, mi_111, ml_111, fl_111, up_111, fl_87_14, mi_100, ml_100, fl_100, up_100, fl_87_27, mi_110, ml_110, fl_110, up_110, fl_87_17, mi_103, ml_103, fl_103, up_103, fl_87_11, mi_97, ml_97, fl_97, up_97, e0, f99, true_and, and_true, true_or, or_true, implies_true, b10_0, b10_1]
              repeat' (first | refine And.intro ?_ ?_ | intro _)
              all_goals (try (first | omega | (unfold r32; omega) | exact hQ | exact qe hQ (by omega) | exact qe hQ (by (repeat' split) <;> omega) | exact b01 | exact n01 | exact n21 | exact n31 | exact absurd trivial (by assumption)))
              refine c183 X m1 (t := flT (inp g) (g 53) s i) (by omega) _ _ (by omega) ?_
              apply s_186_84
              try simp only [mi_87, fl_87_29, mi_111, ml_111, fl_111, up_111, fl_87_14, mi_100, ml_100, fl_100, up_100, fl_87_27, mi_110, ml_110, fl_110, up_110, fl_87_17, mi_103, ml_103, fl_103, up_103, fl_87_11, mi_97, ml_97, fl_97, up_97, true_and, and_true, true_or, or_true, implies_true, b10_0, b10_1]
              repeat' (first | refine And.intro ?_ ?_ | intro _)
              all_goals (try (first | omega | (unfold r32; omega) | exact hQ | exact qe hQ (by omega) | exact qe hQ (by (repeat' split) <;> omega) | exact b01 | exact n01 | exact n21 | exact n31 | exact absurd trivial (by assumption)))
              refine c183 X m1 (t := flT (inp g) (g 53) s i) (by omega) _ _ (by omega) ?_
              apply s_186_99
              try simp only [mi_87, fl_87_29, mi_111, ml_111, fl_111, up_111, fl_87_14, mi_100, ml_100, fl_100, up_100, fl_87_27, mi_110, ml_110, fl_110, up_110, fl_87_17, mi_103, ml_103, fl_103, up_103, fl_87_11, mi_97, ml_97, fl_97, up_97, f109, hq0, true_and, and_true, true_or, or_true, implies_true, b10_0, b10_1]
              repeat' (first | refine And.intro ?_ ?_ | intro _)
              all_goals (try (first | omega | (unfold r32; omega) | exact hQ | exact qe hQ (by omega) | exact qe hQ (by (repeat' split) <;> omega) | exact b01 | exact n01 | exact n21 | exact n31 | exact absurd trivial (by assumption)))
              apply s_186_104
              try simp only [mi_87, fl_87_29, mi_111, ml_111, fl_111, up_111, fl_87_14, mi_100, ml_100, fl_100, up_100, fl_87_27, mi_110, ml_110, fl_110, up_110, fl_87_17, mi_103, ml_103, fl_103, up_103, fl_87_11, mi_97, ml_97, fl_97, up_97, eq0, hh1, true_and, and_true, true_or, or_true, implies_true, b10_0, b10_1]
              repeat' (first | refine And.intro ?_ ?_ | intro _)
              all_goals (try (first | omega | (unfold r32; omega) | exact hQ | exact qe hQ (by omega) | exact qe hQ (by (repeat' split) <;> omega) | exact b01 | exact n01 | exact n21 | exact n31 | exact absurd trivial (by assumption)))
              apply s_186_115
              try simp only [mi_87, fl_87_29, mi_111, ml_111, fl_111, up_111, fl_87_14, mi_100, ml_100, fl_100, up_100, fl_87_27, mi_110, ml_110, fl_110, up_110, fl_87_17, mi_103, ml_103, fl_103, up_103, fl_87_11, mi_97, ml_97, fl_97, up_97, eci, hh2, true_and, and_true, true_or, or_true, implies_true, b10_0, b10_1]
              repeat' (first | refine And.intro ?_ ?_ | intro _)
              all_goals (try (first | omega | (unfold r32; omega) | exact hQ | exact qe hQ (by omega) | exact qe hQ (by (repeat' split) <;> omega) | exact b01 | exact n01 | exact n21 | exact n31 | exact absurd trivial (by assumption)))
              apply s_186_129
              try simp only [mi_87, fl_87_29, mi_111, ml_111, fl_111, up_111, fl_87_14, mi_100, ml_100, fl_100, up_100, fl_87_27, mi_110, ml_110, fl_110, up_110, fl_87_17, mi_103, ml_103, fl_103, up_103, fl_87_11, mi_97, ml_97, fl_97, up_97, true_and, and_true, true_or, or_true, implies_true, b10_0, b10_1]
              repeat' (first | refine And.intro ?_ ?_ | intro _)
              all_goals (try (first | omega | (unfold r32; omega) | exact hQ | exact qe hQ (by omega) | exact qe hQ (by (repeat' split) <;> omega) | exact b01 | exact n01 | exact n21 | exact n31 | exact absurd trivial (by assumption)))
              refine c184' _ _ (by omega) ?_
              apply s_186_142
              try simp only [mi_87, fl_87_29, mi_111, ml_111, fl_111, up_111, fl_87_14, mi_100, ml_100, fl_100, up_100, fl_87_27, mi_110, ml_110, fl_110, up_110, fl_87_17, mi_103, ml_103, fl_103, up_103, fl_87_11, mi_97, ml_97, fl_97, up_97, true_and, and_true, true_or, or_true, implies_true, b10_0, b10_1]
              repeat' (first | refine And.intro ?_ ?_ | intro _)
              all_goals (try (first | omega | (unfold r32; omega) | exact hQ | exact qe hQ (by omega) | exact qe hQ (by (repeat' split) <;> omega) | exact b01 | exact n01 | exact n21 | exact n31 | exact absurd trivial (by assumption)))
              all_goals (try exact nx _ _ _ _)
          · intro v m1 hv hm1 h102 h110 v2 v3 v5 v8 v9 hv5
            have f := hfin v m1 hv hm1 h102
            apply s_186_154
            try simp only [mi_87, fl_87_29, mi_111, ml_111, fl_111, up_111, fl_87_14, mi_100, ml_100, fl_100, up_100, fl_87_27, mi_110, ml_110, fl_110, up_110, fl_87_17, mi_103, ml_103, fl_103, up_103, fl_87_11, mi_97, ml_97, fl_97, up_97, true_and, and_true, true_or, or_true, implies_true, b10_0, b10_1]
            repeat' (first | refine And.intro ?_ ?_ | intro _)
            all_goals (try (first | omega | (unfold r32; omega) | exact hQ | exact qe hQ (by omega) | exact qe hQ (by (repeat' split) <;> omega) | exact b01 | exact n01 | exact n21 | exact n31 | exact absurd trivial (by assumption)))
            all_goals (try exact f _ _ _ _ _)
          · intro p hp ih v m1 hv hm1 h102 h110 v2 v3 v5 v8 v9 hv5
            have e2 : ((p : Int)).toNat = p := by omega
            have e10 : ((p + 1 : Nat) : Int) = (p : Int) + 1 := by omega
            have hnp := h110 p hp
            have nbp := nb p F
            rw [e10] at ih
            have es4 : s4 (g 9) p = sumN 4 (fun j => g 9 (8 * j + p)) := by
              rw [sum4]
              simp only [Nat.mul_zero, Nat.zero_add]
              rfl
            have inner := lup (P := fun j => Wp X d SH 186 167 [(2, 87), (0, (c : Int)), v2, v3, (0, (F : Int)), v5, (0, v), (0, (p : Int)), (0, sumN j (fun j => g 9 (8 * j + p))), (0, (j : Int))] [] SH (fl m1) Q) 4 ?_ ?_ 0 (by omega)
            · skip
              apply s_186_154
              try simp only [mi_87, fl_87_29, mi_111, ml_111, fl_111, up_111, fl_87_14, mi_100, ml_100, fl_100, up_100, fl_87_27, mi_110, ml_110, fl_110, up_110, fl_87_17, mi_103, ml_103, fl_103, up_103, fl_87_11, mi_97, ml_97, fl_97, up_97, true_and, and_true, true_or, or_true, implies_true, b10_0, b10_1]
              repeat' (first | refine And.intro ?_ ?_ | intro _)
              all_goals (try (first | omega | (unfold r32; omega) | exact hQ | exact qe hQ (by omega) | exact qe hQ (by (repeat' split) <;> omega) | exact b01 | exact n01 | exact n21 | exact n31 | exact absurd trivial (by assumption)))
              all_goals (try exact inner)
            · have st : ∀ u : Int, (u = 1 ∧ (∀ q : Nat, q < p + 1 → sumN F (fun i => if pl i = (q : Int) then 1 else 0) ≤ s4 (g 9) q) ∨ u = 0 ∧ ¬ ∀ p : Nat, p < 8 → sumN F (fun i => if pl i = (p : Int) then 1 else 0) ≤ s4 (g 9) p) → ∀ v6 v8 v9, Wp X d SH 186 219 [(2, 87), (0, (c : Int)), v2, v3, (0, (F : Int)), v5, v6, (0, (p : Int)), v8, v9] [(0, u)] SH (fl m1) Q := by
                intro u hu v6 v8 v9
                have nx := ih u m1 hu hm1 h102 h110
                refine s_186_219 (by first | exact n01 | exact n21 | exact n31 | assumption) ?_
                try simp only [mi_87, fl_87_29, mi_111, ml_111, fl_111, up_111, fl_87_14, mi_100, ml_100, fl_100, up_100, fl_87_27, mi_110, ml_110, fl_110, up_110, fl_87_17, mi_103, ml_103, fl_103, up_103, fl_87_11, mi_97, ml_97, fl_97, up_97, true_and, and_true, true_or, or_true, implies_true, b10_0, b10_1]
                repeat' (first | refine And.intro ?_ ?_ | intro _)
                all_goals (try (first | omega | (unfold r32; omega) | exact hQ | exact qe hQ (by omega) | exact qe hQ (by (repeat' split) <;> omega) | exact b01 | exact n01 | exact n21 | exact n31 | exact absurd trivial (by assumption)))
                all_goals (try exact nx _ _ _ _ _ hv5)
              rcases hv with ⟨z1, z2⟩ | ⟨z1, z2⟩
              · subst z1
                by_cases hz : sumN F (fun i => if pl i = (p : Int) then 1 else 0) ≤ sumN 4 (fun j => g 9 (8 * j + p))
                · have s1 := st 1 (Or.inl ⟨rfl, fun q hq => by
                    by_cases hqp : q = p
                    · subst hqp; rw [es4]; exact hz
                    · exact z2 q (by omega)⟩)
                  apply s_186_167
                  try simp only [mi_87, fl_87_29, mi_111, ml_111, fl_111, up_111, fl_87_14, mi_100, ml_100, fl_100, up_100, fl_87_27, mi_110, ml_110, fl_110, up_110, fl_87_17, mi_103, ml_103, fl_103, up_103, fl_87_11, mi_97, ml_97, fl_97, up_97, e2, hnp, true_and, and_true, true_or, or_true, implies_true, b10_0, b10_1]
                  repeat' (first | refine And.intro ?_ ?_ | intro _)
                  all_goals (try (first | omega | (unfold r32; omega) | exact hQ | exact qe hQ (by omega) | exact qe hQ (by (repeat' split) <;> omega) | exact b01 | exact n01 | exact n21 | exact n31 | exact absurd trivial (by assumption)))
                  all_goals (try exact s1 _ _ _)
                · have s1 := st 0 (Or.inr ⟨rfl, fun hall => hz (by rw [← es4]; exact hall p hp)⟩)
                  apply s_186_167
                  try simp only [mi_87, fl_87_29, mi_111, ml_111, fl_111, up_111, fl_87_14, mi_100, ml_100, fl_100, up_100, fl_87_27, mi_110, ml_110, fl_110, up_110, fl_87_17, mi_103, ml_103, fl_103, up_103, fl_87_11, mi_97, ml_97, fl_97, up_97, e2, hnp, true_and, and_true, true_or, or_true, implies_true, b10_0, b10_1]
                  repeat' (first | refine And.intro ?_ ?_ | intro _)
                  all_goals (try (first | omega | (unfold r32; omega) | exact hQ | exact qe hQ (by omega) | exact qe hQ (by (repeat' split) <;> omega) | exact b01 | exact n01 | exact n21 | exact n31 | exact absurd trivial (by assumption)))
                  apply s_186_218
                  try simp only [mi_87, fl_87_29, mi_111, ml_111, fl_111, up_111, fl_87_14, mi_100, ml_100, fl_100, up_100, fl_87_27, mi_110, ml_110, fl_110, up_110, fl_87_17, mi_103, ml_103, fl_103, up_103, fl_87_11, mi_97, ml_97, fl_97, up_97, true_and, and_true, true_or, or_true, implies_true, b10_0, b10_1]
                  repeat' (first | refine And.intro ?_ ?_ | intro _)
                  all_goals (try (first | omega | (unfold r32; omega) | exact hQ | exact qe hQ (by omega) | exact qe hQ (by (repeat' split) <;> omega) | exact b01 | exact n01 | exact n21 | exact n31 | exact absurd trivial (by assumption)))
                  all_goals (try exact s1 _ _ _)
              · subst z1
                have s1 := st 0 (Or.inr ⟨rfl, z2⟩)
                apply s_186_167
                try simp only [mi_87, fl_87_29, mi_111, ml_111, fl_111, up_111, fl_87_14, mi_100, ml_100, fl_100, up_100, fl_87_27, mi_110, ml_110, fl_110, up_110, fl_87_17, mi_103, ml_103, fl_103, up_103, fl_87_11, mi_97, ml_97, fl_97, up_97, true_and, and_true, true_or, or_true, implies_true, b10_0, b10_1]
                repeat' (first | refine And.intro ?_ ?_ | intro _)
                all_goals (try (first | omega | (unfold r32; omega) | exact hQ | exact qe hQ (by omega) | exact qe hQ (by (repeat' split) <;> omega) | exact b01 | exact n01 | exact n21 | exact n31 | exact absurd trivial (by assumption)))
                apply s_186_218
                try simp only [mi_87, fl_87_29, mi_111, ml_111, fl_111, up_111, fl_87_14, mi_100, ml_100, fl_100, up_100, fl_87_27, mi_110, ml_110, fl_110, up_110, fl_87_17, mi_103, ml_103, fl_103, up_103, fl_87_11, mi_97, ml_97, fl_97, up_97, true_and, and_true, true_or, or_true, implies_true, b10_0, b10_1]
                repeat' (first | refine And.intro ?_ ?_ | intro _)
                all_goals (try (first | omega | (unfold r32; omega) | exact hQ | exact qe hQ (by omega) | exact qe hQ (by (repeat' split) <;> omega) | exact b01 | exact n01 | exact n21 | exact n31 | exact absurd trivial (by assumption)))
                all_goals (try exact s1 _ _ _)
            · intro j hj ihj
              have ej : (8 * (j : Int) + (p : Int)).toNat = 8 * j + p := by omega
              have e11 : ((j + 1 : Nat) : Int) = (j : Int) + 1 := by omega
              have f96 : m1 96 (8 * j + p) = g 9 (8 * j + p) := by rw [hm1 _ _ (by omega) (by omega), hg1 _ _ (by omega)]; exact (hS.1 _ (by omega)).1
              have b9 := h9b (8 * j + p) (by omega)
              have bs := sumN_b (n := j) (a := fun j => g 9 (8 * j + p)) (lo := 0) (hi := 999) (fun k hk => h9b _ (by omega))
              simp only [e11, sumN] at ihj
              apply s_186_167
              try simp only [mi_87, fl_87_29, mi_111, ml_111, fl_111, up_111, fl_87_14, mi_100, ml_100, fl_100, up_100, fl_87_27, mi_110, ml_110, fl_110, up_110, fl_87_17, mi_103, ml_103, fl_103, up_103, fl_87_11, mi_97, ml_97, fl_97, up_97, ej, f96, true_and, and_true, true_or, or_true, implies_true, b10_0, b10_1]
              repeat' (first | refine And.intro ?_ ?_ | intro _)
              all_goals (try (first | omega | (unfold r32; omega) | exact hQ | exact qe hQ (by omega) | exact qe hQ (by (repeat' split) <;> omega) | exact b01 | exact n01 | exact n21 | exact n31 | exact absurd trivial (by assumption)))
              all_goals (try exact ihj)
        have run : ∀ g0 : mF, (∀ o k, o ≠ 54 → g0 o k = g o k) → (∀ i, i < F → g0 54 i = pl i) → Wp X d SH 105 54 [(2, 1), (0, (c : Int)), (0, s), (0, n), (2, 20 + 6 * (c : Int)), (3, 0), (3, 0)] [(0, (F : Int))] SH (fl g0) Q := by
          intro g0 hg0 h54
          have c82' := c82 X (g := g0) (pl := pl) (F := F) hF36 (fun k hk => by rw [hg0 _ _ (by omega)]; exact h9b k hk) h54
          have e9 : g0 9 = g 9 := funext (fun k => hg0 _ _ (by omega))
          rw [e9] at c82'
          by_cases hen : ∀ p : Nat, p < 8 → sumN F (fun i => if pl i = (p : Int) then 1 else 0) ≤ s4 (g 9) p
          · have jp := jaS_p (a := g 9) (pl := pl) (F := F) h9b hplb hen
            have fin : ∀ h1 : mF, (∀ o k, ¬ (o = 9 ∨ o = 54 ∨ o = 20 + 6 * c) → h1 o k = g o k) → (∀ k, k < 32 → h1 9 k = jaS (g 9) pl F k) → (∀ k, k < F → h1 (20 + 6 * c) k = pl k) → (∀ k, F ≤ k → h1 (20 + 6 * c) k = g (20 + 6 * c) k) → Q (some (0, (F : Int))) (fl (mup h1 11 3 0)) := by
              intro h1 hF h9 h20 h20'
              generalize hh2 : mup h1 11 3 0 = g1
              have f1 : ∀ o k, ¬ (o = 11 ∧ k = 3) → g1 o k = h1 o k := fun o k ho => by rw [← hh2, mup_n ho]
              have hg1 : ∀ o k, ¬ (o = 11 ∧ k = 3 ∨ o = 9 ∨ o = 54 ∨ o = 20 + 6 * c) → g1 o k = g o k := fun o k ho => by rw [f1 _ _ (by omega), hF _ _ (by omega)]
              refine hQ _ g1 ⟨_, rfl, ?_⟩
              clear hQ
              intro d Q hd hQ
              refine mod g1 hg1 d Q hd ?_
              intro v m1 hv hm1 h102 v2 v3 v5 v8 v9
              have hv1 : v = 1 := by
                rcases hv with z | z
                · exact z.1
                · exact absurd hen z.2
              subst hv1
              have loop := lup (P := fun i => ∀ m2 : mF, (∀ o k, o ≠ 96 → m2 o k = m1 o k) → (∀ k, k < 32 → m2 96 k = jaS (g 9) pl i k) → Wp X d SH 186 230 [(2, 87), (0, (c : Int)), v2, v3, (0, (F : Int)), v5, (0, 1), (0, (i : Int)), v8, v9] [] SH (fl m2) Q) F ?_ ?_ 0 (by omega)
              · exact loop m1 (fun _ _ _ => rfl) (fun k hk => by rw [hm1 _ _ (by omega) (by omega), hg1 _ _ (by omega)]; exact (hS.1 k hk).1)
              · intro m2 hm2 h96
                have hall : ∀ o k, ¬ (o = 11 ∧ k = 3 ∨ o = 9 ∨ o = 54 ∨ o = 20 + 6 * c ∨ o = 110 ∨ o = 102 ∨ o = 96) → m2 o k = g o k := fun o k ho => by rw [hm2 _ _ (by omega), hm1 _ _ (by omega) (by omega), hg1 _ _ (by omega)]
                have h20m : ∀ k, m2 (20 + 6 * c) k = h1 (20 + 6 * c) k := fun k => by rw [hm2 _ _ (by omega), hm1 _ _ (by omega) (by omega), f1 _ _ (by omega)]
                have hq : Q (some (0, (F : Int))) (fl m2) := by
                  refine hQ _ m2 ⟨rfl, ?_, ?_, fun o k ho => hall o k (by omega), Or.inl (by rw [hm2 _ _ (by omega), hm1 _ _ (by omega) (by omega), ← hh2, mup_e])⟩
                  · intro c' hc'
                    by_cases hcc : c' = c
                    · subst hcc
                      unfold Iclk
                      rw [hall 99 _ (by omega), hall (19 + 6 * c') 0 (by omega), hall (19 + 6 * c') 2 (by omega), hall (19 + 6 * c') 3 (by omega), hall 103 _ (by omega), hall 104 _ (by omega)]
                      refine ⟨k1, k2, k3, fun i hi => ?_, fun i hi => ?_, fun i hi hl => ?_, k7, k8, k9, k10, k11, k12⟩
                      · rw [h20m]
                        by_cases hiF : i < F
                        · rw [h20 i hiF, hm2 _ _ (by omega)]; exact h102 i hiF
                        · rw [h20' i (by omega), hm2 _ _ (by omega), hm1 _ _ (by omega) (by omega), hg1 _ _ (by omega)]
                          exact k4 i hi
                      · rw [h20m]
                        by_cases hiF : i < F
                        · rw [h20 i hiF]; have := hplb i hiF; omega
                        · rw [h20' i (by omega)]; exact k5 i hi
                      · rw [h20m, h20' i (by omega)]
                        exact k6 i hi hl
                    · refine Iclk_congr (hall _ _ (by omega)) (fun k _ => hall _ _ (by omega)) (fun k _ => hall _ _ (by omega)) (hall _ _ (by omega)) (hall _ _ (by omega)) (fun i hi => ?_) (hC c' hc')
                      rw [hm2 _ _ (by omega), hm1 _ _ (by omega) (by omega), hg1 _ _ (by omega)]
                  · have cel : ∀ c' (q : Nat), c' < 4 → celp m2 c' (q : Int) = celp g c' (q : Int) + if c' = c then sumN F (fun i => if pl i = (q : Int) then 1 else 0) else 0 := by
                      intro c' q hc'
                      by_cases hcc : c' = c
                      · subst hcc
                        rw [if_pos rfl]
                        have z1 : celp g c' (q : Int) = 0 := by
                          unfold celp
                          refine Eq.trans (sumN_congr (b := fun _ => 0) (fun i hi => ?_)) sumN_zero
                          rw [hbare i (by omega), if_neg (by omega)]
                        rw [z1]
                        unfold celp
                        rw [hall (19 + 6 * c') 0 (by omega)]
                        obtain ⟨r, hr⟩ : ∃ r, (g (19 + 6 * c') 0).toNat = F + r := ⟨(g (19 + 6 * c') 0).toNat - F, by omega⟩
                        rw [hr, sumN_add]
                        have z2 : sumN r (fun j => if m2 (20 + 6 * c') (F + j) = (q : Int) then (1 : Int) else 0) = 0 := by
                          refine Eq.trans (sumN_congr (b := fun _ => 0) (fun i hi => ?_)) sumN_zero
                          rw [h20m, h20' _ (by omega), hbare _ (by omega), if_neg (by omega)]
                        rw [z2, sumN_congr (n := F) (a := fun i => if m2 (20 + 6 * c') i = (q : Int) then (1 : Int) else 0) (b := fun i => if pl i = (q : Int) then (1 : Int) else 0) (fun i hi => by rw [h20m, h20 i hi])]
                        omega
                      · rw [if_neg hcc, celp_congr (hall _ _ (by omega)) (fun k => hall _ _ (by omega))]
                        omega
                    have n9 : ∀ k, k < 32 → m2 9 k = jaS (g 9) pl F k := fun k hk => by rw [hm2 _ _ (by omega), hm1 _ _ (by omega) (by omega), f1 _ _ (by omega)]; exact h9 k hk
                    obtain ⟨j1, j2, -⟩ := jp F (Nat.le_refl _)
                    refine ⟨fun k hk => ?_, fun q hq => ?_, fun q hq => ?_⟩
                    · rw [n9 k hk, h96 k hk]
                      have := j1 k hk
                      exact ⟨rfl, this⟩
                    · rw [hall 98 _ (by omega), hall 10 _ (by omega)]
                      exact hS.2.1 q hq
                    · have sq := hS.2.2 q hq
                      have j2q := j2 q hq
                      unfold s4 at j2q
                      rw [hall 97 _ (by omega), hall 10 _ (by omega), n9 q (by omega), n9 (8 + q) (by omega), n9 (16 + q) (by omega), n9 (24 + q) (by omega), cel 0 q (by omega), cel 1 q (by omega), cel 2 q (by omega), cel 3 q (by omega)]
                      have hcc : c = 0 ∨ c = 1 ∨ c = 2 ∨ c = 3 := by omega
                      generalize sumN F (fun k => if pl k = (q : Int) then (1 : Int) else 0) = NQ at *
                      rcases hcc with rfl | rfl | rfl | rfl <;> simp <;> omega
                apply s_186_230
                try simp only [mi_87, fl_87_29, mi_111, ml_111, fl_111, up_111, fl_87_14, mi_100, ml_100, fl_100, up_100, fl_87_27, mi_110, ml_110, fl_110, up_110, fl_87_17, mi_103, ml_103, fl_103, up_103, fl_87_11, mi_97, ml_97, fl_97, up_97, true_and, and_true, true_or, or_true, implies_true, b10_0, b10_1]
                repeat' (first | refine And.intro ?_ ?_ | intro _)
                all_goals (try (first | omega | (unfold r32; omega) | exact hQ | exact qe hQ (by omega) | exact qe hQ (by (repeat' split) <;> omega) | exact b01 | exact n01 | exact n21 | exact n31 | exact absurd trivial (by assumption)))
                all_goals (try exact hq)
              · intro i hi ih m2 hm2 h96
                have e10 : ((i + 1 : Nat) : Int) = (i : Int) + 1 := by omega
                have eci : (36 * (c : Int) + (i : Int)).toNat = 36 * c + i := by omega
                obtain ⟨j1, j2, j3⟩ := jp i (by omega)
                have hpb := hplb i hi
                obtain ⟨q0, hq0⟩ : ∃ q0 : Nat, pl i = (q0 : Int) := ⟨(pl i).toNat, by omega⟩
                have eq0 : ((q0 : Int)).toNat = q0 := by omega
                have f102 : m2 102 (36 * c + i) = (q0 : Int) := by rw [hm2 _ _ (by omega), h102 i hi, hq0]
                have j3' := j3 hi
                rw [hq0, eq0] at j3'
                have c187' := c187 X (g := m2) (a := jaS (g 9) pl i) (p := q0) (by omega) h96 j1 j3'
                rw [e10] at ih
                apply s_186_230
                try simp only [mi_87, fl_87_29, mi_111, ml_111, fl_111, up_111, fl_87_14, mi_100, ml_100, fl_100, up_100, fl_87_27, mi_110, ml_110, fl_110, up_110, fl_87_17, mi_103, ml_103, fl_103, up_103, fl_87_11, mi_97, ml_97, fl_97, up_97, eci, f102, true_and, and_true, true_or, or_true, implies_true, b10_0, b10_1]
                repeat' (first | refine And.intro ?_ ?_ | intro _)
                all_goals (try (first | omega | (unfold r32; omega) | exact hQ | exact qe hQ (by omega) | exact qe hQ (by (repeat' split) <;> omega) | exact b01 | exact n01 | exact n21 | exact n31 | exact absurd trivial (by assumption)))
                refine c187' _ _ (by omega) ?_
                rintro _ m3 ⟨rfl, hF3, h963⟩
                have nx := ih m3 (fun o k ho => by rw [hF3 o k ho]; exact hm2 o k ho) (fun k hk => by
                  rw [h963 k hk]
                  show _ = tkA (jaS (g 9) pl i) (pl i).toNat k
                  rw [hq0, eq0])
                apply s_186_258
                try simp only [mi_87, fl_87_29, mi_111, ml_111, fl_111, up_111, fl_87_14, mi_100, ml_100, fl_100, up_100, fl_87_27, mi_110, ml_110, fl_110, up_110, fl_87_17, mi_103, ml_103, fl_103, up_103, fl_87_11, mi_97, ml_97, fl_97, up_97, true_and, and_true, true_or, or_true, implies_true, b10_0, b10_1]
                repeat' (first | refine And.intro ?_ ?_ | intro _)
                all_goals (try (first | omega | (unfold r32; omega) | exact hQ | exact qe hQ (by omega) | exact qe hQ (by (repeat' split) <;> omega) | exact b01 | exact n01 | exact n21 | exact n31 | exact absurd trivial (by assumption)))
                apply s_186_274
                try simp only [mi_87, fl_87_29, mi_111, ml_111, fl_111, up_111, fl_87_14, mi_100, ml_100, fl_100, up_100, fl_87_27, mi_110, ml_110, fl_110, up_110, fl_87_17, mi_103, ml_103, fl_103, up_103, fl_87_11, mi_97, ml_97, fl_97, up_97, true_and, and_true, true_or, or_true, implies_true, b10_0, b10_1]
                repeat' (first | refine And.intro ?_ ?_ | intro _)
                all_goals (try (first | omega | (unfold r32; omega) | exact hQ | exact qe hQ (by omega) | exact qe hQ (by (repeat' split) <;> omega) | exact b01 | exact n01 | exact n21 | exact n31 | exact absurd trivial (by assumption)))
                all_goals (try exact nx)
            have loop := lup (P := fun i => ∀ h1 : mF, (∀ o k, ¬ (o = 9 ∨ o = 20 + 6 * c) → h1 o k = g0 o k) → (∀ k, k < 32 → h1 9 k = jaS (g 9) pl i k) → (∀ k, k < i → h1 (20 + 6 * c) k = pl k) → (∀ k, i ≤ k → h1 (20 + 6 * c) k = g (20 + 6 * c) k) → Wp X d SH 105 79 [(2, 1), (0, (c : Int)), (0, s), (0, n), (2, 20 + 6 * (c : Int)), (0, (F : Int)), (0, (i : Int))] [] SH (fl h1) Q) F ?_ ?_ 0 (by omega)
            · have l0 := loop g0 (fun _ _ _ => rfl) (fun k _ => hg0 _ _ (by omega)) (fun k hk => absurd hk (by omega)) (fun k _ => hg0 _ _ (by omega))
              apply s_105_54
              try simp only [mi_1, fl_1_4, mi_12, cm_o, cl_0, cu_0, fl_1_3, mi_9, fl_1_8, mi_55, ml_55, fl_55, up_55, cl_1, cm_1, cn_1, ca_1, cz_1, fl_12_3, up_12_3, true_and, and_true, true_or, or_true, implies_true, b10_0, b10_1]
              repeat' (first | refine And.intro ?_ ?_ | intro _)
              all_goals (try (first | omega | (unfold r32; omega) | exact hQ | exact qe hQ (by omega) | exact qe hQ (by (repeat' split) <;> omega) | exact b01 | exact n01 | exact n21 | exact n31 | exact absurd trivial (by assumption)))
              refine c82'.1 hen _ _ (by omega) ?_
              apply s_105_69
              try simp only [mi_1, fl_1_4, mi_12, cm_o, cl_0, cu_0, fl_1_3, mi_9, fl_1_8, mi_55, ml_55, fl_55, up_55, cl_1, cm_1, cn_1, ca_1, cz_1, fl_12_3, up_12_3, true_and, and_true, true_or, or_true, implies_true, b10_0, b10_1]
              repeat' (first | refine And.intro ?_ ?_ | intro _)
              all_goals (try (first | omega | (unfold r32; omega) | exact hQ | exact qe hQ (by omega) | exact qe hQ (by (repeat' split) <;> omega) | exact b01 | exact n01 | exact n21 | exact n31 | exact absurd trivial (by assumption)))
              all_goals (try exact l0)
            · intro h1 hF h9 h20 h20'
              have hq := fin h1 (fun o k ho => by rw [hF _ _ (by omega), hg0 _ _ (by omega)]) h9 h20 h20'
              apply s_105_79
              try simp only [mi_1, fl_1_4, mi_12, cm_o, cl_0, cu_0, fl_1_3, mi_9, fl_1_8, mi_55, ml_55, fl_55, up_55, cl_1, cm_1, cn_1, ca_1, cz_1, fl_12_3, up_12_3, true_and, and_true, true_or, or_true, implies_true, b10_0, b10_1]
              repeat' (first | refine And.intro ?_ ?_ | intro _)
              all_goals (try (first | omega | (unfold r32; omega) | exact hQ | exact qe hQ (by omega) | exact qe hQ (by (repeat' split) <;> omega) | exact b01 | exact n01 | exact n21 | exact n31 | exact absurd trivial (by assumption)))
              all_goals (try exact hq)
            · intro i hi ih h1 hF h9 h20 h20'
              have e2 : ((i : Int)).toNat = i := by omega
              have e10 : ((i + 1 : Nat) : Int) = (i : Int) + 1 := by omega
              obtain ⟨j1, j2, j3⟩ := jp i (by omega)
              have hpb := hplb i hi
              obtain ⟨q0, hq0⟩ : ∃ q0 : Nat, pl i = (q0 : Int) := ⟨(pl i).toNat, by omega⟩
              have eq0 : ((q0 : Int)).toNat = q0 := by omega
              have f54 : h1 54 i = (q0 : Int) := by rw [hF _ _ (by omega), h54 i hi, hq0]
              have j3' := j3 hi
              rw [hq0, eq0] at j3'
              have c83' := c83 X (g := h1) (a := jaS (g 9) pl i) (p := q0) (by omega) h9 j1 j3'
              rw [e10] at ih
              apply s_105_79
              try simp only [mi_1, fl_1_4, mi_12, cm_o, cl_0, cu_0, fl_1_3, mi_9, fl_1_8, mi_55, ml_55, fl_55, up_55, cl_1, cm_1, cn_1, ca_1, cz_1, fl_12_3, up_12_3, e2, f54, true_and, and_true, true_or, or_true, implies_true, b10_0, b10_1]
              repeat' (first | refine And.intro ?_ ?_ | intro _)
              all_goals (try (first | omega | (unfold r32; omega) | exact hQ | exact qe hQ (by omega) | exact qe hQ (by (repeat' split) <;> omega) | exact b01 | exact n01 | exact n21 | exact n31 | exact absurd trivial (by assumption)))
              refine c83' _ _ (by omega) ?_
              rintro _ h2 ⟨rfl, hF2, h92⟩
              have f542 : h2 54 i = (q0 : Int) := by rw [hF2 _ _ (by omega)]; exact f54
              have nx := ih (mup h2 (20 + 6 * c) i (q0 : Int)) (fun o k ho => by rw [mup_n (by omega), hF2 _ _ (by omega)]; exact hF o k ho) (fun k hk => by
                rw [mup_n (by omega), h92 k hk]
                show _ = tkA (jaS (g 9) pl i) (pl i).toNat k
                rw [hq0, eq0]) (fun k hk => by
                by_cases hki : k = i
                · subst hki; rw [mup_e, hq0]
                · rw [mup_n (by omega), hF2 _ _ (by omega)]; exact h20 k (by omega)) (fun k hk => by rw [mup_n (by omega), hF2 _ _ (by omega)]; exact h20' k (by omega))
              apply s_105_100
              try simp only [mi_1, fl_1_4, mi_12, cm_o, cl_0, cu_0, fl_1_3, mi_9, fl_1_8, mi_55, ml_55, fl_55, up_55, cl_1, cm_1, cn_1, ca_1, cz_1, fl_12_3, up_12_3, hc, e2, f542, true_and, and_true, true_or, or_true, implies_true, b10_0, b10_1]
              repeat' (first | refine And.intro ?_ ?_ | intro _)
              all_goals (try (first | omega | (unfold r32; omega) | exact hQ | exact qe hQ (by omega) | exact qe hQ (by (repeat' split) <;> omega) | exact b01 | exact n01 | exact n21 | exact n31 | exact absurd trivial (by assumption)))
              apply s_105_115
              try simp only [mi_1, fl_1_4, mi_12, cm_o, cl_0, cu_0, fl_1_3, mi_9, fl_1_8, mi_55, ml_55, fl_55, up_55, cl_1, cm_1, cn_1, ca_1, cz_1, fl_12_3, up_12_3, true_and, and_true, true_or, or_true, implies_true, b10_0, b10_1]
              repeat' (first | refine And.intro ?_ ?_ | intro _)
              all_goals (try (first | omega | (unfold r32; omega) | exact hQ | exact qe hQ (by omega) | exact qe hQ (by (repeat' split) <;> omega) | exact b01 | exact n01 | exact n21 | exact n31 | exact absurd trivial (by assumption)))
              all_goals (try exact nx)
          · have hq : Q (some (0, -1003)) (fl g0) := by
              refine hQ _ g0 ⟨_, rfl, ?_⟩
              clear hQ
              intro d Q hd hQ
              refine mod g0 (fun o k ho => hg0 _ _ (by omega)) d Q hd ?_
              intro v m1 hv hm1 h102 v2 v3 v5 v8 v9
              have hv0 : v = 0 := by
                rcases hv with z | z
                · exact absurd z.2 hen
                · exact z.1
              subst hv0
              have loop := lup (P := fun i => ∀ m2 : mF, (∀ o k, o ≠ 110 → ¬ (o = 102 ∧ 36 * c ≤ k ∧ k < 36 * c + F) → m2 o k = g0 o k) → (∀ k, k < i → m2 102 (36 * c + k) = -1) → Wp X d SH 186 230 [(2, 87), (0, (c : Int)), v2, v3, (0, (F : Int)), v5, (0, 0), (0, (i : Int)), v8, v9] [] SH (fl m2) Q) F ?_ ?_ 0 (by omega)
              · exact loop m1 hm1 (fun k hk => absurd hk (by omega))
              · intro m2 hm2 h102m
                have hall : ∀ o k, o ≠ 110 → o ≠ 54 → m2 o k = g o k := fun o k h1 h2 => by
                  by_cases hz : o = 102 ∧ 36 * c ≤ k ∧ k < 36 * c + F
                  · obtain ⟨z1, z2, z3⟩ := hz
                    subst z1
                    have y := h102m (k - 36 * c) (by omega)
                    have x := k4 (k - 36 * c) (by omega)
                    rw [show 36 * c + (k - 36 * c) = k by omega] at x y
                    rw [y, x, hbare _ (by omega)]
                  · rw [hm2 _ _ h1 hz, hg0 _ _ h2]
                have hq := hQ (some (0, -1003)) m2 ⟨rfl, Iclk_fr (fun o k ho => hall o k (by omega) (by omega)) hC, Istore_le (Istore_fr (fun o k ho => hall o k (by omega) (by omega)) hS), fun o k ho => hall o k (by omega) (by omega), Or.inr ⟨hall _ _ (by omega) (by omega), fun c' k hc' => hall _ _ (by omega) (by omega)⟩⟩
                apply s_186_230
                try simp only [mi_87, fl_87_29, mi_111, ml_111, fl_111, up_111, fl_87_14, mi_100, ml_100, fl_100, up_100, fl_87_27, mi_110, ml_110, fl_110, up_110, fl_87_17, mi_103, ml_103, fl_103, up_103, fl_87_11, mi_97, ml_97, fl_97, up_97, true_and, and_true, true_or, or_true, implies_true, b10_0, b10_1]
                repeat' (first | refine And.intro ?_ ?_ | intro _)
                all_goals (try (first | omega | (unfold r32; omega) | exact hQ | exact qe hQ (by omega) | exact qe hQ (by (repeat' split) <;> omega) | exact b01 | exact n01 | exact n21 | exact n31 | exact absurd trivial (by assumption)))
                all_goals (try exact hq)
              · intro i hi ih m2 hm2 h102m
                have e10 : ((i + 1 : Nat) : Int) = (i : Int) + 1 := by omega
                have eci : (36 * (c : Int) + (i : Int)).toNat = 36 * c + i := by omega
                rw [e10] at ih
                have nx := ih (mup m2 102 (36 * c + i) (-1)) (fun o k h1 h2 => by rw [mup_n (by omega)]; exact hm2 o k h1 h2) (fun k hk => by
                  by_cases hki : k = i
                  · subst hki; rw [mup_e]
                  · rw [mup_n (by omega)]; exact h102m k (by omega))
                apply s_186_230
                try simp only [mi_87, fl_87_29, mi_111, ml_111, fl_111, up_111, fl_87_14, mi_100, ml_100, fl_100, up_100, fl_87_27, mi_110, ml_110, fl_110, up_110, fl_87_17, mi_103, ml_103, fl_103, up_103, fl_87_11, mi_97, ml_97, fl_97, up_97, eci, true_and, and_true, true_or, or_true, implies_true, b10_0, b10_1]
                repeat' (first | refine And.intro ?_ ?_ | intro _)
                all_goals (try (first | omega | (unfold r32; omega) | exact hQ | exact qe hQ (by omega) | exact qe hQ (by (repeat' split) <;> omega) | exact b01 | exact n01 | exact n21 | exact n31 | exact absurd trivial (by assumption)))
                apply s_186_274
                try simp only [mi_87, fl_87_29, mi_111, ml_111, fl_111, up_111, fl_87_14, mi_100, ml_100, fl_100, up_100, fl_87_27, mi_110, ml_110, fl_110, up_110, fl_87_17, mi_103, ml_103, fl_103, up_103, fl_87_11, mi_97, ml_97, fl_97, up_97, true_and, and_true, true_or, or_true, implies_true, b10_0, b10_1]
                repeat' (first | refine And.intro ?_ ?_ | intro _)
                all_goals (try (first | omega | (unfold r32; omega) | exact hQ | exact qe hQ (by omega) | exact qe hQ (by (repeat' split) <;> omega) | exact b01 | exact n01 | exact n21 | exact n31 | exact absurd trivial (by assumption)))
                all_goals (try exact nx)
            apply s_105_54
            try simp only [mi_1, fl_1_4, mi_12, cm_o, cl_0, cu_0, fl_1_3, mi_9, fl_1_8, mi_55, ml_55, fl_55, up_55, cl_1, cm_1, cn_1, ca_1, cz_1, fl_12_3, up_12_3, true_and, and_true, true_or, or_true, implies_true, b10_0, b10_1]
            repeat' (first | refine And.intro ?_ ?_ | intro _)
            all_goals (try (first | omega | (unfold r32; omega) | exact hQ | exact qe hQ (by omega) | exact qe hQ (by (repeat' split) <;> omega) | exact b01 | exact n01 | exact n21 | exact n31 | exact absurd trivial (by assumption)))
            refine c82'.2 hen _ _ (by omega) ?_
            apply s_105_69
            try simp only [mi_1, fl_1_4, mi_12, cm_o, cl_0, cu_0, fl_1_3, mi_9, fl_1_8, mi_55, ml_55, fl_55, up_55, cl_1, cm_1, cn_1, ca_1, cz_1, fl_12_3, up_12_3, true_and, and_true, true_or, or_true, implies_true, b10_0, b10_1]
            repeat' (first | refine And.intro ?_ ?_ | intro _)
            all_goals (try (first | omega | (unfold r32; omega) | exact hQ | exact qe hQ (by omega) | exact qe hQ (by (repeat' split) <;> omega) | exact b01 | exact n01 | exact n21 | exact n31 | exact absurd trivial (by assumption)))
            all_goals (try exact hq)
        apply s_105_0
        try simp only [mi_1, fl_1_4, mi_12, cm_o, cl_0, cu_0, fl_1_3, mi_9, fl_1_8, mi_55, ml_55, fl_55, up_55, cl_1, cm_1, cn_1, ca_1, cz_1, fl_12_3, up_12_3, true_and, and_true, true_or, or_true, implies_true, b10_0, b10_1]
        repeat' (first | refine And.intro ?_ ?_ | intro _)
        all_goals (try (first | omega | (unfold r32; omega) | exact hQ | exact qe hQ (by omega) | exact qe hQ (by (repeat' split) <;> omega) | exact b01 | exact n01 | exact n21 | exact n31 | exact absurd trivial (by assumption)))
        refine c32 X g hc _ _ (by omega) ?_
        apply s_105_8
        try simp only [mi_1, fl_1_4, mi_12, cm_o, cl_0, cu_0, fl_1_3, mi_9, fl_1_8, mi_55, ml_55, fl_55, up_55, cl_1, cm_1, cn_1, ca_1, cz_1, fl_12_3, up_12_3, true_and, and_true, true_or, or_true, implies_true, b10_0, b10_1]
        repeat' (first | refine And.intro ?_ ?_ | intro _)
        all_goals (try (first | omega | (unfold r32; omega) | exact hQ | exact qe hQ (by omega) | exact qe hQ (by (repeat' split) <;> omega) | exact b01 | exact n01 | exact n21 | exact n31 | exact absurd trivial (by assumption)))
        refine h134 _ _ (by omega) ?_
        apply s_105_24
        try simp only [mi_1, fl_1_4, mi_12, cm_o, cl_0, cu_0, fl_1_3, mi_9, fl_1_8, mi_55, ml_55, fl_55, up_55, cl_1, cm_1, cn_1, ca_1, cz_1, fl_12_3, up_12_3, hc, true_and, and_true, true_or, or_true, implies_true, b10_0, b10_1]
        repeat' (first | refine And.intro ?_ ?_ | intro _)
        all_goals (try (first | omega | (unfold r32; omega) | exact hQ | exact qe hQ (by omega) | exact qe hQ (by (repeat' split) <;> omega) | exact b01 | exact n01 | exact n21 | exact n31 | exact absurd trivial (by assumption)))
        refine c17' _ _ (by omega) ?_
        apply s_105_36
        try simp only [mi_1, fl_1_4, mi_12, cm_o, cl_0, cu_0, fl_1_3, mi_9, fl_1_8, mi_55, ml_55, fl_55, up_55, cl_1, cm_1, cn_1, ca_1, cz_1, fl_12_3, up_12_3, hc, true_and, and_true, true_or, or_true, implies_true, b10_0, b10_1]
        repeat' (first | refine And.intro ?_ ?_ | intro _)
        all_goals (try (first | omega | (unfold r32; omega) | exact hQ | exact qe hQ (by omega) | exact qe hQ (by (repeat' split) <;> omega) | exact b01 | exact n01 | exact n21 | exact n31 | exact absurd trivial (by assumption)))
        refine c137' _ _ (by omega) ?_
        rintro _ g0 ⟨rfl, hg0, h54⟩
        exact run g0 hg0 h54
      · have q1 : Ret X 60 105 [(2, 1), (0, (c : Int)), (0, s), (0, n), (3, 0), (3, 0), (3, 0)] g (some (0, -1003)) g := by
          intro d Q hd hQ
          apply s_105_0
          try simp only [mi_1, fl_1_4, mi_12, cm_o, cl_0, cu_0, fl_1_3, mi_9, fl_1_8, mi_55, ml_55, fl_55, up_55, cl_1, cm_1, cn_1, ca_1, cz_1, fl_12_3, up_12_3, true_and, and_true, true_or, or_true, implies_true, b10_0, b10_1]
          repeat' (first | refine And.intro ?_ ?_ | intro _)
          all_goals (try (first | omega | (unfold r32; omega) | exact hQ | exact qe hQ (by omega) | exact qe hQ (by (repeat' split) <;> omega) | exact b01 | exact n01 | exact n21 | exact n31 | exact absurd trivial (by assumption)))
          refine c32 X g hc _ _ (by omega) ?_
          apply s_105_8
          try simp only [mi_1, fl_1_4, mi_12, cm_o, cl_0, cu_0, fl_1_3, mi_9, fl_1_8, mi_55, ml_55, fl_55, up_55, cl_1, cm_1, cn_1, ca_1, cz_1, fl_12_3, up_12_3, true_and, and_true, true_or, or_true, implies_true, b10_0, b10_1]
          repeat' (first | refine And.intro ?_ ?_ | intro _)
          all_goals (try (first | omega | (unfold r32; omega) | exact hQ | exact qe hQ (by omega) | exact qe hQ (by (repeat' split) <;> omega) | exact b01 | exact n01 | exact n21 | exact n31 | exact absurd trivial (by assumption)))
          refine h134 _ _ (by omega) ?_
          apply s_105_24
          try simp only [mi_1, fl_1_4, mi_12, cm_o, cl_0, cu_0, fl_1_3, mi_9, fl_1_8, mi_55, ml_55, fl_55, up_55, cl_1, cm_1, cn_1, ca_1, cz_1, fl_12_3, up_12_3, hc, true_and, and_true, true_or, or_true, implies_true, b10_0, b10_1]
          repeat' (first | refine And.intro ?_ ?_ | intro _)
          all_goals (try (first | omega | (unfold r32; omega) | exact hQ | exact qe hQ (by omega) | exact qe hQ (by (repeat' split) <;> omega) | exact b01 | exact n01 | exact n21 | exact n31 | exact absurd trivial (by assumption)))
          refine c17' _ _ (by omega) ?_
          apply s_105_36
          try simp only [mi_1, fl_1_4, mi_12, cm_o, cl_0, cu_0, fl_1_3, mi_9, fl_1_8, mi_55, ml_55, fl_55, up_55, cl_1, cm_1, cn_1, ca_1, cz_1, fl_12_3, up_12_3, true_and, and_true, true_or, or_true, implies_true, b10_0, b10_1]
          repeat' (first | refine And.intro ?_ ?_ | intro _)
          all_goals (try (first | omega | (unfold r32; omega) | exact hQ | exact qe hQ (by omega) | exact qe hQ (by (repeat' split) <;> omega) | exact b01 | exact n01 | exact n21 | exact n31 | exact absurd trivial (by assumption)))
        have q2 : Ret X 60 186 [(2, 87), (0, (c : Int)), (0, s), (0, n), (3, 0), (3, 0), (3, 0), (3, 0), (3, 0), (3, 0)] g (some (0, -1003)) g := by
          intro d Q hd hQ
          apply s_186_0
          try simp only [mi_87, fl_87_29, mi_111, ml_111, fl_111, up_111, fl_87_14, mi_100, ml_100, fl_100, up_100, fl_87_27, mi_110, ml_110, fl_110, up_110, fl_87_17, mi_103, ml_103, fl_103, up_103, fl_87_11, mi_97, ml_97, fl_97, up_97, true_and, and_true, true_or, or_true, implies_true, b10_0, b10_1]
          repeat' (first | refine And.intro ?_ ?_ | intro _)
          all_goals (try (first | omega | (unfold r32; omega) | exact hQ | exact qe hQ (by omega) | exact qe hQ (by (repeat' split) <;> omega) | exact b01 | exact n01 | exact n21 | exact n31 | exact absurd trivial (by assumption)))
          refine c174 X _ _ _ _ (by omega) ?_
          apply s_186_4
          try simp only [mi_87, fl_87_29, mi_111, ml_111, fl_111, up_111, fl_87_14, mi_100, ml_100, fl_100, up_100, fl_87_27, mi_110, ml_110, fl_110, up_110, fl_87_17, mi_103, ml_103, fl_103, up_103, fl_87_11, mi_97, ml_97, fl_97, up_97, true_and, and_true, true_or, or_true, implies_true, b10_0, b10_1]
          repeat' (first | refine And.intro ?_ ?_ | intro _)
          all_goals (try (first | omega | (unfold r32; omega) | exact hQ | exact qe hQ (by omega) | exact qe hQ (by (repeat' split) <;> omega) | exact b01 | exact n01 | exact n21 | exact n31 | exact absurd trivial (by assumption)))
          refine h185 _ _ (by omega) ?_
          apply s_186_16
          try simp only [mi_87, fl_87_29, mi_111, ml_111, fl_111, up_111, fl_87_14, mi_100, ml_100, fl_100, up_100, fl_87_27, mi_110, ml_110, fl_110, up_110, fl_87_17, mi_103, ml_103, fl_103, up_103, fl_87_11, mi_97, ml_97, fl_97, up_97, true_and, and_true, true_or, or_true, implies_true, b10_0, b10_1]
          repeat' (first | refine And.intro ?_ ?_ | intro _)
          all_goals (try (first | omega | (unfold r32; omega) | exact hQ | exact qe hQ (by omega) | exact qe hQ (by (repeat' split) <;> omega) | exact b01 | exact n01 | exact n21 | exact n31 | exact absurd trivial (by assumption)))
          refine c176' _ _ (by omega) ?_
          apply s_186_28
          try simp only [mi_87, fl_87_29, mi_111, ml_111, fl_111, up_111, fl_87_14, mi_100, ml_100, fl_100, up_100, fl_87_27, mi_110, ml_110, fl_110, up_110, fl_87_17, mi_103, ml_103, fl_103, up_103, fl_87_11, mi_97, ml_97, fl_97, up_97, true_and, and_true, true_or, or_true, implies_true, b10_0, b10_1]
          repeat' (first | refine And.intro ?_ ?_ | intro _)
          all_goals (try (first | omega | (unfold r32; omega) | exact hQ | exact qe hQ (by omega) | exact qe hQ (by (repeat' split) <;> omega) | exact b01 | exact n01 | exact n21 | exact n31 | exact absurd trivial (by assumption)))
        exact PR_of q1 q2 rr d Q hd hQ
    · rw [if_neg hs] at h134 h185
      have q1 : Ret X 60 105 [(2, 1), (0, (c : Int)), (0, s), (0, n), (3, 0), (3, 0), (3, 0)] g (some (0, -1002)) g := by
        intro d Q hd hQ
        apply s_105_0
        try simp only [mi_1, fl_1_4, mi_12, cm_o, cl_0, cu_0, fl_1_3, mi_9, fl_1_8, mi_55, ml_55, fl_55, up_55, cl_1, cm_1, cn_1, ca_1, cz_1, fl_12_3, up_12_3, true_and, and_true, true_or, or_true, implies_true, b10_0, b10_1]
        repeat' (first | refine And.intro ?_ ?_ | intro _)
        all_goals (try (first | omega | (unfold r32; omega) | exact hQ | exact qe hQ (by omega) | exact qe hQ (by (repeat' split) <;> omega) | exact b01 | exact n01 | exact n21 | exact n31 | exact absurd trivial (by assumption)))
        refine c32 X g hc _ _ (by omega) ?_
        apply s_105_8
        try simp only [mi_1, fl_1_4, mi_12, cm_o, cl_0, cu_0, fl_1_3, mi_9, fl_1_8, mi_55, ml_55, fl_55, up_55, cl_1, cm_1, cn_1, ca_1, cz_1, fl_12_3, up_12_3, true_and, and_true, true_or, or_true, implies_true, b10_0, b10_1]
        repeat' (first | refine And.intro ?_ ?_ | intro _)
        all_goals (try (first | omega | (unfold r32; omega) | exact hQ | exact qe hQ (by omega) | exact qe hQ (by (repeat' split) <;> omega) | exact b01 | exact n01 | exact n21 | exact n31 | exact absurd trivial (by assumption)))
        refine h134 _ _ (by omega) ?_
        apply s_105_24
        try simp only [mi_1, fl_1_4, mi_12, cm_o, cl_0, cu_0, fl_1_3, mi_9, fl_1_8, mi_55, ml_55, fl_55, up_55, cl_1, cm_1, cn_1, ca_1, cz_1, fl_12_3, up_12_3, true_and, and_true, true_or, or_true, implies_true, b10_0, b10_1]
        repeat' (first | refine And.intro ?_ ?_ | intro _)
        all_goals (try (first | omega | (unfold r32; omega) | exact hQ | exact qe hQ (by omega) | exact qe hQ (by (repeat' split) <;> omega) | exact b01 | exact n01 | exact n21 | exact n31 | exact absurd trivial (by assumption)))
      have q2 : Ret X 60 186 [(2, 87), (0, (c : Int)), (0, s), (0, n), (3, 0), (3, 0), (3, 0), (3, 0), (3, 0), (3, 0)] g (some (0, -1002)) g := by
        intro d Q hd hQ
        apply s_186_0
        try simp only [mi_87, fl_87_29, mi_111, ml_111, fl_111, up_111, fl_87_14, mi_100, ml_100, fl_100, up_100, fl_87_27, mi_110, ml_110, fl_110, up_110, fl_87_17, mi_103, ml_103, fl_103, up_103, fl_87_11, mi_97, ml_97, fl_97, up_97, true_and, and_true, true_or, or_true, implies_true, b10_0, b10_1]
        repeat' (first | refine And.intro ?_ ?_ | intro _)
        all_goals (try (first | omega | (unfold r32; omega) | exact hQ | exact qe hQ (by omega) | exact qe hQ (by (repeat' split) <;> omega) | exact b01 | exact n01 | exact n21 | exact n31 | exact absurd trivial (by assumption)))
        refine c174 X _ _ _ _ (by omega) ?_
        apply s_186_4
        try simp only [mi_87, fl_87_29, mi_111, ml_111, fl_111, up_111, fl_87_14, mi_100, ml_100, fl_100, up_100, fl_87_27, mi_110, ml_110, fl_110, up_110, fl_87_17, mi_103, ml_103, fl_103, up_103, fl_87_11, mi_97, ml_97, fl_97, up_97, true_and, and_true, true_or, or_true, implies_true, b10_0, b10_1]
        repeat' (first | refine And.intro ?_ ?_ | intro _)
        all_goals (try (first | omega | (unfold r32; omega) | exact hQ | exact qe hQ (by omega) | exact qe hQ (by (repeat' split) <;> omega) | exact b01 | exact n01 | exact n21 | exact n31 | exact absurd trivial (by assumption)))
        refine h185 _ _ (by omega) ?_
        apply s_186_16
        try simp only [mi_87, fl_87_29, mi_111, ml_111, fl_111, up_111, fl_87_14, mi_100, ml_100, fl_100, up_100, fl_87_27, mi_110, ml_110, fl_110, up_110, fl_87_17, mi_103, ml_103, fl_103, up_103, fl_87_11, mi_97, ml_97, fl_97, up_97, true_and, and_true, true_or, or_true, implies_true, b10_0, b10_1]
        repeat' (first | refine And.intro ?_ ?_ | intro _)
        all_goals (try (first | omega | (unfold r32; omega) | exact hQ | exact qe hQ (by omega) | exact qe hQ (by (repeat' split) <;> omega) | exact b01 | exact n01 | exact n21 | exact n31 | exact absurd trivial (by assumption)))
      exact PR_of q1 q2 rr d Q hd hQ
  · have q1 : Ret X 60 105 [(2, 1), (0, a), (0, s), (0, n), (3, 0), (3, 0), (3, 0)] g (some (0, -1001)) g := by
      intro d Q hd hQ
      apply s_105_0
      try simp only [mi_1, fl_1_4, mi_12, cm_o, cl_0, cu_0, fl_1_3, mi_9, fl_1_8, mi_55, ml_55, fl_55, up_55, cl_1, cm_1, cn_1, ca_1, cz_1, fl_12_3, up_12_3, true_and, and_true, true_or, or_true, implies_true, b10_0, b10_1]
      repeat' (first | refine And.intro ?_ ?_ | intro _)
      all_goals (try (first | omega | (unfold r32; omega) | exact hQ | exact qe hQ (by omega) | exact qe hQ (by (repeat' split) <;> omega) | exact b01 | exact n01 | exact n21 | exact n31 | exact absurd trivial (by assumption)))
      refine c32n X g _ ha _ _ (by omega) ?_
      apply s_105_8
      try simp only [mi_1, fl_1_4, mi_12, cm_o, cl_0, cu_0, fl_1_3, mi_9, fl_1_8, mi_55, ml_55, fl_55, up_55, cl_1, cm_1, cn_1, ca_1, cz_1, fl_12_3, up_12_3, true_and, and_true, true_or, or_true, implies_true, b10_0, b10_1]
      repeat' (first | refine And.intro ?_ ?_ | intro _)
      all_goals (try (first | omega | (unfold r32; omega) | exact hQ | exact qe hQ (by omega) | exact qe hQ (by (repeat' split) <;> omega) | exact b01 | exact n01 | exact n21 | exact n31 | exact absurd trivial (by assumption)))
    have q2 : Ret X 60 186 [(2, 87), (0, a), (0, s), (0, n), (3, 0), (3, 0), (3, 0), (3, 0), (3, 0), (3, 0)] g (some (0, -1001)) g := by
      intro d Q hd hQ
      apply s_186_0
      try simp only [mi_87, fl_87_29, mi_111, ml_111, fl_111, up_111, fl_87_14, mi_100, ml_100, fl_100, up_100, fl_87_27, mi_110, ml_110, fl_110, up_110, fl_87_17, mi_103, ml_103, fl_103, up_103, fl_87_11, mi_97, ml_97, fl_97, up_97, true_and, and_true, true_or, or_true, implies_true, b10_0, b10_1]
      repeat' (first | refine And.intro ?_ ?_ | intro _)
      all_goals (try (first | omega | (unfold r32; omega) | exact hQ | exact qe hQ (by omega) | exact qe hQ (by (repeat' split) <;> omega) | exact b01 | exact n01 | exact n21 | exact n31 | exact absurd trivial (by assumption)))
      refine c174 X _ _ _ _ (by omega) ?_
      apply s_186_4
      try simp only [mi_87, fl_87_29, mi_111, ml_111, fl_111, up_111, fl_87_14, mi_100, ml_100, fl_100, up_100, fl_87_27, mi_110, ml_110, fl_110, up_110, fl_87_17, mi_103, ml_103, fl_103, up_103, fl_87_11, mi_97, ml_97, fl_97, up_97, true_and, and_true, true_or, or_true, implies_true, b10_0, b10_1]
      repeat' (first | refine And.intro ?_ ?_ | intro _)
      all_goals (try (first | omega | (unfold r32; omega) | exact hQ | exact qe hQ (by omega) | exact qe hQ (by (repeat' split) <;> omega) | exact b01 | exact n01 | exact n21 | exact n31 | exact absurd trivial (by assumption)))
    exact PR_of q1 q2 rr d Q hd hQ
