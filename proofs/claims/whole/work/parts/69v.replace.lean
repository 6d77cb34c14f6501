/-! draw: the new path -/
def PTH (s n : Nat) (ρ : Nat → Int) (g g' : mF) : Prop := (∀ o k, ¬ (o = 56 + 5 * s ∧ k = 2 ∨ o = 57 + 5 * s ∨ o = 58 + 5 * s) → g' o k = g o k) ∧ g' (56 + 5 * s) 2 = (n : Int) ∧ (∀ i, i < n → g' (57 + 5 * s) i = ρ i) ∧ (∀ i, i < n → g' (58 + 5 * s) (ρ i).toNat = (i : Int)) ∧ ∀ k, k < 36 → g' (58 + 5 * s) k = -1 ∨ ∃ i : Nat, i < n ∧ g' (58 + 5 * s) k = (i : Int) ∧ ρ i = (k : Int)
theorem c65 (X : mX) (g : mF) {s : Nat} (hs : s < 6) {n wh : Nat} {w : Int} {ρ : Nat → Int} (hn : n ≤ 36) (hρ : ∀ i, i < n → g 3 i = ρ i) (hG : Good w wh ρ n) (hw36 : wh ≤ 36) : Rel X 3 65 [(2, 57 + 5 * (s : Int)), (2, 4), (0, (n : Int)), (3, 0)] g (fun r g' => r = none ∧ PTH s n ρ g g') := by
  intro d Q hd hQ
  have key := lup (P := fun i => ∀ g', PTH s i ρ g g' → Wp X d SH 65 6 [(2, 57 + 5 * (s : Int)), (2, 4), (0, (n : Int)), (0, (i : Int))] [] SH (fl g') Q) n ?_ ?_ 0 (by omega)
  · have c := c61 X g hs
    generalize hg1 : mfl (mup g (56 + 5 * s) 2 0) (58 + 5 * s) 0 36 (-1) = g1 at c
    have k0 := key g1 ⟨fun o k ho => by rw [← hg1, mfl_n (by omega), mup_n (by omega)], by rw [← hg1, mfl_n (by omega), mup_e]; rfl, fun i hi => absurd hi (by omega), fun i hi => absurd hi (by omega), fun k hk => Or.inl (by rw [← hg1, mfl_e (by omega)])⟩
    apply s_65_0
    refine ⟨by omega, sm_o hs, ?_⟩
    refine c _ _ (by omega) ?_
    apply s_65_4
    exact k0
  · intro g' hP
    apply s_65_6
    exact ⟨fun _ => hQ _ _ ⟨rfl, hP⟩, fun z => absurd (Int.le_refl _) z⟩
  · intro i hi ih g' hP
    obtain ⟨a1, a2, a3, a4, a5⟩ := id hP
    obtain ⟨q1, q2, q3⟩ := hG
    have b := q1 i hi
    obtain ⟨q, hq⟩ : ∃ q : Nat, ρ i = (q : Int) := ⟨(ρ i).toNat, by omega⟩
    have e10 : ((i + 1 : Nat) : Int) = (i : Int) + 1 := by omega
    have eq : ((q : Int)).toNat = q := by omega
    have ei : ((i : Int)).toNat = i := by omega
    have t3 : g' 3 i = (q : Int) := by rw [a1 _ _ (by omega), hρ i hi, hq]
    have c := c64 X g' hs (q := q) (by omega) (by omega)
    rw [a2, ei] at c
    generalize hg2 : mup (mup (mup g' (58 + 5 * s) q (i : Int)) (57 + 5 * s) i (q : Int)) (56 + 5 * s) 2 ((i : Int) + 1) = g2 at c
    have f2 : ∀ o k, ¬ (o = 58 + 5 * s ∧ k = q ∨ o = 57 + 5 * s ∧ k = i ∨ o = 56 + 5 * s ∧ k = 2) → g2 o k = g' o k := fun o k ho => by rw [← hg2, mup_n (by omega), mup_n (by omega), mup_n (by omega)]
    have v1 : g2 (58 + 5 * s) q = (i : Int) := by rw [← hg2, mup_n (by omega), mup_n (by omega), mup_e]
    have v2 : g2 (57 + 5 * s) i = (q : Int) := by rw [← hg2, mup_n (by omega), mup_e]
    have nx := ih g2 ⟨fun o k ho => by rw [f2 _ _ (by omega)]; exact a1 o k ho, by rw [← hg2, mup_e, e10], fun j hj => by
      by_cases hji : j = i
      · subst hji; rw [v2, hq]
      · rw [f2 _ _ (by omega)]; exact a3 j (by omega), fun j hj => by
      by_cases hji : j = i
      · subst hji; rw [hq, eq]; exact v1
      · have y := q2 j i (by omega) hi
        have z := q1 j (by omega)
        rw [f2 _ _ (by omega)]
        exact a4 j (by omega), fun k hk => by
      by_cases hkq : k = q
      · subst hkq; exact Or.inr ⟨i, by omega, v1, hq⟩
      · rw [f2 _ _ (by omega)]
        rcases a5 k hk with z | ⟨j, z1, z2, z3⟩
        · exact Or.inl z
        · exact Or.inr ⟨j, by omega, z2, z3⟩⟩
    rw [e10] at nx
    apply s_65_6
    rw [ei, ml_4, fl_4, t3]
    refine ⟨fun z => absurd z (by omega), fun _ => ⟨mi_4, by omega, by omega, by omega, sm_o hs, ?_⟩⟩
    refine c _ _ (by omega) ?_
    apply s_65_18
    exact ⟨by unfold r32; omega, nx⟩
