/-! draw: the reference copies its row -/
def MT (s n : Nat) (ρ : Nat → Int) (g g' : mF) : Prop := (∀ o k, ¬ (o = 91 ∧ k = s ∨ o = 90 ∧ 36 * s ≤ k ∧ k < 36 * s + 36) → g' o k = g o k) ∧ g' 91 s = (n : Int) ∧ ∀ i, i < n → g' 90 (36 * s + i) = ρ i
theorem c159t (X : mX) (g : mF) {s n : Nat} (hs : s < 6) (hn : n ≤ 36) {ρ : Nat → Int} (hρ : ∀ i, i < n → g 92 i = ρ i) {v2 v3 v5 : mV} {kind x7 : Int} (h7 : 0 < x7) {d : Nat} {Q : mQ} (hQ : ∀ g', MT s n ρ g g' → Q (some (0, (n : Int))) (fl g')) : Wp X d SH 159 184 [(2, 87), (0, (s : Int)), v2, v3, (0, (n : Int)), v5, (0, kind), (0, x7), (3, 0)] [] SH (fl g) Q := by
  have es : ((s : Int)).toNat = s := by omega
  generalize hg1 : mup g 91 s (n : Int) = g1
  have f1 : ∀ o k, ¬ (o = 91 ∧ k = s) → g1 o k = g o k := fun o k ho => by rw [← hg1, mup_n (by omega)]
  have key := lup (P := fun i => ∀ g', ((∀ o k, ¬ (o = 91 ∧ k = s ∨ o = 90 ∧ 36 * s ≤ k ∧ k < 36 * s + 36) → g' o k = g o k) ∧ g' 91 s = (n : Int) ∧ ∀ j, j < i → g' 90 (36 * s + j) = ρ j) → Wp X d SH 159 215 [(2, 87), (0, (s : Int)), v2, v3, (0, (n : Int)), v5, (0, kind), (0, x7), (0, (i : Int))] [] SH (fl g') Q) n ?_ ?_ 0 (by omega)
  · have k0 := key g1 ⟨fun o k ho => f1 _ _ (by omega), by rw [← hg1, mup_e], fun j hj => absurd hj (by omega)⟩
    apply s_159_184
    rw [fl_87_4, ml_92, es, up_92, hg1]
    refine ⟨fun _ => ⟨mi_87, mi_92, by omega, by omega, ?_⟩, fun y => absurd h7 y⟩
    refine s_159_212 n01 ?_
    exact k0
  · intro g' hP
    apply s_159_215
    exact ⟨fun _ => hQ g' hP, fun y => absurd (Int.le_refl _) y⟩
  · intro i hi ih g' hP
    obtain ⟨a1, a2, a3⟩ := hP
    have ei : ((i : Int)).toNat = i := by omega
    have esi : (36 * (s : Int) + (i : Int)).toNat = 36 * s + i := by omega
    have e10 : ((i + 1 : Nat) : Int) = (i : Int) + 1 := by omega
    have t : g' 92 i = ρ i := by rw [a1 _ _ (by omega)]; exact hρ i hi
    generalize hg2 : mup g' 90 (36 * s + i) (ρ i) = g2
    have f2 : ∀ o k, ¬ (o = 90 ∧ k = 36 * s + i) → g2 o k = g' o k := fun o k ho => by rw [← hg2, mup_n (by omega)]
    have nx := ih g2 ⟨fun o k ho => by rw [f2 _ _ (by omega)]; exact a1 o k ho, by rw [f2 _ _ (by omega)]; exact a2, fun j hj => by
      by_cases hji : j = i
      · subst hji; rw [← hg2, mup_e]
      · rw [f2 _ _ (by omega)]; exact a3 j (by omega)⟩
    rw [e10] at nx
    apply s_159_215
    rw [fl_87_7, fl_87_3, ml_93, ml_91, ei, esi, fl_93, t, up_91, hg2]
    refine ⟨fun y => absurd y (by omega), fun _ => ⟨mi_87, by unfold r32; omega, by unfold r32; omega, mi_87, mi_93, by omega, by omega, mi_91, by omega, by omega, ?_⟩⟩
    refine s_159_241 n01 ?_
    exact ⟨by unfold r32; omega, nx⟩
