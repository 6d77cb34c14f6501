/-! feed -/
def FdC (x : Int) (n L o p q : Nat) (g : mF) (i : Nat) (g' : mF) : Prop := (∀ a b, ¬ (a = o ∧ L ≤ b ∧ b < L + n ∨ a = p ∧ b = q) → g' a b = g a b) ∧ g' p q = ((L + i : Nat) : Int) ∧ ∀ t, t < i → g' o (L + t) = byt x (n - 1 - t)
theorem FdC_s {x : Int} {n L o p q : Nat} {g g' : mF} {i : Nat} (hop : o ≠ p) (hi : i < n) (h : FdC x n L o p q g i g') : FdC x n L o p q g (i + 1) (mup (mup g' o (L + i) (byt x (n - 1 - i))) p q (((L + i : Nat) : Int) + 1)) := by
  obtain ⟨f1, f2, f3⟩ := h
  refine ⟨fun a b hab => ?_, ?_, fun t ht => ?_⟩
  · rw [mup_n (by omega), mup_n (by omega)]
    exact f1 a b hab
  · rw [mup_e]
    omega
  · rw [mup_n (by omega)]
    by_cases hti : t = i
    · subst hti
      rw [mup_e]
    · rw [mup_n (by omega)]
      exact f3 t (by omega)
theorem c46 (X : mX) (g : mF) {n L : Nat} {x : Int} (hn : 1 ≤ n ∧ n ≤ 8) (hL : g 49 1 = (L : Int)) (h160 : L + n ≤ 160) : Rel X 0 46 [(2, 50), (0, (n : Int)), (1, x), (3, 0), (3, 0)] g (fun r g' => r = none ∧ FdC x n L 51 49 1 g n g') := by
  intro d Q hd hQ
  have key := lup (P := fun i => ∀ g', FdC x n L 51 49 1 g i g' → Wp X d SH 46 5 [(2, 50), (0, (n : Int)), (1, x), (3, 0), (0, (n : Int) - 1 - (i : Int))] [] SH (fl g') Q) n ?_ ?_ 0 (by omega)
  · have k0 := key g ⟨fun _ _ _ => rfl, by rw [hL] <;> rfl, fun t ht => absurd ht (by omega)⟩
    rw [show (n : Int) - 1 - ((0 : Nat) : Int) = (n : Int) - 1 by omega] at k0
    exact s_46_0 n31 ⟨by unfold r32; omega, k0⟩
  · intro g' hP
    apply s_46_5
    exact ⟨fun _ => hQ none g' ⟨rfl, hP⟩, fun z => absurd (show (n : Int) - 1 - (n : Int) < 0 by omega) z⟩
  · intro i hi ih g' hP
    have f2 := hP.2.1
    have ei : 8 * ((n : Int) - 1 - (i : Int)) = 8 * ((n - 1 - i : Nat) : Int) := by omega
    have eL : (((L + i : Nat) : Int)).toNat = L + i := by omega
    have nx := ih _ (FdC_s (by omega) hi hP)
    rw [show (n : Int) - 1 - ((i + 1 : Nat) : Int) = (n : Int) - 1 - (i : Int) + (-1) by omega] at nx
    generalize hg1 : mup g' 51 (L + i) (byt x (n - 1 - i)) = g1 at nx
    have q1 : g1 49 1 = ((L + i : Nat) : Int) := by rw [← hg1, mup_n (by omega)]; exact f2
    have w : Wp X d SH 46 31 [(2, 50), (0, (n : Int)), (1, x), (3, 0), (0, (n : Int) - 1 - (i : Int))] [] SH (fl g1) Q := by
      apply s_46_31
      rw [fl_50_1, up_50_1, q1]
      exact ⟨mi_50, by unfold r32; omega, mi_50, s_46_41 n31 ⟨by unfold r32; omega, nx⟩⟩
    apply s_46_5
    rw [fl_50_1, fl_50_3, f2, eL, ei, ml_52, up_52]
    refine ⟨fun z => absurd z (by omega), fun _ => ⟨mi_50, mi_50, by unfold r32; omega, mi_52, by omega, by omega, ?_⟩⟩
    rw [← hg1] at w
    exact w
theorem c217l (X : mX) (g : mF) {n L : Nat} {x : Int} (hn : 1 ≤ n ∧ n ≤ 8) (hL : g 86 44 = (L : Int)) (h160 : L + n ≤ 160) {d : Nat} {Q : mQ} (hQ : ∀ g', FdC x n L 120 86 44 g n g' → Q (some (0, ((L + n : Nat) : Int))) (fl g')) : Wp X d SH 217 37 [(2, 87), (0, (n : Int)), (1, x), (3, 0), (0, (n : Int) - 1)] [] SH (fl g) Q := by
  have key := lup (P := fun i => ∀ g', FdC x n L 120 86 44 g i g' → Wp X d SH 217 37 [(2, 87), (0, (n : Int)), (1, x), (3, 0), (0, (n : Int) - 1 - (i : Int))] [] SH (fl g') Q) n ?_ ?_ 0 (by omega)
  · have k0 := key g ⟨fun _ _ _ => rfl, by rw [hL] <;> rfl, fun t ht => absurd ht (by omega)⟩
    rw [show (n : Int) - 1 - ((0 : Nat) : Int) = (n : Int) - 1 by omega] at k0
    exact k0
  · intro g' hP
    have q0 := hQ g' hP
    apply s_217_37
    rw [fl_87_44, hP.2.1]
    exact ⟨fun _ => ⟨mi_87, q0⟩, fun z => absurd (show (n : Int) - 1 - (n : Int) < 0 by omega) z⟩
  · intro i hi ih g' hP
    have f2 := hP.2.1
    have ei : 8 * ((n : Int) - 1 - (i : Int)) = 8 * ((n - 1 - i : Nat) : Int) := by omega
    have eL : (((L + i : Nat) : Int)).toNat = L + i := by omega
    have nx := ih _ (FdC_s (by omega) hi hP)
    rw [show (n : Int) - 1 - ((i + 1 : Nat) : Int) = (n : Int) - 1 - (i : Int) + (-1) by omega] at nx
    generalize hg1 : mup g' 120 (L + i) (byt x (n - 1 - i)) = g1 at nx
    have q1 : g1 86 44 = ((L + i : Nat) : Int) := by rw [← hg1, mup_n (by omega)]; exact f2
    have w : Wp X d SH 217 63 [(2, 87), (0, (n : Int)), (1, x), (3, 0), (0, (n : Int) - 1 - (i : Int))] [] SH (fl g1) Q := by
      apply s_217_63
      rw [fl_87_44, up_87_44, q1]
      exact ⟨mi_87, by unfold r32; omega, mi_87, s_217_73 n31 ⟨by unfold r32; omega, nx⟩⟩
    apply s_217_37
    rw [fl_87_44, fl_87_43, f2, eL, ei, byt_m (by omega), ml_121, up_121, hg1]
    exact ⟨fun z => absurd z (by omega), fun _ => ⟨mi_87, mi_87, by unfold r32; omega, mi_121, by omega, by omega, w⟩⟩
/-- feed -/
theorem T_feed (X : mX) (g : mF) (a x : Int) (hI : Irule g) : PR X 124 217 [(2, 1), (0, a), (1, x), (3, 0)] [(2, 87), (0, a), (1, x), (3, 0), (3, 0)] g (fun g2 => Irule g2 ∧ Chg (fun o k => o = 51 ∨ o = 49 ∧ k = 1 ∨ o = 120 ∨ o = 86 ∧ k = 44) g g2) := by
  obtain ⟨hr, h44, hL0, hL1, ht, h45, hp0, hp1⟩ := id hI
  obtain ⟨L, hL⟩ : ∃ L : Nat, g 49 1 = (L : Int) := ⟨(g 49 1).toNat, by omega⟩
  have c0 := fun g' => c130 X g' a 1 8
  have c1 := fun g' => c144 X g' a 1 8
  by_cases hn : 1 ≤ a ∧ a ≤ 8
  · obtain ⟨n, rfl⟩ : ∃ n : Nat, a = (n : Int) := ⟨a.toNat, by omega⟩
    rw [if_pos hn] at c0 c1
    by_cases hf : L + n ≤ 160
    · intro d Q hd hQ
      apply s_124_0
      refine ⟨by omega, ?_⟩
      refine c0 g _ _ (by omega) ?_
      apply s_124_7
      rw [fl_1_6, fl_50_1, hL]
      refine ⟨fun _ => ⟨mi_1, mi_50, by unfold r32; omega, fun _ => ⟨mi_1, by omega, mi_50, ?_⟩, fun z => absurd (by omega) z⟩, fun z => absurd (by decide) z⟩
      refine c46 X g (by omega) hL hf _ _ (by omega) ?_
      rintro _ g1 ⟨rfl, F1⟩
      apply s_124_42
      rw [fl_1_6, fl_50_1, F1.2.1]
      refine ⟨mi_1, mi_50, hQ _ g1 ⟨_, rfl, ?_⟩⟩
      clear hQ
      intro d Q hd hQ
      have e44 : g1 86 44 = (L : Int) := by rw [F1.1 _ _ (by omega), h44, hL]
      have lp := c217l X g1 (x := x) (d := d) (Q := Q) (by omega) e44 hf (fun g2 F2 => hQ _ g2 ⟨rfl, by
        have fo : ∀ o k, ¬ (o = 51 ∨ o = 49 ∧ k = 1 ∨ o = 120 ∨ o = 86 ∧ k = 44) → g2 o k = g o k := fun o k ho => by rw [F2.1 _ _ (by omega), F1.1 _ _ (by omega)]
        have l2 : g2 49 1 = ((L + n : Nat) : Int) := by rw [F2.1 _ _ (by omega)]; exact F1.2.1
        refine ⟨⟨fun k hk => ?_, by rw [F2.2.1, l2], by omega, by omega, fun j hj => ?_, ?_, ?_, ?_⟩, fo⟩
        · rw [fo _ _ (by omega), fo _ _ (by omega)]
          exact hr k hk
        · rw [F2.1 51 j (by omega)]
          by_cases hj2 : j < L
          · rw [F2.1 _ _ (by omega), F1.1 _ _ (by omega), F1.1 _ _ (by omega)]
            exact ht j (by omega)
          · obtain ⟨t, rfl⟩ : ∃ t, j = L + t := ⟨j - L, by omega⟩
            rw [F2.2.2 t (by omega), F1.2.2 t (by omega)]
            exact ⟨rfl, byt_b⟩
        · rw [fo _ _ (by omega), fo _ _ (by omega)]
          exact h45
        · rw [fo _ _ (by omega)]
          exact hp0
        · rw [fo _ _ (by omega)]
          exact hp1⟩)
      apply s_217_0
      refine ⟨by omega, ?_⟩
      refine c1 g1 _ _ (by omega) ?_
      refine s_217_9 n31 ?_
      rw [fl_87_44, e44]
      exact ⟨fun _ => ⟨mi_87, by unfold r32; omega, fun _ => ⟨by unfold r32; omega, lp⟩, fun z => absurd (by omega) z⟩, fun z => absurd (by decide) z⟩
    · refine PR_of (r := -1004) (g1 := g) (g2 := g) (fun d Q hd hQ => ?_) (fun d Q hd hQ => ?_) ⟨hI, fun _ _ _ => rfl⟩
      · apply s_124_0
        refine ⟨by omega, ?_⟩
        refine c0 g _ _ (by omega) ?_
        apply s_124_7
        rw [fl_1_6, fl_50_1, hL]
        exact ⟨fun _ => ⟨mi_1, mi_50, by unfold r32; omega, fun z => absurd z (by omega), fun _ => hQ⟩, fun z => absurd (by decide) z⟩
      · apply s_217_0
        refine ⟨by omega, ?_⟩
        refine c1 g _ _ (by omega) ?_
        refine s_217_9 n31 ?_
        rw [fl_87_44, h44, hL]
        exact ⟨fun _ => ⟨mi_87, by unfold r32; omega, fun z => absurd z (by omega), fun _ => hQ⟩, fun z => absurd (by decide) z⟩
  · rw [if_neg hn] at c0 c1
    refine PR_of (r := -1002) (g1 := g) (g2 := g) (fun d Q hd hQ => ?_) (fun d Q hd hQ => ?_) ⟨hI, fun _ _ _ => rfl⟩
    · apply s_124_0
      refine ⟨by omega, ?_⟩
      refine c0 g _ _ (by omega) ?_
      apply s_124_7
      exact ⟨fun z => absurd rfl z, fun _ => hQ⟩
    · apply s_217_0
      refine ⟨by omega, ?_⟩
      refine c1 g _ _ (by omega) ?_
      refine s_217_9 n31 ?_
      exact ⟨fun z => absurd rfl z, fun _ => hQ⟩
