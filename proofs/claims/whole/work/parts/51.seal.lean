/-! seals -/
def nearf (w h q : Int) (side : Nat) : Int := if side = 0 then (if 0 < q / w then q - w else -1) else if side = 1 then (if 0 < q % w then q - 1 else -1) else if side = 2 then (if q % w < w - 1 then q + 1 else -1) else (if q / w < h - 1 then q + w else -1)
def Iseal (g : mF) (s : Nat) : Prop := Ipath g s ∧ (∀ q, q < 36 → g 89 (36 * s + q) = g (59 + 5 * s) q ∧ (g (59 + 5 * s) q = 0 ∨ g (59 + 5 * s) q = 1)) ∧ (∀ q : Nat, q < 36 → g (56 + 5 * s) 0 * g (56 + 5 * s) 1 ≤ (q : Int) → g (59 + 5 * s) q = 0) ∧ (∀ q, q < 36 → g (58 + 5 * s) q = -1 ∨ ∃ i : Nat, (i : Int) < g (56 + 5 * s) 2 ∧ g (58 + 5 * s) q = (i : Int) ∧ g (57 + 5 * s) i = (q : Int)) ∧ (∀ i : Nat, (i : Int) < g (56 + 5 * s) 2 → g (58 + 5 * s) (g (57 + 5 * s) i).toNat = (i : Int) ∧ g (57 + 5 * s) i < g (56 + 5 * s) 0 * g (56 + 5 * s) 1) ∧ (∀ q : Nat, (q : Int) < g (56 + 5 * s) 0 * g (56 + 5 * s) 1 → ∀ side, side < 4 → g (60 + 5 * s) (4 * q + side) = nearf (g (56 + 5 * s) 0) (g (56 + 5 * s) 1) (q : Int) side) ∧ ∀ i : Nat, (i : Int) + 1 < g (56 + 5 * s) 2 → ∃ side, side < 4 ∧ nearf (g (56 + 5 * s) 0) (g (56 + 5 * s) 1) (g (57 + 5 * s) i) side = g (57 + 5 * s) (i + 1)
theorem Iseal_fr {g g' : mF} {s : Nat} (hs : s < 6) (f : ∀ o k, (o = 87 ∨ o = 88 ∨ o = 91) ∧ k = s ∨ (o = 89 ∨ o = 90) ∧ 36 * s ≤ k ∧ k < 36 * s + 36 ∨ 56 + 5 * s ≤ o ∧ o < 61 + 5 * s → g' o k = g o k) (h : Iseal g s) : Iseal g' s := by
  have e0 : ∀ k, g' (56 + 5 * s) k = g (56 + 5 * s) k := fun k => f _ _ (by omega)
  have e1 : ∀ k, g' (57 + 5 * s) k = g (57 + 5 * s) k := fun k => f _ _ (by omega)
  have e2 : ∀ k, g' (58 + 5 * s) k = g (58 + 5 * s) k := fun k => f _ _ (by omega)
  have e3 : ∀ k, g' (59 + 5 * s) k = g (59 + 5 * s) k := fun k => f _ _ (by omega)
  have e4 : ∀ k, g' (60 + 5 * s) k = g (60 + 5 * s) k := fun k => f _ _ (by omega)
  obtain ⟨⟨p1, p2, p3, p4⟩, h2, h3⟩ := h
  unfold Iseal Ipath
  simp only [e0, e1, e2, e3, e4, f 87 s (by omega), f 88 s (by omega), f 91 s (by omega)]
  refine ⟨⟨p1, p2, p3, fun i hi => ?_⟩, fun q hq => ?_, h3⟩
  · rw [f 90 _ (by omega)]
    exact p4 i hi
  · rw [f 89 _ (by omega)]
    exact h2 q hq
theorem c232 (X : mX) (g : mF) {R : Int} {o N : Nat} (hm : mis SH R 10) (hl : mln SH R = (N : Int)) (hw : ∀ g i x, mup (fl g) (mix R) i x = fl (mup g o i x)) (hN : N ≤ 1000) (v : Int) : Ret X 0 232 [(2, R), (0, v), (3, 0), (3, 0)] g none (mfl g o 0 N v) := by
  intro d Q hd hQ
  apply s_232_0
  refine ⟨hm, by rw [hl]; unfold r32; omega, ?_⟩
  rw [hl]
  have key := lup (P := fun i => Wp X d SH 232 5 [(2, R), (0, v), (0, (i : Int)), (0, (N : Int))] [] SH (fl (mfl g o 0 i v)) Q) N ?_ ?_ 0 (by omega)
  · rw [mfl_0] at key
    exact key
  · apply s_232_5
    exact ⟨fun _ => hQ, fun z => absurd (Int.le_refl _) z⟩
  · intro i hi ih
    apply s_232_5
    refine ⟨fun z => by omega, fun _ => ⟨hm, by omega, by rw [hl]; omega, ?_⟩⟩
    rw [hw, show ((i : Int)).toNat = 0 + i by omega, mfl_s]
    apply s_232_14
    refine ⟨by unfold r32; omega, ?_⟩
    rw [show ((i + 1 : Nat) : Int) = (i : Int) + 1 by omega] at ih
    exact ih
theorem c61 (X : mX) (g : mF) {s : Nat} (hs : s < 6) : Ret X 1 61 [(2, 57 + 5 * (s : Int))] g none (mfl (mup g (56 + 5 * s) 2 0) (58 + 5 * s) 0 36 (-1)) := by
  intro d Q hd hQ
  apply s_61_0
  try simp only [sm_o, sl_2, su_2, sl_4, sm_4, sn_4, sa_4, sz_4, hs, true_and, and_true, true_or, or_true, implies_true, b10_0, b10_1]
  repeat' (first | refine And.intro ?_ ?_ | intro _)
  all_goals (try (first | omega | (unfold r32; omega) | exact hQ | exact qe hQ (by omega) | exact qe hQ (by (repeat' split) <;> omega) | exact b01))
  apply s_61_5
  try simp only [sm_o, sl_2, su_2, sl_4, sm_4, sn_4, sa_4, sz_4, hs, true_and, and_true, true_or, or_true, implies_true, b10_0, b10_1]
  repeat' (first | refine And.intro ?_ ?_ | intro _)
  all_goals (try (first | omega | (unfold r32; omega) | exact hQ | exact qe hQ (by omega) | exact qe hQ (by (repeat' split) <;> omega) | exact b01))
  refine c232 X (mup g (56 + 5 * s) 2 0) (R := 59 + 5 * (s : Int)) (o := 58 + 5 * s) (N := 36) (sm_4 hs) (sn_4 hs) (fun g i x => sz_4 g hs i x) (by omega) (-1) _ _ (by omega) ?_
  apply s_61_13
  try simp only [sm_o, sl_2, su_2, sl_4, sm_4, sn_4, sa_4, sz_4, true_and, and_true, true_or, or_true, implies_true, b10_0, b10_1]
  repeat' (first | refine And.intro ?_ ?_ | intro _)
  all_goals (try (first | omega | (unfold r32; omega) | exact hQ | exact qe hQ (by omega) | exact qe hQ (by (repeat' split) <;> omega) | exact b01))
/-- wipe -/
theorem T_wipe (X : mX) (g : mF) (a : Int) (hI : ∀ s, s < 6 → Iseal g s) : ∃ r g1 g2, Ret X 60 88 [(2, 1), (0, a), (3, 0), (3, 0)] g (some (0, r)) g1 ∧ Ret X 60 154 [(2, 87), (0, a), (3, 0)] g1 (some (0, r)) g2 ∧ (∀ s, s < 6 → Iseal g2 s) ∧ Chg (fun o _ => 56 ≤ o ∧ o < 86 ∨ o = 91) g g2 := by
  by_cases ha : 0 ≤ a ∧ a ≤ 5
  · obtain ⟨s, rfl⟩ : ∃ s : Nat, a = (s : Int) := ⟨a.toNat, by omega⟩
    have hs : s < 6 := by omega
    have e : ((s : Int)).toNat = s := by omega
    obtain ⟨⟨p1, p2, ⟨p3, p4, p5⟩, p6⟩, h2, h3, h4, h5, h6, h7⟩ := hI s hs
    have c := c61 X g hs
    generalize hg1 : mfl (mup g (56 + 5 * s) 2 0) (58 + 5 * s) 0 36 (-1) = g1 at c
    have fo1 : ∀ o k, ¬ (o = 56 + 5 * s ∧ k = 2 ∨ o = 58 + 5 * s) → g1 o k = g o k := by
      intro o k ho
      rw [← hg1, mfl_n (by omega), mup_n (by omega)]
    have q0 : g1 (56 + 5 * s) 2 = 0 := by rw [← hg1, mfl_n (by omega), mup_e]
    have q1 : ∀ q, q < 36 → g1 (58 + 5 * s) q = -1 := by
      intro q hq
      rw [← hg1, mfl_e (by omega)]
    have s0 : g1 91 s = g (56 + 5 * s) 2 := by rw [fo1 91 s (by omega), p3]
    generalize hg2 : mup g1 91 s 0 = g2
    have fo2 : ∀ o k, ¬ (o = 91 ∧ k = s) → g2 o k = g1 o k := by
      intro o k ho
      rw [← hg2, mup_n (by omega)]
    have s1 : g2 91 s = 0 := by rw [← hg2, mup_e]
    have fo : ∀ o k, ¬ (o = 56 + 5 * s ∧ k = 2 ∨ o = 58 + 5 * s ∨ o = 91 ∧ k = s) → g2 o k = g o k := by
      intro o k ho
      rw [fo2 o k (by omega), fo1 o k (by omega)]
    refine ⟨g (56 + 5 * s) 2, g1, g2, ?_, ?_, ?_, fun o k ho => fo o k (by omega)⟩
    · intro d Q hd hQ
      apply s_88_0
      try simp only [mi_1, sm_o, sl_2, su_2, hs, true_and, and_true, true_or, or_true, implies_true, b10_0, b10_1]
      repeat' (first | refine And.intro ?_ ?_ | intro _)
      all_goals (try (first | omega | (unfold r32; omega) | exact hQ | exact qe hQ (by omega) | exact qe hQ (by (repeat' split) <;> omega) | exact b01))
      refine c135 X g hs _ _ (by omega) ?_
      refine s_88_5 (by simp) ?_
      simp only [mi_1, sm_o, sl_2, su_2, hs, true_and]
      refine ⟨fun _ => ?_, fun z => by omega⟩
      apply s_88_19
      try simp only [mi_1, sm_o, sl_2, su_2, hs, true_and, and_true, true_or, or_true, implies_true, b10_0, b10_1]
      repeat' (first | refine And.intro ?_ ?_ | intro _)
      all_goals (try (first | omega | (unfold r32; omega) | exact hQ | exact qe hQ (by omega) | exact qe hQ (by (repeat' split) <;> omega) | exact b01))
      refine c _ _ (by omega) ?_
      apply s_88_23
      try simp only [mi_1, sm_o, sl_2, su_2, true_and, and_true, true_or, or_true, implies_true, b10_0, b10_1]
      repeat' (first | refine And.intro ?_ ?_ | intro _)
      all_goals (try (first | omega | (unfold r32; omega) | exact hQ | exact qe hQ (by omega) | exact qe hQ (by (repeat' split) <;> omega) | exact b01))
    · intro d Q hd hQ
      repeat' (first
        | (exfalso; omega)
        | (exact absurd trivial (by assumption))
        | (apply s_154_0; try simp only [mi_87, fl_87_4, mi_92, ml_92, fl_92, up_92, e, s0, hg2, true_and, and_true, true_or, or_true, implies_true, b10_0, b10_1])
        | (apply s_154_4; try simp only [mi_87, fl_87_4, mi_92, ml_92, fl_92, up_92, e, s0, hg2, true_and, and_true, true_or, or_true, implies_true, b10_0, b10_1])
        | (apply s_154_18; try simp only [mi_87, fl_87_4, mi_92, ml_92, fl_92, up_92, e, s0, hg2, true_and, and_true, true_or, or_true, implies_true, b10_0, b10_1])
        | (refine c147 X _ _ _ _ (by omega) ?_)
        | (refine And.intro ?_ ?_)
        | (intro _)
        | omega
        | (unfold r32; omega)
        | (exact hQ)
        | (exact qe hQ (by omega))
        | (exact qe hQ (by (repeat' split) <;> omega))
        | (exact b01))
    · intro s' hs'
      by_cases hss : s' = s
      · subst hss
        have e0 := fo (56 + 5 * s') 0 (by omega)
        have e1 := fo (56 + 5 * s') 1 (by omega)
        have e2 : g2 (56 + 5 * s') 2 = 0 := by rw [fo2 _ _ (by omega), q0]
        have e3 : ∀ k, g2 (59 + 5 * s') k = g (59 + 5 * s') k := fun k => fo _ _ (by omega)
        have e4 : ∀ k, g2 (60 + 5 * s') k = g (60 + 5 * s') k := fun k => fo _ _ (by omega)
        have e5 : ∀ k, g2 89 k = g 89 k := fun k => fo _ _ (by omega)
        unfold Iseal Ipath
        simp only [e0, e1, e2, e3, e4, e5, s1, fo 87 s' (by omega), fo 88 s' (by omega)]
        refine ⟨⟨p1, p2, ⟨trivial, by omega, by omega⟩, fun i hi => absurd hi (by omega)⟩, h2, h3, fun q hq => Or.inl ?_, fun i hi => absurd hi (by omega), h6, fun i hi => absurd hi (by omega)⟩
        rw [fo2 _ _ (by omega), q1 q hq]
      · exact Iseal_fr hs' (fun o k ho => fo o k (by omega)) (hI s' hs')
  · refine ⟨-1001, g, g, ?_, ?_, hI, Chg_w Chg_r (fun _ _ z => z.elim)⟩
    · intro d Q hd hQ
      apply s_88_0
      try simp only [mi_1, sm_o, sl_2, su_2, true_and, and_true, true_or, or_true, implies_true, b10_0, b10_1]
      repeat' (first | refine And.intro ?_ ?_ | intro _)
      all_goals (try (first | omega | (unfold r32; omega) | exact hQ | exact qe hQ (by omega) | exact qe hQ (by (repeat' split) <;> omega) | exact b01))
      refine c135n X g _ ha _ _ (by omega) ?_
      refine s_88_5 (by simp) ?_
      exact ⟨fun z => absurd rfl z, fun _ => hQ⟩
    · intro d Q hd hQ
      repeat' (first
        | (exfalso; omega)
        | (exact absurd trivial (by assumption))
        | (apply s_154_0; try simp only [mi_87, fl_87_4, mi_92, ml_92, fl_92, up_92, true_and, and_true, true_or, or_true, implies_true, b10_0, b10_1])
        | (apply s_154_4; try simp only [mi_87, fl_87_4, mi_92, ml_92, fl_92, up_92, true_and, and_true, true_or, or_true, implies_true, b10_0, b10_1])
        | (apply s_154_18; try simp only [mi_87, fl_87_4, mi_92, ml_92, fl_92, up_92, true_and, and_true, true_or, or_true, implies_true, b10_0, b10_1])
        | (refine c147 X _ _ _ _ (by omega) ?_)
        | (refine And.intro ?_ ?_)
        | (intro _)
        | omega
        | (unfold r32; omega)
        | (exact hQ)
        | (exact qe hQ (by omega))
        | (exact qe hQ (by (repeat' split) <;> omega))
        | (exact b01))
