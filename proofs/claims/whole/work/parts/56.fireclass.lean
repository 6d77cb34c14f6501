/-! the class's fire -/
theorem FI_end {B : Nat → Prop} {A : Nat → Nat → Prop} {f : Nat → Int → Int} {st : Nat} {t : Int} {b0 e0 : Nat → Int} {o0 : Int} {b e : Nat → Int} {o w : Int} {wt : Nat → Int} {r T : Int} (h : FI B A f st t b0 e0 o0 b e o w wt r T (fun _ _ => True)) (hw : w ≤ 0) : FS B A f st t b0 e0 o0 b e o ∧ ∀ i, i < 36 → B i → b i ≠ -1 → e i ≤ t + 3240 := by
  obtain ⟨⟨p1, p2, p3, p4, p5⟩, f1, f2, f3, f4, f5, f6, ⟨f7, f7'⟩, ⟨f8, f8'⟩, f9, f10, f11, f12⟩ := h
  have hn := nfr_b b
  have hE : ∀ i, i < 36 → B i → b i ≠ -1 → e i ≠ -1 := by
    intro i hi hB hne hei
    obtain ⟨j, j1, -⟩ := f10 i hi hB hne hei
    omega
  refine ⟨⟨f3, f1, ?_, ?_, ?_, f7, ?_, ?_⟩, ?_⟩
  · intro i hi hB
    have z := f2 i hi hB
    by_cases hbi : b i = -1
    · left; omega
    · have y := hE i hi hB hbi
      right; omega
  · intro i hi hB his hti
    obtain ⟨k, k1, k2, k3, k4, k5⟩ := f4 i hi hB his (by omega)
    have z := f2 k k1 k2
    exact ⟨k, k1, k2, k3, by omega, k5⟩
  · intro i hi hB his k hk hBk hA htk
    have y := hE k hk hBk (by omega)
    have z := f5 i hi hB his k hk hBk hA y trivial
    have x := f2 i hi hB
    exact ⟨by omega, z.2⟩
  · intro i hi hB hti
    have z := f2 i hi hB
    have y := hE i hi hB (by omega)
    omega
  · rcases f7' with z | ⟨i, i1, i2, i3, i4⟩
    · exact Or.inl z
    · have z := f2 i i1 i2
      exact Or.inr ⟨i, i1, i2, by omega, i4⟩
  · intro i hi hB hne
    have z := f2 i hi hB
    have y := hE i hi hB hne
    omega
theorem c1 (X : mX) (g : mF) {t : Int} (ht : 0 ≤ t ∧ t ≤ 100000) : Ret X 0 1 [(0, t), (3, 0)] g (some (0, hr t)) g := by
  intro d Q hd hQ
  unfold hr at hQ
  apply s_1_0
  try simp only [tdn ht.1, true_and, and_true, true_or, or_true, implies_true, b10_0, b10_1]
  repeat' (first | refine And.intro ?_ ?_ | intro _)
  all_goals (try (first | omega | (unfold r32; omega) | exact hQ | exact qe hQ (by omega) | exact qe hQ (by (repeat' split) <;> omega) | exact b01 | exact n01 | exact n21 | exact n31 | exact absurd trivial (by assumption)))
  apply s_1_5
  try simp only [true_and, and_true, true_or, or_true, implies_true, b10_0, b10_1]
  repeat' (first | refine And.intro ?_ ?_ | intro _)
  all_goals (try (first | omega | (unfold r32; omega) | exact hQ | exact qe hQ (by omega) | exact qe hQ (by (repeat' split) <;> omega) | exact b01 | exact n01 | exact n21 | exact n31 | exact absurd trivial (by assumption)))
theorem c2 (X : mX) {G g : mF} {D p t : Int} (hA : Agree G g) (hG : Gair G) (hD : g 5 2 = D) (hDb : -1 ≤ D ∧ D ≤ 50) (hp : 0 ≤ p ∧ p ≤ 7) (ht : 0 ≤ t ∧ t ≤ 100000) : Ret X 1 2 [(2, 6), (0, p), (0, t), (3, 0)] g (some (0, btk G D p t)) g := by
  intro d Q hd hQ
  have h0 := hr_b ht.1
  have e6 := hA 6 p.toNat (by unfold InpS; omega)
  have e7 := hA 7 (hr t).toNat (by unfold InpS; omega)
  have b6 := hG.1 p.toNat (by omega)
  have b7 := hG.2 (hr t).toNat (by omega)
  unfold btk at hQ
  by_cases z : D = -1
  · rw [if_pos z] at hQ
    have m := mulb b6 b7
    have td := tdn (show 0 ≤ G 6 p.toNat * (100 + G 7 (hr t).toNat) by omega) 100
    repeat' (first
      | (exfalso; omega)
      | (exact absurd trivial (by assumption))
      | (apply s_2_0; try simp only [mi_6, fl_6_2, up_6_2, fl_6_1, mi_8, ml_8, fl_8, up_8, fl_6_0, mi_7, ml_7, fl_7, up_7, hD, e6, e7, td, true_and, and_true, true_or, or_true, implies_true, b10_0, b10_1])
      | (apply s_2_16; try simp only [mi_6, fl_6_2, up_6_2, fl_6_1, mi_8, ml_8, fl_8, up_8, fl_6_0, mi_7, ml_7, fl_7, up_7, hD, e6, e7, td, true_and, and_true, true_or, or_true, implies_true, b10_0, b10_1])
      | (apply s_2_24; try simp only [mi_6, fl_6_2, up_6_2, fl_6_1, mi_8, ml_8, fl_8, up_8, fl_6_0, mi_7, ml_7, fl_7, up_7, hD, e6, e7, td, true_and, and_true, true_or, or_true, implies_true, b10_0, b10_1])
      | (apply s_2_25; try simp only [mi_6, fl_6_2, up_6_2, fl_6_1, mi_8, ml_8, fl_8, up_8, fl_6_0, mi_7, ml_7, fl_7, up_7, hD, e6, e7, td, true_and, and_true, true_or, or_true, implies_true, b10_0, b10_1])
      | (refine c1 X g ht _ _ (by omega) ?_)
      | (refine And.intro ?_ ?_)
      | (intro _)
      | omega
      | (unfold r32; omega)
      | (exact hQ)
      | (exact qe hQ (by omega))
      | (exact qe hQ (by (repeat' split) <;> omega))
      | (exact b01)
      | (exact n01)
      | (exact n21)
      | (exact n31))
  · rw [if_neg z] at hQ
    have m := mulb b6 (d := D) (by omega)
    have td := tdn (show 0 ≤ G 6 p.toNat * (100 + D) by omega) 100
    repeat' (first
      | (exfalso; omega)
      | (exact absurd trivial (by assumption))
      | (apply s_2_0; try simp only [mi_6, fl_6_2, up_6_2, fl_6_1, mi_8, ml_8, fl_8, up_8, fl_6_0, mi_7, ml_7, fl_7, up_7, hD, e6, td, true_and, and_true, true_or, or_true, implies_true, b10_0, b10_1])
      | (apply s_2_16; try simp only [mi_6, fl_6_2, up_6_2, fl_6_1, mi_8, ml_8, fl_8, up_8, fl_6_0, mi_7, ml_7, fl_7, up_7, hD, e6, td, true_and, and_true, true_or, or_true, implies_true, b10_0, b10_1])
      | (apply s_2_24; try simp only [mi_6, fl_6_2, up_6_2, fl_6_1, mi_8, ml_8, fl_8, up_8, fl_6_0, mi_7, ml_7, fl_7, up_7, hD, e6, td, true_and, and_true, true_or, or_true, implies_true, b10_0, b10_1])
      | (apply s_2_25; try simp only [mi_6, fl_6_2, up_6_2, fl_6_1, mi_8, ml_8, fl_8, up_8, fl_6_0, mi_7, ml_7, fl_7, up_7, hD, e6, td, true_and, and_true, true_or, or_true, implies_true, b10_0, b10_1])
      | (refine And.intro ?_ ?_)
      | (intro _)
      | omega
      | (unfold r32; omega)
      | (exact hQ)
      | (exact qe hQ (by omega))
      | (exact qe hQ (by (repeat' split) <;> omega))
      | (exact b01)
      | (exact n01)
      | (exact n21)
      | (exact n31))
theorem c23 (X : mX) (g : mF) {c x : Nat} (hc : c < 4) (hx : x < 36) (u : Int) (hw : 0 ≤ g (19 + 6 * c) 11 ∧ g (19 + 6 * c) 11 < 36) : Ret X 0 23 [(2, 20 + 6 * (c : Int)), (0, (x : Int)), (0, u)] g none (mup (mup (mup g (21 + 6 * c) x u) (24 + 6 * c) (g (19 + 6 * c) 11).toNat (x : Int)) (19 + 6 * c) 11 (g (19 + 6 * c) 11 + 1)) := by
  intro d Q hd hQ
  have e0 : ((x : Int)).toNat = x := by omega
  have e1 : mup g (21 + 6 * c) x u (19 + 6 * c) 11 = g (19 + 6 * c) 11 := mup_n (by omega)
  have e2 : mup (mup g (21 + 6 * c) x u) (24 + 6 * c) (g (19 + 6 * c) 11).toNat (x : Int) (19 + 6 * c) 11 = g (19 + 6 * c) 11 := by rw [mup_n (by omega), e1]
  repeat' (first
    | (exfalso; omega)
    | (exact absurd trivial (by assumption))
    | (apply s_23_0; try simp only [cm_o, cl_7, cm_7, cn_7, ca_7, cz_7, cl_11, cu_11, cl_10, cm_10, cn_10, ca_10, cz_10, hc, e0, e1, e2, true_and, and_true, true_or, or_true, implies_true, b10_0, b10_1])
    | (apply s_23_7; try simp only [cm_o, cl_7, cm_7, cn_7, ca_7, cz_7, cl_11, cu_11, cl_10, cm_10, cn_10, ca_10, cz_10, hc, e0, e1, e2, true_and, and_true, true_or, or_true, implies_true, b10_0, b10_1])
    | (apply s_23_26; try simp only [cm_o, cl_7, cm_7, cn_7, ca_7, cz_7, cl_11, cu_11, cl_10, cm_10, cn_10, ca_10, cz_10, hc, e0, e1, e2, true_and, and_true, true_or, or_true, implies_true, b10_0, b10_1])
    | (refine And.intro ?_ ?_)
    | (intro _)
    | omega
    | (unfold r32; omega)
    | (exact hQ)
    | (exact qe hQ (by omega))
    | (exact qe hQ (by (repeat' split) <;> omega))
    | (exact b01)
    | (exact n01)
    | (exact n21)
    | (exact n31))
/-- the earliest one that waits -/
def bst (g : mF) (c : Nat) : Nat → Nat
  | 0 => 0
  | k + 1 => if g (21 + 6 * c) (g (24 + 6 * c) (bst g c k)).toNat ≤ g (21 + 6 * c) (g (24 + 6 * c) (k + 1)).toNat then bst g c k else k + 1
theorem bst_p (g : mF) (c : Nat) : ∀ k, bst g c k ≤ k ∧ ∀ j, j ≤ k → g (21 + 6 * c) (g (24 + 6 * c) (bst g c k)).toNat ≤ g (21 + 6 * c) (g (24 + 6 * c) j).toNat := by
  intro k
  induction k with
  | zero =>
    refine ⟨by simp [bst], fun j hj => ?_⟩
    have : j = 0 := by omega
    subst this
    simp [bst]
  | succ k ih =>
    unfold bst
    by_cases h : g (21 + 6 * c) (g (24 + 6 * c) (bst g c k)).toNat ≤ g (21 + 6 * c) (g (24 + 6 * c) (k + 1)).toNat
    · rw [if_pos h]
      refine ⟨by omega, fun j hj => ?_⟩
      by_cases hjk : j = k + 1
      · subst hjk; exact h
      · exact ih.2 j (by omega)
    · rw [if_neg h]
      refine ⟨by omega, fun j hj => ?_⟩
      by_cases hjk : j = k + 1
      · subst hjk; exact Int.le_refl _
      · have := ih.2 j (by omega); omega
theorem c24 (X : mX) (g : mF) {c : Nat} (hc : c < 4) (hw : 0 < g (19 + 6 * c) 11 ∧ g (19 + 6 * c) 11 ≤ 36) (hwt : ∀ j : Nat, (j : Int) < g (19 + 6 * c) 11 → 0 ≤ g (24 + 6 * c) j ∧ g (24 + 6 * c) j < 36) : Ret X 0 24 [(2, 20 + 6 * (c : Int)), (3, 0), (3, 0)] g (some (0, g (24 + 6 * c) (bst g c (g (19 + 6 * c) 11 - 1).toNat))) (mup (mup g (19 + 6 * c) 11 (g (19 + 6 * c) 11 - 1)) (24 + 6 * c) (bst g c (g (19 + 6 * c) 11 - 1).toNat) (g (24 + 6 * c) (g (19 + 6 * c) 11 - 1).toNat)) := by
  intro d Q hd hQ
  have key := lup (P := fun k => Wp X d SH 24 4 [(2, 20 + 6 * (c : Int)), (0, (bst g c k : Int)), (0, (k : Int) + 1)] [] SH (fl g) Q) (g (19 + 6 * c) 11 - 1).toNat ?_ ?_ 0 (by omega)
  · apply s_24_0
    exact key
  · have hb := (bst_p g c (g (19 + 6 * c) 11 - 1).toNat).1
    generalize hbi : bst g c (g (19 + 6 * c) 11 - 1).toNat = bi at hb hQ
    have e0 : ((bi : Int)).toNat = bi := by omega
    have hwb := hwt bi (by omega)
    generalize hg1 : mup g (19 + 6 * c) 11 (g (19 + 6 * c) 11 - 1) = g1 at hQ
    have e1 : g1 (19 + 6 * c) 11 = g (19 + 6 * c) 11 - 1 := by rw [← hg1, mup_e]
    have e2 : ∀ k, g1 (24 + 6 * c) k = g (24 + 6 * c) k := fun k => by rw [← hg1, mup_n (by omega)]
    apply s_24_4
    try simp only [cm_o, cl_11, cu_11, cl_7, cm_7, cn_7, ca_7, cz_7, cl_10, cm_10, cn_10, ca_10, cz_10, hc, e0, true_and, and_true, true_or, or_true, implies_true, b10_0, b10_1]
    repeat' (first | refine And.intro ?_ ?_ | intro _)
    all_goals (try (first | omega | (unfold r32; omega) | exact hQ | exact qe hQ (by omega) | exact qe hQ (by (repeat' split) <;> omega) | exact b01 | exact n01 | exact n21 | exact n31 | exact absurd trivial (by assumption)))
    apply s_24_52
    try simp only [cm_o, cl_11, cu_11, cl_7, cm_7, cn_7, ca_7, cz_7, cl_10, cm_10, cn_10, ca_10, cz_10, hc, hg1, true_and, and_true, true_or, or_true, implies_true, b10_0, b10_1]
    repeat' (first | refine And.intro ?_ ?_ | intro _)
    all_goals (try (first | omega | (unfold r32; omega) | exact hQ | exact qe hQ (by omega) | exact qe hQ (by (repeat' split) <;> omega) | exact b01 | exact n01 | exact n21 | exact n31 | exact absurd trivial (by assumption)))
    apply s_24_62
    try simp only [cm_o, cl_11, cu_11, cl_7, cm_7, cn_7, ca_7, cz_7, cl_10, cm_10, cn_10, ca_10, cz_10, hc, e0, e1, e2, true_and, and_true, true_or, or_true, implies_true, b10_0, b10_1]
    repeat' (first | refine And.intro ?_ ?_ | intro _)
    all_goals (try (first | omega | (unfold r32; omega) | exact hQ | exact qe hQ (by omega) | exact qe hQ (by (repeat' split) <;> omega) | exact b01 | exact n01 | exact n21 | exact n31 | exact absurd trivial (by assumption)))
  · intro k hk ih
    have hb := (bst_p g c k).1
    have hwb := hwt (bst g c k) (by omega)
    have hwk := hwt (k + 1) (by omega)
    have e0 : ((bst g c k : Int)).toNat = bst g c k := by omega
    have e1 : ((k : Int) + 1).toNat = k + 1 := by omega
    have e2 : ((k + 1 : Nat) : Int) = (k : Int) + 1 := by omega
    unfold bst at ih
    rw [e2] at ih
    apply s_24_4
    try simp only [cm_o, cl_11, cu_11, cl_7, cm_7, cn_7, ca_7, cz_7, cl_10, cm_10, cn_10, ca_10, cz_10, hc, e0, e1, true_and, and_true, true_or, or_true, implies_true, b10_0, b10_1]
    repeat' (first | refine And.intro ?_ ?_ | intro _)
    all_goals (try (first | omega | (unfold r32; omega) | exact hQ | exact qe hQ (by omega) | exact qe hQ (by (repeat' split) <;> omega) | exact b01 | exact n01 | exact n21 | exact n31 | exact absurd trivial (by assumption)))
    · rw [if_pos (by assumption)] at ih
      apply s_24_39
      try simp only [cm_o, cl_11, cu_11, cl_7, cm_7, cn_7, ca_7, cz_7, cl_10, cm_10, cn_10, ca_10, cz_10, true_and, and_true, true_or, or_true, implies_true, b10_0, b10_1]
      repeat' (first | refine And.intro ?_ ?_ | intro _)
      all_goals (try (first | omega | (unfold r32; omega) | exact hQ | exact qe hQ (by omega) | exact qe hQ (by (repeat' split) <;> omega) | exact b01 | exact n01 | exact n21 | exact n31 | exact absurd trivial (by assumption)))
      all_goals (try exact ih)
    · rw [if_neg (by assumption), e2] at ih
      apply s_24_39
      try simp only [cm_o, cl_11, cu_11, cl_7, cm_7, cn_7, ca_7, cz_7, cl_10, cm_10, cn_10, ca_10, cz_10, true_and, and_true, true_or, or_true, implies_true, b10_0, b10_1]
      repeat' (first | refine And.intro ?_ ?_ | intro _)
      all_goals (try (first | omega | (unfold r32; omega) | exact hQ | exact qe hQ (by omega) | exact qe hQ (by (repeat' split) <;> omega) | exact b01 | exact n01 | exact n21 | exact n31 | exact absurd trivial (by assumption)))
      all_goals (try exact ih)
/-- what a fire of clock c leaves as it was -/
def FF (c : Nat) (gs g : mF) : Prop := ∀ o k, ¬ (o = 19 + 6 * c ∧ (k = 6 ∨ k = 11) ∨ o = 21 + 6 * c ∨ o = 22 + 6 * c ∨ o = 24 + 6 * c) → g o k = gs o k
theorem FF_ag {c : Nat} (hc : c < 4) {G gs g : mF} (hA : Agree G gs) (h : FF c gs g) : Agree G g := fun o k ho => by
  rw [h o k (by unfold InpS at ho; omega)]
  exact hA o k ho
theorem c25 (X : mX) {c nx st : Nat} (hc : c < 4) (hnx : nx < 36) {G gs g s : mF} {D t r T : Int} (hA : Agree G gs) (hF : FF c gs g) (hG : CG G) (hI : ∀ i, i < 36 → (s (3 + c) i = -1 ↔ s (7 + c) i = -1)) (hBn : CBu G s c nx) (hen : g (22 + 6 * c) nx ≠ -1) (hes : g (22 + 6 * c) st ≠ -1) (hT : T < g (22 + 6 * c) nx) (hb : g (21 + 6 * c) nx = T) (h : FI (CBu G s c) (CAd G c) (fun i u => btk G D (G (20 + 6 * c) i) u) st t (s (3 + c)) (s (7 + c)) (s 2 c) (g (21 + 6 * c)) (g (22 + 6 * c)) (g (19 + 6 * c) 6) (g (19 + 6 * c) 11) (g (24 + 6 * c)) r T (fun _ k => k ≠ nx)) : Rel X 1 25 [(2, 20 + 6 * (c : Int)), (0, (nx : Int)), (3, 0), (3, 0), (3, 0)] g (fun ro g' => ro = none ∧ FF c gs g' ∧ g' (22 + 6 * c) = g (22 + 6 * c) ∧ FI (CBu G s c) (CAd G c) (fun i u => btk G D (G (20 + 6 * c) i) u) st t (s (3 + c)) (s (7 + c)) (s 2 c) (g' (21 + 6 * c)) (g' (22 + 6 * c)) (g' (19 + 6 * c) 6) (g' (19 + 6 * c) 11) (g' (24 + 6 * c)) r T (fun _ _ => True)) := by
  intro d Q hd hQ
  have hGc := hG.2 c hc
  have e0 : ((nx : Int)).toNat = nx := by omega
  have key : ∀ m j : Nat, j + m = 4 → ∀ h : mF, FF c gs h → h (22 + 6 * c) = g (22 + 6 * c) → FI (CBu G s c) (CAd G c) (fun i u => btk G D (G (20 + 6 * c) i) u) st t (s (3 + c)) (s (7 + c)) (s 2 c) (h (21 + 6 * c)) (h (22 + 6 * c)) (h (19 + 6 * c) 6) (h (19 + 6 * c) 11) (h (24 + 6 * c)) r T (fun i k => k = nx → ∃ side, side < j ∧ G (23 + 6 * c) (4 * nx + side) = (i : Int)) → ∀ v, Wp X d SH 25 9 [(2, 20 + 6 * (c : Int)), (0, (nx : Int)), (0, g (22 + 6 * c) nx), (0, (j : Int)), v] [] SH (fl h) Q := by
    intro m
    induction m with
    | zero =>
      intro j hj h hF he hI v
      have hj4 : j = 4 := by omega
      subst hj4
      have hq := hQ none h ⟨rfl, hF, he, FI_V hI (fun i k _ _ _ _ _ hAk _ _ => Or.inl (fun hk => by subst hk; exact hAk))⟩
      apply s_25_9
      try simp only [cm_o, cl_8, cm_8, cn_8, ca_8, cz_8, cl_9, cm_9, cn_9, ca_9, cz_9, cl_1, cm_1, cn_1, ca_1, cz_1, cl_7, cm_7, cn_7, ca_7, cz_7, true_and, and_true, true_or, or_true, implies_true, b10_0, b10_1]
      repeat' (first | refine And.intro ?_ ?_ | intro _)
      all_goals (try (first | omega | (unfold r32; omega) | exact hQ | exact qe hQ (by omega) | exact qe hQ (by (repeat' split) <;> omega) | exact b01 | exact n01 | exact n21 | exact n31 | exact absurd trivial (by assumption)))
      all_goals (exact hq)
    | succ m ih =>
      intro j hj h hF he hI' v
      have e1 : ((nx : Int) * 4 + (j : Int)).toNat = 4 * nx + j := by omega
      have e2 : ((j + 1 : Nat) : Int) = (j : Int) + 1 := by omega
      have hnn := hBn.1
      have hnr := hGc.2.2.2.2 nx hnn j (by omega)
      have hAg := FF_ag hc hA hF
      have en : h (23 + 6 * c) (4 * nx + j) = G (23 + 6 * c) (4 * nx + j) := hAg _ _ (by unfold InpS; omega)
      have ihn := ih (j + 1) (by omega)
      rw [e2] at ihn
      have hV : ∀ i k : Nat, (k = nx → ∃ side, side < j + 1 ∧ G (23 + 6 * c) (4 * nx + side) = (i : Int)) → (k = nx → ∃ side, side < j ∧ G (23 + 6 * c) (4 * nx + side) = (i : Int)) ∨ k = nx ∧ G (23 + 6 * c) (4 * nx + j) = (i : Int) := by
        intro i k hk
        by_cases hkn : k = nx
        · obtain ⟨side, s1, s2⟩ := hk hkn
          by_cases hsj : side = j
          · subst hsj; exact Or.inr ⟨hkn, s2⟩
          · exact Or.inl (fun _ => ⟨side, by omega, s2⟩)
        · exact Or.inl (fun z => absurd z hkn)
      by_cases ho : G (23 + 6 * c) (4 * nx + j) = -1
      · have fin := ihn h hF he (FI_V hI' (fun i k _ _ _ _ _ _ _ hv => Or.inl ((hV i k hv).resolve_right (fun z => by have := z.2; omega))))
        apply s_25_9
        try simp only [cm_o, cl_8, cm_8, cn_8, ca_8, cz_8, cl_9, cm_9, cn_9, ca_9, cz_9, cl_1, cm_1, cn_1, ca_1, cz_1, cl_7, cm_7, cn_7, ca_7, cz_7, hc, e1, en, ho, true_and, and_true, true_or, or_true, implies_true, b10_0, b10_1]
        repeat' (first | refine And.intro ?_ ?_ | intro _)
        all_goals (try (first | omega | (unfold r32; omega) | exact hQ | exact qe hQ (by omega) | exact qe hQ (by (repeat' split) <;> omega) | exact b01 | exact n01 | exact n21 | exact n31 | exact absurd trivial (by assumption)))
        apply s_25_26
        try simp only [cm_o, cl_8, cm_8, cn_8, ca_8, cz_8, cl_9, cm_9, cn_9, ca_9, cz_9, cl_1, cm_1, cn_1, ca_1, cz_1, cl_7, cm_7, cn_7, ca_7, cz_7, hc, true_and, and_true, true_or, or_true, implies_true, b10_0, b10_1]
        repeat' (first | refine And.intro ?_ ?_ | intro _)
        all_goals (try (first | omega | (unfold r32; omega) | exact hQ | exact qe hQ (by omega) | exact qe hQ (by (repeat' split) <;> omega) | exact b01 | exact n01 | exact n21 | exact n31 | exact absurd trivial (by assumption)))
        apply s_25_97
        try simp only [cm_o, cl_8, cm_8, cn_8, ca_8, cz_8, cl_9, cm_9, cn_9, ca_9, cz_9, cl_1, cm_1, cn_1, ca_1, cz_1, cl_7, cm_7, cn_7, ca_7, cz_7, true_and, and_true, true_or, or_true, implies_true, b10_0, b10_1]
        repeat' (first | refine And.intro ?_ ?_ | intro _)
        all_goals (try (first | omega | (unfold r32; omega) | exact hQ | exact qe hQ (by omega) | exact qe hQ (by (repeat' split) <;> omega) | exact b01 | exact n01 | exact n21 | exact n31 | exact absurd trivial (by assumption)))
        exact fin _
      · obtain ⟨x, hx⟩ : ∃ x : Nat, G (23 + 6 * c) (4 * nx + j) = (x : Int) := ⟨(G (23 + 6 * c) (4 * nx + j)).toNat, by omega⟩
        have hx36 : x < 36 := by omega
        have ex : ((x : Int)).toNat = x := by omega
        have hpx := hGc.2.2.2.1 x hx36
        have ep : h (20 + 6 * c) x = G (20 + 6 * c) x := hAg _ _ (by unfold InpS; omega)
        have eh : h (22 + 6 * c) x = g (22 + 6 * c) x := by rw [he]
        have ehn : h (22 + 6 * c) nx = g (22 + 6 * c) nx := by rw [he]
        by_cases hp : G (20 + 6 * c) x = -1
        · have fin := ihn h hF he (FI_V hI' (fun i k _ hB _ _ _ _ _ hv => Or.inl ((hV i k hv).resolve_right (fun z => by
            have z2 := z.2
            have : i = x := by omega
            subst this
            have := hB.2.1
            omega))))
          apply s_25_9
          try simp only [cm_o, cl_8, cm_8, cn_8, ca_8, cz_8, cl_9, cm_9, cn_9, ca_9, cz_9, cl_1, cm_1, cn_1, ca_1, cz_1, cl_7, cm_7, cn_7, ca_7, cz_7, hc, e1, en, hx, true_and, and_true, true_or, or_true, implies_true, b10_0, b10_1]
          repeat' (first | refine And.intro ?_ ?_ | intro _)
          all_goals (try (first | omega | (unfold r32; omega) | exact hQ | exact qe hQ (by omega) | exact qe hQ (by (repeat' split) <;> omega) | exact b01 | exact n01 | exact n21 | exact n31 | exact absurd trivial (by assumption)))
          apply s_25_26
          try simp only [cm_o, cl_8, cm_8, cn_8, ca_8, cz_8, cl_9, cm_9, cn_9, ca_9, cz_9, cl_1, cm_1, cn_1, ca_1, cz_1, cl_7, cm_7, cn_7, ca_7, cz_7, hc, ex, ep, hp, true_and, and_true, true_or, or_true, implies_true, b10_0, b10_1]
          repeat' (first | refine And.intro ?_ ?_ | intro _)
          all_goals (try (first | omega | (unfold r32; omega) | exact hQ | exact qe hQ (by omega) | exact qe hQ (by (repeat' split) <;> omega) | exact b01 | exact n01 | exact n21 | exact n31 | exact absurd trivial (by assumption)))
          apply s_25_97
          try simp only [cm_o, cl_8, cm_8, cn_8, ca_8, cz_8, cl_9, cm_9, cn_9, ca_9, cz_9, cl_1, cm_1, cn_1, ca_1, cz_1, cl_7, cm_7, cn_7, ca_7, cz_7, true_and, and_true, true_or, or_true, implies_true, b10_0, b10_1]
          repeat' (first | refine And.intro ?_ ?_ | intro _)
          all_goals (try (first | omega | (unfold r32; omega) | exact hQ | exact qe hQ (by omega) | exact qe hQ (by (repeat' split) <;> omega) | exact b01 | exact n01 | exact n21 | exact n31 | exact absurd trivial (by assumption)))
          exact fin _
        · by_cases hex : g (22 + 6 * c) x = -1
          · have hBx : CBu G s c x := by
              refine ⟨by omega, by omega, ?_⟩
              by_cases hz : s (3 + c) x = -1
              · exact hz
              · exfalso
                have w := (hI'.2.1 x hx36 (fun z => hz z.2.2)).2
                rw [eh, hex] at w
                exact hz ((hI x hx36).2 w.symm)
            have hxs : x ≠ st := fun z => hes (z ▸ hex)
            have hAx : CAd G c x nx := ⟨j, by omega, hx⟩
            have hvv : ∀ i k : Nat, (k = nx → ∃ side, side < j + 1 ∧ G (23 + 6 * c) (4 * nx + side) = (i : Int)) → (k = nx → ∃ side, side < j ∧ G (23 + 6 * c) (4 * nx + side) = (i : Int)) ∨ k = nx ∧ i = x := by
              intro i k hv
              rcases hV i k hv with z | z
              · exact Or.inl z
              · exact Or.inr ⟨z.1, by have := z.2; omega⟩
            have hwb := hI'.2.2.2.2.2.2.2.2.1
            have hnb := nfr_b (h (21 + 6 * c))
            have hr0 := hI'.1.2.2.2.1
            by_cases hbx : h (21 + 6 * c) x = -1
            · have hnb2 : nfr (h (21 + 6 * c)) < 36 := by
                have z := nfr_up (b := h (21 + 6 * c)) (b' := fun i => if i = x then 0 else h (21 + 6 * c) i) hx36 (fun i hi => by simp only [if_neg hi]) (by simp)
                have y := nfr_b (fun i => if i = x then 0 else h (21 + 6 * c) i)
                rw [if_pos hbx] at z
                omega
              have cc := c23 X h hc hx36 (g (22 + 6 * c) nx) (by omega)
              generalize hg1 : mup (mup (mup h (21 + 6 * c) x (g (22 + 6 * c) nx)) (24 + 6 * c) (h (19 + 6 * c) 11).toNat (x : Int)) (19 + 6 * c) 11 (h (19 + 6 * c) 11 + 1) = h1 at cc
              have fo : ∀ o k, ¬ (o = 21 + 6 * c ∧ k = x ∨ o = 24 + 6 * c ∧ k = (h (19 + 6 * c) 11).toNat ∨ o = 19 + 6 * c ∧ k = 11) → h1 o k = h o k := by
                intro o k ho
                rw [← hg1, mup_n (by omega), mup_n (by omega), mup_n (by omega)]
              have v1 : h1 (21 + 6 * c) x = g (22 + 6 * c) nx := by rw [← hg1, mup_n (by omega), mup_n (by omega), mup_e]
              have v2 : h1 (24 + 6 * c) (h (19 + 6 * c) 11).toNat = (x : Int) := by rw [← hg1, mup_n (by omega), mup_e]
              have v3 : h1 (19 + 6 * c) 11 = h (19 + 6 * c) 11 + 1 := by rw [← hg1, mup_e]
              have v4 : h1 (22 + 6 * c) = h (22 + 6 * c) := funext (fun k => fo _ _ (by omega))
              have fin := ihn h1 (fun o k ho => by rw [fo o k (by omega)]; exact hF o k ho) (by rw [v4, he]) (by
                rw [v4, fo (19 + 6 * c) 6 (by omega), v3]
                exact FI_upd hI' (by rw [he]; exact hes) hx36 hBx hxs (by rw [eh]; exact hex) hnx hBn (by rw [ehn]; exact hen) hAx (by rw [ehn]; omega) (by rw [ehn]; exact v1) (fun i hi => fo _ _ (by omega)) hvv (Or.inl ⟨hbx, rfl, v2, fun i hi => fo _ _ (by omega)⟩))
              apply s_25_9
              try simp only [cm_o, cl_8, cm_8, cn_8, ca_8, cz_8, cl_9, cm_9, cn_9, ca_9, cz_9, cl_1, cm_1, cn_1, ca_1, cz_1, cl_7, cm_7, cn_7, ca_7, cz_7, hc, e1, en, hx, true_and, and_true, true_or, or_true, implies_true, b10_0, b10_1]
              repeat' (first | refine And.intro ?_ ?_ | intro _)
              all_goals (try (first | omega | (unfold r32; omega) | exact hQ | exact qe hQ (by omega) | exact qe hQ (by (repeat' split) <;> omega) | exact b01 | exact n01 | exact n21 | exact n31 | exact absurd trivial (by assumption)))
              apply s_25_26
              try simp only [cm_o, cl_8, cm_8, cn_8, ca_8, cz_8, cl_9, cm_9, cn_9, ca_9, cz_9, cl_1, cm_1, cn_1, ca_1, cz_1, cl_7, cm_7, cn_7, ca_7, cz_7, hc, ex, ep, eh, hbx, true_and, and_true, true_or, or_true, implies_true, b10_0, b10_1]
              repeat' (first | refine And.intro ?_ ?_ | intro _)
              all_goals (try (first | omega | (unfold r32; omega) | exact hQ | exact qe hQ (by omega) | exact qe hQ (by (repeat' split) <;> omega) | exact b01 | exact n01 | exact n21 | exact n31 | exact absurd trivial (by assumption)))
              refine cc _ _ (by omega) ?_
              apply s_25_75
              try simp only [cm_o, cl_8, cm_8, cn_8, ca_8, cz_8, cl_9, cm_9, cn_9, ca_9, cz_9, cl_1, cm_1, cn_1, ca_1, cz_1, cl_7, cm_7, cn_7, ca_7, cz_7, true_and, and_true, true_or, or_true, implies_true, b10_0, b10_1]
              repeat' (first | refine And.intro ?_ ?_ | intro _)
              all_goals (try (first | omega | (unfold r32; omega) | exact hQ | exact qe hQ (by omega) | exact qe hQ (by (repeat' split) <;> omega) | exact b01 | exact n01 | exact n21 | exact n31 | exact absurd trivial (by assumption)))
              apply s_25_97
              try simp only [cm_o, cl_8, cm_8, cn_8, ca_8, cz_8, cl_9, cm_9, cn_9, ca_9, cz_9, cl_1, cm_1, cn_1, ca_1, cz_1, cl_7, cm_7, cn_7, ca_7, cz_7, true_and, and_true, true_or, or_true, implies_true, b10_0, b10_1]
              repeat' (first | refine And.intro ?_ ?_ | intro _)
              all_goals (try (first | omega | (unfold r32; omega) | exact hQ | exact qe hQ (by omega) | exact qe hQ (by (repeat' split) <;> omega) | exact b01 | exact n01 | exact n21 | exact n31 | exact absurd trivial (by assumption)))
              exact fin _
            · by_cases hle : h (21 + 6 * c) x ≤ g (22 + 6 * c) nx
              · have fin := ihn h hF he (FI_V hI' (fun i k _ _ _ _ _ _ _ hv => by
                  rcases hvv i k hv with z | ⟨z1, z2⟩
                  · exact Or.inl z
                  · subst z1; subst z2
                    exact Or.inr ⟨hbx, by rw [ehn]; exact hle⟩))
                apply s_25_9
                try simp only [cm_o, cl_8, cm_8, cn_8, ca_8, cz_8, cl_9, cm_9, cn_9, ca_9, cz_9, cl_1, cm_1, cn_1, ca_1, cz_1, cl_7, cm_7, cn_7, ca_7, cz_7, hc, e1, en, hx, true_and, and_true, true_or, or_true, implies_true, b10_0, b10_1]
                repeat' (first | refine And.intro ?_ ?_ | intro _)
                all_goals (try (first | omega | (unfold r32; omega) | exact hQ | exact qe hQ (by omega) | exact qe hQ (by (repeat' split) <;> omega) | exact b01 | exact n01 | exact n21 | exact n31 | exact absurd trivial (by assumption)))
                apply s_25_26
                try simp only [cm_o, cl_8, cm_8, cn_8, ca_8, cz_8, cl_9, cm_9, cn_9, ca_9, cz_9, cl_1, cm_1, cn_1, ca_1, cz_1, cl_7, cm_7, cn_7, ca_7, cz_7, hc, ex, ep, eh, true_and, and_true, true_or, or_true, implies_true, b10_0, b10_1]
                repeat' (first | refine And.intro ?_ ?_ | intro _)
                all_goals (try (first | omega | (unfold r32; omega) | exact hQ | exact qe hQ (by omega) | exact qe hQ (by (repeat' split) <;> omega) | exact b01 | exact n01 | exact n21 | exact n31 | exact absurd trivial (by assumption)))
                apply s_25_97
                try simp only [cm_o, cl_8, cm_8, cn_8, ca_8, cz_8, cl_9, cm_9, cn_9, ca_9, cz_9, cl_1, cm_1, cn_1, ca_1, cz_1, cl_7, cm_7, cn_7, ca_7, cz_7, true_and, and_true, true_or, or_true, implies_true, b10_0, b10_1]
                repeat' (first | refine And.intro ?_ ?_ | intro _)
                all_goals (try (first | omega | (unfold r32; omega) | exact hQ | exact qe hQ (by omega) | exact qe hQ (by (repeat' split) <;> omega) | exact b01 | exact n01 | exact n21 | exact n31 | exact absurd trivial (by assumption)))
                exact fin _
              · generalize hg1 : mup h (21 + 6 * c) x (g (22 + 6 * c) nx) = h1
                have fo : ∀ o k, ¬ (o = 21 + 6 * c ∧ k = x) → h1 o k = h o k := by
                  intro o k ho
                  rw [← hg1, mup_n (by omega)]
                have v1 : h1 (21 + 6 * c) x = g (22 + 6 * c) nx := by rw [← hg1, mup_e]
                have v4 : h1 (22 + 6 * c) = h (22 + 6 * c) := funext (fun k => fo _ _ (by omega))
                have v5 : h1 (24 + 6 * c) = h (24 + 6 * c) := funext (fun k => fo _ _ (by omega))
                have fin := ihn h1 (fun o k ho => by rw [fo o k (by omega)]; exact hF o k ho) (by rw [v4, he]) (by
                  rw [v4, v5, fo (19 + 6 * c) 6 (by omega), fo (19 + 6 * c) 11 (by omega)]
                  exact FI_upd hI' (by rw [he]; exact hes) hx36 hBx hxs (by rw [eh]; exact hex) hnx hBn (by rw [ehn]; exact hen) hAx (by rw [ehn]; omega) (by rw [ehn]; exact v1) (fun i hi => fo _ _ (by omega)) hvv (Or.inr ⟨hbx, by rw [ehn]; omega, rfl, rfl⟩))
                apply s_25_9
                try simp only [cm_o, cl_8, cm_8, cn_8, ca_8, cz_8, cl_9, cm_9, cn_9, ca_9, cz_9, cl_1, cm_1, cn_1, ca_1, cz_1, cl_7, cm_7, cn_7, ca_7, cz_7, hc, e1, en, hx, true_and, and_true, true_or, or_true, implies_true, b10_0, b10_1]
                repeat' (first | refine And.intro ?_ ?_ | intro _)
                all_goals (try (first | omega | (unfold r32; omega) | exact hQ | exact qe hQ (by omega) | exact qe hQ (by (repeat' split) <;> omega) | exact b01 | exact n01 | exact n21 | exact n31 | exact absurd trivial (by assumption)))
                apply s_25_26
                try simp only [cm_o, cl_8, cm_8, cn_8, ca_8, cz_8, cl_9, cm_9, cn_9, ca_9, cz_9, cl_1, cm_1, cn_1, ca_1, cz_1, cl_7, cm_7, cn_7, ca_7, cz_7, hc, ex, ep, eh, hg1, true_and, and_true, true_or, or_true, implies_true, b10_0, b10_1]
                repeat' (first | refine And.intro ?_ ?_ | intro _)
                all_goals (try (first | omega | (unfold r32; omega) | exact hQ | exact qe hQ (by omega) | exact qe hQ (by (repeat' split) <;> omega) | exact b01 | exact n01 | exact n21 | exact n31 | exact absurd trivial (by assumption)))
                apply s_25_97
                try simp only [cm_o, cl_8, cm_8, cn_8, ca_8, cz_8, cl_9, cm_9, cn_9, ca_9, cz_9, cl_1, cm_1, cn_1, ca_1, cz_1, cl_7, cm_7, cn_7, ca_7, cz_7, true_and, and_true, true_or, or_true, implies_true, b10_0, b10_1]
                repeat' (first | refine And.intro ?_ ?_ | intro _)
                all_goals (try (first | omega | (unfold r32; omega) | exact hQ | exact qe hQ (by omega) | exact qe hQ (by (repeat' split) <;> omega) | exact b01 | exact n01 | exact n21 | exact n31 | exact absurd trivial (by assumption)))
                exact fin _
          · have fin := ihn h hF he (FI_V hI' (fun i k hi hB _ _ _ _ _ hv => by
              rcases hV i k hv with z | ⟨z1, z2⟩
              · exact Or.inl z
              · have hix : i = x := by omega
                subst z1; subst hix
                have w := hI'.2.2.1 i hi hB
                have ht0 := hI'.1.2.2.1
                rw [eh] at w
                exact Or.inr ⟨by omega, by rw [ehn]; omega⟩))
            apply s_25_9
            try simp only [cm_o, cl_8, cm_8, cn_8, ca_8, cz_8, cl_9, cm_9, cn_9, ca_9, cz_9, cl_1, cm_1, cn_1, ca_1, cz_1, cl_7, cm_7, cn_7, ca_7, cz_7, hc, e1, en, hx, true_and, and_true, true_or, or_true, implies_true, b10_0, b10_1]
            repeat' (first | refine And.intro ?_ ?_ | intro _)
            all_goals (try (first | omega | (unfold r32; omega) | exact hQ | exact qe hQ (by omega) | exact qe hQ (by (repeat' split) <;> omega) | exact b01 | exact n01 | exact n21 | exact n31 | exact absurd trivial (by assumption)))
            apply s_25_26
            try simp only [cm_o, cl_8, cm_8, cn_8, ca_8, cz_8, cl_9, cm_9, cn_9, ca_9, cz_9, cl_1, cm_1, cn_1, ca_1, cz_1, cl_7, cm_7, cn_7, ca_7, cz_7, hc, ex, ep, eh, true_and, and_true, true_or, or_true, implies_true, b10_0, b10_1]
            repeat' (first | refine And.intro ?_ ?_ | intro _)
            all_goals (try (first | omega | (unfold r32; omega) | exact hQ | exact qe hQ (by omega) | exact qe hQ (by (repeat' split) <;> omega) | exact b01 | exact n01 | exact n21 | exact n31 | exact absurd trivial (by assumption)))
            apply s_25_97
            try simp only [cm_o, cl_8, cm_8, cn_8, ca_8, cz_8, cl_9, cm_9, cn_9, ca_9, cz_9, cl_1, cm_1, cn_1, ca_1, cz_1, cl_7, cm_7, cn_7, ca_7, cz_7, true_and, and_true, true_or, or_true, implies_true, b10_0, b10_1]
            repeat' (first | refine And.intro ?_ ?_ | intro _)
            all_goals (try (first | omega | (unfold r32; omega) | exact hQ | exact qe hQ (by omega) | exact qe hQ (by (repeat' split) <;> omega) | exact b01 | exact n01 | exact n21 | exact n31 | exact absurd trivial (by assumption)))
            exact fin _
  have k0 := key 4 0 (by omega) g hF rfl (FI_V h (fun i k _ _ _ _ _ _ _ hv => Or.inl (fun hk => by obtain ⟨q, q1, -⟩ := hv hk; omega)))
  apply s_25_0
  try simp only [cm_o, cl_8, cm_8, cn_8, ca_8, cz_8, cl_9, cm_9, cn_9, ca_9, cz_9, cl_1, cm_1, cn_1, ca_1, cz_1, cl_7, cm_7, cn_7, ca_7, cz_7, hc, e0, true_and, and_true, true_or, or_true, implies_true, b10_0, b10_1]
  repeat' (first | refine And.intro ?_ ?_ | intro _)
  all_goals (try (first | omega | (unfold r32; omega) | exact hQ | exact qe hQ (by omega) | exact qe hQ (by (repeat' split) <;> omega) | exact b01 | exact n01 | exact n21 | exact n31 | exact absurd trivial (by assumption)))
  apply s_25_7
  try simp only [cm_o, cl_8, cm_8, cn_8, ca_8, cz_8, cl_9, cm_9, cn_9, ca_9, cz_9, cl_1, cm_1, cn_1, ca_1, cz_1, cl_7, cm_7, cn_7, ca_7, cz_7, true_and, and_true, true_or, or_true, implies_true, b10_0, b10_1]
  repeat' (first | refine And.intro ?_ ?_ | intro _)
  all_goals (try (first | omega | (unfold r32; omega) | exact hQ | exact qe hQ (by omega) | exact qe hQ (by (repeat' split) <;> omega) | exact b01 | exact n01 | exact n21 | exact n31 | exact absurd trivial (by assumption)))
  exact k0 _
