/-! cost, slow -/
theorem MAg_of {g g1 : mF} {D : Int} (h : NI g) (e : ∀ o k, 94 ≤ o ∧ o ≤ 110 ∨ o = 86 ∧ (k = 20 ∨ k = 22) → g1 o k = g o k) (hD : g1 86 28 = D) : MAg D (inp g) g1 ∧ AgR (inp g) g1 := by
  obtain ⟨i1, i2, i3, ⟨a1, a2, a3, a4, a5, a6⟩, i5⟩ := NI_in h
  refine ⟨⟨fun p hp => by rw [e _ _ (by omega)]; exact a1 p hp, fun p hp => by rw [e _ _ (by omega)]; exact a2 p hp, hD, fun c hc => ?_, by rw [e _ _ (by omega)]; exact a5, fun k hk => ?_⟩, ?_⟩
  · obtain ⟨b1, b2, b3, b4, b5⟩ := a4 c hc
    refine ⟨by rw [e _ _ (by omega)]; exact b1, by rw [e _ _ (by omega)]; exact b2, by rw [e _ _ (by omega)]; exact b3, fun i hi => ?_, fun i k hi hk => ?_⟩
    · rw [e _ _ (by omega), e _ _ (by omega), e _ _ (by omega)]
      exact b4 i hi
    · rw [dst_congr (fun k => e _ _ (by omega)) (fun k => e _ _ (by omega))]
      exact b5 i k hi hk
  · rw [e _ _ (by omega), e _ _ (by omega), e _ _ (by omega)]
    exact a6 k hk
  · have e1 : ∀ k, g1 106 k = g 106 k := fun k => e _ _ (by omega)
    have e2 : rdM g1 = rdM g := by funext k; unfold rdM; simp only [e1]
    unfold AgR at *
    simp only [e1, e2, e 86 22 (by omega)]
    exact i5
theorem fnG (X : mX) {g g1 : mF} (h : NI g) (e : ∀ o k, 94 ≤ o ∧ o ≤ 110 ∨ o = 86 → g1 o k = g o k) : Rel X 6 192 [(2, 87), (3, 0), (3, 0), (3, 0), (3, 0), (3, 0), (3, 0)] g1 (fun ro g2 => ro = none ∧ FM g1 g2 ∧ MS g2 (NN g)) := by
  obtain ⟨i1, i2, i3, i4, i5⟩ := NI_in h
  obtain ⟨hA, hR⟩ := MAg_of (D := -1) h (fun o k ho => e o k (by omega)) (by rw [e _ _ (by omega)]; exact h.1.2.2.2)
  intro d Q hd hQ
  refine c192 X hA hR i1 i2 i3.1 (by omega) _ _ (by omega) ?_
  rintro _ g2 ⟨rfl, h1, h2, h3⟩
  exact hQ _ _ ⟨rfl, h1, h2⟩
theorem T_cost (X : mX) (g : mF) (a : Int) (h : NI g) (hB : Ibell g) (hH : Ihear g) : PR X 119 208 [(2, 1), (0, a)] [(2, 87), (0, a)] g (fun g2 => (∀ o k, ¬ (o = 11 ∧ k = 3 ∨ ((o = 19 ∨ o = 25 ∨ o = 31 ∨ o = 37) ∧ (k = 4 ∨ k = 5 ∨ k = 6 ∨ k = 11) ∨ o = 21 ∨ o = 27 ∨ o = 33 ∨ o = 39 ∨ o = 22 ∨ o = 28 ∨ o = 34 ∨ o = 40 ∨ o = 24 ∨ o = 30 ∨ o = 36 ∨ o = 42) ∨ 111 ≤ o ∧ o ≤ 116 ∨ o = 86 ∧ (k = 36 ∨ k = 37) ∨ o = 47 ∨ o = 48 ∨ o = 118 ∨ o = 119) → g2 o k = g o k) ∧ Iknow g2) := by
  have kn' := kn X h
  obtain ⟨b1, b2, b3, b4⟩ := id hB
  obtain ⟨h1, h2, h3, h4⟩ := id hH
  intro d Q hd hQ
  by_cases ha : 0 ≤ a ∧ a ≤ 3
  · obtain ⟨c, rfl⟩ : ∃ c : Nat, a = (c : Int) := ⟨a.toNat, by omega⟩
    have hc : c < 4 := by omega
    have fin : ∀ g1 g1', FK (mup g 11 3 1) g1 → CS g1 (NN g) → SI (inp g) 18959 (NN g) → (∀ o i, o ≠ 47 → o ≠ 48 → g1' o i = g1 o i) → Q (some (0, CV g (NN g) c)) (fl g1') := by
      intro g1 g1' hK hS hI hF1
      refine hQ _ g1' ⟨_, rfl, ?_⟩
      clear hQ
      intro d Q hd hQ
      have hsb : ∀ i, i < 36 → -1 ≤ NN g (3 + c) i ∧ NN g (3 + c) i ≤ 20000 := fun i hi => by have := SI_b hI hc hi; omega
      have e : ∀ o k, 94 ≤ o ∧ o ≤ 110 ∨ o = 86 → g1' o k = g o k := fun o k ho => by rw [hF1 _ _ (by omega) (by omega), hK _ _ (by omega), mup_n (by omega)]
      -- the reference from g1'
      have fn' : Rel X 6 192 [(2, 87), (3, 0), (3, 0), (3, 0), (3, 0), (3, 0), (3, 0)] g1' (fun ro g2 => ro = none ∧ FM g1' g2 ∧ MS g2 (NN g)) := fnG X h e
      apply s_208_0
      try simp only [mi_87, true_and, and_true, true_or, or_true, implies_true, b10_0, b10_1]
      repeat' (first | refine And.intro ?_ ?_ | intro _)
      all_goals (try (first | omega | (unfold r32; omega) | exact hQ | exact qe hQ (by omega) | exact qe hQ (by (repeat' split) <;> omega) | exact b01 | exact n01 | exact n21 | exact n31 | exact absurd trivial (by assumption)))
      refine c174 X _ _ _ _ (by omega) ?_
      apply s_208_4
      try simp only [mi_87, true_and, and_true, true_or, or_true, implies_true, b10_0, b10_1]
      repeat' (first | refine And.intro ?_ ?_ | intro _)
      all_goals (try (first | omega | (unfold r32; omega) | exact hQ | exact qe hQ (by omega) | exact qe hQ (by (repeat' split) <;> omega) | exact b01 | exact n01 | exact n21 | exact n31 | exact absurd trivial (by assumption)))
      refine fn' _ _ (by omega) ?_
      rintro _ g2 ⟨rfl, hM, hS2⟩
      have f : ∀ o k, 94 ≤ o ∧ o ≤ 110 ∨ o = 86 ∧ (k ≠ 36 ∧ k ≠ 37) ∨ o = 117 → g2 o k = g o k := fun o k ho => by
        rw [hM _ _ (by omega), hF1 _ _ (by omega) (by omega), hK _ _ (by omega), mup_n (by omega)]
      have c207' := c207 X hc (bc := g 44) (bl := g 45) (he := g 46) (nb := g 43 0) (nh := g 43 1) (by rw [f _ _ (by omega)]; exact b1) (by rw [f _ _ (by omega)]; exact h1) ⟨b2, b3⟩ (fun j hj => by rw [f _ _ (by omega), f _ _ (by omega)]; exact b4 j hj) ⟨h2, h3⟩ (fun j hj => by rw [f _ _ (by omega)]; exact h4 j hj) hS2 hsb
      apply s_208_15
      try simp only [mi_87, true_and, and_true, true_or, or_true, implies_true, b10_0, b10_1]
      repeat' (first | refine And.intro ?_ ?_ | intro _)
      all_goals (try (first | omega | (unfold r32; omega) | exact hQ | exact qe hQ (by omega) | exact qe hQ (by (repeat' split) <;> omega) | exact b01 | exact n01 | exact n21 | exact n31 | exact absurd trivial (by assumption)))
      refine c207' _ _ (by omega) ?_
      rintro _ g3 ⟨rfl, hF3⟩
      refine s_208_20 ?_
      refine hQ _ g3 ⟨rfl, ?_, ?_⟩
      · intro o k ho
        rw [hF3 _ _ (by omega) (by omega), hM _ _ (by omega), hF1 _ _ (by omega) (by omega), hK _ _ (by omega), mup_n (by omega)]
      · have hin : inp g3 = inp g := inp_c (fun o k ho => by
          unfold InpS at ho
          rw [hF3 _ _ (by omega) (by omega), hM _ _ (by omega), hF1 _ _ (by omega) (by omega), hK _ _ (by omega), mup_n (by omega)])
        have eN : NN g3 = NN g := by unfold NN; rw [hin]
        unfold Iknow
        rw [eN, hin]
        refine Or.inr ⟨by rw [hF3 _ _ (by omega) (by omega), hM _ _ (by omega), hF1 _ _ (by omega) (by omega), hK _ _ (by omega), mup_e], ?_, hI⟩
        intro c' hc'
        obtain ⟨s1, s2, s3, s4⟩ := hS c' hc'
        have q : ∀ o k, 19 ≤ o ∧ o < 43 → g3 o k = g1 o k := fun o k ho => by rw [hF3 _ _ (by omega) (by omega), hM _ _ (by omega), hF1 _ _ (by omega) (by omega)]
        rw [q _ _ (by omega), q _ _ (by omega), q _ _ (by omega)]
        refine ⟨s1, s2, s3, fun i hi => ?_⟩
        rw [q _ _ (by omega), q _ _ (by omega)]
        exact s4 i hi
    apply s_119_0
    try simp only [mi_1, fl_1_4, mi_12, fl_1_2, mi_6, fl_1_5, mi_44, true_and, and_true, true_or, or_true, implies_true, b10_0, b10_1]
    repeat' (first | refine And.intro ?_ ?_ | intro _)
    all_goals (try (first | omega | (unfold r32; omega) | exact hQ | exact qe hQ (by omega) | exact qe hQ (by (repeat' split) <;> omega) | exact b01 | exact n01 | exact n21 | exact n31 | exact absurd trivial (by assumption)))
    refine c32 X g hc _ _ (by omega) ?_
    apply s_119_8
    try simp only [mi_1, fl_1_4, mi_12, fl_1_2, mi_6, fl_1_5, mi_44, true_and, and_true, true_or, or_true, implies_true, b10_0, b10_1]
    repeat' (first | refine And.intro ?_ ?_ | intro _)
    all_goals (try (first | omega | (unfold r32; omega) | exact hQ | exact qe hQ (by omega) | exact qe hQ (by (repeat' split) <;> omega) | exact b01 | exact n01 | exact n21 | exact n31 | exact absurd trivial (by assumption)))
    refine kn' _ _ (by omega) ?_
    rintro _ g1 ⟨rfl, hK, hS, hI⟩
    have f : ∀ o k, 43 ≤ o ∧ o ≤ 46 → g1 o k = g o k := fun o k ho => by rw [hK _ _ (by omega), mup_n (by omega)]
    have c9' := c9 X (g := g1) hc (by rw [f _ _ (by omega)]; exact ⟨b2, b3⟩) (fun j hj => by
      rw [f _ _ (by omega)] at hj
      rw [f _ _ (by omega), f _ _ (by omega)]
      exact (b4 j hj).2.2) (by rw [f _ _ (by omega)]; exact ⟨h2, h3⟩) (fun j hj => by
      rw [f _ _ (by omega)] at hj
      rw [f _ _ (by omega)]
      exact (h4 j hj).2) hS (fun i hi => by have := SI_b hI hc hi; omega)
    have eCV : CV g1 (NN g) c = CV g (NN g) c := by
      unfold CV
      rw [show g1 44 = g 44 from funext (fun k => f _ _ (by omega)), show g1 45 = g 45 from funext (fun k => f _ _ (by omega)), show g1 46 = g 46 from funext (fun k => f _ _ (by omega)), f 43 0 (by omega), f 43 1 (by omega)]
    rw [eCV] at c9'
    apply s_119_26
    try simp only [mi_1, fl_1_4, mi_12, fl_1_2, mi_6, fl_1_5, mi_44, true_and, and_true, true_or, or_true, implies_true, b10_0, b10_1]
    repeat' (first | refine And.intro ?_ ?_ | intro _)
    all_goals (try (first | omega | (unfold r32; omega) | exact hQ | exact qe hQ (by omega) | exact qe hQ (by (repeat' split) <;> omega) | exact b01 | exact n01 | exact n21 | exact n31 | exact absurd trivial (by assumption)))
    refine c9' _ _ (by omega) ?_
    rintro _ g1' ⟨rfl, hF1⟩
    refine s_119_38 ?_
    exact fin g1 g1' hK hS hI hF1
  · have r1 : Ret X 60 119 [(2, 1), (0, a)] g (some (0, -1001)) g := by
      intro d Q hd hQ
      repeat' (first
        | (exfalso; omega)
        | (exact absurd trivial (by assumption))
        | (apply s_119_0; try simp only [mi_1, fl_1_4, mi_12, fl_1_2, mi_6, fl_1_5, mi_44, true_and, and_true, true_or, or_true, implies_true, b10_0, b10_1])
        | (apply s_119_8; try simp only [mi_1, fl_1_4, mi_12, fl_1_2, mi_6, fl_1_5, mi_44, true_and, and_true, true_or, or_true, implies_true, b10_0, b10_1])
        | (apply s_119_26; try simp only [mi_1, fl_1_4, mi_12, fl_1_2, mi_6, fl_1_5, mi_44, true_and, and_true, true_or, or_true, implies_true, b10_0, b10_1])
        | (apply s_119_38; try simp only [mi_1, fl_1_4, mi_12, fl_1_2, mi_6, fl_1_5, mi_44, true_and, and_true, true_or, or_true, implies_true, b10_0, b10_1])
        | (refine c32n X g _ ha _ _ (by omega) ?_)
        | (refine And.intro ?_ ?_)
        | (intro _)
        | omega
        | (unfold r32; omega)
        | (exact hQ)
        | (exact qe hQ (by omega))
        | (exact qe hQ (by (repeat' split) <;> omega))
        | (exact b01)
        | (exact n01)
        | (exact n21)
        | (exact n31))
    have r2 : Ret X 60 208 [(2, 87), (0, a)] g (some (0, -1001)) g := by
      intro d Q hd hQ
      repeat' (first
        | (exfalso; omega)
        | (exact absurd trivial (by assumption))
        | (apply s_208_0; try simp only [mi_87, true_and, and_true, true_or, or_true, implies_true, b10_0, b10_1])
        | (apply s_208_4; try simp only [mi_87, true_and, and_true, true_or, or_true, implies_true, b10_0, b10_1])
        | (apply s_208_15; try simp only [mi_87, true_and, and_true, true_or, or_true, implies_true, b10_0, b10_1])
        | (apply s_208_20; try simp only [mi_87, true_and, and_true, true_or, or_true, implies_true, b10_0, b10_1])
        | (refine c174 X _ _ _ _ (by omega) ?_)
        | (refine And.intro ?_ ?_)
        | (intro _)
        | omega
        | (unfold r32; omega)
        | (exact hQ)
        | (exact qe hQ (by omega))
        | (exact qe hQ (by (repeat' split) <;> omega))
        | (exact b01)
        | (exact n01)
        | (exact n21)
        | (exact n31))
    exact PR_of r1 r2 ⟨fun _ _ _ => rfl, h.2.2.2.2.2⟩ d Q hd hQ
theorem srtF_n {bc bl : Nat → Int} {s : mF} {c : Nat} : ∀ k : Nat, (srtF bc bl s c k).1 ≤ k := by
  intro k
  induction k with
  | zero => exact Nat.le_refl _
  | succ k ih =>
    unfold srtF
    split
    · show _ + 1 ≤ k + 1
      omega
    · omega
theorem CV_b {g s : mF} {c : Nat} (hB : g 43 0 ≤ 12) (hH : g 43 1 ≤ 24) : 0 ≤ CV g s c ∧ CV g s c ≤ 720 := by
  unfold CV
  have a := pd_b (srtF (g 44) (g 45) s c (g 43 0).toNat).2 (g 46) (srtF (g 44) (g 45) s c (g 43 0).toNat).1 (g 43 1).toNat
  have b := srtF_n (bc := g 44) (bl := g 45) (s := s) (c := c) (g 43 0).toNat
  omega
def slF (f : Nat → Int) : Nat → Int × Int
  | 0 => (0, 1000000)
  | d + 1 => (if f d < (slF f d).2 then (d : Int) else (slF f d).1, if (slF f d).2 < f d then (slF f d).2 else f d)
theorem slF_b {f : Nat → Int} (hf : ∀ d, 0 ≤ f d ∧ f d ≤ 720) : ∀ d : Nat, 0 ≤ (slF f d).1 ∧ (slF f d).1 ≤ d ∧ 0 ≤ (slF f d).2 ∧ (slF f d).2 ≤ 1000000 := by
  intro d
  induction d with
  | zero => unfold slF; simp only []; omega
  | succ d ih =>
    have z := hf d
    unfold slF
    simp only []
    refine ⟨by split <;> omega, by split <;> omega, by split <;> omega, by split <;> omega⟩
/-- what slow may change -/
def SC (g g' : mF) : Prop := ∀ o k, ¬ (o = 11 ∧ k = 3 ∨ ((o = 19 ∨ o = 25 ∨ o = 31 ∨ o = 37) ∧ (k = 4 ∨ k = 5 ∨ k = 6 ∨ k = 11) ∨ o = 21 ∨ o = 27 ∨ o = 33 ∨ o = 39 ∨ o = 22 ∨ o = 28 ∨ o = 34 ∨ o = 40 ∨ o = 24 ∨ o = 30 ∨ o = 36 ∨ o = 42) ∨ 111 ≤ o ∧ o ≤ 116 ∨ o = 86 ∧ (k = 36 ∨ k = 37) ∨ o = 47 ∨ o = 48 ∨ o = 118 ∨ o = 119) → g' o k = g o k
/-- the class's side alone -/
def SCc (g g' : mF) : Prop := ∀ o k, ¬ (o = 11 ∧ k = 3 ∨ ((o = 19 ∨ o = 25 ∨ o = 31 ∨ o = 37) ∧ (k = 4 ∨ k = 5 ∨ k = 6 ∨ k = 11) ∨ o = 21 ∨ o = 27 ∨ o = 33 ∨ o = 39 ∨ o = 22 ∨ o = 28 ∨ o = 34 ∨ o = 40 ∨ o = 24 ∨ o = 30 ∨ o = 36 ∨ o = 42) ∨ o = 47 ∨ o = 48) → g' o k = g o k
theorem c140 (X : mX) {g : mF} {c D : Nat} (h : NI g) (hB : Ibell g) (hH : Ihear g) (hc : c < 4) (hDb : D ≤ 50) {h0 : mF} (hF0 : SCc g h0) : Rel X 6 140 [(2, 1), (0, (c : Int)), (0, (D : Int)), (3, 0)] h0 (fun ro h1 => ro = some (0, CV g (nightS (inp g) (D : Int) 4) c) ∧ SCc g h1 ∧ h1 11 3 = 0) := by
  intro d Q hd hQ
  obtain ⟨i1, i2, i3, i4, i5⟩ := NI_in h
  obtain ⟨b1, b2, b3, b4⟩ := id hB
  obtain ⟨n1, n2, n3, n4⟩ := hH
  generalize ha : mup h0 5 2 (D : Int) = ga
  generalize hb : mup ga 11 3 0 = gb
  have fb : ∀ o k, ¬ (o = 5 ∧ k = 2) → ¬ (o = 11 ∧ k = 3) → gb o k = h0 o k := fun o k h1 h2 => by rw [← hb, mup_n h2, ← ha, mup_n h1]
  have g52 : gb 5 2 = (D : Int) := by rw [← hb, mup_n (by omega), ← ha, mup_e]
  have g113 : gb 11 3 = 0 := by rw [← hb, mup_e]
  have hA : Agree (inp g) gb := fun o k ho => by
    have ho2 := ho
    unfold InpS at ho2
    rw [inp_e ho, fb _ _ (by omega) (by omega), hF0 _ _ (by omega)]
  have c41' := c41 X (g := gb) (D := (D : Int)) hA i1 i2 i3 g52 (by omega) (Or.inl g113)
  apply s_140_0
  try simp only [mi_1, fl_1_2, mi_6, fl_6_2, up_6_2, fl_1_4, mi_12, fl_12_3, up_12_3, fl_1_5, mi_44, ha, true_and, and_true, true_or, or_true, implies_true, b10_0, b10_1]
  repeat' (first | refine And.intro ?_ ?_ | intro _)
  all_goals (try (first | omega | (unfold r32; omega) | exact hQ | exact qe hQ (by omega) | exact qe hQ (by (repeat' split) <;> omega) | exact b01 | exact n01 | exact n21 | exact n31 | exact absurd trivial (by assumption)))
  apply s_140_8
  try simp only [mi_1, fl_1_2, mi_6, fl_6_2, up_6_2, fl_1_4, mi_12, fl_12_3, up_12_3, fl_1_5, mi_44, hb, true_and, and_true, true_or, or_true, implies_true, b10_0, b10_1]
  repeat' (first | refine And.intro ?_ ?_ | intro _)
  all_goals (try (first | omega | (unfold r32; omega) | exact hQ | exact qe hQ (by omega) | exact qe hQ (by (repeat' split) <;> omega) | exact b01 | exact n01 | exact n21 | exact n31 | exact absurd trivial (by assumption)))
  apply s_140_16
  try simp only [mi_1, fl_1_2, mi_6, fl_6_2, up_6_2, fl_1_4, mi_12, fl_12_3, up_12_3, fl_1_5, mi_44, true_and, and_true, true_or, or_true, implies_true, b10_0, b10_1]
  repeat' (first | refine And.intro ?_ ?_ | intro _)
  all_goals (try (first | omega | (unfold r32; omega) | exact hQ | exact qe hQ (by omega) | exact qe hQ (by (repeat' split) <;> omega) | exact b01 | exact n01 | exact n21 | exact n31 | exact absurd trivial (by assumption)))
  refine c41' _ _ (by omega) ?_
  rintro _ g1 ⟨rfl, hK, hS, hI⟩
  have f : ∀ o k, 43 ≤ o ∧ o ≤ 46 → g1 o k = g o k := fun o k ho => by rw [hK _ _ (by omega), mup_n (by omega), fb _ _ (by omega) (by omega), hF0 _ _ (by omega)]
  have c9' := c9 X (g := g1) hc (by rw [f _ _ (by omega)]; exact ⟨b2, b3⟩) (fun j hj => by
    rw [f _ _ (by omega)] at hj
    rw [f _ _ (by omega), f _ _ (by omega)]
    exact (b4 j hj).2.2) (by rw [f _ _ (by omega)]; exact ⟨n2, n3⟩) (fun j hj => by
    rw [f _ _ (by omega)] at hj
    rw [f _ _ (by omega)]
    exact (n4 j hj).2) hS (fun i hi => by have := SI_b hI hc hi; omega)
  have eCV : CV g1 (nightS (inp g) (D : Int) 4) c = CV g (nightS (inp g) (D : Int) 4) c := by
    unfold CV
    rw [show g1 44 = g 44 from funext (fun k => f _ _ (by omega)), show g1 45 = g 45 from funext (fun k => f _ _ (by omega)), show g1 46 = g 46 from funext (fun k => f _ _ (by omega)), f 43 0 (by omega), f 43 1 (by omega)]
  rw [eCV] at c9'
  apply s_140_27
  try simp only [mi_1, fl_1_2, mi_6, fl_6_2, up_6_2, fl_1_4, mi_12, fl_12_3, up_12_3, fl_1_5, mi_44, true_and, and_true, true_or, or_true, implies_true, b10_0, b10_1]
  repeat' (first | refine And.intro ?_ ?_ | intro _)
  all_goals (try (first | omega | (unfold r32; omega) | exact hQ | exact qe hQ (by omega) | exact qe hQ (by (repeat' split) <;> omega) | exact b01 | exact n01 | exact n21 | exact n31 | exact absurd trivial (by assumption)))
  refine c9' _ _ (by omega) ?_
  rintro _ g2 ⟨rfl, hF2⟩
  generalize hc3 : mup g2 5 2 (-1) = g3
  have hq := hQ (some (0, CV g (nightS (inp g) (D : Int) 4) c)) (mup g3 11 3 0) ⟨rfl, fun o k ho => by
    rw [mup_n (by omega), ← hc3]
    by_cases h5 : o = 5 ∧ k = 2
    · rw [h5.1, h5.2, mup_e]
      exact h.1.2.2.1.symm
    · rw [mup_n h5, hF2 _ _ (by omega) (by omega), hK _ _ (by omega), mup_n (by omega), fb _ _ h5 (by omega), hF0 _ _ (by omega)], by rw [mup_e]⟩
  refine s_140_39 (by first | exact n01 | exact n21 | exact n31 | assumption) ?_
  try simp only [mi_1, fl_1_2, mi_6, fl_6_2, up_6_2, fl_1_4, mi_12, fl_12_3, up_12_3, fl_1_5, mi_44, hc3, true_and, and_true, true_or, or_true, implies_true, b10_0, b10_1]
  repeat' (first | refine And.intro ?_ ?_ | intro _)
  all_goals (try (first | omega | (unfold r32; omega) | exact hQ | exact qe hQ (by omega) | exact qe hQ (by (repeat' split) <;> omega) | exact b01 | exact n01 | exact n21 | exact n31 | exact absurd trivial (by assumption)))
  apply s_140_48
  try simp only [mi_1, fl_1_2, mi_6, fl_6_2, up_6_2, fl_1_4, mi_12, fl_12_3, up_12_3, fl_1_5, mi_44, true_and, and_true, true_or, or_true, implies_true, b10_0, b10_1]
  repeat' (first | refine And.intro ?_ ?_ | intro _)
  all_goals (try (first | omega | (unfold r32; omega) | exact hQ | exact qe hQ (by omega) | exact qe hQ (by (repeat' split) <;> omega) | exact b01 | exact n01 | exact n21 | exact n31 | exact absurd trivial (by assumption)))
  all_goals (try exact hq)
theorem T_slow (X : mX) (g : mF) (a w : Int) (h : NI g) (hB : Ibell g) (hH : Ihear g) : PR X 120 209 [(2, 1), (0, a), (0, w), (3, 0), (3, 0), (3, 0), (3, 0)] [(2, 87), (0, a), (0, w), (3, 0), (3, 0), (3, 0), (3, 0)] g (fun g2 => SC g g2 ∧ Iknow g2) := by
  obtain ⟨i1, i2, i3, i4, i5⟩ := NI_in h
  obtain ⟨b1, b2, b3, b4⟩ := id hB
  obtain ⟨n1, n2, n3, n4⟩ := id hH
  intro d Q hd hQ
  by_cases ha : 0 ≤ a ∧ a ≤ 3
  · obtain ⟨c, rfl⟩ : ∃ c : Nat, a = (c : Int) := ⟨a.toNat, by omega⟩
    have hc : c < 4 := by omega
    by_cases hw : 0 ≤ w ∧ w ≤ 1
    · have hfb : ∀ D : Nat, 0 ≤ CV g (nightS (inp g) (D : Int) 4) c ∧ CV g (nightS (inp g) (D : Int) 4) c ≤ 720 := fun D => CV_b b3 n3
      have fin : ∀ g1, SCc g g1 → g1 11 3 = 0 → ∀ v, (v = if w = 0 then (slF (fun D => CV g (nightS (inp g) (D : Int) 4) c) 51).1 else (slF (fun D => CV g (nightS (inp g) (D : Int) 4) c) 51).2) → Q (some (0, v)) (fl g1) := by
        intro g1 hF1 h113 v hv
        refine hQ _ g1 ⟨v, rfl, ?_⟩
        clear hQ
        intro d Q hd hQ
        have sb := fun D => slF_b (f := fun D => CV g (nightS (inp g) (D : Int) 4) c) hfb D
        have key := lup (P := fun D => ∀ h2 : mF, (∀ o k, ¬ (111 ≤ o ∧ o ≤ 116 ∨ o = 86 ∧ (k = 36 ∨ k = 37 ∨ k = 28) ∨ o = 118 ∨ o = 119) → h2 o k = g1 o k) → ∀ v6, Wp X d SH 209 34 [(2, 87), (0, (c : Int)), (0, w), (0, (slF (fun D => CV g (nightS (inp g) (D : Int) 4) c) D).1), (0, (slF (fun D => CV g (nightS (inp g) (D : Int) 4) c) D).2), (0, (D : Int)), v6] [] SH (fl h2) Q) 51 ?_ ?_ 0 (by omega)
        · skip
          apply s_209_0
          try simp only [mi_87, fl_87_28, up_87_28, true_and, and_true, true_or, or_true, implies_true, b10_0, b10_1]
          repeat' (first | refine And.intro ?_ ?_ | intro _)
          all_goals (try (first | omega | (unfold r32; omega) | exact hQ | exact qe hQ (by omega) | exact qe hQ (by (repeat' split) <;> omega) | exact b01 | exact n01 | exact n21 | exact n31 | exact absurd trivial (by assumption)))
          refine c174 X _ _ _ _ (by omega) ?_
          apply s_209_4
          try simp only [mi_87, fl_87_28, up_87_28, true_and, and_true, true_or, or_true, implies_true, b10_0, b10_1]
          repeat' (first | refine And.intro ?_ ?_ | intro _)
          all_goals (try (first | omega | (unfold r32; omega) | exact hQ | exact qe hQ (by omega) | exact qe hQ (by (repeat' split) <;> omega) | exact b01 | exact n01 | exact n21 | exact n31 | exact absurd trivial (by assumption)))
          refine c144 X _ _ _ _ _ _ (by omega) ?_
          apply s_209_18
          try simp only [mi_87, fl_87_28, up_87_28, true_and, and_true, true_or, or_true, implies_true, b10_0, b10_1]
          repeat' (first | refine And.intro ?_ ?_ | intro _)
          all_goals (try (first | omega | (unfold r32; omega) | exact hQ | exact qe hQ (by omega) | exact qe hQ (by (repeat' split) <;> omega) | exact b01 | exact n01 | exact n21 | exact n31 | exact absurd trivial (by assumption)))
          all_goals (try exact key g1 (fun _ _ _ => rfl) _)
        · intro h2 hF2 v6
          generalize hh3 : mup h2 86 28 (-1) = h3
          have hsc : SC g h3 := fun o k ho => by
            rw [← hh3]
            by_cases h5 : o = 86 ∧ k = 28
            · rw [h5.1, h5.2, mup_e]
              exact h.1.2.2.2.symm
            · rw [mup_n h5, hF2 _ _ (by omega), hF1 _ _ (by omega)]
          have hq : ∀ u, u = v → Q (some (0, u)) (fl h3) := fun u hu => by
            rw [hu]
            exact hQ _ h3 ⟨rfl, hsc, Or.inl (by rw [← hh3, mup_n (by omega), hF2 _ _ (by omega)]; exact h113)⟩
          apply s_209_34
          try simp only [mi_87, fl_87_28, up_87_28, hh3, true_and, and_true, true_or, or_true, implies_true, b10_0, b10_1]
          repeat' (first | refine And.intro ?_ ?_ | intro _)
          all_goals (try (first | omega | (unfold r32; omega) | exact hQ | exact qe hQ (by omega) | exact qe hQ (by (repeat' split) <;> omega) | exact b01 | exact n01 | exact n21 | exact n31 | exact absurd trivial (by assumption)))
          apply s_209_92
          try simp only [mi_87, fl_87_28, up_87_28, true_and, and_true, true_or, or_true, implies_true, b10_0, b10_1]
          repeat' (first | refine And.intro ?_ ?_ | intro _)
          all_goals (try (first | omega | (unfold r32; omega) | exact hQ | exact qe hQ (by omega) | exact qe hQ (by (repeat' split) <;> omega) | exact b01 | exact n01 | exact n21 | exact n31 | exact absurd trivial (by assumption)))
          · exact hq _ (by rw [hv, if_neg (by assumption)])
          · exact hq _ (by rw [hv, if_pos (by omega)])
        · intro D hD ih h2 hF2 v6
          have e10 : ((D + 1 : Nat) : Int) = (D : Int) + 1 := by omega
          have sbD := sb D
          have hfD := hfb D
          simp only [e10, slF] at ih
          generalize hh3 : mup h2 86 28 (D : Int) = h3
          have e : ∀ o k, 94 ≤ o ∧ o ≤ 110 ∨ o = 86 ∧ (k ≠ 36 ∧ k ≠ 37 ∧ k ≠ 28) ∨ o = 117 → h3 o k = g o k := fun o k ho => by
            rw [← hh3, mup_n (by omega), hF2 _ _ (by omega), hF1 _ _ (by omega)]
          obtain ⟨hA, hR⟩ := MAg_of (g1 := h3) (D := (D : Int)) h (fun o k ho => e o k (by omega)) (by rw [← hh3, mup_e])
          have c192' := c192 X hA hR i1 i2 i3.1 (by omega)
          apply s_209_34
          try simp only [mi_87, fl_87_28, up_87_28, hh3, true_and, and_true, true_or, or_true, implies_true, b10_0, b10_1]
          repeat' (first | refine And.intro ?_ ?_ | intro _)
          all_goals (try (first | omega | (unfold r32; omega) | exact hQ | exact qe hQ (by omega) | exact qe hQ (by (repeat' split) <;> omega) | exact b01 | exact n01 | exact n21 | exact n31 | exact absurd trivial (by assumption)))
          apply s_209_47
          try simp only [mi_87, fl_87_28, up_87_28, true_and, and_true, true_or, or_true, implies_true, b10_0, b10_1]
          repeat' (first | refine And.intro ?_ ?_ | intro _)
          all_goals (try (first | omega | (unfold r32; omega) | exact hQ | exact qe hQ (by omega) | exact qe hQ (by (repeat' split) <;> omega) | exact b01 | exact n01 | exact n21 | exact n31 | exact absurd trivial (by assumption)))
          refine c192' _ _ (by omega) ?_
          rintro _ h4 ⟨rfl, hM, hS, hI⟩
          have c207' := c207 X (g := h4) hc (bc := g 44) (bl := g 45) (he := g 46) (nb := g 43 0) (nh := g 43 1) (by rw [hM _ _ (by omega), e _ _ (by omega)]; exact b1) (by rw [hM _ _ (by omega), e _ _ (by omega)]; exact n1) ⟨b2, b3⟩ (fun j hj => by rw [hM _ _ (by omega), hM _ _ (by omega), e _ _ (by omega), e _ _ (by omega)]; exact b4 j hj) ⟨n2, n3⟩ (fun j hj => by rw [hM _ _ (by omega), e _ _ (by omega)]; exact n4 j hj) hS (fun i hi => by have := SI_b hI hc hi; omega)
          have eCV : pd (srtF (g 44) (g 45) (nightS (inp g) (D : Int) 4) c (g 43 0).toNat).2 (g 46) (srtF (g 44) (g 45) (nightS (inp g) (D : Int) 4) c (g 43 0).toNat).1 (g 43 1).toNat = CV g (nightS (inp g) (D : Int) 4) c := rfl
          rw [eCV] at c207'
          apply s_209_51
          try simp only [mi_87, fl_87_28, up_87_28, true_and, and_true, true_or, or_true, implies_true, b10_0, b10_1]
          repeat' (first | refine And.intro ?_ ?_ | intro _)
          all_goals (try (first | omega | (unfold r32; omega) | exact hQ | exact qe hQ (by omega) | exact qe hQ (by (repeat' split) <;> omega) | exact b01 | exact n01 | exact n21 | exact n31 | exact absurd trivial (by assumption)))
          refine c207' _ _ (by omega) ?_
          rintro _ h5 ⟨rfl, hF5⟩
          have nx := ih h5 (fun o k ho => by rw [hF5 _ _ (by omega) (by omega), hM _ _ (by omega), ← hh3, mup_n (by omega), hF2 _ _ (by omega)])
          apply s_209_56
          try simp only [mi_87, fl_87_28, up_87_28, true_and, and_true, true_or, or_true, implies_true, b10_0, b10_1]
          repeat' (first | refine And.intro ?_ ?_ | intro _)
          all_goals (try (first | omega | (unfold r32; omega) | exact hQ | exact qe hQ (by omega) | exact qe hQ (by (repeat' split) <;> omega) | exact b01 | exact n01 | exact n21 | exact n31 | exact absurd trivial (by assumption)))
          · rw [if_neg (by omega)] at nx
            apply s_209_71
            try simp only [mi_87, fl_87_28, up_87_28, true_and, and_true, true_or, or_true, implies_true, b10_0, b10_1]
            repeat' (first | refine And.intro ?_ ?_ | intro _)
            all_goals (try (first | omega | (unfold r32; omega) | exact hQ | exact qe hQ (by omega) | exact qe hQ (by (repeat' split) <;> omega) | exact b01 | exact n01 | exact n21 | exact n31 | exact absurd trivial (by assumption)))
            refine c146 X h5 _ _ _ _ (by omega) ?_
            apply s_209_79
            try simp only [mi_87, fl_87_28, up_87_28, true_and, and_true, true_or, or_true, implies_true, b10_0, b10_1]
            repeat' (first | refine And.intro ?_ ?_ | intro _)
            all_goals (try (first | omega | (unfold r32; omega) | exact hQ | exact qe hQ (by omega) | exact qe hQ (by (repeat' split) <;> omega) | exact b01 | exact n01 | exact n21 | exact n31 | exact absurd trivial (by assumption)))
            all_goals (try exact nx _)
          · rw [if_pos (by omega)] at nx
            apply s_209_71
            try simp only [mi_87, fl_87_28, up_87_28, true_and, and_true, true_or, or_true, implies_true, b10_0, b10_1]
            repeat' (first | refine And.intro ?_ ?_ | intro _)
            all_goals (try (first | omega | (unfold r32; omega) | exact hQ | exact qe hQ (by omega) | exact qe hQ (by (repeat' split) <;> omega) | exact b01 | exact n01 | exact n21 | exact n31 | exact absurd trivial (by assumption)))
            refine c146 X h5 _ _ _ _ (by omega) ?_
            apply s_209_79
            try simp only [mi_87, fl_87_28, up_87_28, true_and, and_true, true_or, or_true, implies_true, b10_0, b10_1]
            repeat' (first | refine And.intro ?_ ?_ | intro _)
            all_goals (try (first | omega | (unfold r32; omega) | exact hQ | exact qe hQ (by omega) | exact qe hQ (by (repeat' split) <;> omega) | exact b01 | exact n01 | exact n21 | exact n31 | exact absurd trivial (by assumption)))
            all_goals (try exact nx _)
      have sb := fun D => slF_b (f := fun D => CV g (nightS (inp g) (D : Int) 4) c) hfb D
      have key := lup (P := fun D => ∀ h2 : mF, SCc g h2 → (D = 0 ∨ h2 11 3 = 0) → ∀ p q, (D = 0 → p = -1 ∧ q = -1) → (D ≠ 0 → p = (slF (fun D => CV g (nightS (inp g) (D : Int) 4) c) D).1 ∧ q = (slF (fun D => CV g (nightS (inp g) (D : Int) 4) c) D).2) → ∀ v6, Wp X d SH 120 36 [(2, 1), (0, (c : Int)), (0, w), (0, p), (0, q), (0, (D : Int)), v6] [] SH (fl h2) Q) 51 ?_ ?_ 0 (by omega)
      · skip
        apply s_120_0
        try simp only [mi_1, fl_1_4, mi_12, true_and, and_true, true_or, or_true, implies_true, b10_0, b10_1]
        repeat' (first | refine And.intro ?_ ?_ | intro _)
        all_goals (try (first | omega | (unfold r32; omega) | exact hQ | exact qe hQ (by omega) | exact qe hQ (by (repeat' split) <;> omega) | exact b01 | exact n01 | exact n21 | exact n31 | exact absurd trivial (by assumption)))
        refine c32 X g hc _ _ (by omega) ?_
        apply s_120_8
        try simp only [mi_1, fl_1_4, mi_12, true_and, and_true, true_or, or_true, implies_true, b10_0, b10_1]
        repeat' (first | refine And.intro ?_ ?_ | intro _)
        all_goals (try (first | omega | (unfold r32; omega) | exact hQ | exact qe hQ (by omega) | exact qe hQ (by (repeat' split) <;> omega) | exact b01 | exact n01 | exact n21 | exact n31 | exact absurd trivial (by assumption)))
        refine c130 X _ _ _ _ _ _ (by omega) ?_
        apply s_120_21
        try simp only [mi_1, fl_1_4, mi_12, true_and, and_true, true_or, or_true, implies_true, b10_0, b10_1]
        repeat' (first | refine And.intro ?_ ?_ | intro _)
        all_goals (try (first | omega | (unfold r32; omega) | exact hQ | exact qe hQ (by omega) | exact qe hQ (by (repeat' split) <;> omega) | exact b01 | exact n01 | exact n21 | exact n31 | exact absurd trivial (by assumption)))
        all_goals (try exact key g (fun _ _ _ => rfl) (Or.inl rfl) _ _ (fun _ => ⟨rfl, rfl⟩) (fun z => absurd rfl z) _)
      · intro h2 hF2 hk p q hp hq v6
        obtain ⟨q1, q2⟩ := hq (by omega)
        have h113 := hk.resolve_left (by omega)
        apply s_120_36
        try simp only [mi_1, fl_1_4, mi_12, true_and, and_true, true_or, or_true, implies_true, b10_0, b10_1]
        repeat' (first | refine And.intro ?_ ?_ | intro _)
        all_goals (try (first | omega | (unfold r32; omega) | exact hQ | exact qe hQ (by omega) | exact qe hQ (by (repeat' split) <;> omega) | exact b01 | exact n01 | exact n21 | exact n31 | exact absurd trivial (by assumption)))
        · exact fin h2 hF2 h113 _ (by rw [q2, if_neg (by assumption)])
        · exact fin h2 hF2 h113 _ (by rw [q1, if_pos (by omega)])
      · intro D hD ih h2 hF2 hk p q hp hq v6
        have e10 : ((D + 1 : Nat) : Int) = (D : Int) + 1 := by omega
        have sbD := sb D
        have hfD := hfb D
        have c140' := c140 X (D := D) h hB hH hc (by omega) hF2
        rw [e10] at ih
        generalize hcv : CV g (nightS (inp g) (D : Int) 4) c = cv at c140' hfD
        have hs1 : (slF (fun D => CV g (nightS (inp g) (D : Int) 4) c) (D + 1)).1 = if cv < (slF (fun D => CV g (nightS (inp g) (D : Int) 4) c) D).2 then (D : Int) else (slF (fun D => CV g (nightS (inp g) (D : Int) 4) c) D).1 := by rw [← hcv]; rfl
        have hs2 : (slF (fun D => CV g (nightS (inp g) (D : Int) 4) c) (D + 1)).2 = if (slF (fun D => CV g (nightS (inp g) (D : Int) 4) c) D).2 < cv then (slF (fun D => CV g (nightS (inp g) (D : Int) 4) c) D).2 else cv := by rw [← hcv]; rfl
        have hs0 : D = 0 → (slF (fun D => CV g (nightS (inp g) (D : Int) 4) c) D).2 = 1000000 := fun z => by subst z; rfl
        apply s_120_36
        try simp only [mi_1, fl_1_4, mi_12, true_and, and_true, true_or, or_true, implies_true, b10_0, b10_1]
        repeat' (first | refine And.intro ?_ ?_ | intro _)
        all_goals (try (first | omega | (unfold r32; omega) | exact hQ | exact qe hQ (by omega) | exact qe hQ (by (repeat' split) <;> omega) | exact b01 | exact n01 | exact n21 | exact n31 | exact absurd trivial (by assumption)))
        refine c140' _ _ (by omega) ?_
        rintro _ h3 ⟨rfl, hF3, h113⟩
        have nx := ih h3 hF3 (Or.inr h113)
        generalize (slF (fun D => CV g (nightS (inp g) (D : Int) 4) c) D).1 = u1 at *
        generalize (slF (fun D => CV g (nightS (inp g) (D : Int) 4) c) D).2 = u2 at *
        by_cases hD0 : D = 0
        · obtain ⟨rfl, rfl⟩ := hp hD0
          have z := hs0 hD0
          have n1' := nx (D : Int) cv (fun z => by omega) (fun _ => ⟨by rw [hs1, if_pos (by omega)], by rw [hs2, if_neg (by omega)]⟩)
          apply s_120_50
          try simp only [mi_1, fl_1_4, mi_12, true_and, and_true, true_or, or_true, implies_true, b10_0, b10_1]
          repeat' (first | refine And.intro ?_ ?_ | intro _)
          all_goals (try (first | omega | (unfold r32; omega) | exact hQ | exact qe hQ (by omega) | exact qe hQ (by (repeat' split) <;> omega) | exact b01 | exact n01 | exact n21 | exact n31 | exact absurd trivial (by assumption)))
          apply s_120_64
          try simp only [mi_1, fl_1_4, mi_12, true_and, and_true, true_or, or_true, implies_true, b10_0, b10_1]
          repeat' (first | refine And.intro ?_ ?_ | intro _)
          all_goals (try (first | omega | (unfold r32; omega) | exact hQ | exact qe hQ (by omega) | exact qe hQ (by (repeat' split) <;> omega) | exact b01 | exact n01 | exact n21 | exact n31 | exact absurd trivial (by assumption)))
          apply s_120_71
          try simp only [mi_1, fl_1_4, mi_12, true_and, and_true, true_or, or_true, implies_true, b10_0, b10_1]
          repeat' (first | refine And.intro ?_ ?_ | intro _)
          all_goals (try (first | omega | (unfold r32; omega) | exact hQ | exact qe hQ (by omega) | exact qe hQ (by (repeat' split) <;> omega) | exact b01 | exact n01 | exact n21 | exact n31 | exact absurd trivial (by assumption)))
          all_goals (try exact n1' _)
        · obtain ⟨rfl, rfl⟩ := hq hD0
          by_cases hlt : cv < q
          · have n1' := nx (D : Int) cv (fun z => by omega) (fun _ => ⟨by rw [hs1, if_pos hlt], by rw [hs2, if_neg (by omega)]⟩)
            apply s_120_50
            try simp only [mi_1, fl_1_4, mi_12, true_and, and_true, true_or, or_true, implies_true, b10_0, b10_1]
            repeat' (first | refine And.intro ?_ ?_ | intro _)
            all_goals (try (first | omega | (unfold r32; omega) | exact hQ | exact qe hQ (by omega) | exact qe hQ (by (repeat' split) <;> omega) | exact b01 | exact n01 | exact n21 | exact n31 | exact absurd trivial (by assumption)))
            apply s_120_64
            try simp only [mi_1, fl_1_4, mi_12, true_and, and_true, true_or, or_true, implies_true, b10_0, b10_1]
            repeat' (first | refine And.intro ?_ ?_ | intro _)
            all_goals (try (first | omega | (unfold r32; omega) | exact hQ | exact qe hQ (by omega) | exact qe hQ (by (repeat' split) <;> omega) | exact b01 | exact n01 | exact n21 | exact n31 | exact absurd trivial (by assumption)))
            apply s_120_71
            try simp only [mi_1, fl_1_4, mi_12, true_and, and_true, true_or, or_true, implies_true, b10_0, b10_1]
            repeat' (first | refine And.intro ?_ ?_ | intro _)
            all_goals (try (first | omega | (unfold r32; omega) | exact hQ | exact qe hQ (by omega) | exact qe hQ (by (repeat' split) <;> omega) | exact b01 | exact n01 | exact n21 | exact n31 | exact absurd trivial (by assumption)))
            all_goals (try exact n1' _)
          · have n1' := nx p q (fun z => by omega) (fun _ => ⟨by rw [hs1, if_neg hlt], by rw [hs2]; split <;> omega⟩)
            apply s_120_50
            try simp only [mi_1, fl_1_4, mi_12, true_and, and_true, true_or, or_true, implies_true, b10_0, b10_1]
            repeat' (first | refine And.intro ?_ ?_ | intro _)
            all_goals (try (first | omega | (unfold r32; omega) | exact hQ | exact qe hQ (by omega) | exact qe hQ (by (repeat' split) <;> omega) | exact b01 | exact n01 | exact n21 | exact n31 | exact absurd trivial (by assumption)))
            apply s_120_71
            try simp only [mi_1, fl_1_4, mi_12, true_and, and_true, true_or, or_true, implies_true, b10_0, b10_1]
            repeat' (first | refine And.intro ?_ ?_ | intro _)
            all_goals (try (first | omega | (unfold r32; omega) | exact hQ | exact qe hQ (by omega) | exact qe hQ (by (repeat' split) <;> omega) | exact b01 | exact n01 | exact n21 | exact n31 | exact absurd trivial (by assumption)))
            all_goals (try exact n1' _)
    · have r1 : Ret X 60 120 [(2, 1), (0, (c : Int)), (0, w), (3, 0), (3, 0), (3, 0), (3, 0)] g (some (0, -1002)) g := by
        intro d Q hd hQ
        apply s_120_0
        try simp only [mi_1, fl_1_4, mi_12, true_and, and_true, true_or, or_true, implies_true, b10_0, b10_1]
        repeat' (first | refine And.intro ?_ ?_ | intro _)
        all_goals (try (first | omega | (unfold r32; omega) | exact hQ | exact qe hQ (by omega) | exact qe hQ (by (repeat' split) <;> omega) | exact b01 | exact n01 | exact n21 | exact n31 | exact absurd trivial (by assumption)))
        refine c32 X g hc _ _ (by omega) ?_
        apply s_120_8
        try simp only [mi_1, fl_1_4, mi_12, true_and, and_true, true_or, or_true, implies_true, b10_0, b10_1]
        repeat' (first | refine And.intro ?_ ?_ | intro _)
        all_goals (try (first | omega | (unfold r32; omega) | exact hQ | exact qe hQ (by omega) | exact qe hQ (by (repeat' split) <;> omega) | exact b01 | exact n01 | exact n21 | exact n31 | exact absurd trivial (by assumption)))
        refine c130 X _ _ _ _ _ _ (by omega) ?_
        apply s_120_21
        try simp only [mi_1, fl_1_4, mi_12, true_and, and_true, true_or, or_true, implies_true, b10_0, b10_1]
        repeat' (first | refine And.intro ?_ ?_ | intro _)
        all_goals (try (first | omega | (unfold r32; omega) | exact hQ | exact qe hQ (by omega) | exact qe hQ (by (repeat' split) <;> omega) | exact b01 | exact n01 | exact n21 | exact n31 | exact absurd trivial (by assumption)))
      have r2 : Ret X 60 209 [(2, 87), (0, (c : Int)), (0, w), (3, 0), (3, 0), (3, 0), (3, 0)] g (some (0, -1002)) g := by
        intro d Q hd hQ
        apply s_209_0
        try simp only [mi_87, fl_87_28, up_87_28, true_and, and_true, true_or, or_true, implies_true, b10_0, b10_1]
        repeat' (first | refine And.intro ?_ ?_ | intro _)
        all_goals (try (first | omega | (unfold r32; omega) | exact hQ | exact qe hQ (by omega) | exact qe hQ (by (repeat' split) <;> omega) | exact b01 | exact n01 | exact n21 | exact n31 | exact absurd trivial (by assumption)))
        refine c174 X _ _ _ _ (by omega) ?_
        apply s_209_4
        try simp only [mi_87, fl_87_28, up_87_28, true_and, and_true, true_or, or_true, implies_true, b10_0, b10_1]
        repeat' (first | refine And.intro ?_ ?_ | intro _)
        all_goals (try (first | omega | (unfold r32; omega) | exact hQ | exact qe hQ (by omega) | exact qe hQ (by (repeat' split) <;> omega) | exact b01 | exact n01 | exact n21 | exact n31 | exact absurd trivial (by assumption)))
        refine c144 X _ _ _ _ _ _ (by omega) ?_
        apply s_209_18
        try simp only [mi_87, fl_87_28, up_87_28, true_and, and_true, true_or, or_true, implies_true, b10_0, b10_1]
        repeat' (first | refine And.intro ?_ ?_ | intro _)
        all_goals (try (first | omega | (unfold r32; omega) | exact hQ | exact qe hQ (by omega) | exact qe hQ (by (repeat' split) <;> omega) | exact b01 | exact n01 | exact n21 | exact n31 | exact absurd trivial (by assumption)))
      exact PR_of r1 r2 ⟨fun _ _ _ => rfl, h.2.2.2.2.2⟩ d Q hd hQ
  · have r1 : Ret X 60 120 [(2, 1), (0, a), (0, w), (3, 0), (3, 0), (3, 0), (3, 0)] g (some (0, -1001)) g := by
      intro d Q hd hQ
      apply s_120_0
      try simp only [mi_1, fl_1_4, mi_12, true_and, and_true, true_or, or_true, implies_true, b10_0, b10_1]
      repeat' (first | refine And.intro ?_ ?_ | intro _)
      all_goals (try (first | omega | (unfold r32; omega) | exact hQ | exact qe hQ (by omega) | exact qe hQ (by (repeat' split) <;> omega) | exact b01 | exact n01 | exact n21 | exact n31 | exact absurd trivial (by assumption)))
      refine c32n X g _ ha _ _ (by omega) ?_
      apply s_120_8
      try simp only [mi_1, fl_1_4, mi_12, true_and, and_true, true_or, or_true, implies_true, b10_0, b10_1]
      repeat' (first | refine And.intro ?_ ?_ | intro _)
      all_goals (try (first | omega | (unfold r32; omega) | exact hQ | exact qe hQ (by omega) | exact qe hQ (by (repeat' split) <;> omega) | exact b01 | exact n01 | exact n21 | exact n31 | exact absurd trivial (by assumption)))
    have r2 : Ret X 60 209 [(2, 87), (0, a), (0, w), (3, 0), (3, 0), (3, 0), (3, 0)] g (some (0, -1001)) g := by
      intro d Q hd hQ
      apply s_209_0
      try simp only [mi_87, fl_87_28, up_87_28, true_and, and_true, true_or, or_true, implies_true, b10_0, b10_1]
      repeat' (first | refine And.intro ?_ ?_ | intro _)
      all_goals (try (first | omega | (unfold r32; omega) | exact hQ | exact qe hQ (by omega) | exact qe hQ (by (repeat' split) <;> omega) | exact b01 | exact n01 | exact n21 | exact n31 | exact absurd trivial (by assumption)))
      refine c174 X _ _ _ _ (by omega) ?_
      apply s_209_4
      try simp only [mi_87, fl_87_28, up_87_28, true_and, and_true, true_or, or_true, implies_true, b10_0, b10_1]
      repeat' (first | refine And.intro ?_ ?_ | intro _)
      all_goals (try (first | omega | (unfold r32; omega) | exact hQ | exact qe hQ (by omega) | exact qe hQ (by (repeat' split) <;> omega) | exact b01 | exact n01 | exact n21 | exact n31 | exact absurd trivial (by assumption)))
    exact PR_of r1 r2 ⟨fun _ _ _ => rfl, h.2.2.2.2.2⟩ d Q hd hQ
