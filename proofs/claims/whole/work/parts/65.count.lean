/-! count -/
theorem fn0 (X : mX) {g : mF} (h : NI g) : Rel X 6 192 [(2, 87), (3, 0), (3, 0), (3, 0), (3, 0), (3, 0), (3, 0)] g (fun ro g2 => ro = none ∧ FM g g2 ∧ MS g2 (NN g) ∧ SI (inp g) 18959 (NN g)) := by
  obtain ⟨i1, i2, i3, i4, i5⟩ := NI_in h
  exact c192 X i4 i5 i1 i2 i3.1 (by omega)
theorem NC_fin0 {g g2 : mF} (h : NI g) (hM : FM g g2) : NC g g2 ∧ Iknow g2 := by
  have hn : NC g g2 := fun o k ho => hM o k (by omega)
  have e : NN g2 = NN g := by unfold NN; rw [NC_in hn]
  refine ⟨hn, ?_⟩
  unfold Iknow
  rw [e, NC_in hn, hM 11 3 (by omega)]
  rcases h.2.2.2.2.2 with z | ⟨z1, z2, z3⟩
  · exact Or.inl z
  · refine Or.inr ⟨z1, ?_, z3⟩
    intro c hc
    obtain ⟨s1, s2, s3, s4⟩ := z2 c hc
    rw [hM _ _ (by omega), hM _ _ (by omega), hM _ _ (by omega)]
    refine ⟨s1, s2, s3, fun i hi => ?_⟩
    rw [hM _ _ (by omega), hM _ _ (by omega)]
    exact s4 i hi
theorem c39 (X : mX) (g : mF) : Ret X 0 39 [(2, 12), (3, 0), (3, 0)] g (some (0, sumN 4 (fun c => if g (19 + 6 * c) 0 ≤ 0 then 0 else 1))) g := by
  intro d Q hd hQ
  have key := lup (P := fun k => Wp X d SH 39 4 [(2, 12), (0, sumN k (fun c => if g (19 + 6 * c) 0 ≤ 0 then 0 else 1)), (0, (k : Int))] [] SH (fl g) Q) 4 ?_ ?_ 0 (by omega)
  · skip
    apply s_39_0
    try simp only [mi_12, fl_12_0, mi_13, ml_13, fl_13, cm_o, cl_0, cu_0, true_and, and_true, true_or, or_true, implies_true, b10_0, b10_1]
    repeat' (first | refine And.intro ?_ ?_ | intro _)
    all_goals (try (first | omega | (unfold r32; omega) | exact hQ | exact qe hQ (by omega) | exact qe hQ (by (repeat' split) <;> omega) | exact b01 | exact n01 | exact n21 | exact n31 | exact absurd trivial (by assumption)))
    exact key
  · skip
    apply s_39_4
    try simp only [mi_12, fl_12_0, mi_13, ml_13, fl_13, cm_o, cl_0, cu_0, true_and, and_true, true_or, or_true, implies_true, b10_0, b10_1]
    repeat' (first | refine And.intro ?_ ?_ | intro _)
    all_goals (try (first | omega | (unfold r32; omega) | exact hQ | exact qe hQ (by omega) | exact qe hQ (by (repeat' split) <;> omega) | exact b01 | exact n01 | exact n21 | exact n31 | exact absurd trivial (by assumption)))
  · intro k hk ih
    have e2 : ((k : Int)).toNat = k := by omega
    have e10 : ((k + 1 : Nat) : Int) = (k : Int) + 1 := by omega
    have b1 := sumN_b (n := k) (a := fun c => if g (19 + 6 * c) 0 ≤ 0 then (0 : Int) else 1) (lo := 0) (hi := 1) (fun i _ => by (try simp only []); split <;> omega)
    simp only [e10, sumN] at ih
    apply s_39_4
    try simp only [mi_12, fl_12_0, mi_13, ml_13, fl_13, cm_o, cl_0, cu_0, hk, e2, true_and, and_true, true_or, or_true, implies_true, b10_0, b10_1]
    repeat' (first | refine And.intro ?_ ?_ | intro _)
    all_goals (try (first | omega | (unfold r32; omega) | exact hQ | exact qe hQ (by omega) | exact qe hQ (by (repeat' split) <;> omega) | exact b01 | exact n01 | exact n21 | exact n31 | exact absurd trivial (by assumption)))
    · rw [if_pos (by assumption), Int.add_zero] at ih
      apply s_39_24
      try simp only [mi_12, fl_12_0, mi_13, ml_13, fl_13, cm_o, cl_0, cu_0, true_and, and_true, true_or, or_true, implies_true, b10_0, b10_1]
      repeat' (first | refine And.intro ?_ ?_ | intro _)
      all_goals (try (first | omega | (unfold r32; omega) | exact hQ | exact qe hQ (by omega) | exact qe hQ (by (repeat' split) <;> omega) | exact b01 | exact n01 | exact n21 | exact n31 | exact absurd trivial (by assumption)))
      all_goals (try exact ih)
    · rw [if_neg (by assumption)] at ih
      apply s_39_24
      try simp only [mi_12, fl_12_0, mi_13, ml_13, fl_13, cm_o, cl_0, cu_0, true_and, and_true, true_or, or_true, implies_true, b10_0, b10_1]
      repeat' (first | refine And.intro ?_ ?_ | intro _)
      all_goals (try (first | omega | (unfold r32; omega) | exact hQ | exact qe hQ (by omega) | exact qe hQ (by (repeat' split) <;> omega) | exact b01 | exact n01 | exact n21 | exact n31 | exact absurd trivial (by assumption)))
      all_goals (try exact ih)
theorem c40 (X : mX) {g s : mF} (hS : CS g s) : Ret X 0 40 [(2, 12), (3, 0), (3, 0)] g (some (0, sumN 4 (fun c => if s 0 c = -1 then 0 else 1))) g := by
  intro d Q hd hQ
  have key := lup (P := fun k => Wp X d SH 40 4 [(2, 12), (0, sumN k (fun c => if s 0 c = -1 then 0 else 1)), (0, (k : Int))] [] SH (fl g) Q) 4 ?_ ?_ 0 (by omega)
  · skip
    apply s_40_0
    try simp only [mi_12, fl_12_0, mi_13, ml_13, fl_13, cm_o, cl_4, cu_4, true_and, and_true, true_or, or_true, implies_true, b10_0, b10_1]
    repeat' (first | refine And.intro ?_ ?_ | intro _)
    all_goals (try (first | omega | (unfold r32; omega) | exact hQ | exact qe hQ (by omega) | exact qe hQ (by (repeat' split) <;> omega) | exact b01 | exact n01 | exact n21 | exact n31 | exact absurd trivial (by assumption)))
    exact key
  · skip
    apply s_40_4
    try simp only [mi_12, fl_12_0, mi_13, ml_13, fl_13, cm_o, cl_4, cu_4, true_and, and_true, true_or, or_true, implies_true, b10_0, b10_1]
    repeat' (first | refine And.intro ?_ ?_ | intro _)
    all_goals (try (first | omega | (unfold r32; omega) | exact hQ | exact qe hQ (by omega) | exact qe hQ (by (repeat' split) <;> omega) | exact b01 | exact n01 | exact n21 | exact n31 | exact absurd trivial (by assumption)))
  · intro k hk ih
    have e2 : ((k : Int)).toNat = k := by omega
    have e10 : ((k + 1 : Nat) : Int) = (k : Int) + 1 := by omega
    have f := (hS k hk).1
    have b1 := sumN_b (n := k) (a := fun c => if s 0 c = -1 then (0 : Int) else 1) (lo := 0) (hi := 1) (fun i _ => by (try simp only []); split <;> omega)
    simp only [e10, sumN] at ih
    apply s_40_4
    try simp only [mi_12, fl_12_0, mi_13, ml_13, fl_13, cm_o, cl_4, cu_4, hk, e2, f, true_and, and_true, true_or, or_true, implies_true, b10_0, b10_1]
    repeat' (first | refine And.intro ?_ ?_ | intro _)
    all_goals (try (first | omega | (unfold r32; omega) | exact hQ | exact qe hQ (by omega) | exact qe hQ (by (repeat' split) <;> omega) | exact b01 | exact n01 | exact n21 | exact n31 | exact absurd trivial (by assumption)))
    · rw [if_pos (by assumption), Int.add_zero] at ih
      apply s_40_25
      try simp only [mi_12, fl_12_0, mi_13, ml_13, fl_13, cm_o, cl_4, cu_4, true_and, and_true, true_or, or_true, implies_true, b10_0, b10_1]
      repeat' (first | refine And.intro ?_ ?_ | intro _)
      all_goals (try (first | omega | (unfold r32; omega) | exact hQ | exact qe hQ (by omega) | exact qe hQ (by (repeat' split) <;> omega) | exact b01 | exact n01 | exact n21 | exact n31 | exact absurd trivial (by assumption)))
      all_goals (try exact ih)
    · rw [if_neg (by assumption)] at ih
      apply s_40_25
      try simp only [mi_12, fl_12_0, mi_13, ml_13, fl_13, cm_o, cl_4, cu_4, true_and, and_true, true_or, or_true, implies_true, b10_0, b10_1]
      repeat' (first | refine And.intro ?_ ?_ | intro _)
      all_goals (try (first | omega | (unfold r32; omega) | exact hQ | exact qe hQ (by omega) | exact qe hQ (by (repeat' split) <;> omega) | exact b01 | exact n01 | exact n21 | exact n31 | exact absurd trivial (by assumption)))
      all_goals (try exact ih)
def cntV (g s : mF) (w : Int) : Int := if w = 0 then g 43 0 else if w = 1 then g 43 1 else if w = 2 then g 11 1 else if w = 3 then g 11 2 else if w = 4 then sumN 4 (fun c => if g (19 + 6 * c) 0 ≤ 0 then 0 else 1) else if w = 5 then sumN 4 (fun c => if s 0 c = -1 then 0 else 1) else if w = 6 then g 49 1 else if w = 7 then g 0 10 else -1002
theorem T_count (X : mX) (g : mF) (w : Int) (h : NI g) (hB : Ibell g) (hH : Ihear g) (hR : Irule g) (hSe : Iseason g) : PR X 129 228 [(2, 1), (0, w)] [(2, 87), (0, w), (3, 0), (3, 0), (3, 0)] g (fun g2 => NC g g2 ∧ Iknow g2) := by
  have kn' := kn X h
  intro d Q hd hQ
  -- the reference, from a memory that has the class's fields still
  have mod : ∀ g1, (∀ o k, o = 86 ∨ o = 99 → g1 o k = g o k) → ∀ R : mF → Prop, Rel X 6 192 [(2, 87), (3, 0), (3, 0), (3, 0), (3, 0), (3, 0), (3, 0)] g1 (fun ro g2 => ro = none ∧ FM g1 g2 ∧ MS g2 (NN g) ∧ SI (inp g) 18959 (NN g)) → (∀ g2, FM g1 g2 → R g2) → Rel X 60 228 [(2, 87), (0, w), (3, 0), (3, 0), (3, 0)] g1 (fun r2 g2 => r2 = some (0, cntV g (NN g) w) ∧ R g2) := by
    intro g1 hg R hfn hRR d Q hd hQ
    apply s_228_0
    try simp only [mi_87, fl_87_14, mi_100, ml_100, fl_100, up_100, fl_87_30, mi_112, ml_112, fl_112, up_112, fl_87_24, up_87_24, fl_87_38, up_87_38, fl_87_20, up_87_20, fl_87_22, up_87_22, fl_87_44, up_87_44, fl_87_42, up_87_42, true_and, and_true, true_or, or_true, implies_true, b10_0, b10_1]
    repeat' (first | refine And.intro ?_ ?_ | intro _)
    all_goals (try (first | omega | (unfold r32; omega) | exact hQ | exact qe hQ (by omega) | exact qe hQ (by (repeat' split) <;> omega) | exact b01 | exact n01 | exact n21 | exact n31 | exact absurd trivial (by assumption)))
    refine hfn _ _ (by omega) ?_
    rintro _ g2 ⟨rfl, hM, hS2, hI⟩
    have hq : ∀ u, u = cntV g (NN g) w → Q (some (0, u)) (fl g2) := fun u hu => by rw [hu]; exact hQ _ g2 ⟨rfl, hRR g2 hM⟩
    clear hQ
    have key := lup (P := fun k => Wp X d SH 228 11 [(2, 87), (0, w), (0, sumN k (fun c => if g (19 + 6 * c) 0 ≤ 0 then 0 else 1)), (0, sumN k (fun c => if NN g 0 c = -1 then 0 else 1)), (0, (k : Int))] [] SH (fl g2) Q) 4 ?_ ?_ 0 (by omega)
    · skip
      apply s_228_4
      try simp only [mi_87, fl_87_14, mi_100, ml_100, fl_100, up_100, fl_87_30, mi_112, ml_112, fl_112, up_112, fl_87_24, up_87_24, fl_87_38, up_87_38, fl_87_20, up_87_20, fl_87_22, up_87_22, fl_87_44, up_87_44, fl_87_42, up_87_42, true_and, and_true, true_or, or_true, implies_true, b10_0, b10_1]
      repeat' (first | refine And.intro ?_ ?_ | intro _)
      all_goals (try (first | omega | (unfold r32; omega) | exact hQ | exact qe hQ (by omega) | exact qe hQ (by (repeat' split) <;> omega) | exact b01 | exact n01 | exact n21 | exact n31 | exact absurd trivial (by assumption)))
      exact key
    · have f24 : g2 86 24 = g 43 0 := by rw [hM _ _ (by omega), hg _ _ (by omega)]; exact hB.1
      have f38 : g2 86 38 = g 43 1 := by rw [hM _ _ (by omega), hg _ _ (by omega)]; exact hH.1
      have f20 : g2 86 20 = g 11 1 := by rw [hM _ _ (by omega), hg _ _ (by omega)]; exact h.2.2.1.1.1
      have f22 : g2 86 22 = g 11 2 := by rw [hM _ _ (by omega), hg _ _ (by omega)]; exact h.2.2.2.2.1.2.1
      have f44 : g2 86 44 = g 49 1 := by rw [hM _ _ (by omega), hg _ _ (by omega)]; exact hR.2.1
      have f42 : g2 86 42 = g 0 10 := by rw [hM _ _ (by omega), hg _ _ (by omega)]; exact hSe.1
      unfold cntV at hq
      apply s_228_11
      try simp only [mi_87, fl_87_14, mi_100, ml_100, fl_100, up_100, fl_87_30, mi_112, ml_112, fl_112, up_112, fl_87_24, up_87_24, fl_87_38, up_87_38, fl_87_20, up_87_20, fl_87_22, up_87_22, fl_87_44, up_87_44, fl_87_42, up_87_42, f24, f38, f20, f22, f44, f42, true_and, and_true, true_or, or_true, implies_true, b10_0, b10_1]
      repeat' (first | refine And.intro ?_ ?_ | intro _)
      all_goals (try (first | omega | (unfold r32; omega) | exact hQ | exact qe hQ (by omega) | exact qe hQ (by (repeat' split) <;> omega) | exact b01 | exact n01 | exact n21 | exact n31 | exact absurd trivial (by assumption)))
      all_goals (exact hq _ (by (repeat' split) <;> omega))
    · intro k hk ih
      have e2 : ((k : Int)).toNat = k := by omega
      have e10 : ((k + 1 : Nat) : Int) = (k : Int) + 1 := by omega
      have f := (hS2 k hk).1
      have f99 : g2 99 k = g (19 + 6 * k) 0 := by rw [hM _ _ (by omega), hg _ _ (by omega)]; exact (h.2.1 k hk).1
      have hlo := (hI k hk).1
      have b1 := sumN_b (n := k) (a := fun c => if g (19 + 6 * c) 0 ≤ 0 then (0 : Int) else 1) (lo := 0) (hi := 1) (fun i _ => by (try simp only []); split <;> omega)
      have b2 := sumN_b (n := k) (a := fun c => if NN g 0 c = -1 then (0 : Int) else 1) (lo := 0) (hi := 1) (fun i _ => by (try simp only []); split <;> omega)
      simp only [e10, sumN] at ih
      have fin : ∀ u, (u = if g (19 + 6 * k) 0 ≤ 0 then (0 : Int) else 1) → Wp X d SH 228 33 [(2, 87), (0, w), (0, sumN k (fun c => if g (19 + 6 * c) 0 ≤ 0 then 0 else 1)), (0, sumN k (fun c => if NN g 0 c = -1 then 0 else 1)), (0, (k : Int))] [(0, u), (0, sumN k (fun c => if g (19 + 6 * c) 0 ≤ 0 then 0 else 1))] SH (fl g2) Q := by
        intro u hu
        rw [← hu] at ih
        have hub : 0 ≤ u ∧ u ≤ 1 := by rw [hu]; split <;> omega
        apply s_228_33
        try simp only [mi_87, fl_87_14, mi_100, ml_100, fl_100, up_100, fl_87_30, mi_112, ml_112, fl_112, up_112, fl_87_24, up_87_24, fl_87_38, up_87_38, fl_87_20, up_87_20, fl_87_22, up_87_22, fl_87_44, up_87_44, fl_87_42, up_87_42, e2, f, true_and, and_true, true_or, or_true, implies_true, b10_0, b10_1]
        repeat' (first | refine And.intro ?_ ?_ | intro _)
        all_goals (try (first | omega | (unfold r32; omega) | exact hQ | exact qe hQ (by omega) | exact qe hQ (by (repeat' split) <;> omega) | exact b01 | exact n01 | exact n21 | exact n31 | exact absurd trivial (by assumption)))
        · rw [if_pos (by omega)] at ih
          apply s_228_51
          try simp only [mi_87, fl_87_14, mi_100, ml_100, fl_100, up_100, fl_87_30, mi_112, ml_112, fl_112, up_112, fl_87_24, up_87_24, fl_87_38, up_87_38, fl_87_20, up_87_20, fl_87_22, up_87_22, fl_87_44, up_87_44, fl_87_42, up_87_42, true_and, and_true, true_or, or_true, implies_true, b10_0, b10_1]
          repeat' (first | refine And.intro ?_ ?_ | intro _)
          all_goals (try (first | omega | (unfold r32; omega) | exact hQ | exact qe hQ (by omega) | exact qe hQ (by (repeat' split) <;> omega) | exact b01 | exact n01 | exact n21 | exact n31 | exact absurd trivial (by assumption)))
          all_goals (try exact ih)
        · rw [if_neg (by omega)] at ih
          apply s_228_51
          try simp only [mi_87, fl_87_14, mi_100, ml_100, fl_100, up_100, fl_87_30, mi_112, ml_112, fl_112, up_112, fl_87_24, up_87_24, fl_87_38, up_87_38, fl_87_20, up_87_20, fl_87_22, up_87_22, fl_87_44, up_87_44, fl_87_42, up_87_42, true_and, and_true, true_or, or_true, implies_true, b10_0, b10_1]
          repeat' (first | refine And.intro ?_ ?_ | intro _)
          all_goals (try (first | omega | (unfold r32; omega) | exact hQ | exact qe hQ (by omega) | exact qe hQ (by (repeat' split) <;> omega) | exact b01 | exact n01 | exact n21 | exact n31 | exact absurd trivial (by assumption)))
          all_goals (try exact ih)
      apply s_228_11
      try simp only [mi_87, fl_87_14, mi_100, ml_100, fl_100, up_100, fl_87_30, mi_112, ml_112, fl_112, up_112, fl_87_24, up_87_24, fl_87_38, up_87_38, fl_87_20, up_87_20, fl_87_22, up_87_22, fl_87_44, up_87_44, fl_87_42, up_87_42, e2, f99, true_and, and_true, true_or, or_true, implies_true, b10_0, b10_1]
      repeat' (first | refine And.intro ?_ ?_ | intro _)
      all_goals (try (first | omega | (unfold r32; omega) | exact hQ | exact qe hQ (by omega) | exact qe hQ (by (repeat' split) <;> omega) | exact b01 | exact n01 | exact n21 | exact n31 | exact absurd trivial (by assumption)))
      · exact fin _ (by rw [if_pos (by assumption)])
      · exact fin _ (by rw [if_neg (by assumption)])
  have fin : ∀ v, v = cntV g (NN g) w → Q (some (0, v)) (fl g) := by
    intro v hv
    rw [hv]
    exact hQ _ g ⟨_, rfl, mod g (fun _ _ _ => rfl) _ (fn0 X h) (fun g2 hM => NC_fin0 h hM)⟩
  have fin5 : ∀ g1, FK (mup g 11 3 1) g1 → CS g1 (NN g) → SI (inp g) 18959 (NN g) → ∀ v, v = cntV g (NN g) w → Q (some (0, v)) (fl g1) := by
    intro g1 hK hS hI v hv
    rw [hv]
    refine hQ _ g1 ⟨_, rfl, mod g1 (fun o k ho => by rw [hK _ _ (by omega), mup_n (by omega)]) _ ?_ (fun g2 hM => NC_fin hK hS hI hM)⟩
    intro d Q hd hQ
    refine fn X h hK _ _ (by omega) ?_
    rintro _ g2 ⟨rfl, h1, h2⟩
    exact hQ _ _ ⟨rfl, h1, h2, hI⟩
  clear hQ
  by_cases hw4 : w = 4
  · subst hw4
    have f4 : cntV g (NN g) 4 = sumN 4 (fun c => if g (19 + 6 * c) 0 ≤ 0 then 0 else 1) := rfl
    have hq := fin _ f4.symm
    apply s_129_0
    try simp only [mi_1, fl_1_5, mi_44, fl_44_0, up_44_0, fl_44_1, up_44_1, fl_1_4, mi_12, fl_12_1, up_12_1, fl_12_2, up_12_2, fl_1_6, mi_50, fl_50_1, up_50_1, fl_1_10, up_1_10, true_and, and_true, true_or, or_true, implies_true, b10_0, b10_1]
    repeat' (first | refine And.intro ?_ ?_ | intro _)
    all_goals (try (first | omega | (unfold r32; omega) | exact hQ | exact qe hQ (by omega) | exact qe hQ (by (repeat' split) <;> omega) | exact b01 | exact n01 | exact n21 | exact n31 | exact absurd trivial (by assumption)))
    refine c39 X g _ _ (by omega) ?_
    exact s_129_87 hq
  · by_cases hw5 : w = 5
    · subst hw5
      have f5 : cntV g (NN g) 5 = sumN 4 (fun c => if NN g 0 c = -1 then 0 else 1) := rfl
      apply s_129_0
      try simp only [mi_1, fl_1_5, mi_44, fl_44_0, up_44_0, fl_44_1, up_44_1, fl_1_4, mi_12, fl_12_1, up_12_1, fl_12_2, up_12_2, fl_1_6, mi_50, fl_50_1, up_50_1, fl_1_10, up_1_10, true_and, and_true, true_or, or_true, implies_true, b10_0, b10_1]
      repeat' (first | refine And.intro ?_ ?_ | intro _)
      all_goals (try (first | omega | (unfold r32; omega) | exact hQ | exact qe hQ (by omega) | exact qe hQ (by (repeat' split) <;> omega) | exact b01 | exact n01 | exact n21 | exact n31 | exact absurd trivial (by assumption)))
      apply s_139_0
      try simp only [mi_1, fl_1_4, mi_12, fl_1_2, mi_6, true_and, and_true, true_or, or_true, implies_true, b10_0, b10_1]
      repeat' (first | refine And.intro ?_ ?_ | intro _)
      all_goals (try (first | omega | (unfold r32; omega) | exact hQ | exact qe hQ (by omega) | exact qe hQ (by (repeat' split) <;> omega) | exact b01 | exact n01 | exact n21 | exact n31 | exact absurd trivial (by assumption)))
      refine kn' _ _ (by omega) ?_
      rintro _ g1 ⟨rfl, hK, hS, hI⟩
      apply s_139_11
      try simp only [mi_1, fl_1_4, mi_12, fl_1_2, mi_6, true_and, and_true, true_or, or_true, implies_true, b10_0, b10_1]
      repeat' (first | refine And.intro ?_ ?_ | intro _)
      all_goals (try (first | omega | (unfold r32; omega) | exact hQ | exact qe hQ (by omega) | exact qe hQ (by (repeat' split) <;> omega) | exact b01 | exact n01 | exact n21 | exact n31 | exact absurd trivial (by assumption)))
      refine c40 X hS _ _ (by omega) ?_
      refine s_139_18 ?_
      exact s_129_92 (fin5 g1 hK hS hI _ f5.symm)
    · unfold cntV at fin
      apply s_129_0
      try simp only [mi_1, fl_1_5, mi_44, fl_44_0, up_44_0, fl_44_1, up_44_1, fl_1_4, mi_12, fl_12_1, up_12_1, fl_12_2, up_12_2, fl_1_6, mi_50, fl_50_1, up_50_1, fl_1_10, up_1_10, true_and, and_true, true_or, or_true, implies_true, b10_0, b10_1]
      repeat' (first | refine And.intro ?_ ?_ | intro _)
      all_goals (try (first | omega | (unfold r32; omega) | exact hQ | exact qe hQ (by omega) | exact qe hQ (by (repeat' split) <;> omega) | exact b01 | exact n01 | exact n21 | exact n31 | exact absurd trivial (by assumption)))
      all_goals (exact fin _ (by (repeat' split) <;> omega))
