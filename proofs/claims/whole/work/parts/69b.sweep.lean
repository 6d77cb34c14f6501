/-! sweep -/
theorem c172g (X : mX) {g : mF} {c : Nat} (hc : c < 4) (p : Int) {n : Int} {pw : Nat → Int} (hn : 0 ≤ n ∧ n ≤ 36) (k1 : g 99 c = n) (k4 : ∀ i : Nat, (i : Int) < n → g 102 (36 * c + i) = pw i) : Ret X 0 172 [(2, 87), (0, (c : Int)), (0, p), (3, 0), (3, 0)] g (some (0, sumN n.toNat (fun i => if pw i = p then 1 else 0))) g := by
  intro d Q hd hQ
  have e0 : ((c : Int)).toNat = c := by omega
  have key := lup (P := fun k => Wp X d SH 172 5 [(2, 87), (0, (c : Int)), (0, p), (0, sumN k (fun i => if pw i = p then 1 else 0)), (0, (k : Int))] [] SH (fl g) Q) n.toNat ?_ ?_ 0 (by omega)
  · skip
    apply s_172_0
    try simp only [mi_87, fl_87_14, mi_100, ml_100, fl_100, up_100, fl_87_17, mi_103, ml_103, fl_103, up_103, true_and, and_true, true_or, or_true, implies_true, b10_0, b10_1]
    repeat' (first | refine And.intro ?_ ?_ | intro _)
    all_goals (try (first | omega | (unfold r32; omega) | exact hQ | exact qe hQ (by omega) | exact qe hQ (by (repeat' split) <;> omega) | exact b01 | exact n01 | exact n21 | exact n31 | exact absurd trivial (by assumption)))
    exact key
  · skip
    apply s_172_5
    try simp only [mi_87, fl_87_14, mi_100, ml_100, fl_100, up_100, fl_87_17, mi_103, ml_103, fl_103, up_103, e0, k1, true_and, and_true, true_or, or_true, implies_true, b10_0, b10_1]
    repeat' (first | refine And.intro ?_ ?_ | intro _)
    all_goals (try (first | omega | (unfold r32; omega) | exact hQ | exact qe hQ (by omega) | exact qe hQ (by (repeat' split) <;> omega) | exact b01 | exact n01 | exact n21 | exact n31 | exact absurd trivial (by assumption)))
  · intro k hk ih
    have eck : (36 * (c : Int) + (k : Int)).toNat = 36 * c + k := by omega
    have e10 : ((k + 1 : Nat) : Int) = (k : Int) + 1 := by omega
    have fk := k4 k (by omega)
    have b1 := sumN_b (n := k) (a := fun i => if pw i = p then (1 : Int) else 0) (lo := 0) (hi := 1) (fun i _ => by (try simp only []); split <;> omega)
    simp only [e10, sumN] at ih
    apply s_172_5
    try simp only [mi_87, fl_87_14, mi_100, ml_100, fl_100, up_100, fl_87_17, mi_103, ml_103, fl_103, up_103, e0, k1, eck, fk, true_and, and_true, true_or, or_true, implies_true, b10_0, b10_1]
    repeat' (first | refine And.intro ?_ ?_ | intro _)
    all_goals (try (first | omega | (unfold r32; omega) | exact hQ | exact qe hQ (by omega) | exact qe hQ (by (repeat' split) <;> omega) | exact b01 | exact n01 | exact n21 | exact n31 | exact absurd trivial (by assumption)))
    · rw [if_neg (by assumption)] at ih
      apply s_172_38
      try simp only [mi_87, fl_87_14, mi_100, ml_100, fl_100, up_100, fl_87_17, mi_103, ml_103, fl_103, up_103, true_and, and_true, true_or, or_true, implies_true, b10_0, b10_1]
      repeat' (first | refine And.intro ?_ ?_ | intro _)
      all_goals (try (first | omega | (unfold r32; omega) | exact hQ | exact qe hQ (by omega) | exact qe hQ (by (repeat' split) <;> omega) | exact b01 | exact n01 | exact n21 | exact n31 | exact absurd trivial (by assumption)))
      all_goals (try exact ih)
    · rw [if_pos (by omega)] at ih
      apply s_172_38
      try simp only [mi_87, fl_87_14, mi_100, ml_100, fl_100, up_100, fl_87_17, mi_103, ml_103, fl_103, up_103, true_and, and_true, true_or, or_true, implies_true, b10_0, b10_1]
      repeat' (first | refine And.intro ?_ ?_ | intro _)
      all_goals (try (first | omega | (unfold r32; omega) | exact hQ | exact qe hQ (by omega) | exact qe hQ (by (repeat' split) <;> omega) | exact b01 | exact n01 | exact n21 | exact n31 | exact absurd trivial (by assumption)))
      all_goals (try exact ih)
/-- grains in a clock -/
def grn (g : mF) (c : Nat) : Int := sumN (g (19 + 6 * c) 0).toNat (fun i => if g (20 + 6 * c) i = -1 then 0 else 1)
theorem c17 (X : mX) (g : mF) {c : Nat} (hc : c < 4) (hn : 0 ≤ g (19 + 6 * c) 0 ∧ g (19 + 6 * c) 0 ≤ 36) : Ret X 0 17 [(2, 20 + 6 * (c : Int)), (3, 0), (3, 0)] g (some (0, grn g c)) g := by
  intro d Q hd hQ
  unfold grn at hQ
  have key := lup (P := fun k => Wp X d SH 17 4 [(2, 20 + 6 * (c : Int)), (0, sumN k (fun i => if g (20 + 6 * c) i = -1 then 0 else 1)), (0, (k : Int))] [] SH (fl g) Q) (g (19 + 6 * c) 0).toNat ?_ ?_ 0 (by omega)
  · skip
    apply s_17_0
    try simp only [cm_o, cl_0, cu_0, cl_1, cm_1, cn_1, ca_1, cz_1, true_and, and_true, true_or, or_true, implies_true, b10_0, b10_1]
    repeat' (first | refine And.intro ?_ ?_ | intro _)
    all_goals (try (first | omega | (unfold r32; omega) | exact hQ | exact qe hQ (by omega) | exact qe hQ (by (repeat' split) <;> omega) | exact b01 | exact n01 | exact n21 | exact n31 | exact absurd trivial (by assumption)))
    exact key
  · skip
    apply s_17_4
    try simp only [cm_o, cl_0, cu_0, cl_1, cm_1, cn_1, ca_1, cz_1, hc, true_and, and_true, true_or, or_true, implies_true, b10_0, b10_1]
    repeat' (first | refine And.intro ?_ ?_ | intro _)
    all_goals (try (first | omega | (unfold r32; omega) | exact hQ | exact qe hQ (by omega) | exact qe hQ (by (repeat' split) <;> omega) | exact b01 | exact n01 | exact n21 | exact n31 | exact absurd trivial (by assumption)))
  · intro k hk ih
    have e2 : ((k : Int)).toNat = k := by omega
    have e10 : ((k + 1 : Nat) : Int) = (k : Int) + 1 := by omega
    have b1 := sumN_b (n := k) (a := fun i => if g (20 + 6 * c) i = -1 then (0 : Int) else 1) (lo := 0) (hi := 1) (fun i _ => by (try simp only []); split <;> omega)
    simp only [e10, sumN] at ih
    apply s_17_4
    try simp only [cm_o, cl_0, cu_0, cl_1, cm_1, cn_1, ca_1, cz_1, hc, e2, true_and, and_true, true_or, or_true, implies_true, b10_0, b10_1]
    repeat' (first | refine And.intro ?_ ?_ | intro _)
    all_goals (try (first | omega | (unfold r32; omega) | exact hQ | exact qe hQ (by omega) | exact qe hQ (by (repeat' split) <;> omega) | exact b01 | exact n01 | exact n21 | exact n31 | exact absurd trivial (by assumption)))
    · rw [if_pos (by assumption), Int.add_zero] at ih
      apply s_17_25
      try simp only [cm_o, cl_0, cu_0, cl_1, cm_1, cn_1, ca_1, cz_1, true_and, and_true, true_or, or_true, implies_true, b10_0, b10_1]
      repeat' (first | refine And.intro ?_ ?_ | intro _)
      all_goals (try (first | omega | (unfold r32; omega) | exact hQ | exact qe hQ (by omega) | exact qe hQ (by (repeat' split) <;> omega) | exact b01 | exact n01 | exact n21 | exact n31 | exact absurd trivial (by assumption)))
      all_goals (try exact ih)
    · rw [if_neg (by assumption)] at ih
      apply s_17_25
      try simp only [cm_o, cl_0, cu_0, cl_1, cm_1, cn_1, ca_1, cz_1, true_and, and_true, true_or, or_true, implies_true, b10_0, b10_1]
      repeat' (first | refine And.intro ?_ ?_ | intro _)
      all_goals (try (first | omega | (unfold r32; omega) | exact hQ | exact qe hQ (by omega) | exact qe hQ (by (repeat' split) <;> omega) | exact b01 | exact n01 | exact n21 | exact n31 | exact absurd trivial (by assumption)))
      all_goals (try exact ih)
theorem c176g (X : mX) {g : mF} {c : Nat} (hc : c < 4) {n : Int} {pw : Nat → Int} (hn : 0 ≤ n ∧ n ≤ 36) (k1 : g 99 c = n) (k4 : ∀ i : Nat, (i : Int) < n → g 102 (36 * c + i) = pw i ∧ -1 ≤ pw i) : Ret X 0 176 [(2, 87), (0, (c : Int)), (3, 0), (3, 0)] g (some (0, sumN n.toNat (fun i => if pw i = -1 then 0 else 1))) g := by
  intro d Q hd hQ
  have e0 : ((c : Int)).toNat = c := by omega
  have key := lup (P := fun k => Wp X d SH 176 4 [(2, 87), (0, (c : Int)), (0, sumN k (fun i => if pw i = -1 then 0 else 1)), (0, (k : Int))] [] SH (fl g) Q) n.toNat ?_ ?_ 0 (by omega)
  · skip
    apply s_176_0
    try simp only [mi_87, fl_87_14, mi_100, ml_100, fl_100, up_100, fl_87_17, mi_103, ml_103, fl_103, up_103, true_and, and_true, true_or, or_true, implies_true, b10_0, b10_1]
    repeat' (first | refine And.intro ?_ ?_ | intro _)
    all_goals (try (first | omega | (unfold r32; omega) | exact hQ | exact qe hQ (by omega) | exact qe hQ (by (repeat' split) <;> omega) | exact b01 | exact n01 | exact n21 | exact n31 | exact absurd trivial (by assumption)))
    exact key
  · skip
    apply s_176_4
    try simp only [mi_87, fl_87_14, mi_100, ml_100, fl_100, up_100, fl_87_17, mi_103, ml_103, fl_103, up_103, e0, k1, true_and, and_true, true_or, or_true, implies_true, b10_0, b10_1]
    repeat' (first | refine And.intro ?_ ?_ | intro _)
    all_goals (try (first | omega | (unfold r32; omega) | exact hQ | exact qe hQ (by omega) | exact qe hQ (by (repeat' split) <;> omega) | exact b01 | exact n01 | exact n21 | exact n31 | exact absurd trivial (by assumption)))
  · intro k hk ih
    have eck : (36 * (c : Int) + (k : Int)).toNat = 36 * c + k := by omega
    have e10 : ((k + 1 : Nat) : Int) = (k : Int) + 1 := by omega
    obtain ⟨fk, fb⟩ := k4 k (by omega)
    have b1 := sumN_b (n := k) (a := fun i => if pw i = -1 then (0 : Int) else 1) (lo := 0) (hi := 1) (fun i _ => by (try simp only []); split <;> omega)
    simp only [e10, sumN] at ih
    apply s_176_4
    try simp only [mi_87, fl_87_14, mi_100, ml_100, fl_100, up_100, fl_87_17, mi_103, ml_103, fl_103, up_103, e0, k1, eck, fk, true_and, and_true, true_or, or_true, implies_true, b10_0, b10_1]
    repeat' (first | refine And.intro ?_ ?_ | intro _)
    all_goals (try (first | omega | (unfold r32; omega) | exact hQ | exact qe hQ (by omega) | exact qe hQ (by (repeat' split) <;> omega) | exact b01 | exact n01 | exact n21 | exact n31 | exact absurd trivial (by assumption)))
    · rw [if_pos (by omega)] at ih
      apply s_176_34
      try simp only [mi_87, fl_87_14, mi_100, ml_100, fl_100, up_100, fl_87_17, mi_103, ml_103, fl_103, up_103, true_and, and_true, true_or, or_true, implies_true, b10_0, b10_1]
      repeat' (first | refine And.intro ?_ ?_ | intro _)
      all_goals (try (first | omega | (unfold r32; omega) | exact hQ | exact qe hQ (by omega) | exact qe hQ (by (repeat' split) <;> omega) | exact b01 | exact n01 | exact n21 | exact n31 | exact absurd trivial (by assumption)))
      all_goals (try exact ih)
    · rw [if_neg (by omega)] at ih
      apply s_176_34
      try simp only [mi_87, fl_87_14, mi_100, ml_100, fl_100, up_100, fl_87_17, mi_103, ml_103, fl_103, up_103, true_and, and_true, true_or, or_true, implies_true, b10_0, b10_1]
      repeat' (first | refine And.intro ?_ ?_ | intro _)
      all_goals (try (first | omega | (unfold r32; omega) | exact hQ | exact qe hQ (by omega) | exact qe hQ (by (repeat' split) <;> omega) | exact b01 | exact n01 | exact n21 | exact n31 | exact absurd trivial (by assumption)))
      all_goals (try exact ih)
theorem c16 (X : mX) (g : mF) {c : Nat} (hc : c < 4) : Ret X 1 16 [(2, 20 + 6 * (c : Int))] g none (mfl g (20 + 6 * c) 0 36 (-1)) := by
  intro d Q hd hQ
  have a1 := c232 X g (R := 21 + 6 * (c : Int)) (o := 20 + 6 * c) (N := 36) (cm_1 hc) (cn_1 hc) (fun g i x => cz_1 g hc i x) (by omega) (-1)
  apply s_16_0
  try simp only [cm_o, cl_1, cm_1, cn_1, ca_1, cz_1, hc, true_and, and_true, true_or, or_true, implies_true, b10_0, b10_1]
  repeat' (first | refine And.intro ?_ ?_ | intro _)
  all_goals (try (first | omega | (unfold r32; omega) | exact hQ | exact qe hQ (by omega) | exact qe hQ (by (repeat' split) <;> omega) | exact b01 | exact n01 | exact n21 | exact n31 | exact absurd trivial (by assumption)))
  refine a1 _ _ (by omega) ?_
  apply s_16_8
  try simp only [cm_o, cl_1, cm_1, cn_1, ca_1, cz_1, true_and, and_true, true_or, or_true, implies_true, b10_0, b10_1]
  repeat' (first | refine And.intro ?_ ?_ | intro _)
  all_goals (try (first | omega | (unfold r32; omega) | exact hQ | exact qe hQ (by omega) | exact qe hQ (by (repeat' split) <;> omega) | exact b01 | exact n01 | exact n21 | exact n31 | exact absurd trivial (by assumption)))
/-- what a call that moves grains may change -/
def GC (g g' : mF) : Prop := ∀ o k, ¬ (o = 11 ∧ k = 3 ∨ o = 9 ∨ o = 10 ∨ o = 54 ∨ o = 96 ∨ o = 98 ∨ o = 102 ∨ o = 110 ∨ o = 20 ∨ o = 26 ∨ o = 32 ∨ o = 38) → g' o k = g o k
theorem T_sweep (X : mX) (g : mF) (a j1 : Int) {n : Nat} (hC : ∀ c, c < 4 → Iclk g c) (hS : Istore n g) : PR X 103 181 [(2, 1), (0, a), (0, j1), (3, 0), (3, 0), (3, 0)] [(2, 87), (0, a), (0, j1), (3, 0), (3, 0)] g (fun g2 => (∀ c, c < 4 → Iclk g2 c) ∧ Istore (n + 1) g2 ∧ GC g g2 ∧ (g2 = g ∨ g2 11 3 = 0)) := by
  intro d Q hd hQ
  by_cases ha : 0 ≤ a ∧ a ≤ 3
  · obtain ⟨c, rfl⟩ : ∃ c : Nat, a = (c : Int) := ⟨a.toNat, by omega⟩
    have hc : c < 4 := by omega
    obtain ⟨k1, k2, k3, k4, k5, k6, k7, k8, k9, k10, k11, k12⟩ := hC c hc
    have e0 : ((c : Int)).toNat = c := by omega
    by_cases hj : 0 ≤ j1 ∧ j1 ≤ 3
    · obtain ⟨j, rfl⟩ : ∃ j : Nat, j1 = (j : Int) := ⟨j1.toNat, by omega⟩
      have hj4 : j < 4 := by omega
      have c18p := fun p : Int => c18 X g hc p ⟨k2, k3⟩
      have hcb : ∀ q : Nat, 0 ≤ celp g c (q : Int) ∧ celp g c (q : Int) ≤ 36 := fun q => ⟨celp_nn g c _, celp_le g c _ k3⟩
      have i78 : ∀ q : Nat, (8 * (j : Int) + (q : Int)).toNat = 8 * j + q := fun q => by omega
      by_cases hf : ∀ q : Nat, q < 8 → g 9 (8 * j + q) + celp g c (q : Int) ≤ 999
      · -- the class
        have fin : ∀ g1 : mF, (∀ o k, o ≠ 9 → o ≠ 20 + 6 * c → ¬ (o = 11 ∧ k = 3) → g1 o k = g o k) → (∀ q, q < 8 → g1 9 (8 * j + q) = g 9 (8 * j + q) + celp g c (q : Int)) → (∀ k, ¬ (8 * j ≤ k ∧ k < 8 * j + 8) → g1 9 k = g 9 k) → (∀ i, i < 36 → g1 (20 + 6 * c) i = -1) → g1 11 3 = 0 → Q (some (0, grn g c)) (fl g1) := by
          intro g1 hF h9 h9' h20 h113
          refine hQ _ g1 ⟨_, rfl, ?_⟩
          clear hQ
          intro d Q hd hQ
          have f99 : g1 99 c = g (19 + 6 * c) 0 := by rw [hF _ _ (by omega) (by omega) (by omega)]; exact k1
          have f102 : ∀ i : Nat, (i : Int) < g (19 + 6 * c) 0 → g1 102 (36 * c + i) = g (20 + 6 * c) i := fun i hi => by rw [hF _ _ (by omega) (by omega) (by omega)]; exact k4 i hi
          have f96 : ∀ k, k < 32 → g1 96 k = g 9 k := fun k hk => by rw [hF _ _ (by omega) (by omega) (by omega)]; exact (hS.1 k hk).1
          have c172' := fun p : Int => c172g X (g := g1) hc p ⟨k2, k3⟩ f99 f102
          have c176' := c176g X (g := g1) hc ⟨k2, k3⟩ f99 (fun i hi => ⟨f102 i hi, (k5 i (by omega)).1⟩)
          have eqc : ∀ p : Int, sumN (g (19 + 6 * c) 0).toNat (fun i => if g (20 + 6 * c) i = p then (1 : Int) else 0) = celp g c p := fun p => rfl
          have loop2 := lup (P := fun i => ∀ h : mF, (∀ o k, o ≠ 96 → o ≠ 102 → h o k = g1 o k) → (∀ q : Nat, q < 8 → h 96 (8 * j + q) = g 9 (8 * j + q) + sumN i (fun k => if g (20 + 6 * c) k = (q : Int) then 1 else 0)) → (∀ k, ¬ (8 * j ≤ k ∧ k < 8 * j + 8) → h 96 k = g1 96 k) → (∀ k, k < i → h 102 (36 * c + k) = -1) → (∀ k, ¬ (36 * c ≤ k ∧ k < 36 * c + i) → h 102 k = g1 102 k) → Wp X d SH 181 69 [(2, 87), (0, (c : Int)), (0, (j : Int)), (0, grn g c), (0, (i : Int))] [] SH (fl h) Q) (g (19 + 6 * c) 0).toNat ?_ ?_ 0 (by omega)
          · have loop1 := lup (P := fun q => Wp X d SH 181 20 [(2, 87), (0, (c : Int)), (0, (j : Int)), (0, (q : Int)), (3, 0)] [] SH (fl g1) Q) 8 ?_ ?_ 0 (by omega)
            · skip
              apply s_181_0
              try simp only [mi_87, fl_87_11, mi_97, ml_97, fl_97, up_97, fl_87_14, mi_100, ml_100, fl_100, up_100, fl_87_17, mi_103, ml_103, fl_103, up_103, true_and, and_true, true_or, or_true, implies_true, b10_0, b10_1]
              repeat' (first | refine And.intro ?_ ?_ | intro _)
              all_goals (try (first | omega | (unfold r32; omega) | exact hQ | exact qe hQ (by omega) | exact qe hQ (by (repeat' split) <;> omega) | exact b01 | exact n01 | exact n21 | exact n31 | exact absurd trivial (by assumption)))
              refine c174 X _ _ _ _ (by omega) ?_
              apply s_181_4
              try simp only [mi_87, fl_87_11, mi_97, ml_97, fl_97, up_97, fl_87_14, mi_100, ml_100, fl_100, up_100, fl_87_17, mi_103, ml_103, fl_103, up_103, true_and, and_true, true_or, or_true, implies_true, b10_0, b10_1]
              repeat' (first | refine And.intro ?_ ?_ | intro _)
              all_goals (try (first | omega | (unfold r32; omega) | exact hQ | exact qe hQ (by omega) | exact qe hQ (by (repeat' split) <;> omega) | exact b01 | exact n01 | exact n21 | exact n31 | exact absurd trivial (by assumption)))
              refine c166 X _ _ _ _ (by omega) ?_
              apply s_181_11
              try simp only [mi_87, fl_87_11, mi_97, ml_97, fl_97, up_97, fl_87_14, mi_100, ml_100, fl_100, up_100, fl_87_17, mi_103, ml_103, fl_103, up_103, true_and, and_true, true_or, or_true, implies_true, b10_0, b10_1]
              repeat' (first | refine And.intro ?_ ?_ | intro _)
              all_goals (try (first | omega | (unfold r32; omega) | exact hQ | exact qe hQ (by omega) | exact qe hQ (by (repeat' split) <;> omega) | exact b01 | exact n01 | exact n21 | exact n31 | exact absurd trivial (by assumption)))
              all_goals (try exact loop1)
            · have l2 := loop2 g1 (fun _ _ _ _ => rfl) (fun q hq => by rw [f96 _ (by omega)]; simp only [sumN]; omega) (fun _ _ => rfl) (fun k hk => absurd hk (by omega)) (fun _ _ => rfl)
              apply s_181_20
              try simp only [mi_87, fl_87_11, mi_97, ml_97, fl_97, up_97, fl_87_14, mi_100, ml_100, fl_100, up_100, fl_87_17, mi_103, ml_103, fl_103, up_103, true_and, and_true, true_or, or_true, implies_true, b10_0, b10_1]
              repeat' (first | refine And.intro ?_ ?_ | intro _)
              all_goals (try (first | omega | (unfold r32; omega) | exact hQ | exact qe hQ (by omega) | exact qe hQ (by (repeat' split) <;> omega) | exact b01 | exact n01 | exact n21 | exact n31 | exact absurd trivial (by assumption)))
              refine c176' _ _ (by omega) ?_
              apply s_181_65
              try simp only [mi_87, fl_87_11, mi_97, ml_97, fl_97, up_97, fl_87_14, mi_100, ml_100, fl_100, up_100, fl_87_17, mi_103, ml_103, fl_103, up_103, true_and, and_true, true_or, or_true, implies_true, b10_0, b10_1]
              repeat' (first | refine And.intro ?_ ?_ | intro _)
              all_goals (try (first | omega | (unfold r32; omega) | exact hQ | exact qe hQ (by omega) | exact qe hQ (by (repeat' split) <;> omega) | exact b01 | exact n01 | exact n21 | exact n31 | exact absurd trivial (by assumption)))
              all_goals (try exact l2)
            · intro q hq ih
              have e10 : ((q + 1 : Nat) : Int) = (q : Int) + 1 := by omega
              have hfq := hf q hq
              have hcq := hcb q
              have h9q := (hS.1 (8 * j + q) (by omega)).2
              have f96q := f96 (8 * j + q) (by omega)
              rw [e10] at ih
              have c172q := c172' (q : Int)
              rw [eqc] at c172q
              apply s_181_20
              try simp only [mi_87, fl_87_11, mi_97, ml_97, fl_97, up_97, fl_87_14, mi_100, ml_100, fl_100, up_100, fl_87_17, mi_103, ml_103, fl_103, up_103, i78, f96q, true_and, and_true, true_or, or_true, implies_true, b10_0, b10_1]
              repeat' (first | refine And.intro ?_ ?_ | intro _)
              all_goals (try (first | omega | (unfold r32; omega) | exact hQ | exact qe hQ (by omega) | exact qe hQ (by (repeat' split) <;> omega) | exact b01 | exact n01 | exact n21 | exact n31 | exact absurd trivial (by assumption)))
              refine c172q _ _ (by omega) ?_
              apply s_181_43
              try simp only [mi_87, fl_87_11, mi_97, ml_97, fl_97, up_97, fl_87_14, mi_100, ml_100, fl_100, up_100, fl_87_17, mi_103, ml_103, fl_103, up_103, true_and, and_true, true_or, or_true, implies_true, b10_0, b10_1]
              repeat' (first | refine And.intro ?_ ?_ | intro _)
              all_goals (try (first | omega | (unfold r32; omega) | exact hQ | exact qe hQ (by omega) | exact qe hQ (by (repeat' split) <;> omega) | exact b01 | exact n01 | exact n21 | exact n31 | exact absurd trivial (by assumption)))
              all_goals (try exact ih)
          · intro h hF2 h96 h96' h102 h102'
            have f992 : h 99 c = g (19 + 6 * c) 0 := by rw [hF2 _ _ (by omega) (by omega)]; exact f99
            have hall : ∀ o k, ¬ (o = 9 ∨ o = 20 + 6 * c ∨ o = 11 ∧ k = 3 ∨ o = 96 ∨ o = 102) → h o k = g o k := fun o k ho => by rw [hF2 _ _ (by omega) (by omega), hF _ _ (by omega) (by omega) (by omega)]
            have hq : Q (some (0, grn g c)) (fl h) := by
              refine hQ _ h ⟨rfl, ?_, ?_, fun o k ho => hall o k (by omega), Or.inr (by rw [hF2 _ _ (by omega) (by omega)]; exact h113)⟩
              · intro c' hc'
                by_cases hcc : c' = c
                · subst hcc
                  unfold Iclk
                  rw [hall 99 _ (by omega), hall (19 + 6 * c') 0 (by omega), hall (19 + 6 * c') 2 (by omega), hall (19 + 6 * c') 3 (by omega), hall 103 _ (by omega), hall 104 _ (by omega)]
                  refine ⟨k1, k2, k3, fun i hi => ?_, fun i hi => ?_, fun i hi _ => ?_, k7, k8, k9, k10, k11, k12⟩
                  · rw [h102 i (by omega), hF2 _ _ (by omega) (by omega), h20 i (by omega)]
                  · rw [hF2 _ _ (by omega) (by omega), h20 i hi]; omega
                  · rw [hF2 _ _ (by omega) (by omega), h20 i hi]
                · exact Iclk_congr (hall _ _ (by omega)) (fun k _ => hall _ _ (by omega)) (fun k _ => hall _ _ (by omega)) (hall _ _ (by omega)) (hall _ _ (by omega)) (fun i hi => by rw [h102' _ (by omega), hF _ _ (by omega) (by omega) (by omega)]) (hC c' hc')
              · have cel : ∀ c' (q : Nat), c' < 4 → celp h c' (q : Int) = if c' = c then 0 else celp g c' (q : Int) := by
                  intro c' q hc'
                  by_cases hcc : c' = c
                  · subst hcc
                    rw [if_pos rfl]
                    unfold celp
                    rw [hall (19 + 6 * c') 0 (by omega)]
                    refine Eq.trans (sumN_congr (b := fun _ => 0) (fun i hi => ?_)) sumN_zero
                    rw [hF2 _ _ (by omega) (by omega), h20 i (by omega), if_neg (by omega)]
                  · rw [if_neg hcc]
                    exact celp_congr (hall _ _ (by omega)) (fun k => hall _ _ (by omega))
                have n9 : ∀ j' q, j' < 4 → q < 8 → h 9 (8 * j' + q) = g 9 (8 * j' + q) + (if j' = j then celp g c (q : Int) else 0) := by
                  intro j' q hj' hq
                  rw [hF2 _ _ (by omega) (by omega)]
                  by_cases hjj : j' = j
                  · subst hjj; rw [if_pos rfl]; exact h9 q hq
                  · rw [if_neg hjj, h9' _ (by omega)]; omega
                have n96 : ∀ j' q, j' < 4 → q < 8 → h 96 (8 * j' + q) = g 9 (8 * j' + q) + (if j' = j then celp g c (q : Int) else 0) := by
                  intro j' q hj' hq
                  by_cases hjj : j' = j
                  · subst hjj; rw [if_pos rfl, h96 q hq]; rfl
                  · rw [if_neg hjj, h96' _ (by omega), f96 _ (by omega)]; omega
                refine ⟨fun k hk => ?_, fun q hq => ?_, fun q hq => ?_⟩
                · obtain ⟨j', q, hj', hq, rfl⟩ : ∃ j' q, j' < 4 ∧ q < 8 ∧ k = 8 * j' + q := ⟨k / 8, k % 8, by omega, by omega, by omega⟩
                  rw [n9 j' q hj' hq, n96 j' q hj' hq]
                  have b := (hS.1 (8 * j' + q) hk).2
                  have cb := hcb q
                  by_cases hjj : j' = j
                  · subst hjj
                    rw [if_pos rfl]
                    have := hf q hq
                    omega
                  · rw [if_neg hjj]; omega
                · rw [hall 98 _ (by omega), hall 10 _ (by omega)]
                  exact hS.2.1 q hq
                · have s := hS.2.2 q hq
                  have a0 := n9 0 q (by omega) hq
                  have a1 := n9 1 q (by omega) hq
                  have a2 := n9 2 q (by omega) hq
                  have a3 := n9 3 q (by omega) hq
                  simp only [Nat.mul_zero, Nat.zero_add, Nat.mul_one, show 8 * 2 = 16 by rfl, show 8 * 3 = 24 by rfl] at a0 a1 a2 a3
                  rw [a0, a1, a2, a3, cel 0 q (by omega), cel 1 q (by omega), cel 2 q (by omega), cel 3 q (by omega), hall 97 _ (by omega), hall 10 _ (by omega)]
                  have hjc : j = 0 ∨ j = 1 ∨ j = 2 ∨ j = 3 := by omega
                  have hcc : c = 0 ∨ c = 1 ∨ c = 2 ∨ c = 3 := by omega
                  rcases hjc with rfl | rfl | rfl | rfl <;> rcases hcc with rfl | rfl | rfl | rfl <;> simp <;> omega
            apply s_181_69
            try simp only [mi_87, fl_87_11, mi_97, ml_97, fl_97, up_97, fl_87_14, mi_100, ml_100, fl_100, up_100, fl_87_17, mi_103, ml_103, fl_103, up_103, e0, f992, true_and, and_true, true_or, or_true, implies_true, b10_0, b10_1]
            repeat' (first | refine And.intro ?_ ?_ | intro _)
            all_goals (try (first | omega | (unfold r32; omega) | exact hQ | exact qe hQ (by omega) | exact qe hQ (by (repeat' split) <;> omega) | exact b01 | exact n01 | exact n21 | exact n31 | exact absurd trivial (by assumption)))
            all_goals (try exact hq)
          · intro i hi ih h hF2 h96 h96' h102 h102'
            have e10 : ((i + 1 : Nat) : Int) = (i : Int) + 1 := by omega
            have eci : (36 * (c : Int) + (i : Int)).toNat = 36 * c + i := by omega
            have f992 : h 99 c = g (19 + 6 * c) 0 := by rw [hF2 _ _ (by omega) (by omega)]; exact f99
            have f102i : h 102 (36 * c + i) = g (20 + 6 * c) i := by rw [h102' _ (by omega)]; exact f102 i (by omega)
            have hp5 := k5 i (by omega)
            rw [e10] at ih
            by_cases hz : g (20 + 6 * c) i = -1
            · have nx := ih h hF2 (fun q hq => by
                simp only [sumN]
                rw [if_neg (by omega), Int.add_zero]
                exact h96 q hq) h96' (fun k hk => by
                by_cases hki : k = i
                · subst hki; rw [f102i]; exact hz
                · exact h102 k (by omega)) (fun k hk => h102' k (by omega))
              apply s_181_69
              try simp only [mi_87, fl_87_11, mi_97, ml_97, fl_97, up_97, fl_87_14, mi_100, ml_100, fl_100, up_100, fl_87_17, mi_103, ml_103, fl_103, up_103, e0, f992, eci, f102i, true_and, and_true, true_or, or_true, implies_true, b10_0, b10_1]
              repeat' (first | refine And.intro ?_ ?_ | intro _)
              all_goals (try (first | omega | (unfold r32; omega) | exact hQ | exact qe hQ (by omega) | exact qe hQ (by (repeat' split) <;> omega) | exact b01 | exact n01 | exact n21 | exact n31 | exact absurd trivial (by assumption)))
              apply s_181_134
              try simp only [mi_87, fl_87_11, mi_97, ml_97, fl_97, up_97, fl_87_14, mi_100, ml_100, fl_100, up_100, fl_87_17, mi_103, ml_103, fl_103, up_103, true_and, and_true, true_or, or_true, implies_true, b10_0, b10_1]
              repeat' (first | refine And.intro ?_ ?_ | intro _)
              all_goals (try (first | omega | (unfold r32; omega) | exact hQ | exact qe hQ (by omega) | exact qe hQ (by (repeat' split) <;> omega) | exact b01 | exact n01 | exact n21 | exact n31 | exact absurd trivial (by assumption)))
              all_goals (try exact nx)
            · obtain ⟨q0, hq0⟩ : ∃ q0 : Nat, g (20 + 6 * c) i = (q0 : Int) := ⟨(g (20 + 6 * c) i).toNat, by omega⟩
              have hq08 : q0 < 8 := by omega
              have h96q := h96 q0 hq08
              have bs := sumN_b (n := i) (a := fun k => if g (20 + 6 * c) k = (q0 : Int) then (1 : Int) else 0) (lo := 0) (hi := 1) (fun i _ => by (try simp only []); split <;> omega)
              have b9 := (hS.1 (8 * j + q0) (by omega)).2
              generalize hh2 : mup h 96 (8 * j + q0) (h 96 (8 * j + q0) + 1) = h2
              have f2 : ∀ o k, ¬ (o = 96 ∧ k = 8 * j + q0) → h2 o k = h o k := fun o k ho => by rw [← hh2, mup_n ho]
              have nx := ih (mup h2 102 (36 * c + i) (-1)) (fun o k h1 h3 => by rw [mup_n (by omega), f2 _ _ (by omega)]; exact hF2 o k h1 h3) (fun q hq => by
                simp only [sumN]
                by_cases hqq : q = q0
                · subst hqq
                  rw [mup_n (by omega), ← hh2, mup_e, if_pos hq0, h96q]
                  omega
                · rw [mup_n (by omega), f2 _ _ (by omega), if_neg (by omega), Int.add_zero]
                  exact h96 q hq) (fun k hk => by rw [mup_n (by omega), f2 _ _ (by omega)]; exact h96' k hk) (fun k hk => by
                by_cases hki : k = i
                · subst hki; rw [mup_e]
                · rw [mup_n (by omega), f2 _ _ (by omega)]; exact h102 k (by omega)) (fun k hk => by rw [mup_n (by omega), f2 _ _ (by omega)]; exact h102' k (by omega))
              apply s_181_69
              try simp only [mi_87, fl_87_11, mi_97, ml_97, fl_97, up_97, fl_87_14, mi_100, ml_100, fl_100, up_100, fl_87_17, mi_103, ml_103, fl_103, up_103, e0, f992, eci, f102i, hq0, i78, hh2, true_and, and_true, true_or, or_true, implies_true, b10_0, b10_1]
              repeat' (first | refine And.intro ?_ ?_ | intro _)
              all_goals (try (first | omega | (unfold r32; omega) | exact hQ | exact qe hQ (by omega) | exact qe hQ (by (repeat' split) <;> omega) | exact b01 | exact n01 | exact n21 | exact n31 | exact absurd trivial (by assumption)))
              apply s_181_121
              try simp only [mi_87, fl_87_11, mi_97, ml_97, fl_97, up_97, fl_87_14, mi_100, ml_100, fl_100, up_100, fl_87_17, mi_103, ml_103, fl_103, up_103, eci, true_and, and_true, true_or, or_true, implies_true, b10_0, b10_1]
              repeat' (first | refine And.intro ?_ ?_ | intro _)
              all_goals (try (first | omega | (unfold r32; omega) | exact hQ | exact qe hQ (by omega) | exact qe hQ (by (repeat' split) <;> omega) | exact b01 | exact n01 | exact n21 | exact n31 | exact absurd trivial (by assumption)))
              apply s_181_134
              try simp only [mi_87, fl_87_11, mi_97, ml_97, fl_97, up_97, fl_87_14, mi_100, ml_100, fl_100, up_100, fl_87_17, mi_103, ml_103, fl_103, up_103, true_and, and_true, true_or, or_true, implies_true, b10_0, b10_1]
              repeat' (first | refine And.intro ?_ ?_ | intro _)
              all_goals (try (first | omega | (unfold r32; omega) | exact hQ | exact qe hQ (by omega) | exact qe hQ (by (repeat' split) <;> omega) | exact b01 | exact n01 | exact n21 | exact n31 | exact absurd trivial (by assumption)))
              all_goals (try exact nx)
        have loop2 := lup (P := fun p => ∀ h : mF, (∀ o k, o ≠ 9 → h o k = g o k) → (∀ q, q < p → h 9 (8 * j + q) = g 9 (8 * j + q) + celp g c (q : Int)) → (∀ k, ¬ (8 * j ≤ k ∧ k < 8 * j + p) → h 9 k = g 9 k) → Wp X d SH 103 76 [(2, 1), (0, (c : Int)), (0, (j : Int)), (2, 20 + 6 * (c : Int)), (0, grn g c), (0, (p : Int))] [] SH (fl h) Q) 8 ?_ ?_ 0 (by omega)
        · have loop1 := lup (P := fun q => Wp X d SH 103 27 [(2, 1), (0, (c : Int)), (0, (j : Int)), (2, 20 + 6 * (c : Int)), (0, (q : Int)), (3, 0)] [] SH (fl g) Q) 8 ?_ ?_ 0 (by omega)
          · skip
            apply s_103_0
            try simp only [mi_1, fl_1_4, mi_12, fl_1_3, mi_9, cm_o, fl_12_3, up_12_3, true_and, and_true, true_or, or_true, implies_true, b10_0, b10_1]
            repeat' (first | refine And.intro ?_ ?_ | intro _)
            all_goals (try (first | omega | (unfold r32; omega) | exact hQ | exact qe hQ (by omega) | exact qe hQ (by (repeat' split) <;> omega) | exact b01 | exact n01 | exact n21 | exact n31 | exact absurd trivial (by assumption)))
            refine c32 X g hc _ _ (by omega) ?_
            apply s_103_8
            try simp only [mi_1, fl_1_4, mi_12, fl_1_3, mi_9, cm_o, fl_12_3, up_12_3, true_and, and_true, true_or, or_true, implies_true, b10_0, b10_1]
            repeat' (first | refine And.intro ?_ ?_ | intro _)
            all_goals (try (first | omega | (unfold r32; omega) | exact hQ | exact qe hQ (by omega) | exact qe hQ (by (repeat' split) <;> omega) | exact b01 | exact n01 | exact n21 | exact n31 | exact absurd trivial (by assumption)))
            refine c132 X _ _ _ _ (by omega) ?_
            apply s_103_17
            try simp only [mi_1, fl_1_4, mi_12, fl_1_3, mi_9, cm_o, fl_12_3, up_12_3, true_and, and_true, true_or, or_true, implies_true, b10_0, b10_1]
            repeat' (first | refine And.intro ?_ ?_ | intro _)
            all_goals (try (first | omega | (unfold r32; omega) | exact hQ | exact qe hQ (by omega) | exact qe hQ (by (repeat' split) <;> omega) | exact b01 | exact n01 | exact n21 | exact n31 | exact absurd trivial (by assumption)))
            all_goals (try exact loop1)
          · have l2 := loop2 g (fun _ _ _ => rfl) (fun q hq => absurd hq (by omega)) (fun _ _ => rfl)
            apply s_103_27
            try simp only [mi_1, fl_1_4, mi_12, fl_1_3, mi_9, cm_o, fl_12_3, up_12_3, hc, true_and, and_true, true_or, or_true, implies_true, b10_0, b10_1]
            repeat' (first | refine And.intro ?_ ?_ | intro _)
            all_goals (try (first | omega | (unfold r32; omega) | exact hQ | exact qe hQ (by omega) | exact qe hQ (by (repeat' split) <;> omega) | exact b01 | exact n01 | exact n21 | exact n31 | exact absurd trivial (by assumption)))
            refine c17 X g hc ⟨k2, k3⟩ _ _ (by omega) ?_
            apply s_103_71
            try simp only [mi_1, fl_1_4, mi_12, fl_1_3, mi_9, cm_o, fl_12_3, up_12_3, true_and, and_true, true_or, or_true, implies_true, b10_0, b10_1]
            repeat' (first | refine And.intro ?_ ?_ | intro _)
            all_goals (try (first | omega | (unfold r32; omega) | exact hQ | exact qe hQ (by omega) | exact qe hQ (by (repeat' split) <;> omega) | exact b01 | exact n01 | exact n21 | exact n31 | exact absurd trivial (by assumption)))
            all_goals (try exact l2)
          · intro q hq ih
            have e10 : ((q + 1 : Nat) : Int) = (q : Int) + 1 := by omega
            have hfq := hf q hq
            have hcq := hcb q
            have h9q := (hS.1 (8 * j + q) (by omega)).2
            have c78' := c78 X g (j : Int) (q : Int) (by omega) (by omega)
            rw [i78] at c78'
            rw [e10] at ih
            apply s_103_27
            try simp only [mi_1, fl_1_4, mi_12, fl_1_3, mi_9, cm_o, fl_12_3, up_12_3, true_and, and_true, true_or, or_true, implies_true, b10_0, b10_1]
            repeat' (first | refine And.intro ?_ ?_ | intro _)
            all_goals (try (first | omega | (unfold r32; omega) | exact hQ | exact qe hQ (by omega) | exact qe hQ (by (repeat' split) <;> omega) | exact b01 | exact n01 | exact n21 | exact n31 | exact absurd trivial (by assumption)))
            refine c78' _ _ (by omega) ?_
            apply s_103_44
            try simp only [mi_1, fl_1_4, mi_12, fl_1_3, mi_9, cm_o, fl_12_3, up_12_3, hc, true_and, and_true, true_or, or_true, implies_true, b10_0, b10_1]
            repeat' (first | refine And.intro ?_ ?_ | intro _)
            all_goals (try (first | omega | (unfold r32; omega) | exact hQ | exact qe hQ (by omega) | exact qe hQ (by (repeat' split) <;> omega) | exact b01 | exact n01 | exact n21 | exact n31 | exact absurd trivial (by assumption)))
            refine c18p (q : Int) _ _ (by omega) ?_
            apply s_103_50
            try simp only [mi_1, fl_1_4, mi_12, fl_1_3, mi_9, cm_o, fl_12_3, up_12_3, true_and, and_true, true_or, or_true, implies_true, b10_0, b10_1]
            repeat' (first | refine And.intro ?_ ?_ | intro _)
            all_goals (try (first | omega | (unfold r32; omega) | exact hQ | exact qe hQ (by omega) | exact qe hQ (by (repeat' split) <;> omega) | exact b01 | exact n01 | exact n21 | exact n31 | exact absurd trivial (by assumption)))
            all_goals (try exact ih)
        · intro h hF h9 h9'
          have c16' := c16 X h hc
          generalize hh2 : mfl h (20 + 6 * c) 0 36 (-1) = h2 at c16'
          have hq := fin (mup h2 11 3 0) (fun o k q1 q2 q3 => by rw [mup_n (by omega), ← hh2, mfl_n (by omega)]; exact hF o k q1) (fun q hq => by rw [mup_n (by omega), ← hh2, mfl_n (by omega)]; exact h9 q hq) (fun k hk => by rw [mup_n (by omega), ← hh2, mfl_n (by omega)]; exact h9' k hk) (fun i hi => by rw [mup_n (by omega), ← hh2, mfl_e (by omega)]) (by rw [mup_e])
          apply s_103_76
          try simp only [mi_1, fl_1_4, mi_12, fl_1_3, mi_9, cm_o, fl_12_3, up_12_3, hc, true_and, and_true, true_or, or_true, implies_true, b10_0, b10_1]
          repeat' (first | refine And.intro ?_ ?_ | intro _)
          all_goals (try (first | omega | (unfold r32; omega) | exact hQ | exact qe hQ (by omega) | exact qe hQ (by (repeat' split) <;> omega) | exact b01 | exact n01 | exact n21 | exact n31 | exact absurd trivial (by assumption)))
          refine c16' _ _ (by omega) ?_
          apply s_103_109
          try simp only [mi_1, fl_1_4, mi_12, fl_1_3, mi_9, cm_o, fl_12_3, up_12_3, true_and, and_true, true_or, or_true, implies_true, b10_0, b10_1]
          repeat' (first | refine And.intro ?_ ?_ | intro _)
          all_goals (try (first | omega | (unfold r32; omega) | exact hQ | exact qe hQ (by omega) | exact qe hQ (by (repeat' split) <;> omega) | exact b01 | exact n01 | exact n21 | exact n31 | exact absurd trivial (by assumption)))
          all_goals (try exact hq)
        · intro p hp ih h hF h9 h9'
          have e10 : ((p + 1 : Nat) : Int) = (p : Int) + 1 := by omega
          have c18' := c18 X h hc (p : Int) (by rw [hF _ _ (by omega)]; exact ⟨k2, k3⟩)
          rw [celp_congr (g := g) (g' := h) (hF _ _ (by omega)) (fun k => hF _ _ (by omega))] at c18'
          have h9p := h9' (8 * j + p) (by omega)
          have hcp := hcb p
          have b9 := (hS.1 (8 * j + p) (by omega)).2
          have c79' := c79 X h (j : Int) (p : Int) (celp g c (p : Int)) (by omega) (by omega) (by rw [i78, h9p]; unfold r32; omega)
          rw [i78] at c79'
          generalize hh2 : mup h 9 (8 * j + p) (h 9 (8 * j + p) + celp g c (p : Int)) = h2 at c79'
          rw [e10] at ih
          have nx := ih h2 (fun o k ho => by rw [← hh2, mup_n (by omega)]; exact hF o k ho) (fun q hq => by
            by_cases hqp : q = p
            · subst hqp; rw [← hh2, mup_e, h9p]
            · rw [← hh2, mup_n (by omega)]; exact h9 q (by omega)) (fun k hk => by rw [← hh2, mup_n (by omega)]; exact h9' k (by omega))
          apply s_103_76
          try simp only [mi_1, fl_1_4, mi_12, fl_1_3, mi_9, cm_o, fl_12_3, up_12_3, hc, true_and, and_true, true_or, or_true, implies_true, b10_0, b10_1]
          repeat' (first | refine And.intro ?_ ?_ | intro _)
          all_goals (try (first | omega | (unfold r32; omega) | exact hQ | exact qe hQ (by omega) | exact qe hQ (by (repeat' split) <;> omega) | exact b01 | exact n01 | exact n21 | exact n31 | exact absurd trivial (by assumption)))
          refine c18' _ _ (by omega) ?_
          apply s_103_96
          try simp only [mi_1, fl_1_4, mi_12, fl_1_3, mi_9, cm_o, fl_12_3, up_12_3, true_and, and_true, true_or, or_true, implies_true, b10_0, b10_1]
          repeat' (first | refine And.intro ?_ ?_ | intro _)
          all_goals (try (first | omega | (unfold r32; omega) | exact hQ | exact qe hQ (by omega) | exact qe hQ (by (repeat' split) <;> omega) | exact b01 | exact n01 | exact n21 | exact n31 | exact absurd trivial (by assumption)))
          refine c79' _ _ (by omega) ?_
          apply s_103_99
          try simp only [mi_1, fl_1_4, mi_12, fl_1_3, mi_9, cm_o, fl_12_3, up_12_3, true_and, and_true, true_or, or_true, implies_true, b10_0, b10_1]
          repeat' (first | refine And.intro ?_ ?_ | intro _)
          all_goals (try (first | omega | (unfold r32; omega) | exact hQ | exact qe hQ (by omega) | exact qe hQ (by (repeat' split) <;> omega) | exact b01 | exact n01 | exact n21 | exact n31 | exact absurd trivial (by assumption)))
          all_goals (try exact nx)
      · -- too many
        have r1 : Ret X 60 103 [(2, 1), (0, (c : Int)), (0, (j : Int)), (3, 0), (3, 0), (3, 0)] g (some (0, -1004)) g := by
          intro d Q hd hQ
          have loop1 : ∀ m q : Nat, q + m = 8 → (∀ q', q' < q → g 9 (8 * j + q') + celp g c (q' : Int) ≤ 999) → Wp X d SH 103 27 [(2, 1), (0, (c : Int)), (0, (j : Int)), (2, 20 + 6 * (c : Int)), (0, (q : Int)), (3, 0)] [] SH (fl g) Q := by
            intro m
            induction m with
            | zero => intro q hq hpre; exact absurd (fun q' hq' => hpre q' (by omega)) hf
            | succ m ih =>
              intro q hq hpre
              have e10 : ((q + 1 : Nat) : Int) = (q : Int) + 1 := by omega
              have hcq := hcb q
              have h9q := (hS.1 (8 * j + q) (by omega)).2
              have c78' := c78 X g (j : Int) (q : Int) (by omega) (by omega)
              rw [i78] at c78'
              by_cases hz : g 9 (8 * j + q) + celp g c (q : Int) ≤ 999
              · have nx := ih (q + 1) (by omega) (fun q' hq' => by
                  by_cases hqq : q' = q
                  · subst hqq; exact hz
                  · exact hpre q' (by omega))
                rw [e10] at nx
                apply s_103_27
                try simp only [mi_1, fl_1_4, mi_12, fl_1_3, mi_9, cm_o, fl_12_3, up_12_3, true_and, and_true, true_or, or_true, implies_true, b10_0, b10_1]
                repeat' (first | refine And.intro ?_ ?_ | intro _)
                all_goals (try (first | omega | (unfold r32; omega) | exact hQ | exact qe hQ (by omega) | exact qe hQ (by (repeat' split) <;> omega) | exact b01 | exact n01 | exact n21 | exact n31 | exact absurd trivial (by assumption)))
                refine c78' _ _ (by omega) ?_
                apply s_103_44
                try simp only [mi_1, fl_1_4, mi_12, fl_1_3, mi_9, cm_o, fl_12_3, up_12_3, hc, true_and, and_true, true_or, or_true, implies_true, b10_0, b10_1]
                repeat' (first | refine And.intro ?_ ?_ | intro _)
                all_goals (try (first | omega | (unfold r32; omega) | exact hQ | exact qe hQ (by omega) | exact qe hQ (by (repeat' split) <;> omega) | exact b01 | exact n01 | exact n21 | exact n31 | exact absurd trivial (by assumption)))
                refine c18p (q : Int) _ _ (by omega) ?_
                apply s_103_50
                try simp only [mi_1, fl_1_4, mi_12, fl_1_3, mi_9, cm_o, fl_12_3, up_12_3, true_and, and_true, true_or, or_true, implies_true, b10_0, b10_1]
                repeat' (first | refine And.intro ?_ ?_ | intro _)
                all_goals (try (first | omega | (unfold r32; omega) | exact hQ | exact qe hQ (by omega) | exact qe hQ (by (repeat' split) <;> omega) | exact b01 | exact n01 | exact n21 | exact n31 | exact absurd trivial (by assumption)))
                all_goals (try exact nx)
              · skip
                apply s_103_27
                try simp only [mi_1, fl_1_4, mi_12, fl_1_3, mi_9, cm_o, fl_12_3, up_12_3, true_and, and_true, true_or, or_true, implies_true, b10_0, b10_1]
                repeat' (first | refine And.intro ?_ ?_ | intro _)
                all_goals (try (first | omega | (unfold r32; omega) | exact hQ | exact qe hQ (by omega) | exact qe hQ (by (repeat' split) <;> omega) | exact b01 | exact n01 | exact n21 | exact n31 | exact absurd trivial (by assumption)))
                refine c78' _ _ (by omega) ?_
                apply s_103_44
                try simp only [mi_1, fl_1_4, mi_12, fl_1_3, mi_9, cm_o, fl_12_3, up_12_3, hc, true_and, and_true, true_or, or_true, implies_true, b10_0, b10_1]
                repeat' (first | refine And.intro ?_ ?_ | intro _)
                all_goals (try (first | omega | (unfold r32; omega) | exact hQ | exact qe hQ (by omega) | exact qe hQ (by (repeat' split) <;> omega) | exact b01 | exact n01 | exact n21 | exact n31 | exact absurd trivial (by assumption)))
                refine c18p (q : Int) _ _ (by omega) ?_
                apply s_103_50
                try simp only [mi_1, fl_1_4, mi_12, fl_1_3, mi_9, cm_o, fl_12_3, up_12_3, true_and, and_true, true_or, or_true, implies_true, b10_0, b10_1]
                repeat' (first | refine And.intro ?_ ?_ | intro _)
                all_goals (try (first | omega | (unfold r32; omega) | exact hQ | exact qe hQ (by omega) | exact qe hQ (by (repeat' split) <;> omega) | exact b01 | exact n01 | exact n21 | exact n31 | exact absurd trivial (by assumption)))
          have l1 := loop1 8 0 (by omega) (fun q' hq' => absurd hq' (by omega))
          apply s_103_0
          try simp only [mi_1, fl_1_4, mi_12, fl_1_3, mi_9, cm_o, fl_12_3, up_12_3, true_and, and_true, true_or, or_true, implies_true, b10_0, b10_1]
          repeat' (first | refine And.intro ?_ ?_ | intro _)
          all_goals (try (first | omega | (unfold r32; omega) | exact hQ | exact qe hQ (by omega) | exact qe hQ (by (repeat' split) <;> omega) | exact b01 | exact n01 | exact n21 | exact n31 | exact absurd trivial (by assumption)))
          refine c32 X g hc _ _ (by omega) ?_
          apply s_103_8
          try simp only [mi_1, fl_1_4, mi_12, fl_1_3, mi_9, cm_o, fl_12_3, up_12_3, true_and, and_true, true_or, or_true, implies_true, b10_0, b10_1]
          repeat' (first | refine And.intro ?_ ?_ | intro _)
          all_goals (try (first | omega | (unfold r32; omega) | exact hQ | exact qe hQ (by omega) | exact qe hQ (by (repeat' split) <;> omega) | exact b01 | exact n01 | exact n21 | exact n31 | exact absurd trivial (by assumption)))
          refine c132 X _ _ _ _ (by omega) ?_
          apply s_103_17
          try simp only [mi_1, fl_1_4, mi_12, fl_1_3, mi_9, cm_o, fl_12_3, up_12_3, true_and, and_true, true_or, or_true, implies_true, b10_0, b10_1]
          repeat' (first | refine And.intro ?_ ?_ | intro _)
          all_goals (try (first | omega | (unfold r32; omega) | exact hQ | exact qe hQ (by omega) | exact qe hQ (by (repeat' split) <;> omega) | exact b01 | exact n01 | exact n21 | exact n31 | exact absurd trivial (by assumption)))
          all_goals (try exact l1)
        have r2 : Ret X 60 181 [(2, 87), (0, (c : Int)), (0, (j : Int)), (3, 0), (3, 0)] g (some (0, -1004)) g := by
          intro d Q hd hQ
          have loop1 : ∀ m q : Nat, q + m = 8 → (∀ q', q' < q → g 9 (8 * j + q') + celp g c (q' : Int) ≤ 999) → Wp X d SH 181 20 [(2, 87), (0, (c : Int)), (0, (j : Int)), (0, (q : Int)), (3, 0)] [] SH (fl g) Q := by
            intro m
            induction m with
            | zero => intro q hq hpre; exact absurd (fun q' hq' => hpre q' (by omega)) hf
            | succ m ih =>
              intro q hq hpre
              have e10 : ((q + 1 : Nat) : Int) = (q : Int) + 1 := by omega
              have hcq := hcb q
              have h9q := (hS.1 (8 * j + q) (by omega)).2
              have f96q := (hS.1 (8 * j + q) (by omega)).1
              have c172q := c172 X g hc (q : Int) (hC c hc)
              by_cases hz : g 9 (8 * j + q) + celp g c (q : Int) ≤ 999
              · have nx := ih (q + 1) (by omega) (fun q' hq' => by
                  by_cases hqq : q' = q
                  · subst hqq; exact hz
                  · exact hpre q' (by omega))
                rw [e10] at nx
                apply s_181_20
                try simp only [mi_87, fl_87_11, mi_97, ml_97, fl_97, up_97, fl_87_14, mi_100, ml_100, fl_100, up_100, fl_87_17, mi_103, ml_103, fl_103, up_103, i78, f96q, true_and, and_true, true_or, or_true, implies_true, b10_0, b10_1]
                repeat' (first | refine And.intro ?_ ?_ | intro _)
                all_goals (try (first | omega | (unfold r32; omega) | exact hQ | exact qe hQ (by omega) | exact qe hQ (by (repeat' split) <;> omega) | exact b01 | exact n01 | exact n21 | exact n31 | exact absurd trivial (by assumption)))
                refine c172q _ _ (by omega) ?_
                apply s_181_43
                try simp only [mi_87, fl_87_11, mi_97, ml_97, fl_97, up_97, fl_87_14, mi_100, ml_100, fl_100, up_100, fl_87_17, mi_103, ml_103, fl_103, up_103, true_and, and_true, true_or, or_true, implies_true, b10_0, b10_1]
                repeat' (first | refine And.intro ?_ ?_ | intro _)
                all_goals (try (first | omega | (unfold r32; omega) | exact hQ | exact qe hQ (by omega) | exact qe hQ (by (repeat' split) <;> omega) | exact b01 | exact n01 | exact n21 | exact n31 | exact absurd trivial (by assumption)))
                all_goals (try exact nx)
              · skip
                apply s_181_20
                try simp only [mi_87, fl_87_11, mi_97, ml_97, fl_97, up_97, fl_87_14, mi_100, ml_100, fl_100, up_100, fl_87_17, mi_103, ml_103, fl_103, up_103, i78, f96q, true_and, and_true, true_or, or_true, implies_true, b10_0, b10_1]
                repeat' (first | refine And.intro ?_ ?_ | intro _)
                all_goals (try (first | omega | (unfold r32; omega) | exact hQ | exact qe hQ (by omega) | exact qe hQ (by (repeat' split) <;> omega) | exact b01 | exact n01 | exact n21 | exact n31 | exact absurd trivial (by assumption)))
                refine c172q _ _ (by omega) ?_
                apply s_181_43
                try simp only [mi_87, fl_87_11, mi_97, ml_97, fl_97, up_97, fl_87_14, mi_100, ml_100, fl_100, up_100, fl_87_17, mi_103, ml_103, fl_103, up_103, true_and, and_true, true_or, or_true, implies_true, b10_0, b10_1]
                repeat' (first | refine And.intro ?_ ?_ | intro _)
                all_goals (try (first | omega | (unfold r32; omega) | exact hQ | exact qe hQ (by omega) | exact qe hQ (by (repeat' split) <;> omega) | exact b01 | exact n01 | exact n21 | exact n31 | exact absurd trivial (by assumption)))
          have l1 := loop1 8 0 (by omega) (fun q' hq' => absurd hq' (by omega))
          apply s_181_0
          try simp only [mi_87, fl_87_11, mi_97, ml_97, fl_97, up_97, fl_87_14, mi_100, ml_100, fl_100, up_100, fl_87_17, mi_103, ml_103, fl_103, up_103, true_and, and_true, true_or, or_true, implies_true, b10_0, b10_1]
          repeat' (first | refine And.intro ?_ ?_ | intro _)
          all_goals (try (first | omega | (unfold r32; omega) | exact hQ | exact qe hQ (by omega) | exact qe hQ (by (repeat' split) <;> omega) | exact b01 | exact n01 | exact n21 | exact n31 | exact absurd trivial (by assumption)))
          refine c174 X _ _ _ _ (by omega) ?_
          apply s_181_4
          try simp only [mi_87, fl_87_11, mi_97, ml_97, fl_97, up_97, fl_87_14, mi_100, ml_100, fl_100, up_100, fl_87_17, mi_103, ml_103, fl_103, up_103, true_and, and_true, true_or, or_true, implies_true, b10_0, b10_1]
          repeat' (first | refine And.intro ?_ ?_ | intro _)
          all_goals (try (first | omega | (unfold r32; omega) | exact hQ | exact qe hQ (by omega) | exact qe hQ (by (repeat' split) <;> omega) | exact b01 | exact n01 | exact n21 | exact n31 | exact absurd trivial (by assumption)))
          refine c166 X _ _ _ _ (by omega) ?_
          apply s_181_11
          try simp only [mi_87, fl_87_11, mi_97, ml_97, fl_97, up_97, fl_87_14, mi_100, ml_100, fl_100, up_100, fl_87_17, mi_103, ml_103, fl_103, up_103, true_and, and_true, true_or, or_true, implies_true, b10_0, b10_1]
          repeat' (first | refine And.intro ?_ ?_ | intro _)
          all_goals (try (first | omega | (unfold r32; omega) | exact hQ | exact qe hQ (by omega) | exact qe hQ (by (repeat' split) <;> omega) | exact b01 | exact n01 | exact n21 | exact n31 | exact absurd trivial (by assumption)))
          all_goals (try exact l1)
        exact PR_of r1 r2 ⟨hC, Istore_le hS, fun _ _ _ => rfl, Or.inl rfl⟩ d Q hd hQ
    · have r1 : Ret X 60 103 [(2, 1), (0, (c : Int)), (0, j1), (3, 0), (3, 0), (3, 0)] g (some (0, -1001)) g := by
        intro d Q hd hQ
        apply s_103_0
        try simp only [mi_1, fl_1_4, mi_12, fl_1_3, mi_9, cm_o, fl_12_3, up_12_3, true_and, and_true, true_or, or_true, implies_true, b10_0, b10_1]
        repeat' (first | refine And.intro ?_ ?_ | intro _)
        all_goals (try (first | omega | (unfold r32; omega) | exact hQ | exact qe hQ (by omega) | exact qe hQ (by (repeat' split) <;> omega) | exact b01 | exact n01 | exact n21 | exact n31 | exact absurd trivial (by assumption)))
        refine c32 X g hc _ _ (by omega) ?_
        apply s_103_8
        try simp only [mi_1, fl_1_4, mi_12, fl_1_3, mi_9, cm_o, fl_12_3, up_12_3, true_and, and_true, true_or, or_true, implies_true, b10_0, b10_1]
        repeat' (first | refine And.intro ?_ ?_ | intro _)
        all_goals (try (first | omega | (unfold r32; omega) | exact hQ | exact qe hQ (by omega) | exact qe hQ (by (repeat' split) <;> omega) | exact b01 | exact n01 | exact n21 | exact n31 | exact absurd trivial (by assumption)))
        refine c132 X _ _ _ _ (by omega) ?_
        apply s_103_17
        try simp only [mi_1, fl_1_4, mi_12, fl_1_3, mi_9, cm_o, fl_12_3, up_12_3, true_and, and_true, true_or, or_true, implies_true, b10_0, b10_1]
        repeat' (first | refine And.intro ?_ ?_ | intro _)
        all_goals (try (first | omega | (unfold r32; omega) | exact hQ | exact qe hQ (by omega) | exact qe hQ (by (repeat' split) <;> omega) | exact b01 | exact n01 | exact n21 | exact n31 | exact absurd trivial (by assumption)))
      have r2 : Ret X 60 181 [(2, 87), (0, (c : Int)), (0, j1), (3, 0), (3, 0)] g (some (0, -1001)) g := by
        intro d Q hd hQ
        apply s_181_0
        try simp only [mi_87, fl_87_11, mi_97, ml_97, fl_97, up_97, fl_87_14, mi_100, ml_100, fl_100, up_100, fl_87_17, mi_103, ml_103, fl_103, up_103, true_and, and_true, true_or, or_true, implies_true, b10_0, b10_1]
        repeat' (first | refine And.intro ?_ ?_ | intro _)
        all_goals (try (first | omega | (unfold r32; omega) | exact hQ | exact qe hQ (by omega) | exact qe hQ (by (repeat' split) <;> omega) | exact b01 | exact n01 | exact n21 | exact n31 | exact absurd trivial (by assumption)))
        refine c174 X _ _ _ _ (by omega) ?_
        apply s_181_4
        try simp only [mi_87, fl_87_11, mi_97, ml_97, fl_97, up_97, fl_87_14, mi_100, ml_100, fl_100, up_100, fl_87_17, mi_103, ml_103, fl_103, up_103, true_and, and_true, true_or, or_true, implies_true, b10_0, b10_1]
        repeat' (first | refine And.intro ?_ ?_ | intro _)
        all_goals (try (first | omega | (unfold r32; omega) | exact hQ | exact qe hQ (by omega) | exact qe hQ (by (repeat' split) <;> omega) | exact b01 | exact n01 | exact n21 | exact n31 | exact absurd trivial (by assumption)))
        refine c166 X _ _ _ _ (by omega) ?_
        apply s_181_11
        try simp only [mi_87, fl_87_11, mi_97, ml_97, fl_97, up_97, fl_87_14, mi_100, ml_100, fl_100, up_100, fl_87_17, mi_103, ml_103, fl_103, up_103, true_and, and_true, true_or, or_true, implies_true, b10_0, b10_1]
        repeat' (first | refine And.intro ?_ ?_ | intro _)
        all_goals (try (first | omega | (unfold r32; omega) | exact hQ | exact qe hQ (by omega) | exact qe hQ (by (repeat' split) <;> omega) | exact b01 | exact n01 | exact n21 | exact n31 | exact absurd trivial (by assumption)))
      exact PR_of r1 r2 ⟨hC, Istore_le hS, fun _ _ _ => rfl, Or.inl rfl⟩ d Q hd hQ
  · have r1 : Ret X 60 103 [(2, 1), (0, a), (0, j1), (3, 0), (3, 0), (3, 0)] g (some (0, -1001)) g := by
      intro d Q hd hQ
      apply s_103_0
      try simp only [mi_1, fl_1_4, mi_12, fl_1_3, mi_9, cm_o, fl_12_3, up_12_3, true_and, and_true, true_or, or_true, implies_true, b10_0, b10_1]
      repeat' (first | refine And.intro ?_ ?_ | intro _)
      all_goals (try (first | omega | (unfold r32; omega) | exact hQ | exact qe hQ (by omega) | exact qe hQ (by (repeat' split) <;> omega) | exact b01 | exact n01 | exact n21 | exact n31 | exact absurd trivial (by assumption)))
      refine c32n X g _ ha _ _ (by omega) ?_
      apply s_103_8
      try simp only [mi_1, fl_1_4, mi_12, fl_1_3, mi_9, cm_o, fl_12_3, up_12_3, true_and, and_true, true_or, or_true, implies_true, b10_0, b10_1]
      repeat' (first | refine And.intro ?_ ?_ | intro _)
      all_goals (try (first | omega | (unfold r32; omega) | exact hQ | exact qe hQ (by omega) | exact qe hQ (by (repeat' split) <;> omega) | exact b01 | exact n01 | exact n21 | exact n31 | exact absurd trivial (by assumption)))
    have r2 : Ret X 60 181 [(2, 87), (0, a), (0, j1), (3, 0), (3, 0)] g (some (0, -1001)) g := by
      intro d Q hd hQ
      apply s_181_0
      try simp only [mi_87, fl_87_11, mi_97, ml_97, fl_97, up_97, fl_87_14, mi_100, ml_100, fl_100, up_100, fl_87_17, mi_103, ml_103, fl_103, up_103, true_and, and_true, true_or, or_true, implies_true, b10_0, b10_1]
      repeat' (first | refine And.intro ?_ ?_ | intro _)
      all_goals (try (first | omega | (unfold r32; omega) | exact hQ | exact qe hQ (by omega) | exact qe hQ (by (repeat' split) <;> omega) | exact b01 | exact n01 | exact n21 | exact n31 | exact absurd trivial (by assumption)))
      refine c174 X _ _ _ _ (by omega) ?_
      apply s_181_4
      try simp only [mi_87, fl_87_11, mi_97, ml_97, fl_97, up_97, fl_87_14, mi_100, ml_100, fl_100, up_100, fl_87_17, mi_103, ml_103, fl_103, up_103, true_and, and_true, true_or, or_true, implies_true, b10_0, b10_1]
      repeat' (first | refine And.intro ?_ ?_ | intro _)
      all_goals (try (first | omega | (unfold r32; omega) | exact hQ | exact qe hQ (by omega) | exact qe hQ (by (repeat' split) <;> omega) | exact b01 | exact n01 | exact n21 | exact n31 | exact absurd trivial (by assumption)))
    exact PR_of r1 r2 ⟨hC, Istore_le hS, fun _ _ _ => rfl, Or.inl rfl⟩ d Q hd hQ
