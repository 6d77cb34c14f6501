/-! jars: a grain is taken from the first jar that has one -/
def fj (a : Nat → Int) (p : Nat) : Nat := if 0 < a p then 0 else if 0 < a (8 + p) then 1 else if 0 < a (16 + p) then 2 else 3
def tkA (a : Nat → Int) (p : Nat) : Nat → Int := fup a (8 * fj a p + p) (a (8 * fj a p + p) - 1)
def s4 (a : Nat → Int) (p : Nat) : Int := a p + a (8 + p) + a (16 + p) + a (24 + p)
theorem fj_p {a : Nat → Int} {p : Nat} (h0 : ∀ j, j < 4 → 0 ≤ a (8 * j + p)) (hs : 0 < s4 a p) : fj a p < 4 ∧ 0 < a (8 * fj a p + p) ∧ ∀ j, j < fj a p → a (8 * j + p) = 0 := by
  have a0 := h0 0 (by omega)
  have a1 := h0 1 (by omega)
  have a2 := h0 2 (by omega)
  have a3 := h0 3 (by omega)
  simp only [Nat.mul_zero, Nat.zero_add, Nat.mul_one, show 8 * 2 = 16 by rfl, show 8 * 3 = 24 by rfl] at a0 a1 a2 a3
  unfold s4 at hs
  unfold fj
  by_cases z0 : 0 < a p
  · rw [if_pos z0]
    refine ⟨by omega, by simpa using z0, fun j hj => absurd hj (by omega)⟩
  · rw [if_neg z0]
    have e0 : ∀ j, j = 0 → a (8 * j + p) = 0 := fun j hj => by subst hj; simp only [Nat.mul_zero, Nat.zero_add]; omega
    by_cases z1 : 0 < a (8 + p)
    · rw [if_pos z1]
      exact ⟨by omega, z1, fun j hj => e0 j (by omega)⟩
    · rw [if_neg z1]
      have e1 : ∀ j, j = 1 → a (8 * j + p) = 0 := fun j hj => by subst hj; simp only [Nat.mul_one]; omega
      by_cases z2 : 0 < a (16 + p)
      · rw [if_pos z2]
        refine ⟨by omega, z2, fun j hj => ?_⟩
        have : j = 0 ∨ j = 1 := by omega
        rcases this with q | q
        · exact e0 j q
        · exact e1 j q
      · rw [if_neg z2]
        refine ⟨by omega, (by show 0 < a (24 + p); omega), fun j hj => ?_⟩
        have : j = 0 ∨ j = 1 ∨ j = 2 := by omega
        rcases this with q | q | q
        · exact e0 j q
        · exact e1 j q
        · subst q; show a (16 + p) = 0; omega
theorem tkA_p {a : Nat → Int} {p : Nat} (hp : p < 8) (h0 : ∀ k, k < 32 → 0 ≤ a k ∧ a k ≤ 999) (hs : 0 < s4 a p) : (∀ k, k < 32 → 0 ≤ tkA a p k ∧ tkA a p k ≤ 999) ∧ ∀ q, q < 8 → s4 (tkA a p) q = s4 a q - (if q = p then 1 else 0) := by
  obtain ⟨f1, f2, f3⟩ := fj_p (a := a) (p := p) (fun j hj => (h0 _ (by omega)).1) hs
  unfold tkA
  generalize fj a p = j at f1 f2 f3
  have hb := h0 (8 * j + p) (by omega)
  constructor
  · intro k hk
    have := h0 k hk
    unfold fup
    split <;> omega
  · intro q hq
    unfold s4 fup
    by_cases hqp : q = p
    · subst hqp
      rw [if_pos rfl]
      have hj : j = 0 ∨ j = 1 ∨ j = 2 ∨ j = 3 := by omega
      rcases hj with rfl | rfl | rfl | rfl
      · simp only [Nat.mul_zero, Nat.zero_add]
        rw [if_pos trivial, if_neg (by omega), if_neg (by omega), if_neg (by omega)]; omega
      · simp only [Nat.mul_one]
        rw [if_neg (by omega), if_pos trivial, if_neg (by omega), if_neg (by omega)]; omega
      · rw [if_neg (by omega), if_neg (by omega), if_pos (by omega), if_neg (by omega)]
        show _ + (a (16 + q) - 1) + _ = _
        omega
      · rw [if_neg (by omega), if_neg (by omega), if_neg (by omega), if_pos (by omega)]
        show _ + (a (24 + q) - 1) = _
        omega
    · rw [if_neg hqp, if_neg (by omega), if_neg (by omega), if_neg (by omega), if_neg (by omega)]
      omega
theorem c83 (X : mX) {g : mF} {a : Nat → Int} {p : Nat} (hp : p < 8) (h9 : ∀ k, k < 32 → g 9 k = a k) (h0 : ∀ k, k < 32 → 0 ≤ a k ∧ a k ≤ 999) (hs : 0 < s4 a p) : Rel X 1 83 [(2, 9), (0, (p : Int)), (3, 0)] g (fun ro h => ro = none ∧ (∀ o k, o ≠ 9 → h o k = g o k) ∧ ∀ k, k < 32 → h 9 k = tkA a p k) := by
  intro d Q hd hQ
  obtain ⟨f1, f2, f3⟩ := fj_p (a := a) (p := p) (fun j hj => (h0 _ (by omega)).1) hs
  unfold tkA at hQ
  generalize fj a p = j at f1 f2 f3 hQ
  have hb := h0 (8 * j + p) (by omega)
  have i78 : ∀ q : Nat, (8 * (q : Int) + (p : Int)).toNat = 8 * q + p := fun q => by omega
  have key := lup (P := fun k => Wp X d SH 83 2 [(2, 9), (0, (p : Int)), (0, (k : Int))] [] SH (fl g) Q) j ?_ ?_ 0 (by omega)
  · skip
    apply s_83_0
    try simp only [mi_9, true_and, and_true, true_or, or_true, implies_true, b10_0, b10_1]
    repeat' (first | refine And.intro ?_ ?_ | intro _)
    all_goals (try (first | omega | (unfold r32; omega) | exact hQ | exact qe hQ (by omega) | exact qe hQ (by (repeat' split) <;> omega) | exact b01 | exact n01 | exact n21 | exact n31 | exact absurd trivial (by assumption)))
    all_goals (try exact key)
  · have c78' := c78 X g (j : Int) (p : Int) (by omega) (by omega)
    rw [i78, h9 _ (by omega)] at c78'
    have c79' := c79 X g (j : Int) (p : Int) (-1) (by omega) (by omega) (by rw [i78, h9 _ (by omega)]; unfold r32; omega)
    rw [i78, h9 _ (by omega)] at c79'
    generalize hh1 : mup g 9 (8 * j + p) (a (8 * j + p) + -1) = h1 at c79'
    have hq := hQ none h1 ⟨rfl, fun o k ho => by rw [← hh1, mup_n (by omega)], fun k hk => by
      unfold fup
      by_cases hkj : k = 8 * j + p
      · subst hkj; rw [← hh1, mup_e, if_pos rfl]; omega
      · rw [← hh1, mup_n (by omega), if_neg hkj]; exact h9 k hk⟩
    apply s_83_2
    try simp only [mi_9, true_and, and_true, true_or, or_true, implies_true, b10_0, b10_1]
    repeat' (first | refine And.intro ?_ ?_ | intro _)
    all_goals (try (first | omega | (unfold r32; omega) | exact hQ | exact qe hQ (by omega) | exact qe hQ (by (repeat' split) <;> omega) | exact b01 | exact n01 | exact n21 | exact n31 | exact absurd trivial (by assumption)))
    refine c78' _ _ (by omega) ?_
    apply s_83_13
    try simp only [mi_9, true_and, and_true, true_or, or_true, implies_true, b10_0, b10_1]
    repeat' (first | refine And.intro ?_ ?_ | intro _)
    all_goals (try (first | omega | (unfold r32; omega) | exact hQ | exact qe hQ (by omega) | exact qe hQ (by (repeat' split) <;> omega) | exact b01 | exact n01 | exact n21 | exact n31 | exact absurd trivial (by assumption)))
    refine c79' _ _ (by omega) ?_
    apply s_83_23
    try simp only [mi_9, true_and, and_true, true_or, or_true, implies_true, b10_0, b10_1]
    repeat' (first | refine And.intro ?_ ?_ | intro _)
    all_goals (try (first | omega | (unfold r32; omega) | exact hQ | exact qe hQ (by omega) | exact qe hQ (by (repeat' split) <;> omega) | exact b01 | exact n01 | exact n21 | exact n31 | exact absurd trivial (by assumption)))
    all_goals (try exact hq)
  · intro k hk ih
    have e10 : ((k + 1 : Nat) : Int) = (k : Int) + 1 := by omega
    have c78' := c78 X g (k : Int) (p : Int) (by omega) (by omega)
    rw [i78, h9 _ (by omega), f3 k hk] at c78'
    rw [e10] at ih
    apply s_83_2
    try simp only [mi_9, true_and, and_true, true_or, or_true, implies_true, b10_0, b10_1]
    repeat' (first | refine And.intro ?_ ?_ | intro _)
    all_goals (try (first | omega | (unfold r32; omega) | exact hQ | exact qe hQ (by omega) | exact qe hQ (by (repeat' split) <;> omega) | exact b01 | exact n01 | exact n21 | exact n31 | exact absurd trivial (by assumption)))
    refine c78' _ _ (by omega) ?_
    apply s_83_13
    try simp only [mi_9, true_and, and_true, true_or, or_true, implies_true, b10_0, b10_1]
    repeat' (first | refine And.intro ?_ ?_ | intro _)
    all_goals (try (first | omega | (unfold r32; omega) | exact hQ | exact qe hQ (by omega) | exact qe hQ (by (repeat' split) <;> omega) | exact b01 | exact n01 | exact n21 | exact n31 | exact absurd trivial (by assumption)))
    all_goals (try exact ih)
theorem c187 (X : mX) {g : mF} {a : Nat → Int} {p : Nat} (hp : p < 8) (h9 : ∀ k, k < 32 → g 96 k = a k) (h0 : ∀ k, k < 32 → 0 ≤ a k ∧ a k ≤ 999) (hs : 0 < s4 a p) : Rel X 0 187 [(2, 87), (0, (p : Int)), (3, 0)] g (fun ro h => ro = none ∧ (∀ o k, o ≠ 96 → h o k = g o k) ∧ ∀ k, k < 32 → h 96 k = tkA a p k) := by
  intro d Q hd hQ
  obtain ⟨f1, f2, f3⟩ := fj_p (a := a) (p := p) (fun j hj => (h0 _ (by omega)).1) hs
  unfold tkA at hQ
  generalize fj a p = j at f1 f2 f3 hQ
  have hb := h0 (8 * j + p) (by omega)
  have i78 : ∀ q : Nat, (8 * (q : Int) + (p : Int)).toNat = 8 * q + p := fun q => by omega
  have key := lup (P := fun k => Wp X d SH 187 2 [(2, 87), (0, (p : Int)), (0, (k : Int))] [] SH (fl g) Q) j ?_ ?_ 0 (by omega)
  · skip
    apply s_187_0
    try simp only [mi_87, fl_87_11, mi_97, ml_97, fl_97, up_97, true_and, and_true, true_or, or_true, implies_true, b10_0, b10_1]
    repeat' (first | refine And.intro ?_ ?_ | intro _)
    all_goals (try (first | omega | (unfold r32; omega) | exact hQ | exact qe hQ (by omega) | exact qe hQ (by (repeat' split) <;> omega) | exact b01 | exact n01 | exact n21 | exact n31 | exact absurd trivial (by assumption)))
    all_goals (try exact key)
  · have f9 := h9 (8 * j + p) (by omega)
    generalize hh1 : mup g 96 (8 * j + p) (a (8 * j + p) - 1) = h1
    have hq := hQ none h1 ⟨rfl, fun o k ho => by rw [← hh1, mup_n (by omega)], fun k hk => by
      unfold fup
      by_cases hkj : k = 8 * j + p
      · subst hkj; rw [← hh1, mup_e, if_pos rfl]
      · rw [← hh1, mup_n (by omega), if_neg hkj]; exact h9 k hk⟩
    apply s_187_2
    try simp only [mi_87, fl_87_11, mi_97, ml_97, fl_97, up_97, i78, f9, hh1, true_and, and_true, true_or, or_true, implies_true, b10_0, b10_1]
    repeat' (first | refine And.intro ?_ ?_ | intro _)
    all_goals (try (first | omega | (unfold r32; omega) | exact hQ | exact qe hQ (by omega) | exact qe hQ (by (repeat' split) <;> omega) | exact b01 | exact n01 | exact n21 | exact n31 | exact absurd trivial (by assumption)))
    all_goals (try exact hq)
  · intro k hk ih
    have e10 : ((k + 1 : Nat) : Int) = (k : Int) + 1 := by omega
    have f9 := h9 (8 * k + p) (by omega)
    rw [f3 k hk] at f9
    rw [e10] at ih
    apply s_187_2
    try simp only [mi_87, fl_87_11, mi_97, ml_97, fl_97, up_97, i78, f9, true_and, and_true, true_or, or_true, implies_true, b10_0, b10_1]
    repeat' (first | refine And.intro ?_ ?_ | intro _)
    all_goals (try (first | omega | (unfold r32; omega) | exact hQ | exact qe hQ (by omega) | exact qe hQ (by (repeat' split) <;> omega) | exact b01 | exact n01 | exact n21 | exact n31 | exact absurd trivial (by assumption)))
    all_goals (try exact ih)
/-- the jars after the first i grains of a plan -/
def jaS (a : Nat → Int) (pl : Nat → Int) : Nat → (Nat → Int)
  | 0 => a
  | i + 1 => tkA (jaS a pl i) (pl i).toNat
theorem jaS_p {a pl : Nat → Int} {F : Nat} (h0 : ∀ k, k < 32 → 0 ≤ a k ∧ a k ≤ 999) (hpl : ∀ i, i < F → 0 ≤ pl i ∧ pl i ≤ 7) (hen : ∀ p : Nat, p < 8 → sumN F (fun i => if pl i = (p : Int) then 1 else 0) ≤ s4 a p) : ∀ i, i ≤ F → (∀ k, k < 32 → 0 ≤ jaS a pl i k ∧ jaS a pl i k ≤ 999) ∧ (∀ p : Nat, p < 8 → s4 (jaS a pl i) p = s4 a p - sumN i (fun k => if pl k = (p : Int) then 1 else 0)) ∧ (i < F → 0 < s4 (jaS a pl i) (pl i).toNat) := by
  have mono : ∀ (p : Nat) (i j : Nat), sumN i (fun k => if pl k = (p : Int) then (1 : Int) else 0) ≤ sumN (i + j) (fun k => if pl k = (p : Int) then (1 : Int) else 0) := by
    intro p i j
    rw [sumN_add]
    have z := (sumN_b (n := j) (a := fun k => if pl (i + k) = (p : Int) then (1 : Int) else 0) (lo := 0) (hi := 1) (fun i _ => by (try simp only []); split <;> omega)).1
    omega
  have last : ∀ i, i < F → (∀ p : Nat, p < 8 → s4 (jaS a pl i) p = s4 a p - sumN i (fun k => if pl k = (p : Int) then 1 else 0)) → 0 < s4 (jaS a pl i) (pl i).toNat := by
    intro i hi hs
    have hb := hpl i hi
    have z := hs (pl i).toNat (by omega)
    have e := hen (pl i).toNat (by omega)
    have m := mono (pl i).toNat (i + 1) (F - (i + 1))
    rw [show i + 1 + (F - (i + 1)) = F by omega] at m
    simp only [sumN] at m
    rw [if_pos (show pl i = (((pl i).toNat : Nat) : Int) by omega)] at m
    omega
  intro i
  induction i with
  | zero =>
    intro hi
    have s0 : ∀ p : Nat, p < 8 → s4 (jaS a pl 0) p = s4 a p - sumN 0 (fun k => if pl k = (p : Int) then 1 else 0) := fun p hp => by
      show s4 a p = s4 a p - 0
      omega
    exact ⟨h0, s0, fun h => last 0 h s0⟩
  | succ i ih =>
    intro hi
    obtain ⟨y1, y2, y3⟩ := ih (by omega)
    have hb := hpl i (by omega)
    obtain ⟨t1, t2⟩ := tkA_p (a := jaS a pl i) (p := (pl i).toNat) (by omega) y1 (y3 (by omega))
    have s1 : ∀ p : Nat, p < 8 → s4 (jaS a pl (i + 1)) p = s4 a p - sumN (i + 1) (fun k => if pl k = (p : Int) then 1 else 0) := fun p hp => by
      have z := t2 p hp
      have y := y2 p hp
      show s4 (tkA (jaS a pl i) (pl i).toNat) p = _
      simp only [sumN]
      rw [z, y]
      by_cases hq : pl i = (p : Int)
      · rw [if_pos (show p = (pl i).toNat by omega), if_pos hq]; omega
      · rw [if_neg (show ¬ p = (pl i).toNat by omega), if_neg hq]; omega
    exact ⟨t1, s1, fun h => last (i + 1) h s1⟩
/-- whether the jars have all -/
theorem c82 (X : mX) {g : mF} {pl : Nat → Int} {F : Nat} (hF : F ≤ 36) (h9 : ∀ k, k < 32 → 0 ≤ g 9 k ∧ g 9 k ≤ 999) (h54 : ∀ i, i < F → g 54 i = pl i) : ((∀ p : Nat, p < 8 → sumN F (fun i => if pl i = (p : Int) then 1 else 0) ≤ s4 (g 9) p) → Ret X 2 82 [(2, 9), (2, 55), (0, (F : Int)), (3, 0), (3, 0), (3, 0)] g (some (0, 1)) g) ∧ ((¬ ∀ p : Nat, p < 8 → sumN F (fun i => if pl i = (p : Int) then 1 else 0) ≤ s4 (g 9) p) → Ret X 2 82 [(2, 9), (2, 55), (0, (F : Int)), (3, 0), (3, 0), (3, 0)] g (some (0, 0)) g) := by
  have one : ∀ d Q (p : Nat), 2 ≤ d → p < 8 → (sumN F (fun i => if pl i = (p : Int) then 1 else 0) ≤ s4 (g 9) p → ∀ v4 v5, Wp X d SH 82 2 [(2, 9), (2, 55), (0, (F : Int)), (0, ((p + 1 : Nat) : Int)), v4, v5] [] SH (fl g) Q) → (¬ sumN F (fun i => if pl i = (p : Int) then 1 else 0) ≤ s4 (g 9) p → Q (some (0, 0)) (fl g)) → ∀ v4 v5, Wp X d SH 82 2 [(2, 9), (2, 55), (0, (F : Int)), (0, (p : Int)), v4, v5] [] SH (fl g) Q := by
    intro d Q p hd hp hy hn v4 v5
    have e11 : ((p + 1 : Nat) : Int) = (p : Int) + 1 := by omega
    have ep : ((p : Int)).toNat = p := by omega
    have c81' := c81 X g (p : Int) (by omega) h9
    rw [ep, sum4] at c81'
    simp only [Nat.mul_zero, Nat.zero_add, Nat.mul_one, show 8 * 2 = 16 by rfl, show 8 * 3 = 24 by rfl] at c81'
    have es : g 9 p + g 9 (8 + p) + g 9 (16 + p) + g 9 (24 + p) = s4 (g 9) p := rfl
    rw [es] at c81'
    rw [e11] at hy
    have inner := lup (P := fun i => Wp X d SH 82 14 [(2, 9), (2, 55), (0, (F : Int)), (0, (p : Int)), (0, sumN i (fun i => if pl i = (p : Int) then 1 else 0)), (0, (i : Int))] [] SH (fl g) Q) F ?_ ?_ 0 (by omega)
    · skip
      apply s_82_2
      try simp only [mi_9, true_and, and_true, true_or, or_true, implies_true, b10_0, b10_1]
      repeat' (first | refine And.intro ?_ ?_ | intro _)
      all_goals (try (first | omega | (unfold r32; omega) | exact hQ | exact qe hQ (by omega) | exact qe hQ (by (repeat' split) <;> omega) | exact b01 | exact n01 | exact n21 | exact n31 | exact absurd trivial (by assumption)))
      exact inner
    · skip
      apply s_82_14
      try simp only [mi_9, true_and, and_true, true_or, or_true, implies_true, b10_0, b10_1]
      repeat' (first | refine And.intro ?_ ?_ | intro _)
      all_goals (try (first | omega | (unfold r32; omega) | exact hQ | exact qe hQ (by omega) | exact qe hQ (by (repeat' split) <;> omega) | exact b01 | exact n01 | exact n21 | exact n31 | exact absurd trivial (by assumption)))
      refine c81' _ _ (by omega) ?_
      apply s_82_44
      try simp only [mi_9, true_and, and_true, true_or, or_true, implies_true, b10_0, b10_1]
      repeat' (first | refine And.intro ?_ ?_ | intro _)
      all_goals (try (first | omega | (unfold r32; omega) | exact hQ | exact qe hQ (by omega) | exact qe hQ (by (repeat' split) <;> omega) | exact b01 | exact n01 | exact n21 | exact n31 | exact absurd trivial (by assumption)))
      · exact hy (by omega) _ _
      · exact hn (by omega)
    · intro i hi ih
      have e2 : ((i : Int)).toNat = i := by omega
      have e10 : ((i + 1 : Nat) : Int) = (i : Int) + 1 := by omega
      have f54 := h54 i hi
      have b1 := sumN_b (n := i) (a := fun i => if pl i = (p : Int) then (1 : Int) else 0) (lo := 0) (hi := 1) (fun i _ => by (try simp only []); split <;> omega)
      simp only [e10, sumN] at ih
      apply s_82_14
      try simp only [mi_9, e2, mi_55, ml_55, fl_55, f54, true_and, and_true, true_or, or_true, implies_true, b10_0, b10_1]
      repeat' (first | refine And.intro ?_ ?_ | intro _)
      all_goals (try (first | omega | (unfold r32; omega) | exact hQ | exact qe hQ (by omega) | exact qe hQ (by (repeat' split) <;> omega) | exact b01 | exact n01 | exact n21 | exact n31 | exact absurd trivial (by assumption)))
      · rw [if_neg (by assumption), Int.add_zero] at ih
        apply s_82_31
        try simp only [mi_9, true_and, and_true, true_or, or_true, implies_true, b10_0, b10_1]
        repeat' (first | refine And.intro ?_ ?_ | intro _)
        all_goals (try (first | omega | (unfold r32; omega) | exact hQ | exact qe hQ (by omega) | exact qe hQ (by (repeat' split) <;> omega) | exact b01 | exact n01 | exact n21 | exact n31 | exact absurd trivial (by assumption)))
        all_goals (try exact ih)
      · rw [if_pos (by omega)] at ih
        apply s_82_31
        try simp only [mi_9, true_and, and_true, true_or, or_true, implies_true, b10_0, b10_1]
        repeat' (first | refine And.intro ?_ ?_ | intro _)
        all_goals (try (first | omega | (unfold r32; omega) | exact hQ | exact qe hQ (by omega) | exact qe hQ (by (repeat' split) <;> omega) | exact b01 | exact n01 | exact n21 | exact n31 | exact absurd trivial (by assumption)))
        all_goals (try exact ih)
  constructor
  · intro hen d Q hd hQ
    have key := lup (P := fun p => ∀ v4 v5, Wp X d SH 82 2 [(2, 9), (2, 55), (0, (F : Int)), (0, (p : Int)), v4, v5] [] SH (fl g) Q) 8 ?_ ?_ 0 (by omega)
    · skip
      apply s_82_0
      try simp only [mi_9, true_and, and_true, true_or, or_true, implies_true, b10_0, b10_1]
      repeat' (first | refine And.intro ?_ ?_ | intro _)
      all_goals (try (first | omega | (unfold r32; omega) | exact hQ | exact qe hQ (by omega) | exact qe hQ (by (repeat' split) <;> omega) | exact b01 | exact n01 | exact n21 | exact n31 | exact absurd trivial (by assumption)))
      exact key _ _
    · intro v4 v5
      apply s_82_2
      try simp only [mi_9, true_and, and_true, true_or, or_true, implies_true, b10_0, b10_1]
      repeat' (first | refine And.intro ?_ ?_ | intro _)
      all_goals (try (first | omega | (unfold r32; omega) | exact hQ | exact qe hQ (by omega) | exact qe hQ (by (repeat' split) <;> omega) | exact b01 | exact n01 | exact n21 | exact n31 | exact absurd trivial (by assumption)))
    · intro p hp ih
      exact one d Q p hd hp (fun _ => ih) (fun h => absurd (hen p hp) h)
  · intro hen d Q hd hQ
    have key : ∀ m p : Nat, p + m = 8 → (∀ q : Nat, q < p → sumN F (fun i => if pl i = (q : Int) then 1 else 0) ≤ s4 (g 9) q) → ∀ v4 v5, Wp X d SH 82 2 [(2, 9), (2, 55), (0, (F : Int)), (0, (p : Int)), v4, v5] [] SH (fl g) Q := by
      intro m
      induction m with
      | zero => intro p hp hpre; exact absurd (fun q hq => hpre q (by omega)) hen
      | succ m ih =>
        intro p hp hpre
        exact one d Q p hd (by omega) (fun hz => ih (p + 1) (by omega) (fun q hq => by
          by_cases hqp : q = p
          · subst hqp; exact hz
          · exact hpre q (by omega))) (fun _ => hQ)
    apply s_82_0
    try simp only [mi_9, true_and, and_true, true_or, or_true, implies_true, b10_0, b10_1]
    repeat' (first | refine And.intro ?_ ?_ | intro _)
    all_goals (try (first | omega | (unfold r32; omega) | exact hQ | exact qe hQ (by omega) | exact qe hQ (by (repeat' split) <;> omega) | exact b01 | exact n01 | exact n21 | exact n31 | exact absurd trivial (by assumption)))
    exact key 8 0 (by omega) (fun q hq => absurd hq (by omega)) _ _
