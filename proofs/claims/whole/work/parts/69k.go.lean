/-! go -/
theorem sumN_le {n : Nat} {a b : Nat → Int} (h : ∀ i, i < n → a i ≤ b i) : sumN n a ≤ sumN n b := by
  induction n with
  | zero => exact Int.le_refl _
  | succ n ih =>
    have z := ih (fun i hi => h i (by omega))
    have y := h n (by omega)
    simp only [sumN]
    omega
theorem sumN_lt {n : Nat} {a b : Nat → Int} (h : ∀ i, i < n → a i ≤ b i) {x : Nat} (hx : x < n) (h1 : a x + 1 ≤ b x) : sumN n a + 1 ≤ sumN n b := by
  induction n with
  | zero => omega
  | succ n ih =>
    simp only [sumN]
    by_cases hxn : x = n
    · subst hxn
      have z := sumN_le (n := x) (a := a) (b := b) (fun i hi => h i (by omega))
      omega
    · have z := ih (fun i hi => h i (by omega)) (by omega)
      have y := h n (by omega)
      omega
theorem seal_len {g : mF} {s q : Nat} (hI : Iseal g s) (hq : q < 36) (hp : g (58 + 5 * s) q = -1) : g (56 + 5 * s) 2 ≤ 35 := by
  obtain ⟨⟨p1, p2, ⟨p3, p4, p5⟩, p6⟩, h2, h3, h4, h5, -, -⟩ := hI
  have cnt : ∀ k : Nat, (k : Int) ≤ g (56 + 5 * s) 2 → (k : Int) ≤ sumN 36 (fun x => if 0 ≤ g (58 + 5 * s) x ∧ g (58 + 5 * s) x < (k : Int) then 1 else 0) := by
    intro k
    induction k with
    | zero =>
      intro _
      have z := (sumN_b (n := 36) (a := fun x => if 0 ≤ g (58 + 5 * s) x ∧ g (58 + 5 * s) x < ((0 : Nat) : Int) then (1 : Int) else 0) (lo := 0) (hi := 1) (fun i _ => by (try simp only []); split <;> omega)).1
      omega
    | succ k ih =>
      intro hk
      have z := ih (by omega)
      have b := (p6 k (by omega)).2
      have e := (h5 k (by omega)).1
      have y := sumN_lt (n := 36) (a := fun x => if 0 ≤ g (58 + 5 * s) x ∧ g (58 + 5 * s) x < (k : Int) then (1 : Int) else 0) (b := fun x => if 0 ≤ g (58 + 5 * s) x ∧ g (58 + 5 * s) x < ((k + 1 : Nat) : Int) then (1 : Int) else 0) (fun i _ => by (try simp only []); split <;> split <;> omega) (x := (g (57 + 5 * s) k).toNat) (by omega) (by
        simp only [e]
        rw [if_neg (by omega), if_pos (by omega)]
        omega)
      omega
  have z := cnt (g (56 + 5 * s) 2).toNat (by omega)
  have y := sumN_lt (n := 36) (a := fun x => if 0 ≤ g (58 + 5 * s) x ∧ g (58 + 5 * s) x < (((g (56 + 5 * s) 2).toNat : Nat) : Int) then (1 : Int) else 0) (b := fun _ => 1) (fun i _ => by (try simp only []); split <;> omega) hq (by
    simp only [hp]
    rw [if_neg (by omega)]
    omega)
  have x := (sumN_b (n := 36) (a := fun _ => (1 : Int)) (lo := 1) (hi := 1) (fun i _ => by omega)).2
  omega
theorem c63 (X : mX) (g : mF) {s a : Nat} (hs : s < 6) (ha : a < 36) (b : Int) : ((∃ side, side < 4 ∧ g (60 + 5 * s) (4 * a + side) = b) → Ret X 0 63 [(2, 57 + 5 * (s : Int)), (0, (a : Int)), (0, b), (3, 0)] g (some (0, 1)) g) ∧ ((¬ ∃ side, side < 4 ∧ g (60 + 5 * s) (4 * a + side) = b) → Ret X 0 63 [(2, 57 + 5 * (s : Int)), (0, (a : Int)), (0, b), (3, 0)] g (some (0, 0)) g) := by
  have ix : ∀ j : Nat, ((a : Int) * 4 + (j : Int)).toNat = 4 * a + j := fun j => by omega
  constructor
  · rintro ⟨side, s1, s2⟩ d Q hd hQ
    have key : ∀ m j : Nat, j + m = side → Wp X d SH 63 2 [(2, 57 + 5 * (s : Int)), (0, (a : Int)), (0, b), (0, (j : Int))] [] SH (fl g) Q := by
      intro m
      induction m with
      | zero =>
        intro j hj
        have hjs : j = side := by omega
        subst hjs
        apply s_63_2
        try simp only [sm_o, sl_6, sm_6, sn_6, sa_6, sz_6, hs, ix, s2, true_and, and_true, true_or, or_true, implies_true, b10_0, b10_1]
        repeat' (first | refine And.intro ?_ ?_ | intro _)
        all_goals (try (first | omega | (unfold r32; omega) | exact hQ | exact qe hQ (by omega) | exact qe hQ (by (repeat' split) <;> omega) | exact b01 | exact n01 | exact n21 | exact n31 | exact absurd trivial (by assumption)))
      | succ m ih =>
        intro j hj
        have e10 : ((j + 1 : Nat) : Int) = (j : Int) + 1 := by omega
        have nx := ih (j + 1) (by omega)
        rw [e10] at nx
        apply s_63_2
        try simp only [sm_o, sl_6, sm_6, sn_6, sa_6, sz_6, hs, ix, true_and, and_true, true_or, or_true, implies_true, b10_0, b10_1]
        repeat' (first | refine And.intro ?_ ?_ | intro _)
        all_goals (try (first | omega | (unfold r32; omega) | exact hQ | exact qe hQ (by omega) | exact qe hQ (by (repeat' split) <;> omega) | exact b01 | exact n01 | exact n21 | exact n31 | exact absurd trivial (by assumption)))
        all_goals (try exact nx)
    have k0 := key side 0 (by omega)
    apply s_63_0
    try simp only [sm_o, sl_6, sm_6, sn_6, sa_6, sz_6, true_and, and_true, true_or, or_true, implies_true, b10_0, b10_1]
    repeat' (first | refine And.intro ?_ ?_ | intro _)
    all_goals (try (first | omega | (unfold r32; omega) | exact hQ | exact qe hQ (by omega) | exact qe hQ (by (repeat' split) <;> omega) | exact b01 | exact n01 | exact n21 | exact n31 | exact absurd trivial (by assumption)))
    all_goals (try exact k0)
  · intro hn d Q hd hQ
    have key := lup (P := fun j => Wp X d SH 63 2 [(2, 57 + 5 * (s : Int)), (0, (a : Int)), (0, b), (0, (j : Int))] [] SH (fl g) Q) 4 ?_ ?_ 0 (by omega)
    · skip
      apply s_63_0
      try simp only [sm_o, sl_6, sm_6, sn_6, sa_6, sz_6, true_and, and_true, true_or, or_true, implies_true, b10_0, b10_1]
      repeat' (first | refine And.intro ?_ ?_ | intro _)
      all_goals (try (first | omega | (unfold r32; omega) | exact hQ | exact qe hQ (by omega) | exact qe hQ (by (repeat' split) <;> omega) | exact b01 | exact n01 | exact n21 | exact n31 | exact absurd trivial (by assumption)))
      all_goals (try exact key)
    · skip
      apply s_63_2
      try simp only [sm_o, sl_6, sm_6, sn_6, sa_6, sz_6, true_and, and_true, true_or, or_true, implies_true, b10_0, b10_1]
      repeat' (first | refine And.intro ?_ ?_ | intro _)
      all_goals (try (first | omega | (unfold r32; omega) | exact hQ | exact qe hQ (by omega) | exact qe hQ (by (repeat' split) <;> omega) | exact b01 | exact n01 | exact n21 | exact n31 | exact absurd trivial (by assumption)))
    · intro j hj ih
      have e10 : ((j + 1 : Nat) : Int) = (j : Int) + 1 := by omega
      have hne : g (60 + 5 * s) (4 * a + j) ≠ b := fun z => hn ⟨j, hj, z⟩
      rw [e10] at ih
      apply s_63_2
      try simp only [sm_o, sl_6, sm_6, sn_6, sa_6, sz_6, hs, ix, true_and, and_true, true_or, or_true, implies_true, b10_0, b10_1]
      repeat' (first | refine And.intro ?_ ?_ | intro _)
      all_goals (try (first | omega | (unfold r32; omega) | exact hQ | exact qe hQ (by omega) | exact qe hQ (by (repeat' split) <;> omega) | exact b01 | exact n01 | exact n21 | exact n31 | exact absurd trivial (by assumption)))
      all_goals (try exact ih)
def CF (g : mF) (s q : Nat) : Prop := g (59 + 5 * s) q = 0 ∧ g (58 + 5 * s) q = -1 ∧ (g (56 + 5 * s) 2 = 0 ∨ ∃ side, side < 4 ∧ g (60 + 5 * s) (4 * (g (57 + 5 * s) (g (56 + 5 * s) 2 - 1).toNat).toNat + side) = (q : Int))
theorem c62 (X : mX) (g : mF) {s q : Nat} (hs : s < 6) (hq : q < 36) (hI : Iseal g s) : (CF g s q → Ret X 1 62 [(2, 57 + 5 * (s : Int)), (0, (q : Int))] g (some (0, 1)) g) ∧ (¬ CF g s q → Ret X 1 62 [(2, 57 + 5 * (s : Int)), (0, (q : Int))] g (some (0, 0)) g) := by
  obtain ⟨⟨p1, p2, ⟨p3, p4, p5⟩, p6⟩, -⟩ := hI
  have eq : ((q : Int)).toNat = q := by omega
  have run : ∀ d Q, 1 ≤ d → (CF g s q → Q (some (0, 1)) (fl g)) → (¬ CF g s q → Q (some (0, 0)) (fl g)) → Wp X d SH 62 0 [(2, 57 + 5 * (s : Int)), (0, (q : Int))] [] SH (fl g) Q := by
    intro d Q hd hy hn
    by_cases h1 : g (59 + 5 * s) q = 0
    · by_cases h2 : g (58 + 5 * s) q = -1
      · by_cases h3 : g (56 + 5 * s) 2 = 0
        · have hq1 := hy ⟨h1, h2, Or.inl h3⟩
          apply s_62_0
          try simp only [sm_o, sl_5, sm_5, sn_5, sa_5, sz_5, sl_4, sm_4, sn_4, sa_4, sz_4, sl_2, su_2, sl_3, sm_3, sn_3, sa_3, sz_3, hs, eq, h1, h2, h3, true_and, and_true, true_or, or_true, implies_true, b10_0, b10_1]
          repeat' (first | refine And.intro ?_ ?_ | intro _)
          all_goals (try (first | omega | (unfold r32; omega) | exact hQ | exact qe hQ (by omega) | exact qe hQ (by (repeat' split) <;> omega) | exact b01 | exact n01 | exact n21 | exact n31 | exact absurd trivial (by assumption)))
          all_goals (try (refine s_62_47 ?_; exact hq1))
        · have pb := (p6 (g (56 + 5 * s) 2 - 1).toNat (by omega)).2
          obtain ⟨l, hl⟩ : ∃ l : Nat, g (57 + 5 * s) (g (56 + 5 * s) 2 - 1).toNat = (l : Int) := ⟨(g (57 + 5 * s) (g (56 + 5 * s) 2 - 1).toNat).toNat, by omega⟩
          have c := c63 X g hs (show l < 36 by omega) (q : Int)
          by_cases h4 : ∃ side, side < 4 ∧ g (60 + 5 * s) (4 * l + side) = (q : Int)
          · have hq1 := hy ⟨h1, h2, Or.inr (by rw [hl, show ((l : Int)).toNat = l by omega]; exact h4)⟩
            have c1 := c.1 h4
            clear h4 c
            apply s_62_0
            try simp only [sm_o, sl_5, sm_5, sn_5, sa_5, sz_5, sl_4, sm_4, sn_4, sa_4, sz_4, sl_2, su_2, sl_3, sm_3, sn_3, sa_3, sz_3, hs, eq, h1, h2, hl, true_and, and_true, true_or, or_true, implies_true, b10_0, b10_1]
            repeat' (first | refine And.intro ?_ ?_ | intro _)
            all_goals (try (first | omega | (unfold r32; omega) | exact hQ | exact qe hQ (by omega) | exact qe hQ (by (repeat' split) <;> omega) | exact b01 | exact n01 | exact n21 | exact n31 | exact absurd trivial (by assumption)))
            refine c1 _ _ (by omega) ?_
            apply s_62_44
            try simp only [sm_o, sl_5, sm_5, sn_5, sa_5, sz_5, sl_4, sm_4, sn_4, sa_4, sz_4, sl_2, su_2, sl_3, sm_3, sn_3, sa_3, sz_3, true_and, and_true, true_or, or_true, implies_true, b10_0, b10_1]
            repeat' (first | refine And.intro ?_ ?_ | intro _)
            all_goals (try (first | omega | (unfold r32; omega) | exact hQ | exact qe hQ (by omega) | exact qe hQ (by (repeat' split) <;> omega) | exact b01 | exact n01 | exact n21 | exact n31 | exact absurd trivial (by assumption)))
            all_goals (try (refine s_62_47 ?_; exact hq1))
          · have hq1 := hn (fun z => h4 (by
              have y := z.2.2.resolve_left h3
              rw [hl, show ((l : Int)).toNat = l by omega] at y
              exact y))
            have c1 := c.2 h4
            clear h4 c
            apply s_62_0
            try simp only [sm_o, sl_5, sm_5, sn_5, sa_5, sz_5, sl_4, sm_4, sn_4, sa_4, sz_4, sl_2, su_2, sl_3, sm_3, sn_3, sa_3, sz_3, hs, eq, h1, h2, hl, true_and, and_true, true_or, or_true, implies_true, b10_0, b10_1]
            repeat' (first | refine And.intro ?_ ?_ | intro _)
            all_goals (try (first | omega | (unfold r32; omega) | exact hQ | exact qe hQ (by omega) | exact qe hQ (by (repeat' split) <;> omega) | exact b01 | exact n01 | exact n21 | exact n31 | exact absurd trivial (by assumption)))
            refine c1 _ _ (by omega) ?_
            apply s_62_44
            try simp only [sm_o, sl_5, sm_5, sn_5, sa_5, sz_5, sl_4, sm_4, sn_4, sa_4, sz_4, sl_2, su_2, sl_3, sm_3, sn_3, sa_3, sz_3, true_and, and_true, true_or, or_true, implies_true, b10_0, b10_1]
            repeat' (first | refine And.intro ?_ ?_ | intro _)
            all_goals (try (first | omega | (unfold r32; omega) | exact hQ | exact qe hQ (by omega) | exact qe hQ (by (repeat' split) <;> omega) | exact b01 | exact n01 | exact n21 | exact n31 | exact absurd trivial (by assumption)))
            all_goals (try exact hq1)
      · have hq1 := hn (fun z => h2 z.2.1)
        apply s_62_0
        try simp only [sm_o, sl_5, sm_5, sn_5, sa_5, sz_5, sl_4, sm_4, sn_4, sa_4, sz_4, sl_2, su_2, sl_3, sm_3, sn_3, sa_3, sz_3, hs, eq, h1, true_and, and_true, true_or, or_true, implies_true, b10_0, b10_1]
        repeat' (first | refine And.intro ?_ ?_ | intro _)
        all_goals (try (first | omega | (unfold r32; omega) | exact hQ | exact qe hQ (by omega) | exact qe hQ (by (repeat' split) <;> omega) | exact b01 | exact n01 | exact n21 | exact n31 | exact absurd trivial (by assumption)))
        all_goals (try exact hq1)
    · have hq1 := hn (fun z => h1 z.1)
      apply s_62_0
      try simp only [sm_o, sl_5, sm_5, sn_5, sa_5, sz_5, sl_4, sm_4, sn_4, sa_4, sz_4, sl_2, su_2, sl_3, sm_3, sn_3, sa_3, sz_3, hs, eq, true_and, and_true, true_or, or_true, implies_true, b10_0, b10_1]
      repeat' (first | refine And.intro ?_ ?_ | intro _)
      all_goals (try (first | omega | (unfold r32; omega) | exact hQ | exact qe hQ (by omega) | exact qe hQ (by (repeat' split) <;> omega) | exact b01 | exact n01 | exact n21 | exact n31 | exact absurd trivial (by assumption)))
      all_goals (try exact hq1)
  exact ⟨fun hz d Q hd hQ => run d Q hd (fun _ => hQ) (fun hn => absurd hz hn), fun hz d Q hd hQ => run d Q hd (fun hy => absurd hy hz) (fun _ => hQ)⟩
theorem c64 (X : mX) (g : mF) {s q : Nat} (hs : s < 6) (hq : q < 36) (hl : 0 ≤ g (56 + 5 * s) 2 ∧ g (56 + 5 * s) 2 ≤ 35) : Ret X 0 64 [(2, 57 + 5 * (s : Int)), (0, (q : Int))] g none (mup (mup (mup g (58 + 5 * s) q (g (56 + 5 * s) 2)) (57 + 5 * s) (g (56 + 5 * s) 2).toNat (q : Int)) (56 + 5 * s) 2 (g (56 + 5 * s) 2 + 1)) := by
  intro d Q hd hQ
  have eq : ((q : Int)).toNat = q := by omega
  have e1 : mup g (58 + 5 * s) q (g (56 + 5 * s) 2) (56 + 5 * s) 2 = g (56 + 5 * s) 2 := mup_n (by omega)
  have e2 : mup (mup g (58 + 5 * s) q (g (56 + 5 * s) 2)) (57 + 5 * s) (g (56 + 5 * s) 2).toNat (q : Int) (56 + 5 * s) 2 = g (56 + 5 * s) 2 := by rw [mup_n (by omega), e1]
  repeat' (first
    | (exfalso; omega)
    | (exact absurd trivial (by assumption))
    | (apply s_64_0; try simp only [sm_o, sl_4, sm_4, sn_4, sa_4, sz_4, sl_2, su_2, sl_3, sm_3, sn_3, sa_3, sz_3, hs, eq, e1, e2, true_and, and_true, true_or, or_true, implies_true, b10_0, b10_1])
    | (apply s_64_10; try simp only [sm_o, sl_4, sm_4, sn_4, sa_4, sz_4, sl_2, su_2, sl_3, sm_3, sn_3, sa_3, sz_3, hs, eq, e1, e2, true_and, and_true, true_or, or_true, implies_true, b10_0, b10_1])
    | (apply s_64_20; try simp only [sm_o, sl_4, sm_4, sn_4, sa_4, sz_4, sl_2, su_2, sl_3, sm_3, sn_3, sa_3, sz_3, hs, eq, e1, e2, true_and, and_true, true_or, or_true, implies_true, b10_0, b10_1])
    | (refine And.intro ?_ ?_)
    | (intro _)
    | omega
    | (unfold r32; omega)
    | (exact hQ)
    | (exact qe hQ (by omega))
    | (exact qe hQ (by (repeat' split) <;> omega))
    | (exact b01)
    | (exact n01)
    | (exact n21)
    | (exact n31))
/-- squares side by side -/
def nrC (w a b : Int) : Prop := (if b % w - a % w < 0 then -(b % w - a % w) else b % w - a % w) + (if b / w - a / w < 0 then -(b / w - a / w) else b / w - a / w) = 1
theorem c150 (X : mX) (g : mF) {s : Nat} {a b w h : Int} (hs : s < 6) (hw : 1 ≤ w ∧ w ≤ 6) (hh : 1 ≤ h ∧ h ≤ 6) (h87 : g 87 s = w) (ha : 0 ≤ a ∧ a < w * h) (hb : 0 ≤ b ∧ b < w * h) : (nrC w a b → Ret X 1 150 [(2, 87), (0, (s : Int)), (0, a), (0, b)] g (some (0, 1)) g) ∧ (¬ nrC w a b → Ret X 1 150 [(2, 87), (0, (s : Int)), (0, a), (0, b)] g (some (0, 0)) g) := by
  have es : ((s : Int)).toNat = s := by omega
  have ta := tdn ha.1 w
  have tb := tdn hb.1 w
  have ma := tmn ha.1 w
  have mb := tmn hb.1 w
  have da := dm_b hw hh ha
  have db := dm_b hw hh hb
  have run : ∀ d Q, 1 ≤ d → (nrC w a b → Q (some (0, 1)) (fl g)) → (¬ nrC w a b → Q (some (0, 0)) (fl g)) → Wp X d SH 150 0 [(2, 87), (0, (s : Int)), (0, a), (0, b)] [] SH (fl g) Q := by
    intro d Q hd hy hn
    have c1 := c145 X g (a % w - b % w) (by omega)
    have c2 := c145 X g (a / w - b / w) (by omega)
    unfold nrC at hy hn
    generalize a % w = am at *
    generalize b % w = bm at *
    generalize a / w = ad at *
    generalize b / w = bd at *
    apply s_150_0
    try simp only [mi_87, fl_87_0, mi_88, ml_88, fl_88, up_88, es, h87, ta, tb, ma, mb, true_and, and_true, true_or, or_true, implies_true, b10_0, b10_1]
    repeat' (first | refine And.intro ?_ ?_ | intro _)
    all_goals (try (first | omega | (unfold r32; omega) | exact hQ | exact qe hQ (by omega) | exact qe hQ (by (repeat' split) <;> omega) | exact b01 | exact n01 | exact n21 | exact n31 | exact absurd trivial (by assumption)))
    refine c1 _ _ (by omega) ?_
    apply s_150_20
    try simp only [mi_87, fl_87_0, mi_88, ml_88, fl_88, up_88, es, h87, ta, tb, ma, mb, true_and, and_true, true_or, or_true, implies_true, b10_0, b10_1]
    repeat' (first | refine And.intro ?_ ?_ | intro _)
    all_goals (try (first | omega | (unfold r32; omega) | exact hQ | exact qe hQ (by omega) | exact qe hQ (by (repeat' split) <;> omega) | exact b01 | exact n01 | exact n21 | exact n31 | exact absurd trivial (by assumption)))
    refine c2 _ _ (by omega) ?_
    refine s_150_40 ⟨?_, fun z => hn ?_, fun z => hy ?_⟩
    · unfold r32; split <;> split <;> omega
    · intro y; apply z; revert y; split <;> split <;> split <;> split <;> omega
    · have z2 := Classical.not_not.1 z
      revert z2
      split <;> split <;> split <;> split <;> omega
  exact ⟨fun hz d Q hd hQ => run d Q hd (fun _ => hQ) (fun hn => absurd hz hn), fun hz d Q hd hQ => run d Q hd (fun hy => absurd hy hz) (fun _ => hQ)⟩
theorem T_go (X : mX) (g : mF) (a b : Int) (hI : ∀ s, s < 6 → Iseal g s) : PR X 87 153 [(2, 1), (0, a), (0, b), (3, 0)] [(2, 87), (0, a), (0, b), (3, 0)] g (fun g2 => (∀ s, s < 6 → Iseal g2 s) ∧ ∀ o k, ¬ (56 ≤ o ∧ o < 86 ∨ o = 90 ∨ o = 91) → g2 o k = g o k) := by
  have rr : (∀ s, s < 6 → Iseal g s) ∧ ∀ o k, ¬ (56 ≤ o ∧ o < 86 ∨ o = 90 ∨ o = 91) → g o k = g o k := ⟨hI, fun _ _ _ => rfl⟩
  intro d Q hd hQ
  by_cases ha : 0 ≤ a ∧ a ≤ 5
  · obtain ⟨s, rfl⟩ : ∃ s : Nat, a = (s : Int) := ⟨a.toNat, by omega⟩
    have hs : s < 6 := by omega
    have es : ((s : Int)).toNat = s := by omega
    have hIs := hI s hs
    have hP := hIs.1
    obtain ⟨⟨p1, p2, ⟨p3, p4, p5⟩, p6⟩, s2, s3, s4', s5, s6, s7⟩ := id hIs
    have hwh := mul_b p1.2 p2.2
    by_cases hb : 0 ≤ b ∧ b < g (56 + 5 * s) 0 * g (56 + 5 * s) 1
    · obtain ⟨q, rfl⟩ : ∃ q : Nat, b = (q : Int) := ⟨b.toNat, by omega⟩
      have hq36 : q < 36 := by omega
      have eq : ((q : Int)).toNat = q := by omega
      have esq : (36 * (s : Int) + (q : Int)).toNat = 36 * s + q := by omega
      have cf := c62 X g hs hq36 hIs
      have h4 := s4' q hq36
      have hB := s2 q hq36
      have hB0 := hB.1
      by_cases hok : CF g s q
      · obtain ⟨o1, o2, o3⟩ := id hok
        have hl35 := seal_len hIs hq36 o2
        have c64' := c64 X g hs hq36 ⟨p4, hl35⟩
        obtain ⟨N, hN⟩ : ∃ N : Nat, g (56 + 5 * s) 2 = (N : Int) := ⟨(g (56 + 5 * s) 2).toNat, by omega⟩
        rw [hN, show ((N : Int)).toNat = N by omega] at c64'
        generalize hg1 : mup (mup (mup g (58 + 5 * s) q (N : Int)) (57 + 5 * s) N (q : Int)) (56 + 5 * s) 2 ((N : Int) + 1) = g1 at c64'
        have f1 : ∀ o k, ¬ (o = 58 + 5 * s ∧ k = q ∨ o = 57 + 5 * s ∧ k = N ∨ o = 56 + 5 * s ∧ k = 2) → g1 o k = g o k := fun o k ho => by rw [← hg1, mup_n (by omega), mup_n (by omega), mup_n (by omega)]
        have v1 : g1 (58 + 5 * s) q = (N : Int) := by rw [← hg1, mup_n (by omega), mup_n (by omega), mup_e]
        have v2 : g1 (57 + 5 * s) N = (q : Int) := by rw [← hg1, mup_n (by omega), mup_e]
        have v3 : g1 (56 + 5 * s) 2 = (N : Int) + 1 := by rw [← hg1, mup_e]
        have fin : Q (some (0, (N : Int) + 1)) (fl g1) := by
          refine hQ _ g1 ⟨_, rfl, ?_⟩
          clear hQ
          intro d Q hd hQ
          have t91 : g1 91 s = (N : Int) := by rw [f1 _ _ (by omega), p3, hN]
          have esn : (36 * (s : Int) + (N : Int)).toNat = 36 * s + N := by omega
          generalize hm1 : mup g1 90 (36 * s + N) (q : Int) = m1
          have u91 : m1 91 s = (N : Int) := by rw [← hm1, mup_n (by omega)]; exact t91
          generalize hm2 : mup m1 91 s ((N : Int) + 1) = m2
          have w91 : m2 91 s = (N : Int) + 1 := by rw [← hm2, mup_e]
          have f2 : ∀ o k, ¬ (o = 90 ∧ k = 36 * s + N ∨ o = 91 ∧ k = s) → m2 o k = g1 o k := fun o k ho => by rw [← hm2, mup_n (by omega), ← hm1, mup_n (by omega)]
          have w90 : m2 90 (36 * s + N) = (q : Int) := by rw [← hm2, mup_n (by omega), ← hm1, mup_e]
          have hall : ∀ o k, ¬ (o = 58 + 5 * s ∧ k = q ∨ o = 57 + 5 * s ∧ k = N ∨ o = 56 + 5 * s ∧ k = 2 ∨ o = 90 ∧ k = 36 * s + N ∨ o = 91 ∧ k = s) → m2 o k = g o k := fun o k ho => by rw [f2 _ _ (by omega), f1 _ _ (by omega)]
          have hnew : Iseal m2 s := by
            have x1 : m2 (58 + 5 * s) q = (N : Int) := by rw [f2 _ _ (by omega)]; exact v1
            have x2 : m2 (57 + 5 * s) N = (q : Int) := by rw [f2 _ _ (by omega)]; exact v2
            have x3 : m2 (56 + 5 * s) 2 = (N : Int) + 1 := by rw [f2 _ _ (by omega)]; exact v3
            have x4 : ∀ i, i ≠ N → m2 (57 + 5 * s) i = g (57 + 5 * s) i := fun i hi => hall _ _ (by omega)
            have x5 : ∀ i, i ≠ q → m2 (58 + 5 * s) i = g (58 + 5 * s) i := fun i hi => hall _ _ (by omega)
            unfold Iseal Ipath
            rw [x3, hall (56 + 5 * s) 0 (by omega), hall (56 + 5 * s) 1 (by omega), hall 87 _ (by omega), hall 88 _ (by omega), w91]
            rw [hN] at p6 s4' s5 s7
            refine ⟨⟨p1, p2, ⟨rfl, by omega, by omega⟩, fun i hi => ?_⟩, fun k hk => ?_, fun k hk hl => ?_, fun k hk => ?_, fun i hi => ?_, fun k hk side hsd => ?_, fun i hi => ?_⟩
            · by_cases hiN : i = N
              · subst hiN; rw [w90, x2]; omega
              · rw [hall 90 _ (by omega), x4 i hiN]; exact p6 i (by omega)
            · rw [hall 89 _ (by omega), hall (59 + 5 * s) _ (by omega)]; exact s2 k hk
            · rw [hall (59 + 5 * s) _ (by omega)]; exact s3 k hk hl
            · by_cases hkq : k = q
              · subst hkq; exact Or.inr ⟨N, by omega, x1, x2⟩
              · rw [x5 k hkq]
                rcases s4' k hk with z | ⟨i, z1, z2, z3⟩
                · exact Or.inl z
                · exact Or.inr ⟨i, by omega, z2, by rw [x4 i (by omega)]; exact z3⟩
            · by_cases hiN : i = N
              · subst hiN; rw [x2, eq]; exact ⟨x1, hb.2⟩
              · have y := s5 i (by omega)
                have yb := (p6 i (by omega)).2
                rw [x4 i hiN]
                refine ⟨?_, y.2⟩
                by_cases hz : (g (57 + 5 * s) i).toNat = q
                · rw [hz, o2] at y; omega
                · rw [x5 _ hz]; exact y.1
            · rw [hall (60 + 5 * s) _ (by omega)]; exact s6 k hk side hsd
            · by_cases hiN : i + 1 = N
              · have y := o3.resolve_left (by omega)
                obtain ⟨side, y1, y2⟩ := y
                rw [hN, show ((N : Int) - 1).toNat = i by omega] at y2
                have yb := p6 i (by omega)
                have y5 := (s5 i (by omega)).2
                rw [s6 _ (by omega) side y1, show ((((g (57 + 5 * s) i).toNat : Nat)) : Int) = g (57 + 5 * s) i by omega] at y2
                refine ⟨side, y1, ?_⟩
                rw [x4 i (by omega), hiN, x2]
                exact y2
              · obtain ⟨side, y1, y2⟩ := s7 i (by omega)
                refine ⟨side, y1, ?_⟩
                rw [x4 i (by omega), x4 (i + 1) hiN]
                exact y2
          have hq := hQ (some (0, (N : Int) + 1)) m2 ⟨rfl, fun s' hs' => by
            by_cases hss : s' = s
            · subst hss; exact hnew
            · exact Iseal_fr hs' (fun o k ho => hall _ _ (by omega)) (hI s' hs'), fun o k ho => hall _ _ (by omega)⟩
          clear hnew
          -- the seal as the reference sees it still
          have hP1 : Ipath g s := hP
          have t89 : g1 89 (36 * s + q) = 0 := by rw [f1 _ _ (by omega), hB0, o1]
          have c148' : Ret X 1 148 [(2, 87), (0, (s : Int)), (0, (q : Int))] g1 (some (0, 1)) g1 := by
            intro d Q hd hQ
            have z87 : g1 87 s = g (56 + 5 * s) 0 := by rw [f1 _ _ (by omega)]; exact p1.1
            have z88 : g1 88 s = g (56 + 5 * s) 1 := by rw [f1 _ _ (by omega)]; exact p2.1
            repeat' (first
              | (exfalso; omega)
              | (exact absurd trivial (by assumption))
              | (apply s_148_0; try simp only [mi_87, fl_87_0, mi_88, ml_88, fl_88, up_88, fl_87_1, mi_89, ml_89, fl_89, up_89, es, z87, z88, true_and, and_true, true_or, or_true, implies_true, b10_0, b10_1])
              | (apply s_148_22; try simp only [mi_87, fl_87_0, mi_88, ml_88, fl_88, up_88, fl_87_1, mi_89, ml_89, fl_89, up_89, es, z87, z88, true_and, and_true, true_or, or_true, implies_true, b10_0, b10_1])
              | (refine c144 X _ _ _ _ _ _ (by omega) ?_)
              | (refine And.intro ?_ ?_)
              | (intro _)
              | omega
              | (unfold r32; omega)
              | (exact hQ)
              | (exact qe hQ (by omega))
              | (exact qe hQ (by (repeat' split) <;> omega))
              | (exact b01)
              | (exact n01)
              | (exact n21)
              | (exact n31))
          have c151' : Ret X 0 151 [(2, 87), (0, (s : Int)), (0, (q : Int)), (3, 0)] g1 (some (0, -1)) g1 := by
            intro d Q hd hQ
            have key := lup (P := fun k => Wp X d SH 151 2 [(2, 87), (0, (s : Int)), (0, (q : Int)), (0, (k : Int))] [] SH (fl g1) Q) N ?_ ?_ 0 (by omega)
            · skip
              apply s_151_0
              try simp only [mi_87, fl_87_4, mi_92, ml_92, fl_92, up_92, fl_87_3, mi_91, ml_91, fl_91, up_91, true_and, and_true, true_or, or_true, implies_true, b10_0, b10_1]
              repeat' (first | refine And.intro ?_ ?_ | intro _)
              all_goals (try (first | omega | (unfold r32; omega) | exact hQ | exact qe hQ (by omega) | exact qe hQ (by (repeat' split) <;> omega) | exact b01 | exact n01 | exact n21 | exact n31 | exact absurd trivial (by assumption)))
              all_goals (try exact key)
            · skip
              apply s_151_2
              try simp only [mi_87, fl_87_4, mi_92, ml_92, fl_92, up_92, fl_87_3, mi_91, ml_91, fl_91, up_91, es, t91, true_and, and_true, true_or, or_true, implies_true, b10_0, b10_1]
              repeat' (first | refine And.intro ?_ ?_ | intro _)
              all_goals (try (first | omega | (unfold r32; omega) | exact hQ | exact qe hQ (by omega) | exact qe hQ (by (repeat' split) <;> omega) | exact b01 | exact n01 | exact n21 | exact n31 | exact absurd trivial (by assumption)))
            · intro k hk ih
              have e2 : (36 * (s : Int) + (k : Int)).toNat = 36 * s + k := by omega
              have e10 : ((k + 1 : Nat) : Int) = (k : Int) + 1 := by omega
              have z90 : g1 90 (36 * s + k) = g (57 + 5 * s) k := by rw [f1 _ _ (by omega)]; exact (p6 k (by omega)).1
              have hne : g (57 + 5 * s) k ≠ (q : Int) := fun z => by
                have y := (s5 k (by omega)).1
                rw [z, eq, o2] at y
                omega
              rw [e10] at ih
              apply s_151_2
              try simp only [mi_87, fl_87_4, mi_92, ml_92, fl_92, up_92, fl_87_3, mi_91, ml_91, fl_91, up_91, es, t91, e2, z90, true_and, and_true, true_or, or_true, implies_true, b10_0, b10_1]
              repeat' (first | refine And.intro ?_ ?_ | intro _)
              all_goals (try (first | omega | (unfold r32; omega) | exact hQ | exact qe hQ (by omega) | exact qe hQ (by (repeat' split) <;> omega) | exact b01 | exact n01 | exact n21 | exact n31 | exact absurd trivial (by assumption)))
              all_goals (try exact ih)
          have tail : Wp X d SH 153 60 [(2, 87), (0, (s : Int)), (0, (q : Int)), (3, 0)] [] SH (fl g1) Q := by
            apply s_153_60
            try simp only [mi_87, fl_87_4, mi_92, ml_92, fl_92, up_92, fl_87_3, mi_91, ml_91, fl_91, up_91, fl_87_2, mi_90, ml_90, fl_90, up_90, true_and, and_true, true_or, or_true, implies_true, b10_0, b10_1]
            repeat' (first | refine And.intro ?_ ?_ | intro _)
            all_goals (try (first | omega | (unfold r32; omega) | exact hQ | exact qe hQ (by omega) | exact qe hQ (by (repeat' split) <;> omega) | exact b01 | exact n01 | exact n21 | exact n31 | exact absurd trivial (by assumption)))
            apply s_153_65
            try simp only [mi_87, fl_87_4, mi_92, ml_92, fl_92, up_92, fl_87_3, mi_91, ml_91, fl_91, up_91, fl_87_2, mi_90, ml_90, fl_90, up_90, esq, t89, true_and, and_true, true_or, or_true, implies_true, b10_0, b10_1]
            repeat' (first | refine And.intro ?_ ?_ | intro _)
            all_goals (try (first | omega | (unfold r32; omega) | exact hQ | exact qe hQ (by omega) | exact qe hQ (by (repeat' split) <;> omega) | exact b01 | exact n01 | exact n21 | exact n31 | exact absurd trivial (by assumption)))
            refine c151' _ _ (by omega) ?_
            apply s_153_90
            try simp only [mi_87, fl_87_4, mi_92, ml_92, fl_92, up_92, fl_87_3, mi_91, ml_91, fl_91, up_91, fl_87_2, mi_90, ml_90, fl_90, up_90, es, t91, esn, hm1, true_and, and_true, true_or, or_true, implies_true, b10_0, b10_1]
            repeat' (first | refine And.intro ?_ ?_ | intro _)
            all_goals (try (first | omega | (unfold r32; omega) | exact hQ | exact qe hQ (by omega) | exact qe hQ (by (repeat' split) <;> omega) | exact b01 | exact n01 | exact n21 | exact n31 | exact absurd trivial (by assumption)))
            apply s_153_114
            try simp only [mi_87, fl_87_4, mi_92, ml_92, fl_92, up_92, fl_87_3, mi_91, ml_91, fl_91, up_91, fl_87_2, mi_90, ml_90, fl_90, up_90, es, u91, hm2, w91, true_and, and_true, true_or, or_true, implies_true, b10_0, b10_1]
            repeat' (first | refine And.intro ?_ ?_ | intro _)
            all_goals (try (first | omega | (unfold r32; omega) | exact hQ | exact qe hQ (by omega) | exact qe hQ (by (repeat' split) <;> omega) | exact b01 | exact n01 | exact n21 | exact n31 | exact absurd trivial (by assumption)))
            all_goals (try exact hq)
          by_cases hN0 : N = 0
          · have t910 : g1 91 s = 0 := by rw [t91, hN0]; rfl
            apply s_153_0
            try simp only [mi_87, fl_87_4, mi_92, ml_92, fl_92, up_92, fl_87_3, mi_91, ml_91, fl_91, up_91, fl_87_2, mi_90, ml_90, fl_90, up_90, true_and, and_true, true_or, or_true, implies_true, b10_0, b10_1]
            repeat' (first | refine And.intro ?_ ?_ | intro _)
            all_goals (try (first | omega | (unfold r32; omega) | exact hQ | exact qe hQ (by omega) | exact qe hQ (by (repeat' split) <;> omega) | exact b01 | exact n01 | exact n21 | exact n31 | exact absurd trivial (by assumption)))
            refine c147 X _ _ _ _ (by omega) ?_
            apply s_153_4
            try simp only [mi_87, fl_87_4, mi_92, ml_92, fl_92, up_92, fl_87_3, mi_91, ml_91, fl_91, up_91, fl_87_2, mi_90, ml_90, fl_90, up_90, true_and, and_true, true_or, or_true, implies_true, b10_0, b10_1]
            repeat' (first | refine And.intro ?_ ?_ | intro _)
            all_goals (try (first | omega | (unfold r32; omega) | exact hQ | exact qe hQ (by omega) | exact qe hQ (by (repeat' split) <;> omega) | exact b01 | exact n01 | exact n21 | exact n31 | exact absurd trivial (by assumption)))
            refine c148' _ _ (by omega) ?_
            apply s_153_17
            try simp only [mi_87, fl_87_4, mi_92, ml_92, fl_92, up_92, fl_87_3, mi_91, ml_91, fl_91, up_91, fl_87_2, mi_90, ml_90, fl_90, up_90, es, t910, true_and, and_true, true_or, or_true, implies_true, b10_0, b10_1]
            repeat' (first | refine And.intro ?_ ?_ | intro _)
            all_goals (try (first | omega | (unfold r32; omega) | exact hQ | exact qe hQ (by omega) | exact qe hQ (by (repeat' split) <;> omega) | exact b01 | exact n01 | exact n21 | exact n31 | exact absurd trivial (by assumption)))
            all_goals (try exact tail)
          · obtain ⟨side, y1, y2⟩ := o3.resolve_left (by omega)
            rw [hN, show ((N : Int) - 1).toNat = N - 1 by omega] at y2
            have yb := p6 (N - 1) (by omega)
            have y5 := (s5 (N - 1) (by omega)).2
            rw [s6 _ (by omega) side y1, show ((((g (57 + 5 * s) (N - 1)).toNat : Nat)) : Int) = g (57 + 5 * s) (N - 1) by omega] at y2
            have ni := (near_iff p1.2 p2.2 ⟨yb.2.1, y5⟩ hb).1 ⟨side, y1, y2⟩
            have c150' := (c150 X g1 hs p1.2 p2.2 (by rw [f1 _ _ (by omega)]; exact p1.1) ⟨yb.2.1, y5⟩ hb).1 ni
            have esm : (36 * (s : Int) + (N : Int) - 1).toNat = 36 * s + (N - 1) := by omega
            have z90 : g1 90 (36 * s + (N - 1)) = g (57 + 5 * s) (N - 1) := by rw [f1 _ _ (by omega)]; exact yb.1
            clear ni
            apply s_153_0
            try simp only [mi_87, fl_87_4, mi_92, ml_92, fl_92, up_92, fl_87_3, mi_91, ml_91, fl_91, up_91, fl_87_2, mi_90, ml_90, fl_90, up_90, true_and, and_true, true_or, or_true, implies_true, b10_0, b10_1]
            repeat' (first | refine And.intro ?_ ?_ | intro _)
            all_goals (try (first | omega | (unfold r32; omega) | exact hQ | exact qe hQ (by omega) | exact qe hQ (by (repeat' split) <;> omega) | exact b01 | exact n01 | exact n21 | exact n31 | exact absurd trivial (by assumption)))
            refine c147 X _ _ _ _ (by omega) ?_
            apply s_153_4
            try simp only [mi_87, fl_87_4, mi_92, ml_92, fl_92, up_92, fl_87_3, mi_91, ml_91, fl_91, up_91, fl_87_2, mi_90, ml_90, fl_90, up_90, true_and, and_true, true_or, or_true, implies_true, b10_0, b10_1]
            repeat' (first | refine And.intro ?_ ?_ | intro _)
            all_goals (try (first | omega | (unfold r32; omega) | exact hQ | exact qe hQ (by omega) | exact qe hQ (by (repeat' split) <;> omega) | exact b01 | exact n01 | exact n21 | exact n31 | exact absurd trivial (by assumption)))
            refine c148' _ _ (by omega) ?_
            apply s_153_17
            try simp only [mi_87, fl_87_4, mi_92, ml_92, fl_92, up_92, fl_87_3, mi_91, ml_91, fl_91, up_91, fl_87_2, mi_90, ml_90, fl_90, up_90, es, t91, esm, z90, true_and, and_true, true_or, or_true, implies_true, b10_0, b10_1]
            repeat' (first | refine And.intro ?_ ?_ | intro _)
            all_goals (try (first | omega | (unfold r32; omega) | exact hQ | exact qe hQ (by omega) | exact qe hQ (by (repeat' split) <;> omega) | exact b01 | exact n01 | exact n21 | exact n31 | exact absurd trivial (by assumption)))
            refine c150' _ _ (by omega) ?_
            apply s_153_57
            try simp only [mi_87, fl_87_4, mi_92, ml_92, fl_92, up_92, fl_87_3, mi_91, ml_91, fl_91, up_91, fl_87_2, mi_90, ml_90, fl_90, up_90, true_and, and_true, true_or, or_true, implies_true, b10_0, b10_1]
            repeat' (first | refine And.intro ?_ ?_ | intro _)
            all_goals (try (first | omega | (unfold r32; omega) | exact hQ | exact qe hQ (by omega) | exact qe hQ (by (repeat' split) <;> omega) | exact b01 | exact n01 | exact n21 | exact n31 | exact absurd trivial (by assumption)))
            all_goals (try exact tail)
        clear o3
        apply s_87_0
        try simp only [mi_1, sm_o, sl_2, su_2, hs, true_and, and_true, true_or, or_true, implies_true, b10_0, b10_1]
        repeat' (first | refine And.intro ?_ ?_ | intro _)
        all_goals (try (first | omega | (unfold r32; omega) | exact hQ | exact qe hQ (by omega) | exact qe hQ (by (repeat' split) <;> omega) | exact b01 | exact n01 | exact n21 | exact n31 | exact absurd trivial (by assumption)))
        refine c135 X g hs _ _ (by omega) ?_
        apply s_87_5
        try simp only [mi_1, sm_o, sl_2, su_2, hs, true_and, and_true, true_or, or_true, implies_true, b10_0, b10_1]
        repeat' (first | refine And.intro ?_ ?_ | intro _)
        all_goals (try (first | omega | (unfold r32; omega) | exact hQ | exact qe hQ (by omega) | exact qe hQ (by (repeat' split) <;> omega) | exact b01 | exact n01 | exact n21 | exact n31 | exact absurd trivial (by assumption)))
        refine c60 X g hs _ hP _ _ (by omega) ?_
        apply s_87_19
        try simp only [mi_1, sm_o, sl_2, su_2, hs, true_and, and_true, true_or, or_true, implies_true, b10_0, b10_1]
        repeat' (first | refine And.intro ?_ ?_ | intro _)
        all_goals (try (first | omega | (unfold r32; omega) | exact hQ | exact qe hQ (by omega) | exact qe hQ (by (repeat' split) <;> omega) | exact b01 | exact n01 | exact n21 | exact n31 | exact absurd trivial (by assumption)))
        refine (cf.1 hok) _ _ (by omega) ?_
        apply s_87_31
        try simp only [mi_1, sm_o, sl_2, su_2, hs, true_and, and_true, true_or, or_true, implies_true, b10_0, b10_1]
        repeat' (first | refine And.intro ?_ ?_ | intro _)
        all_goals (try (first | omega | (unfold r32; omega) | exact hQ | exact qe hQ (by omega) | exact qe hQ (by (repeat' split) <;> omega) | exact b01 | exact n01 | exact n21 | exact n31 | exact absurd trivial (by assumption)))
        refine c64' _ _ (by omega) ?_
        apply s_87_43
        try simp only [mi_1, sm_o, sl_2, su_2, hs, v3, true_and, and_true, true_or, or_true, implies_true, b10_0, b10_1]
        repeat' (first | refine And.intro ?_ ?_ | intro _)
        all_goals (try (first | omega | (unfold r32; omega) | exact hQ | exact qe hQ (by omega) | exact qe hQ (by (repeat' split) <;> omega) | exact b01 | exact n01 | exact n21 | exact n31 | exact absurd trivial (by assumption)))
        all_goals (try exact fin)
      · have q1 : Ret X 60 87 [(2, 1), (0, (s : Int)), (0, (q : Int)), (3, 0)] g (some (0, -1003)) g := by
          intro d Q hd hQ
          apply s_87_0
          try simp only [mi_1, sm_o, sl_2, su_2, hs, true_and, and_true, true_or, or_true, implies_true, b10_0, b10_1]
          repeat' (first | refine And.intro ?_ ?_ | intro _)
          all_goals (try (first | omega | (unfold r32; omega) | exact hQ | exact qe hQ (by omega) | exact qe hQ (by (repeat' split) <;> omega) | exact b01 | exact n01 | exact n21 | exact n31 | exact absurd trivial (by assumption)))
          refine c135 X g hs _ _ (by omega) ?_
          apply s_87_5
          try simp only [mi_1, sm_o, sl_2, su_2, hs, true_and, and_true, true_or, or_true, implies_true, b10_0, b10_1]
          repeat' (first | refine And.intro ?_ ?_ | intro _)
          all_goals (try (first | omega | (unfold r32; omega) | exact hQ | exact qe hQ (by omega) | exact qe hQ (by (repeat' split) <;> omega) | exact b01 | exact n01 | exact n21 | exact n31 | exact absurd trivial (by assumption)))
          refine c60 X g hs _ hP _ _ (by omega) ?_
          apply s_87_19
          try simp only [mi_1, sm_o, sl_2, su_2, hs, true_and, and_true, true_or, or_true, implies_true, b10_0, b10_1]
          repeat' (first | refine And.intro ?_ ?_ | intro _)
          all_goals (try (first | omega | (unfold r32; omega) | exact hQ | exact qe hQ (by omega) | exact qe hQ (by (repeat' split) <;> omega) | exact b01 | exact n01 | exact n21 | exact n31 | exact absurd trivial (by assumption)))
          refine (cf.2 hok) _ _ (by omega) ?_
          apply s_87_31
          try simp only [mi_1, sm_o, sl_2, su_2, hs, true_and, and_true, true_or, or_true, implies_true, b10_0, b10_1]
          repeat' (first | refine And.intro ?_ ?_ | intro _)
          all_goals (try (first | omega | (unfold r32; omega) | exact hQ | exact qe hQ (by omega) | exact qe hQ (by (repeat' split) <;> omega) | exact b01 | exact n01 | exact n21 | exact n31 | exact absurd trivial (by assumption)))
        have q2 : Ret X 60 153 [(2, 87), (0, (s : Int)), (0, (q : Int)), (3, 0)] g (some (0, -1003)) g := by
          intro d Q hd hQ
          have c148' := c148 X g hs (q : Int) hP
          have c151' := c151 X g hs hq36 hP h4 (fun k hk => (s5 k hk).1)
          have hpn : g (58 + 5 * s) q < 0 → g (58 + 5 * s) q = -1 := by
            rcases h4 with h4 | ⟨w, w1, w2, w3⟩ <;> omega
          have hBn := hB.2
          -- behind the question whether it follows
          have tail : ∀ u : Int, (u = 0 ∨ u = 1) → (u = 1 → g (59 + 5 * s) q = 0 → ¬ g (58 + 5 * s) q = -1) → Wp X d SH 153 65 [(2, 87), (0, (s : Int)), (0, (q : Int)), (3, 0)] [(0, u)] SH (fl g) Q := by
            intro u hu01 hu
            clear h4
            by_cases hu0 : u = 0
            · skip
              apply s_153_65
              try simp only [mi_87, fl_87_4, mi_92, ml_92, fl_92, up_92, fl_87_3, mi_91, ml_91, fl_91, up_91, fl_87_2, mi_90, ml_90, fl_90, up_90, true_and, and_true, true_or, or_true, implies_true, b10_0, b10_1]
              repeat' (first | refine And.intro ?_ ?_ | intro _)
              all_goals (try (first | omega | (unfold r32; omega) | exact hQ | exact qe hQ (by omega) | exact qe hQ (by (repeat' split) <;> omega) | exact b01 | exact n01 | exact n21 | exact n31 | exact absurd trivial (by assumption)))
            · have hu1 : u = 1 := by omega
              by_cases hbz : g (59 + 5 * s) q = 0
              · have hne := hu hu1 hbz
                apply s_153_65
                try simp only [mi_87, fl_87_4, mi_92, ml_92, fl_92, up_92, fl_87_3, mi_91, ml_91, fl_91, up_91, fl_87_2, mi_90, ml_90, fl_90, up_90, esq, hB0, hbz, true_and, and_true, true_or, or_true, implies_true, b10_0, b10_1]
                repeat' (first | refine And.intro ?_ ?_ | intro _)
                all_goals (try (first | omega | (unfold r32; omega) | exact hQ | exact qe hQ (by omega) | exact qe hQ (by (repeat' split) <;> omega) | exact b01 | exact n01 | exact n21 | exact n31 | exact absurd trivial (by assumption)))
                refine c151' _ _ (by omega) ?_
                apply s_153_90
                try simp only [mi_87, fl_87_4, mi_92, ml_92, fl_92, up_92, fl_87_3, mi_91, ml_91, fl_91, up_91, fl_87_2, mi_90, ml_90, fl_90, up_90, true_and, and_true, true_or, or_true, implies_true, b10_0, b10_1]
                repeat' (first | refine And.intro ?_ ?_ | intro _)
                all_goals (try (first | omega | (unfold r32; omega) | exact hQ | exact qe hQ (by omega) | exact qe hQ (by (repeat' split) <;> omega) | exact b01 | exact n01 | exact n21 | exact n31 | exact absurd trivial (by assumption)))
              · skip
                apply s_153_65
                try simp only [mi_87, fl_87_4, mi_92, ml_92, fl_92, up_92, fl_87_3, mi_91, ml_91, fl_91, up_91, fl_87_2, mi_90, ml_90, fl_90, up_90, esq, hB0, true_and, and_true, true_or, or_true, implies_true, b10_0, b10_1]
                repeat' (first | refine And.intro ?_ ?_ | intro _)
                all_goals (try (first | omega | (unfold r32; omega) | exact hQ | exact qe hQ (by omega) | exact qe hQ (by (repeat' split) <;> omega) | exact b01 | exact n01 | exact n21 | exact n31 | exact absurd trivial (by assumption)))
          clear h4
          obtain ⟨N, hN⟩ : ∃ N : Nat, g (56 + 5 * s) 2 = (N : Int) := ⟨(g (56 + 5 * s) 2).toNat, by omega⟩
          have t91 : g 91 s = (N : Int) := by rw [p3, hN]
          by_cases hN0 : N = 0
          · have t910 : g 91 s = 0 := by rw [t91, hN0]; rfl
            have t1 := tail 1 (Or.inr rfl) (fun _ h1 h2 => hok ⟨h1, h2, Or.inl (by omega)⟩)
            apply s_153_0
            try simp only [mi_87, fl_87_4, mi_92, ml_92, fl_92, up_92, fl_87_3, mi_91, ml_91, fl_91, up_91, fl_87_2, mi_90, ml_90, fl_90, up_90, true_and, and_true, true_or, or_true, implies_true, b10_0, b10_1]
            repeat' (first | refine And.intro ?_ ?_ | intro _)
            all_goals (try (first | omega | (unfold r32; omega) | exact hQ | exact qe hQ (by omega) | exact qe hQ (by (repeat' split) <;> omega) | exact b01 | exact n01 | exact n21 | exact n31 | exact absurd trivial (by assumption)))
            refine c147 X _ _ _ _ (by omega) ?_
            apply s_153_4
            try simp only [mi_87, fl_87_4, mi_92, ml_92, fl_92, up_92, fl_87_3, mi_91, ml_91, fl_91, up_91, fl_87_2, mi_90, ml_90, fl_90, up_90, true_and, and_true, true_or, or_true, implies_true, b10_0, b10_1]
            repeat' (first | refine And.intro ?_ ?_ | intro _)
            all_goals (try (first | omega | (unfold r32; omega) | exact hQ | exact qe hQ (by omega) | exact qe hQ (by (repeat' split) <;> omega) | exact b01 | exact n01 | exact n21 | exact n31 | exact absurd trivial (by assumption)))
            refine c148' _ _ (by omega) ?_
            apply s_153_17
            try simp only [mi_87, fl_87_4, mi_92, ml_92, fl_92, up_92, fl_87_3, mi_91, ml_91, fl_91, up_91, fl_87_2, mi_90, ml_90, fl_90, up_90, es, t910, true_and, and_true, true_or, or_true, implies_true, b10_0, b10_1]
            repeat' (first | refine And.intro ?_ ?_ | intro _)
            all_goals (try (first | omega | (unfold r32; omega) | exact hQ | exact qe hQ (by omega) | exact qe hQ (by (repeat' split) <;> omega) | exact b01 | exact n01 | exact n21 | exact n31 | exact absurd trivial (by assumption)))
            apply s_153_60
            try simp only [mi_87, fl_87_4, mi_92, ml_92, fl_92, up_92, fl_87_3, mi_91, ml_91, fl_91, up_91, fl_87_2, mi_90, ml_90, fl_90, up_90, true_and, and_true, true_or, or_true, implies_true, b10_0, b10_1]
            repeat' (first | refine And.intro ?_ ?_ | intro _)
            all_goals (try (first | omega | (unfold r32; omega) | exact hQ | exact qe hQ (by omega) | exact qe hQ (by (repeat' split) <;> omega) | exact b01 | exact n01 | exact n21 | exact n31 | exact absurd trivial (by assumption)))
            all_goals (try exact t1)
          · have yb := p6 (N - 1) (by omega)
            have y5 := (s5 (N - 1) (by omega)).2
            have ni := near_iff p1.2 p2.2 ⟨yb.2.1, y5⟩ hb
            have c150' := c150 X g hs p1.2 p2.2 p1.1 ⟨yb.2.1, y5⟩ hb
            have esm : (36 * (s : Int) + (N : Int) - 1).toNat = 36 * s + (N - 1) := by omega
            have z90 := yb.1
            by_cases hnr : nrC (g (56 + 5 * s) 0) (g (57 + 5 * s) (N - 1)) (q : Int)
            · have t1 := tail 1 (Or.inr rfl) (fun _ h1 h2 => hok ⟨h1, h2, Or.inr (by
                obtain ⟨side, y1, y2⟩ := ni.2 hnr
                refine ⟨side, y1, ?_⟩
                rw [hN, show ((N : Int) - 1).toNat = N - 1 by omega, s6 _ (by omega) side y1, show ((((g (57 + 5 * s) (N - 1)).toNat : Nat)) : Int) = g (57 + 5 * s) (N - 1) by omega]
                exact y2)⟩)
              have c1 := c150'.1 hnr
              clear ni c150'
              apply s_153_0
              try simp only [mi_87, fl_87_4, mi_92, ml_92, fl_92, up_92, fl_87_3, mi_91, ml_91, fl_91, up_91, fl_87_2, mi_90, ml_90, fl_90, up_90, true_and, and_true, true_or, or_true, implies_true, b10_0, b10_1]
              repeat' (first | refine And.intro ?_ ?_ | intro _)
              all_goals (try (first | omega | (unfold r32; omega) | exact hQ | exact qe hQ (by omega) | exact qe hQ (by (repeat' split) <;> omega) | exact b01 | exact n01 | exact n21 | exact n31 | exact absurd trivial (by assumption)))
              refine c147 X _ _ _ _ (by omega) ?_
              apply s_153_4
              try simp only [mi_87, fl_87_4, mi_92, ml_92, fl_92, up_92, fl_87_3, mi_91, ml_91, fl_91, up_91, fl_87_2, mi_90, ml_90, fl_90, up_90, true_and, and_true, true_or, or_true, implies_true, b10_0, b10_1]
              repeat' (first | refine And.intro ?_ ?_ | intro _)
              all_goals (try (first | omega | (unfold r32; omega) | exact hQ | exact qe hQ (by omega) | exact qe hQ (by (repeat' split) <;> omega) | exact b01 | exact n01 | exact n21 | exact n31 | exact absurd trivial (by assumption)))
              refine c148' _ _ (by omega) ?_
              apply s_153_17
              try simp only [mi_87, fl_87_4, mi_92, ml_92, fl_92, up_92, fl_87_3, mi_91, ml_91, fl_91, up_91, fl_87_2, mi_90, ml_90, fl_90, up_90, es, t91, esm, z90, true_and, and_true, true_or, or_true, implies_true, b10_0, b10_1]
              repeat' (first | refine And.intro ?_ ?_ | intro _)
              all_goals (try (first | omega | (unfold r32; omega) | exact hQ | exact qe hQ (by omega) | exact qe hQ (by (repeat' split) <;> omega) | exact b01 | exact n01 | exact n21 | exact n31 | exact absurd trivial (by assumption)))
              refine c1 _ _ (by omega) ?_
              apply s_153_57
              try simp only [mi_87, fl_87_4, mi_92, ml_92, fl_92, up_92, fl_87_3, mi_91, ml_91, fl_91, up_91, fl_87_2, mi_90, ml_90, fl_90, up_90, true_and, and_true, true_or, or_true, implies_true, b10_0, b10_1]
              repeat' (first | refine And.intro ?_ ?_ | intro _)
              all_goals (try (first | omega | (unfold r32; omega) | exact hQ | exact qe hQ (by omega) | exact qe hQ (by (repeat' split) <;> omega) | exact b01 | exact n01 | exact n21 | exact n31 | exact absurd trivial (by assumption)))
              apply s_153_60
              try simp only [mi_87, fl_87_4, mi_92, ml_92, fl_92, up_92, fl_87_3, mi_91, ml_91, fl_91, up_91, fl_87_2, mi_90, ml_90, fl_90, up_90, true_and, and_true, true_or, or_true, implies_true, b10_0, b10_1]
              repeat' (first | refine And.intro ?_ ?_ | intro _)
              all_goals (try (first | omega | (unfold r32; omega) | exact hQ | exact qe hQ (by omega) | exact qe hQ (by (repeat' split) <;> omega) | exact b01 | exact n01 | exact n21 | exact n31 | exact absurd trivial (by assumption)))
              all_goals (try exact t1)
            · have t1 := tail 0 (Or.inl rfl) (fun z => by omega)
              have c1 := c150'.2 hnr
              clear ni c150'
              apply s_153_0
              try simp only [mi_87, fl_87_4, mi_92, ml_92, fl_92, up_92, fl_87_3, mi_91, ml_91, fl_91, up_91, fl_87_2, mi_90, ml_90, fl_90, up_90, true_and, and_true, true_or, or_true, implies_true, b10_0, b10_1]
              repeat' (first | refine And.intro ?_ ?_ | intro _)
              all_goals (try (first | omega | (unfold r32; omega) | exact hQ | exact qe hQ (by omega) | exact qe hQ (by (repeat' split) <;> omega) | exact b01 | exact n01 | exact n21 | exact n31 | exact absurd trivial (by assumption)))
              refine c147 X _ _ _ _ (by omega) ?_
              apply s_153_4
              try simp only [mi_87, fl_87_4, mi_92, ml_92, fl_92, up_92, fl_87_3, mi_91, ml_91, fl_91, up_91, fl_87_2, mi_90, ml_90, fl_90, up_90, true_and, and_true, true_or, or_true, implies_true, b10_0, b10_1]
              repeat' (first | refine And.intro ?_ ?_ | intro _)
              all_goals (try (first | omega | (unfold r32; omega) | exact hQ | exact qe hQ (by omega) | exact qe hQ (by (repeat' split) <;> omega) | exact b01 | exact n01 | exact n21 | exact n31 | exact absurd trivial (by assumption)))
              refine c148' _ _ (by omega) ?_
              apply s_153_17
              try simp only [mi_87, fl_87_4, mi_92, ml_92, fl_92, up_92, fl_87_3, mi_91, ml_91, fl_91, up_91, fl_87_2, mi_90, ml_90, fl_90, up_90, es, t91, esm, z90, true_and, and_true, true_or, or_true, implies_true, b10_0, b10_1]
              repeat' (first | refine And.intro ?_ ?_ | intro _)
              all_goals (try (first | omega | (unfold r32; omega) | exact hQ | exact qe hQ (by omega) | exact qe hQ (by (repeat' split) <;> omega) | exact b01 | exact n01 | exact n21 | exact n31 | exact absurd trivial (by assumption)))
              refine c1 _ _ (by omega) ?_
              apply s_153_57
              try simp only [mi_87, fl_87_4, mi_92, ml_92, fl_92, up_92, fl_87_3, mi_91, ml_91, fl_91, up_91, fl_87_2, mi_90, ml_90, fl_90, up_90, true_and, and_true, true_or, or_true, implies_true, b10_0, b10_1]
              repeat' (first | refine And.intro ?_ ?_ | intro _)
              all_goals (try (first | omega | (unfold r32; omega) | exact hQ | exact qe hQ (by omega) | exact qe hQ (by (repeat' split) <;> omega) | exact b01 | exact n01 | exact n21 | exact n31 | exact absurd trivial (by assumption)))
              all_goals (try exact t1)
        exact PR_of q1 q2 rr d Q hd hQ
    · have q1 : Ret X 60 87 [(2, 1), (0, (s : Int)), (0, b), (3, 0)] g (some (0, -1002)) g := by
        intro d Q hd hQ
        apply s_87_0
        try simp only [mi_1, sm_o, sl_2, su_2, hs, true_and, and_true, true_or, or_true, implies_true, b10_0, b10_1]
        repeat' (first | refine And.intro ?_ ?_ | intro _)
        all_goals (try (first | omega | (unfold r32; omega) | exact hQ | exact qe hQ (by omega) | exact qe hQ (by (repeat' split) <;> omega) | exact b01 | exact n01 | exact n21 | exact n31 | exact absurd trivial (by assumption)))
        refine c135 X g hs _ _ (by omega) ?_
        apply s_87_5
        try simp only [mi_1, sm_o, sl_2, su_2, hs, true_and, and_true, true_or, or_true, implies_true, b10_0, b10_1]
        repeat' (first | refine And.intro ?_ ?_ | intro _)
        all_goals (try (first | omega | (unfold r32; omega) | exact hQ | exact qe hQ (by omega) | exact qe hQ (by (repeat' split) <;> omega) | exact b01 | exact n01 | exact n21 | exact n31 | exact absurd trivial (by assumption)))
        refine c60 X g hs _ hP _ _ (by omega) ?_
        apply s_87_19
        try simp only [mi_1, sm_o, sl_2, su_2, hs, true_and, and_true, true_or, or_true, implies_true, b10_0, b10_1]
        repeat' (first | refine And.intro ?_ ?_ | intro _)
        all_goals (try (first | omega | (unfold r32; omega) | exact hQ | exact qe hQ (by omega) | exact qe hQ (by (repeat' split) <;> omega) | exact b01 | exact n01 | exact n21 | exact n31 | exact absurd trivial (by assumption)))
      have q2 : Ret X 60 153 [(2, 87), (0, (s : Int)), (0, b), (3, 0)] g (some (0, -1002)) g := by
        intro d Q hd hQ
        apply s_153_0
        try simp only [mi_87, fl_87_4, mi_92, ml_92, fl_92, up_92, fl_87_3, mi_91, ml_91, fl_91, up_91, fl_87_2, mi_90, ml_90, fl_90, up_90, true_and, and_true, true_or, or_true, implies_true, b10_0, b10_1]
        repeat' (first | refine And.intro ?_ ?_ | intro _)
        all_goals (try (first | omega | (unfold r32; omega) | exact hQ | exact qe hQ (by omega) | exact qe hQ (by (repeat' split) <;> omega) | exact b01 | exact n01 | exact n21 | exact n31 | exact absurd trivial (by assumption)))
        refine c147 X _ _ _ _ (by omega) ?_
        apply s_153_4
        try simp only [mi_87, fl_87_4, mi_92, ml_92, fl_92, up_92, fl_87_3, mi_91, ml_91, fl_91, up_91, fl_87_2, mi_90, ml_90, fl_90, up_90, true_and, and_true, true_or, or_true, implies_true, b10_0, b10_1]
        repeat' (first | refine And.intro ?_ ?_ | intro _)
        all_goals (try (first | omega | (unfold r32; omega) | exact hQ | exact qe hQ (by omega) | exact qe hQ (by (repeat' split) <;> omega) | exact b01 | exact n01 | exact n21 | exact n31 | exact absurd trivial (by assumption)))
        refine c148 X g hs b hP _ _ (by omega) ?_
        apply s_153_17
        try simp only [mi_87, fl_87_4, mi_92, ml_92, fl_92, up_92, fl_87_3, mi_91, ml_91, fl_91, up_91, fl_87_2, mi_90, ml_90, fl_90, up_90, true_and, and_true, true_or, or_true, implies_true, b10_0, b10_1]
        repeat' (first | refine And.intro ?_ ?_ | intro _)
        all_goals (try (first | omega | (unfold r32; omega) | exact hQ | exact qe hQ (by omega) | exact qe hQ (by (repeat' split) <;> omega) | exact b01 | exact n01 | exact n21 | exact n31 | exact absurd trivial (by assumption)))
      exact PR_of q1 q2 rr d Q hd hQ
  · have q1 : Ret X 60 87 [(2, 1), (0, a), (0, b), (3, 0)] g (some (0, -1001)) g := by
      intro d Q hd hQ
      apply s_87_0
      try simp only [mi_1, sm_o, sl_2, su_2, true_and, and_true, true_or, or_true, implies_true, b10_0, b10_1]
      repeat' (first | refine And.intro ?_ ?_ | intro _)
      all_goals (try (first | omega | (unfold r32; omega) | exact hQ | exact qe hQ (by omega) | exact qe hQ (by (repeat' split) <;> omega) | exact b01 | exact n01 | exact n21 | exact n31 | exact absurd trivial (by assumption)))
      refine c135n X g _ ha _ _ (by omega) ?_
      apply s_87_5
      try simp only [mi_1, sm_o, sl_2, su_2, true_and, and_true, true_or, or_true, implies_true, b10_0, b10_1]
      repeat' (first | refine And.intro ?_ ?_ | intro _)
      all_goals (try (first | omega | (unfold r32; omega) | exact hQ | exact qe hQ (by omega) | exact qe hQ (by (repeat' split) <;> omega) | exact b01 | exact n01 | exact n21 | exact n31 | exact absurd trivial (by assumption)))
    have q2 : Ret X 60 153 [(2, 87), (0, a), (0, b), (3, 0)] g (some (0, -1001)) g := by
      intro d Q hd hQ
      apply s_153_0
      try simp only [mi_87, fl_87_4, mi_92, ml_92, fl_92, up_92, fl_87_3, mi_91, ml_91, fl_91, up_91, fl_87_2, mi_90, ml_90, fl_90, up_90, true_and, and_true, true_or, or_true, implies_true, b10_0, b10_1]
      repeat' (first | refine And.intro ?_ ?_ | intro _)
      all_goals (try (first | omega | (unfold r32; omega) | exact hQ | exact qe hQ (by omega) | exact qe hQ (by (repeat' split) <;> omega) | exact b01 | exact n01 | exact n21 | exact n31 | exact absurd trivial (by assumption)))
      refine c147 X _ _ _ _ (by omega) ?_
      apply s_153_4
      try simp only [mi_87, fl_87_4, mi_92, ml_92, fl_92, up_92, fl_87_3, mi_91, ml_91, fl_91, up_91, fl_87_2, mi_90, ml_90, fl_90, up_90, true_and, and_true, true_or, or_true, implies_true, b10_0, b10_1]
      repeat' (first | refine And.intro ?_ ?_ | intro _)
      all_goals (try (first | omega | (unfold r32; omega) | exact hQ | exact qe hQ (by omega) | exact qe hQ (by (repeat' split) <;> omega) | exact b01 | exact n01 | exact n21 | exact n31 | exact absurd trivial (by assumption)))
    exact PR_of q1 q2 rr d Q hd hQ
