/-! turned squares -/
def tq (w h kind x y : Int) : Int := (if kind = 2 ∨ kind = 3 then h - 1 - y else y) * w + (if kind = 1 ∨ kind = 3 then w - 1 - x else x)
theorem mul_c {w h y : Int} (hw : 1 ≤ w ∧ w ≤ 6) (hy : 0 ≤ y ∧ y < h) : 0 ≤ y * w ∧ y * w + w ≤ w * h := by
  have hc : w = 1 ∨ w = 2 ∨ w = 3 ∨ w = 4 ∨ w = 5 ∨ w = 6 := by omega
  rcases hc with rfl | rfl | rfl | rfl | rfl | rfl <;> omega
theorem dmw {w a b : Int} (hw : 1 ≤ w ∧ w ≤ 6) (hb : 0 ≤ b ∧ b < w) : (a * w + b) / w = a ∧ (a * w + b) % w = b := by
  have hc : w = 1 ∨ w = 2 ∨ w = 3 ∨ w = 4 ∨ w = 5 ∨ w = 6 := by omega
  rcases hc with rfl | rfl | rfl | rfl | rfl | rfl <;> omega
theorem dml {w h q : Int} (hw : 1 ≤ w ∧ w ≤ 6) (hq : 0 ≤ q ∧ q < w * h) : (0 ≤ q / w ∧ q / w < h) ∧ (0 ≤ q % w ∧ q % w < w) ∧ q / w * w + q % w = q := by
  have hc : w = 1 ∨ w = 2 ∨ w = 3 ∨ w = 4 ∨ w = 5 ∨ w = 6 := by omega
  rcases hc with rfl | rfl | rfl | rfl | rfl | rfl <;> omega
theorem tq_c {w h kind x y : Int} (hw : 1 ≤ w ∧ w ≤ 6) (hx : 0 ≤ x ∧ x < w) : tq w h kind x y / w = (if kind = 2 ∨ kind = 3 then h - 1 - y else y) ∧ tq w h kind x y % w = (if kind = 1 ∨ kind = 3 then w - 1 - x else x) := by
  unfold tq
  exact dmw hw (by split <;> omega)
theorem tq_b {w h kind x y : Int} (hw : 1 ≤ w ∧ w ≤ 6) (hx : 0 ≤ x ∧ x < w) (hy : 0 ≤ y ∧ y < h) : 0 ≤ tq w h kind x y ∧ tq w h kind x y < w * h := by
  unfold tq
  have m := mul_c (y := if kind = 2 ∨ kind = 3 then h - 1 - y else y) (h := h) hw (by split <;> omega)
  generalize (if kind = 2 ∨ kind = 3 then h - 1 - y else y) * w = P at *
  split <;> omega
theorem tq_t {w h kind x y : Int} (hw : 1 ≤ w ∧ w ≤ 6) (hx : 0 ≤ x ∧ x < w) : tq w h kind (tq w h kind x y % w) (tq w h kind x y / w) = y * w + x := by
  obtain ⟨e1, e2⟩ := tq_c (h := h) (kind := kind) (y := y) hw hx
  rw [e1, e2]
  unfold tq
  have a1 : (if kind = 2 ∨ kind = 3 then h - 1 - (if kind = 2 ∨ kind = 3 then h - 1 - y else y) else (if kind = 2 ∨ kind = 3 then h - 1 - y else y)) = y := by
    by_cases z : kind = 2 ∨ kind = 3
    · rw [if_pos z, if_pos z]; omega
    · rw [if_neg z, if_neg z]
  have a2 : (if kind = 1 ∨ kind = 3 then w - 1 - (if kind = 1 ∨ kind = 3 then w - 1 - x else x) else (if kind = 1 ∨ kind = 3 then w - 1 - x else x)) = x := by
    by_cases z : kind = 1 ∨ kind = 3
    · rw [if_pos z, if_pos z]; omega
    · rw [if_neg z, if_neg z]
  rw [a1, a2]
def okq (w h kind : Int) (p : Nat → Int) (y x : Nat) : Prop := p ((y : Int) * w + (x : Int)).toNat = -1 ↔ p (tq w h kind (x : Int) (y : Int)).toNat = -1
def ALC (w h kind : Int) (p : Nat → Int) : Prop := ∀ y x : Nat, (y : Int) < h → (x : Int) < w → okq w h kind p y x
def ALM (w h kind : Int) (M : Nat) (ρ : Nat → Int) : Prop := ∀ k, k < M → ∃ i, i < M ∧ ρ i = tq w h kind (ρ k % w) (ρ k / w)
theorem AL_iff {w h kind : Int} {N : Nat} {ρ p : Nat → Int} (hw : 1 ≤ w ∧ w ≤ 6) (hr : ∀ i, i < N → 0 ≤ ρ i ∧ ρ i < w * h) (hp : ∀ i, i < N → p (ρ i).toNat = (i : Int)) (hq : ∀ k : Nat, (k : Int) < w * h → p k = -1 ∨ ∃ i : Nat, i < N ∧ p k = (i : Int) ∧ ρ i = (k : Int)) : ALC w h kind p ↔ ALM w h kind N ρ := by
  constructor
  · intro hA k hk
    have b := hr k hk
    obtain ⟨d1, d2, d3⟩ := dml hw b
    have z := hA (ρ k / w).toNat (ρ k % w).toNat (by omega) (by omega)
    unfold okq at z
    rw [show (((ρ k / w).toNat : Nat) : Int) = ρ k / w by omega, show (((ρ k % w).toNat : Nat) : Int) = ρ k % w by omega, d3] at z
    have tb := tq_b (h := h) (kind := kind) hw d2 d1
    have hpk := hp k hk
    rcases hq (tq w h kind (ρ k % w) (ρ k / w)).toNat (by omega) with y | ⟨i, i1, i2, i3⟩
    · have := z.2 y
      omega
    · exact ⟨i, i1, by omega⟩
  · intro hA y x hy hx
    unfold okq
    have m := mul_c (y := (y : Int)) (h := h) hw (by omega)
    have tb := tq_b (h := h) (kind := kind) (x := (x : Int)) (y := (y : Int)) hw (by omega) (by omega)
    have tt := tq_t (h := h) (kind := kind) (x := (x : Int)) (y := (y : Int)) hw (by omega)
    obtain ⟨f1, f2⟩ := dmw (a := (y : Int)) (b := (x : Int)) hw (by omega)
    generalize ht : tq w h kind (x : Int) (y : Int) = t at *
    constructor
    · intro h1
      rcases hq t.toNat (by omega) with z | ⟨i, i1, i2, i3⟩
      · exact z
      · exfalso
        obtain ⟨j, j1, j2⟩ := hA i i1
        rw [show ρ i = t by omega, tt] at j2
        have z := hp j j1
        rw [j2, h1] at z
        omega
    · intro h1
      rcases hq ((y : Int) * w + (x : Int)).toNat (by omega) with z | ⟨i, i1, i2, i3⟩
      · exact z
      · exfalso
        obtain ⟨j, j1, j2⟩ := hA i i1
        rw [show ρ i = (y : Int) * w + (x : Int) by omega, f1, f2, ht] at j2
        have z := hp j j1
        rw [j2, h1] at z
        omega
theorem c71 (X : mX) (g : mF) {s : Nat} (hs : s < 6) (hw : 1 ≤ g (56 + 5 * s) 0 ∧ g (56 + 5 * s) 0 ≤ 6) (hh : 1 ≤ g (56 + 5 * s) 1 ∧ g (56 + 5 * s) 1 ≤ 6) {kind x y : Int} (hk : 0 ≤ kind ∧ kind ≤ 3) (hx : 0 ≤ x ∧ x < g (56 + 5 * s) 0) (hy : 0 ≤ y ∧ y < g (56 + 5 * s) 1) : Ret X 0 71 [(2, 57 + 5 * (s : Int)), (0, x), (0, y), (0, kind), (3, 0), (3, 0)] g (some (0, tq (g (56 + 5 * s) 0) (g (56 + 5 * s) 1) kind x y)) g := by
  intro d Q hd hQ
  have m1 := mul_c (y := y) hw hy
  have m2 := mul_c (y := g (56 + 5 * s) 1 - 1 - y) (h := g (56 + 5 * s) 1) hw (by omega)
  have hwh := mul_b hw hh
  unfold tq at hQ
  have hc : kind = 0 ∨ kind = 1 ∨ kind = 2 ∨ kind = 3 := by omega
  have k01 : ((Int32.ofInt 0 &&& Int32.ofInt 1).toInt) = 0 := by decide
  have k02 : ((Int32.ofInt 0 &&& Int32.ofInt 2).toInt) = 0 := by decide
  have k11 : ((Int32.ofInt 1 &&& Int32.ofInt 1).toInt) = 1 := by decide
  have k12 : ((Int32.ofInt 1 &&& Int32.ofInt 2).toInt) = 0 := by decide
  have k21 : ((Int32.ofInt 2 &&& Int32.ofInt 1).toInt) = 0 := by decide
  have k22 : ((Int32.ofInt 2 &&& Int32.ofInt 2).toInt) = 2 := by decide
  have k31 : ((Int32.ofInt 3 &&& Int32.ofInt 1).toInt) = 1 := by decide
  have k32 : ((Int32.ofInt 3 &&& Int32.ofInt 2).toInt) = 2 := by decide
  rcases hc with rfl | rfl | rfl | rfl
  · rw [if_neg (by decide), if_neg (by decide)] at hQ
    apply s_71_0
    rw [k01]
    refine ⟨fun _ => ?_, fun z => absurd rfl z⟩
    apply s_71_18
    rw [k02]
    refine ⟨fun _ => ?_, fun z => absurd rfl z⟩
    apply s_71_38
    try simp only [sm_o, sl_0, su_0, sl_1, su_1, hs, true_and, and_true, true_or, or_true, implies_true, b10_0, b10_1]
    repeat' (first | refine And.intro ?_ ?_ | intro _)
    all_goals (try (first | omega | (unfold r32; omega) | exact hQ | exact qe hQ (by omega) | exact qe hQ (by (repeat' split) <;> omega) | exact b01 | exact n01 | exact n21 | exact n31 | exact absurd trivial (by assumption)))
  · rw [if_neg (by decide), if_pos (by decide)] at hQ
    apply s_71_0
    rw [k11]
    refine ⟨fun z => absurd z (by decide), fun _ => ⟨sm_o hs, by rw [sl_0 g hs]; unfold r32; omega, by rw [sl_0 g hs]; unfold r32; omega, ?_⟩⟩
    apply s_71_18
    rw [k12]
    refine ⟨fun _ => ?_, fun z => absurd rfl z⟩
    apply s_71_38
    try simp only [sm_o, sl_0, su_0, sl_1, su_1, hs, true_and, and_true, true_or, or_true, implies_true, b10_0, b10_1]
    repeat' (first | refine And.intro ?_ ?_ | intro _)
    all_goals (try (first | omega | (unfold r32; omega) | exact hQ | exact qe hQ (by omega) | exact qe hQ (by (repeat' split) <;> omega) | exact b01 | exact n01 | exact n21 | exact n31 | exact absurd trivial (by assumption)))
  · rw [if_pos (by decide), if_neg (by decide)] at hQ
    apply s_71_0
    rw [k21]
    refine ⟨fun _ => ?_, fun z => absurd rfl z⟩
    apply s_71_18
    rw [k22]
    refine ⟨fun z => absurd z (by decide), fun _ => ⟨sm_o hs, by rw [sl_1 g hs]; unfold r32; omega, by rw [sl_1 g hs]; unfold r32; omega, ?_⟩⟩
    apply s_71_38
    try simp only [sm_o, sl_0, su_0, sl_1, su_1, hs, true_and, and_true, true_or, or_true, implies_true, b10_0, b10_1]
    repeat' (first | refine And.intro ?_ ?_ | intro _)
    all_goals (try (first | omega | (unfold r32; omega) | exact hQ | exact qe hQ (by omega) | exact qe hQ (by (repeat' split) <;> omega) | exact b01 | exact n01 | exact n21 | exact n31 | exact absurd trivial (by assumption)))
  · rw [if_pos (by decide), if_pos (by decide)] at hQ
    apply s_71_0
    rw [k31]
    refine ⟨fun z => absurd z (by decide), fun _ => ⟨sm_o hs, by rw [sl_0 g hs]; unfold r32; omega, by rw [sl_0 g hs]; unfold r32; omega, ?_⟩⟩
    apply s_71_18
    rw [k32]
    refine ⟨fun z => absurd z (by decide), fun _ => ⟨sm_o hs, by rw [sl_1 g hs]; unfold r32; omega, by rw [sl_1 g hs]; unfold r32; omega, ?_⟩⟩
    apply s_71_38
    try simp only [sm_o, sl_0, su_0, sl_1, su_1, hs, true_and, and_true, true_or, or_true, implies_true, b10_0, b10_1]
    repeat' (first | refine And.intro ?_ ?_ | intro _)
    all_goals (try (first | omega | (unfold r32; omega) | exact hQ | exact qe hQ (by omega) | exact qe hQ (by (repeat' split) <;> omega) | exact b01 | exact n01 | exact n21 | exact n31 | exact absurd trivial (by assumption)))
theorem c70 (X : mX) (g : mF) {s : Nat} (hs : s < 6) (hw : 1 ≤ g (56 + 5 * s) 0 ∧ g (56 + 5 * s) 0 ≤ 6) (hh : 1 ≤ g (56 + 5 * s) 1 ∧ g (56 + 5 * s) 1 ≤ 6) {R : Int} (hm : mis SH R 10) (hl : mln SH R = 36) {p : Nat → Int} (hp : ∀ k, fl g (mix R) k = p k) {kind : Int} (hk : 0 ≤ kind ∧ kind ≤ 3) : (ALC (g (56 + 5 * s) 0) (g (56 + 5 * s) 1) kind p → Ret X 1 70 [(2, 57 + 5 * (s : Int)), (2, R), (0, kind), (3, 0), (3, 0), (3, 0), (3, 0)] g (some (0, 1)) g) ∧ (¬ ALC (g (56 + 5 * s) 0) (g (56 + 5 * s) 1) kind p → Ret X 1 70 [(2, 57 + 5 * (s : Int)), (2, R), (0, kind), (3, 0), (3, 0), (3, 0), (3, 0)] g (some (0, 0)) g) := by
  have hwh := mul_b hw hh
  obtain ⟨W, hW⟩ : ∃ W : Nat, g (56 + 5 * s) 0 = (W : Int) := ⟨(g (56 + 5 * s) 0).toNat, by omega⟩
  obtain ⟨H, hH⟩ : ∃ H : Nat, g (56 + 5 * s) 1 = (H : Int) := ⟨(g (56 + 5 * s) 1).toNat, by omega⟩
  have run : ∀ d Q, 1 ≤ d → (ALC (g (56 + 5 * s) 0) (g (56 + 5 * s) 1) kind p → Q (some (0, 1)) (fl g)) → (¬ ALC (g (56 + 5 * s) 0) (g (56 + 5 * s) 1) kind p → Q (some (0, 0)) (fl g)) → Wp X d SH 70 0 [(2, 57 + 5 * (s : Int)), (2, R), (0, kind), (3, 0), (3, 0), (3, 0), (3, 0)] [] SH (fl g) Q := by
    intro d Q hd hy hn
    have key := lup (P := fun y => (∀ y' x' : Nat, y' < y → x' < W → okq (g (56 + 5 * s) 0) (g (56 + 5 * s) 1) kind p y' x') → ∀ v4 v5 v6, Wp X d SH 70 2 [(2, 57 + 5 * (s : Int)), (2, R), (0, kind), (0, (y : Int)), v4, v5, v6] [] SH (fl g) Q) H ?_ ?_ 0 (by omega)
    · have k0 := key (fun y' x' h => by omega) (3, 0) (3, 0) (3, 0)
      clear hy hn key
      apply s_70_0
      try simp only [sm_o, sl_1, su_1, sl_0, su_0, true_and, and_true, true_or, or_true, implies_true, b10_0, b10_1]
      repeat' (first | refine And.intro ?_ ?_ | intro _)
      all_goals (try (first | omega | (unfold r32; omega) | exact hQ | exact qe hQ (by omega) | exact qe hQ (by (repeat' split) <;> omega) | exact b01 | exact n01 | exact n21 | exact n31 | exact absurd trivial (by assumption)))
      all_goals (try exact k0)
    · intro hall v4 v5 v6
      have q1 := hy (fun y x h1 h2 => hall y x (by omega) (by omega))
      clear hy hn hall
      apply s_70_2
      try simp only [sm_o, sl_1, su_1, sl_0, su_0, hs, hH, true_and, and_true, true_or, or_true, implies_true, b10_0, b10_1]
      repeat' (first | refine And.intro ?_ ?_ | intro _)
      all_goals (try (first | omega | (unfold r32; omega) | exact hQ | exact qe hQ (by omega) | exact qe hQ (by (repeat' split) <;> omega) | exact b01 | exact n01 | exact n21 | exact n31 | exact absurd trivial (by assumption)))
      all_goals (try exact q1)
    · intro y hyH ih hall v4 v5 v6
      have e10 : ((y + 1 : Nat) : Int) = (y : Int) + 1 := by omega
      have m1 := mul_c (y := (y : Int)) (h := g (56 + 5 * s) 1) hw (by omega)
      have key := lup (P := fun x => (∀ x' : Nat, x' < x → okq (g (56 + 5 * s) 0) (g (56 + 5 * s) 1) kind p y x') → ∀ v5 v6, Wp X d SH 70 13 [(2, 57 + 5 * (s : Int)), (2, R), (0, kind), (0, (y : Int)), (0, (x : Int)), v5, v6] [] SH (fl g) Q) W ?_ ?_ 0 (by omega)
      · have k0 := key (fun x' h => by omega) v5 v6
        clear hy hn key ih hall
        apply s_70_2
        try simp only [sm_o, sl_1, su_1, sl_0, su_0, hs, hH, true_and, and_true, true_or, or_true, implies_true, b10_0, b10_1]
        repeat' (first | refine And.intro ?_ ?_ | intro _)
        all_goals (try (first | omega | (unfold r32; omega) | exact hQ | exact qe hQ (by omega) | exact qe hQ (by (repeat' split) <;> omega) | exact b01 | exact n01 | exact n21 | exact n31 | exact absurd trivial (by assumption)))
        all_goals (try exact k0)
      · intro hx v5 v6
        have nx := ih (fun y' x' h1 h2 => by
          by_cases hyy : y' = y
          · subst hyy; exact hx x' h2
          · exact hall y' x' (by omega) h2) (0, (W : Int)) v5 v6
        rw [e10] at nx
        clear hy hn ih hall hx
        apply s_70_13
        try simp only [sm_o, sl_1, su_1, sl_0, su_0, hs, hW, true_and, and_true, true_or, or_true, implies_true, b10_0, b10_1]
        repeat' (first | refine And.intro ?_ ?_ | intro _)
        all_goals (try (first | omega | (unfold r32; omega) | exact hQ | exact qe hQ (by omega) | exact qe hQ (by (repeat' split) <;> omega) | exact b01 | exact n01 | exact n21 | exact n31 | exact absurd trivial (by assumption)))
        all_goals (try exact nx)
      · intro x hxW ih2 hx v5 v6
        have e11 : ((x + 1 : Nat) : Int) = (x : Int) + 1 := by omega
        have c := c71 X g hs hw hh (kind := kind) (x := (x : Int)) (y := (y : Int)) hk (by omega) (by omega)
        have tb := tq_b (h := g (56 + 5 * s) 1) (kind := kind) (x := (x : Int)) (y := (y : Int)) hw (by omega) (by omega)
        by_cases ho : okq (g (56 + 5 * s) 0) (g (56 + 5 * s) 1) kind p y x
        · have hx1 : ∀ x' : Nat, x' < x + 1 → okq (g (56 + 5 * s) 0) (g (56 + 5 * s) 1) kind p y x' := fun x' h => by
            by_cases hxx : x' = x
            · subst hxx; exact ho
            · exact hx x' (by omega)
          have ih3 := ih2 hx1
          rw [e11] at ih3
          unfold okq at ho
          clear hy hn ih hall hx ih2 hx1
          by_cases hA : p ((y : Int) * g (56 + 5 * s) 0 + (x : Int)).toNat = -1
          · have hB := ho.1 hA
            have nx := ih3 (0, 0) (0, 0)
            clear ih3 ho
            generalize tq (g (56 + 5 * s) 0) (g (56 + 5 * s) 1) kind (x : Int) (y : Int) = t at *
            apply s_70_13
            try simp only [sm_o, sl_1, su_1, sl_0, su_0, hs, hm, hl, hp, hA, true_and, and_true, true_or, or_true, implies_true, b10_0, b10_1]
            repeat' (first | refine And.intro ?_ ?_ | intro _)
            all_goals (try (first | omega | (unfold r32; omega) | exact hQ | exact qe hQ (by omega) | exact qe hQ (by (repeat' split) <;> omega) | exact b01 | exact n01 | exact n21 | exact n31 | exact absurd trivial (by assumption)))
            all_goals (try contradiction)
            apply s_70_42
            try simp only [sm_o, sl_1, su_1, sl_0, su_0, hs, true_and, and_true, true_or, or_true, implies_true, b10_0, b10_1]
            repeat' (first | refine And.intro ?_ ?_ | intro _)
            all_goals (try (first | omega | (unfold r32; omega) | exact hQ | exact qe hQ (by omega) | exact qe hQ (by (repeat' split) <;> omega) | exact b01 | exact n01 | exact n21 | exact n31 | exact absurd trivial (by assumption)))
            refine c _ _ (by omega) ?_
            apply s_70_53
            try simp only [sm_o, sl_1, su_1, sl_0, su_0, hm, hl, hp, hB, true_and, and_true, true_or, or_true, implies_true, b10_0, b10_1]
            repeat' (first | refine And.intro ?_ ?_ | intro _)
            all_goals (try (first | omega | (unfold r32; omega) | exact hQ | exact qe hQ (by omega) | exact qe hQ (by (repeat' split) <;> omega) | exact b01 | exact n01 | exact n21 | exact n31 | exact absurd trivial (by assumption)))
            all_goals (try contradiction)
            apply s_70_63
            try simp only [sm_o, sl_1, su_1, sl_0, su_0, true_and, and_true, true_or, or_true, implies_true, b10_0, b10_1]
            repeat' (first | refine And.intro ?_ ?_ | intro _)
            all_goals (try (first | omega | (unfold r32; omega) | exact hQ | exact qe hQ (by omega) | exact qe hQ (by (repeat' split) <;> omega) | exact b01 | exact n01 | exact n21 | exact n31 | exact absurd trivial (by assumption)))
            all_goals (try exact nx)
          · have hB : ¬ p (tq (g (56 + 5 * s) 0) (g (56 + 5 * s) 1) kind (x : Int) (y : Int)).toNat = -1 := fun z => hA (ho.2 z)
            have nx := ih3 (0, 1) (0, 1)
            clear ih3 ho
            generalize tq (g (56 + 5 * s) 0) (g (56 + 5 * s) 1) kind (x : Int) (y : Int) = t at *
            apply s_70_13
            try simp only [sm_o, sl_1, su_1, sl_0, su_0, hs, hm, hl, hp, hA, true_and, and_true, true_or, or_true, implies_true, b10_0, b10_1]
            repeat' (first | refine And.intro ?_ ?_ | intro _)
            all_goals (try (first | omega | (unfold r32; omega) | exact hQ | exact qe hQ (by omega) | exact qe hQ (by (repeat' split) <;> omega) | exact b01 | exact n01 | exact n21 | exact n31 | exact absurd trivial (by assumption)))
            all_goals (try contradiction)
            apply s_70_42
            try simp only [sm_o, sl_1, su_1, sl_0, su_0, hs, true_and, and_true, true_or, or_true, implies_true, b10_0, b10_1]
            repeat' (first | refine And.intro ?_ ?_ | intro _)
            all_goals (try (first | omega | (unfold r32; omega) | exact hQ | exact qe hQ (by omega) | exact qe hQ (by (repeat' split) <;> omega) | exact b01 | exact n01 | exact n21 | exact n31 | exact absurd trivial (by assumption)))
            refine c _ _ (by omega) ?_
            apply s_70_53
            try simp only [sm_o, sl_1, su_1, sl_0, su_0, hm, hl, hp, hB, true_and, and_true, true_or, or_true, implies_true, b10_0, b10_1]
            repeat' (first | refine And.intro ?_ ?_ | intro _)
            all_goals (try (first | omega | (unfold r32; omega) | exact hQ | exact qe hQ (by omega) | exact qe hQ (by (repeat' split) <;> omega) | exact b01 | exact n01 | exact n21 | exact n31 | exact absurd trivial (by assumption)))
            all_goals (try contradiction)
            apply s_70_63
            try simp only [sm_o, sl_1, su_1, sl_0, su_0, true_and, and_true, true_or, or_true, implies_true, b10_0, b10_1]
            repeat' (first | refine And.intro ?_ ?_ | intro _)
            all_goals (try (first | omega | (unfold r32; omega) | exact hQ | exact qe hQ (by omega) | exact qe hQ (by (repeat' split) <;> omega) | exact b01 | exact n01 | exact n21 | exact n31 | exact absurd trivial (by assumption)))
            all_goals (try exact nx)
        · have q0 := hn (fun z => ho (z y x (by omega) (by omega)))
          unfold okq at ho
          clear hy hn ih hall hx ih2
          by_cases hA : p ((y : Int) * g (56 + 5 * s) 0 + (x : Int)).toNat = -1
          · have hB : ¬ p (tq (g (56 + 5 * s) 0) (g (56 + 5 * s) 1) kind (x : Int) (y : Int)).toNat = -1 := fun z => ho ⟨fun _ => z, fun _ => hA⟩
            clear ho
            generalize tq (g (56 + 5 * s) 0) (g (56 + 5 * s) 1) kind (x : Int) (y : Int) = t at *
            apply s_70_13
            try simp only [sm_o, sl_1, su_1, sl_0, su_0, hs, hm, hl, hp, hA, true_and, and_true, true_or, or_true, implies_true, b10_0, b10_1]
            repeat' (first | refine And.intro ?_ ?_ | intro _)
            all_goals (try (first | omega | (unfold r32; omega) | exact hQ | exact qe hQ (by omega) | exact qe hQ (by (repeat' split) <;> omega) | exact b01 | exact n01 | exact n21 | exact n31 | exact absurd trivial (by assumption)))
            all_goals (try contradiction)
            apply s_70_42
            try simp only [sm_o, sl_1, su_1, sl_0, su_0, hs, true_and, and_true, true_or, or_true, implies_true, b10_0, b10_1]
            repeat' (first | refine And.intro ?_ ?_ | intro _)
            all_goals (try (first | omega | (unfold r32; omega) | exact hQ | exact qe hQ (by omega) | exact qe hQ (by (repeat' split) <;> omega) | exact b01 | exact n01 | exact n21 | exact n31 | exact absurd trivial (by assumption)))
            refine c _ _ (by omega) ?_
            apply s_70_53
            try simp only [sm_o, sl_1, su_1, sl_0, su_0, hm, hl, hp, hB, true_and, and_true, true_or, or_true, implies_true, b10_0, b10_1]
            repeat' (first | refine And.intro ?_ ?_ | intro _)
            all_goals (try (first | omega | (unfold r32; omega) | exact hQ | exact qe hQ (by omega) | exact qe hQ (by (repeat' split) <;> omega) | exact b01 | exact n01 | exact n21 | exact n31 | exact absurd trivial (by assumption)))
            all_goals (try contradiction)
            apply s_70_63
            try simp only [sm_o, sl_1, su_1, sl_0, su_0, true_and, and_true, true_or, or_true, implies_true, b10_0, b10_1]
            repeat' (first | refine And.intro ?_ ?_ | intro _)
            all_goals (try (first | omega | (unfold r32; omega) | exact hQ | exact qe hQ (by omega) | exact qe hQ (by (repeat' split) <;> omega) | exact b01 | exact n01 | exact n21 | exact n31 | exact absurd trivial (by assumption)))
            all_goals (try exact q0)
          · have hB : p (tq (g (56 + 5 * s) 0) (g (56 + 5 * s) 1) kind (x : Int) (y : Int)).toNat = -1 := Classical.not_not.1 (fun z => ho ⟨fun y => absurd y hA, fun y => absurd y z⟩)
            clear ho
            generalize tq (g (56 + 5 * s) 0) (g (56 + 5 * s) 1) kind (x : Int) (y : Int) = t at *
            apply s_70_13
            try simp only [sm_o, sl_1, su_1, sl_0, su_0, hs, hm, hl, hp, hA, true_and, and_true, true_or, or_true, implies_true, b10_0, b10_1]
            repeat' (first | refine And.intro ?_ ?_ | intro _)
            all_goals (try (first | omega | (unfold r32; omega) | exact hQ | exact qe hQ (by omega) | exact qe hQ (by (repeat' split) <;> omega) | exact b01 | exact n01 | exact n21 | exact n31 | exact absurd trivial (by assumption)))
            all_goals (try contradiction)
            apply s_70_42
            try simp only [sm_o, sl_1, su_1, sl_0, su_0, hs, true_and, and_true, true_or, or_true, implies_true, b10_0, b10_1]
            repeat' (first | refine And.intro ?_ ?_ | intro _)
            all_goals (try (first | omega | (unfold r32; omega) | exact hQ | exact qe hQ (by omega) | exact qe hQ (by (repeat' split) <;> omega) | exact b01 | exact n01 | exact n21 | exact n31 | exact absurd trivial (by assumption)))
            refine c _ _ (by omega) ?_
            apply s_70_53
            try simp only [sm_o, sl_1, su_1, sl_0, su_0, hm, hl, hp, hB, true_and, and_true, true_or, or_true, implies_true, b10_0, b10_1]
            repeat' (first | refine And.intro ?_ ?_ | intro _)
            all_goals (try (first | omega | (unfold r32; omega) | exact hQ | exact qe hQ (by omega) | exact qe hQ (by (repeat' split) <;> omega) | exact b01 | exact n01 | exact n21 | exact n31 | exact absurd trivial (by assumption)))
            all_goals (try contradiction)
            apply s_70_63
            try simp only [sm_o, sl_1, su_1, sl_0, su_0, true_and, and_true, true_or, or_true, implies_true, b10_0, b10_1]
            repeat' (first | refine And.intro ?_ ?_ | intro _)
            all_goals (try (first | omega | (unfold r32; omega) | exact hQ | exact qe hQ (by omega) | exact qe hQ (by (repeat' split) <;> omega) | exact b01 | exact n01 | exact n21 | exact n31 | exact absurd trivial (by assumption)))
            all_goals (try exact q0)
  exact ⟨fun hz d Q hd hQ => run d Q hd (fun _ => hQ) (fun hn => absurd hz hn), fun hz d Q hd hQ => run d Q hd (fun hy => absurd hy hz) (fun _ => hQ)⟩
