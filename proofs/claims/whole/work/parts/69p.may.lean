/-! draw: which square may follow -/
theorem sumN_p {n : Nat} {a : Nat → Int} (h : ∀ k, k < n → 0 ≤ a k) : 0 ≤ sumN n a ∧ (sumN n a = 0 → ∀ k, k < n → a k = 0) := by
  induction n with
  | zero => exact ⟨Int.le_refl _, fun _ k hk => absurd hk (by omega)⟩
  | succ n ih =>
    have z := ih (fun k hk => h k (by omega))
    have y := h n (by omega)
    simp only [sumN]
    refine ⟨by omega, fun e k hk => ?_⟩
    by_cases hkn : k = n
    · subst hkn; omega
    · exact z.2 (by omega) k (by omega)
def MF (w : Int) (bar : Nat → Int) (ρ : Nat → Int) (m : Nat) (snd q : Int) : Prop := bar q.toNat = 0 ∧ (∀ k, k < m → ρ k ≠ q) ∧ (snd ≠ 0 → ∀ k, k + 1 < m → ¬ nrC w (ρ k) q)
/-- the class's trial: which squares stand where -/
def TP (w h : Int) (p ρ : Nat → Int) (m : Nat) : Prop := (∀ i, i < m → 0 ≤ ρ i ∧ ρ i < w * h) ∧ (∀ i, i < m → p (ρ i).toNat = (i : Int)) ∧ ∀ k : Nat, (k : Int) < w * h → p k = -1 ∨ ∃ i : Nat, i < m ∧ p k = (i : Int) ∧ ρ i = (k : Int)
theorem nbc_1 {w h : Int} {p ρ : Nat → Int} {m : Nat} (hw : 1 ≤ w ∧ w ≤ 6) (hh : 1 ≤ h ∧ h ≤ 6) (hT : TP w h p ρ m) (hm : 1 ≤ m) {q : Int} (hq : 0 ≤ q ∧ q < w * h) (hn : nrC w (ρ (m - 1)) q) : nbc w h p q = 1 ↔ ∀ k, k + 1 < m → ¬ nrC w (ρ k) q := by
  rw [nbc_s hw hh hT.1 hT.2.1 hT.2.2 hq]
  obtain ⟨n, rfl⟩ : ∃ n, m = n + 1 := ⟨m - 1, by omega⟩
  rw [show n + 1 - 1 = n by omega] at hn
  have e : sumN (n + 1) (fun j => Ad w q (ρ j)) = sumN n (fun j => Ad w q (ρ j)) + Ad w q (ρ n) := rfl
  rw [e, Ad_c (a := q) (b := ρ n), Ad_y hn]
  have z := sumN_p (n := n) (a := fun j => Ad w q (ρ j)) (fun k _ => Ad_b.1)
  constructor
  · intro h1 k hk hnk
    have y := z.2 (by omega) k (by omega)
    have y2 : Ad w q (ρ k) = 0 := y
    rw [Ad_c, Ad_y hnk] at y2
    omega
  · intro h1
    rw [sumN_nil (n := n) (a := fun j => Ad w q (ρ j)) (fun k hk => by
      show Ad w q (ρ k) = 0
      rw [Ad_c]
      exact Ad_n (h1 k (by omega)))]
    rfl
theorem c75 (X : mX) (g : mF) {s : Nat} (hs : s < 6) (hI : Iseal g s) {ρ : Nat → Int} {m q : Nat} (hT : TP (g (56 + 5 * s) 0) (g (56 + 5 * s) 1) (g 4) ρ m) (hm : 1 ≤ m) (hq : (q : Int) < g (56 + 5 * s) 0 * g (56 + 5 * s) 1) (hn : nrC (g (56 + 5 * s) 0) (ρ (m - 1)) (q : Int)) : (MF (g (56 + 5 * s) 0) (g (59 + 5 * s)) ρ m (g 2 7) (q : Int) → Ret X 1 75 [(2, 3), (2, 57 + 5 * (s : Int)), (0, (q : Int))] g (some (0, 1)) g) ∧ (¬ MF (g (56 + 5 * s) 0) (g (59 + 5 * s)) ρ m (g 2 7) (q : Int) → Ret X 1 75 [(2, 3), (2, 57 + 5 * (s : Int)), (0, (q : Int))] g (some (0, 0)) g) := by
  obtain ⟨⟨p1, p2, -, -⟩, -⟩ := id hI
  have hwh := mul_b p1.2 p2.2
  have nb := nbc_1 p1.2 p2.2 hT hm (show 0 ≤ (q : Int) ∧ (q : Int) < g (56 + 5 * s) 0 * g (56 + 5 * s) 1 by omega) hn
  have c := c68 X g hs hI (R := 5) mi_5 ml_5 (p := g 4) (fun k => fl_5 g k) hq
  have eq : ((q : Int)).toNat = q := by omega
  have run : ∀ d Q, 1 ≤ d → (MF (g (56 + 5 * s) 0) (g (59 + 5 * s)) ρ m (g 2 7) (q : Int) → Q (some (0, 1)) (fl g)) → (¬ MF (g (56 + 5 * s) 0) (g (59 + 5 * s)) ρ m (g 2 7) (q : Int) → Q (some (0, 0)) (fl g)) → Wp X d SH 75 0 [(2, 3), (2, 57 + 5 * (s : Int)), (0, (q : Int))] [] SH (fl g) Q := by
    intro d Q hd hy hno
    unfold MF at hy hno
    rw [eq] at hy hno
    by_cases h1 : g (59 + 5 * s) q = 0
    · by_cases h2 : g 4 q = -1
      · have h2' : ∀ k, k < m → ρ k ≠ (q : Int) := fun k hk z => by
          have y := hT.2.1 k hk
          rw [z, eq, h2] at y
          omega
        by_cases h3 : g 2 7 = 0
        · have q1 := hy ⟨h1, h2', fun z => absurd h3 z⟩
          clear hy hno hT nb h2'
          apply s_75_0
          try simp only [sm_o, sl_5, sm_5, sn_5, sa_5, sz_5, mi_3, fl_3_3, mi_5, ml_5, fl_5, up_5, fl_3_7, up_3_7, hs, eq, h1, h2, h3, true_and, and_true, true_or, or_true, implies_true, b10_0, b10_1]
          repeat' (first | refine And.intro ?_ ?_ | intro _)
          all_goals (try (first | omega | (unfold r32; omega) | exact hQ | exact qe hQ (by omega) | exact qe hQ (by (repeat' split) <;> omega) | exact b01 | exact n01 | exact n21 | exact n31 | exact absurd trivial (by assumption)))
          all_goals (try contradiction)
          all_goals (try (refine s_75_41 ?_; exact q1))
        · by_cases h4 : nbc (g (56 + 5 * s) 0) (g (56 + 5 * s) 1) (g 4) (q : Int) = 1
          · have q1 := hy ⟨h1, h2', fun _ => nb.1 h4⟩
            rw [h4] at c
            clear hy hno hT nb h2'
            apply s_75_0
            try simp only [sm_o, sl_5, sm_5, sn_5, sa_5, sz_5, mi_3, fl_3_3, mi_5, ml_5, fl_5, up_5, fl_3_7, up_3_7, hs, eq, h1, h2, h3, true_and, and_true, true_or, or_true, implies_true, b10_0, b10_1]
            repeat' (first | refine And.intro ?_ ?_ | intro _)
            all_goals (try (first | omega | (unfold r32; omega) | exact hQ | exact qe hQ (by omega) | exact qe hQ (by (repeat' split) <;> omega) | exact b01 | exact n01 | exact n21 | exact n31 | exact absurd trivial (by assumption)))
            all_goals (try contradiction)
            refine c _ _ (by omega) ?_
            apply s_75_37
            try simp only [sm_o, sl_5, sm_5, sn_5, sa_5, sz_5, mi_3, fl_3_3, mi_5, ml_5, fl_5, up_5, fl_3_7, up_3_7, true_and, and_true, true_or, or_true, implies_true, b10_0, b10_1]
            repeat' (first | refine And.intro ?_ ?_ | intro _)
            all_goals (try (first | omega | (unfold r32; omega) | exact hQ | exact qe hQ (by omega) | exact qe hQ (by (repeat' split) <;> omega) | exact b01 | exact n01 | exact n21 | exact n31 | exact absurd trivial (by assumption)))
            all_goals (try (refine s_75_41 ?_; exact q1))
          · have q1 := hno (fun z => h4 (nb.2 (z.2.2 h3)))
            clear hy hno hT nb h2'
            generalize nbc (g (56 + 5 * s) 0) (g (56 + 5 * s) 1) (g 4) (q : Int) = B at *
            apply s_75_0
            try simp only [sm_o, sl_5, sm_5, sn_5, sa_5, sz_5, mi_3, fl_3_3, mi_5, ml_5, fl_5, up_5, fl_3_7, up_3_7, hs, eq, h1, h2, h3, true_and, and_true, true_or, or_true, implies_true, b10_0, b10_1]
            repeat' (first | refine And.intro ?_ ?_ | intro _)
            all_goals (try (first | omega | (unfold r32; omega) | exact hQ | exact qe hQ (by omega) | exact qe hQ (by (repeat' split) <;> omega) | exact b01 | exact n01 | exact n21 | exact n31 | exact absurd trivial (by assumption)))
            all_goals (try contradiction)
            refine c _ _ (by omega) ?_
            refine s_75_37 ⟨fun _ => q1, fun z => absurd h4 z⟩
      · have q1 := hno (fun z => by
          rcases hT.2.2 q hq with y | ⟨i, y1, y2, y3⟩
          · exact h2 y
          · exact z.2.1 i y1 y3)
        clear hy hno hT nb
        apply s_75_0
        try simp only [sm_o, sl_5, sm_5, sn_5, sa_5, sz_5, mi_3, fl_3_3, mi_5, ml_5, fl_5, up_5, fl_3_7, up_3_7, hs, eq, h1, h2, true_and, and_true, true_or, or_true, implies_true, b10_0, b10_1]
        repeat' (first | refine And.intro ?_ ?_ | intro _)
        all_goals (try (first | omega | (unfold r32; omega) | exact hQ | exact qe hQ (by omega) | exact qe hQ (by (repeat' split) <;> omega) | exact b01 | exact n01 | exact n21 | exact n31 | exact absurd trivial (by assumption)))
        all_goals (try contradiction)
        all_goals (try exact q1)
    · have q1 := hno (fun z => h1 z.1)
      clear hy hno hT nb
      apply s_75_0
      try simp only [sm_o, sl_5, sm_5, sn_5, sa_5, sz_5, mi_3, fl_3_3, mi_5, ml_5, fl_5, up_5, fl_3_7, up_3_7, hs, eq, h1, true_and, and_true, true_or, or_true, implies_true, b10_0, b10_1]
      repeat' (first | refine And.intro ?_ ?_ | intro _)
      all_goals (try (first | omega | (unfold r32; omega) | exact hQ | exact qe hQ (by omega) | exact qe hQ (by (repeat' split) <;> omega) | exact b01 | exact n01 | exact n21 | exact n31 | exact absurd trivial (by assumption)))
      all_goals (try contradiction)
      all_goals (try exact q1)
  exact ⟨fun hz d Q hd hQ => run d Q hd (fun _ => hQ) (fun hn => absurd hz hn), fun hz d Q hd hQ => run d Q hd (fun hy => absurd hy hz) (fun _ => hQ)⟩
/-- the reference -/
theorem c157 (X : mX) (g : mF) {s : Nat} (hs : s < 6) {w h : Int} (hw : 1 ≤ w ∧ w ≤ 6) (hh : 1 ≤ h ∧ h ≤ 6) (h87 : g 87 s = w) {bar : Nat → Int} (hbar : ∀ q, q < 36 → g 89 (36 * s + q) = bar q) {m q : Nat} (hr : ∀ i, i < m → 0 ≤ g 92 i ∧ g 92 i < w * h) (hm : 1 ≤ m ∧ m ≤ 36) (hq : (q : Int) < w * h) {snd : Int} : (nrC w (g 92 (m - 1)) (q : Int) ∧ MF w bar (g 92) m snd (q : Int) → Ret X 2 157 [(2, 87), (0, (s : Int)), (0, (m : Int)), (0, (q : Int)), (0, snd), (3, 0), (3, 0)] g (some (0, 1)) g) ∧ (¬ (nrC w (g 92 (m - 1)) (q : Int) ∧ MF w bar (g 92) m snd (q : Int)) → Ret X 2 157 [(2, 87), (0, (s : Int)), (0, (m : Int)), (0, (q : Int)), (0, snd), (3, 0), (3, 0)] g (some (0, 0)) g) := by
  have hwh := mul_b hw hh
  have eq : ((q : Int)).toNat = q := by omega
  have hqb := hbar q (by omega)
  have esq : (36 * (s : Int) + (q : Int)).toNat = 36 * s + q := by omega
  have em : ((m : Int) - 1).toNat = m - 1 := by omega
  have nc := fun k (hk : k < m) => c150 X g hs hw hh h87 (hr k hk) (show 0 ≤ (q : Int) ∧ (q : Int) < w * h by omega)
  have run : ∀ d Q, 2 ≤ d → (nrC w (g 92 (m - 1)) (q : Int) ∧ MF w bar (g 92) m snd (q : Int) → Q (some (0, 1)) (fl g)) → (¬ (nrC w (g 92 (m - 1)) (q : Int) ∧ MF w bar (g 92) m snd (q : Int)) → Q (some (0, 0)) (fl g)) → Wp X d SH 157 0 [(2, 87), (0, (s : Int)), (0, (m : Int)), (0, (q : Int)), (0, snd), (3, 0), (3, 0)] [] SH (fl g) Q := by
    intro d Q hd hy hno
    unfold MF at hy hno
    rw [eq] at hy hno
    -- the loop, once it is no
    have zero : ∀ k : Nat, Q (some (0, 0)) (fl g) → Wp X d SH 157 41 [(2, 87), (0, (s : Int)), (0, (m : Int)), (0, (q : Int)), (0, snd), (0, 0), (0, (k : Int))] [] SH (fl g) Q := by
      intro k hQ
      apply s_157_41
      exact ⟨fun _ => ⟨Or.inl rfl, hQ⟩, fun _ => ⟨fun _ => ⟨Or.inl rfl, hQ⟩, fun z => absurd rfl z⟩⟩
    have c1 := nc (m - 1) (by omega)
    by_cases h1 : nrC w (g 92 (m - 1)) (q : Int)
    · by_cases h2 : bar q = 0
      · have loop := lup (P := fun k => (∀ k', k' < k → g 92 k' ≠ (q : Int) ∧ (snd ≠ 0 → k' + 1 < m → ¬ nrC w (g 92 k') (q : Int))) → Wp X d SH 157 41 [(2, 87), (0, (s : Int)), (0, (m : Int)), (0, (q : Int)), (0, snd), (0, 1), (0, (k : Int))] [] SH (fl g) Q) m ?_ ?_ 0 (by omega)
        · have k0 := loop (fun k' hk' => absurd hk' (by omega))
          have c2 := c1.1 h1
          rw [h2] at hqb
          clear hy hno loop zero nc c1 h1 hr hbar
          apply s_157_0
          try simp only [mi_87, fl_87_7, mi_93, ml_93, fl_93, up_93, fl_87_2, mi_90, ml_90, fl_90, up_90, em, true_and, and_true, true_or, or_true, implies_true, b10_0, b10_1]
          repeat' (first | refine And.intro ?_ ?_ | intro _)
          all_goals (try (first | omega | (unfold r32; omega) | exact hQ | exact qe hQ (by omega) | exact qe hQ (by (repeat' split) <;> omega) | exact b01 | exact n01 | exact n21 | exact n31 | exact absurd trivial (by assumption)))
          refine c2 _ _ (by omega) ?_
          apply s_157_14
          try simp only [mi_87, fl_87_7, mi_93, ml_93, fl_93, up_93, fl_87_2, mi_90, ml_90, fl_90, up_90, esq, hqb, true_and, and_true, true_or, or_true, implies_true, b10_0, b10_1]
          repeat' (first | refine And.intro ?_ ?_ | intro _)
          all_goals (try (first | omega | (unfold r32; omega) | exact hQ | exact qe hQ (by omega) | exact qe hQ (by (repeat' split) <;> omega) | exact b01 | exact n01 | exact n21 | exact n31 | exact absurd trivial (by assumption)))
          all_goals (try contradiction)
          apply s_157_36
          try simp only [mi_87, fl_87_7, mi_93, ml_93, fl_93, up_93, fl_87_2, mi_90, ml_90, fl_90, up_90, true_and, and_true, true_or, or_true, implies_true, b10_0, b10_1]
          repeat' (first | refine And.intro ?_ ?_ | intro _)
          all_goals (try (first | omega | (unfold r32; omega) | exact hQ | exact qe hQ (by omega) | exact qe hQ (by (repeat' split) <;> omega) | exact b01 | exact n01 | exact n21 | exact n31 | exact absurd trivial (by assumption)))
          all_goals (try exact k0)
        · intro hall
          have q1 := hy ⟨h1, h2, fun k hk => (hall k hk).1, fun z k hk => (hall k (by omega)).2 z hk⟩
          apply s_157_41
          exact ⟨fun _ => ⟨Or.inr rfl, q1⟩, fun z => absurd (Int.le_refl _) z⟩
        · intro k hk ih hall
          have e10 : ((k + 1 : Nat) : Int) = (k : Int) + 1 := by omega
          have ek : ((k : Int)).toNat = k := by omega
          have rk : r32 ((k : Int) + 1) := by unfold r32; omega
          have nxt : (g 92 k ≠ (q : Int) ∧ (snd ≠ 0 → k + 1 < m → ¬ nrC w (g 92 k) (q : Int))) → Wp X d SH 157 97 [(2, 87), (0, (s : Int)), (0, (m : Int)), (0, (q : Int)), (0, snd), (0, 1), (0, (k : Int))] [(0, 1)] SH (fl g) Q := by
            intro hz
            have nx := ih (fun k' hk' => by
              by_cases hkk : k' = k
              · subst hkk; exact hz
              · exact hall k' (by omega))
            rw [e10] at nx
            apply s_157_97
            exact ⟨rk, nx⟩
          have stop : ¬ (g 92 k ≠ (q : Int) ∧ (snd ≠ 0 → k + 1 < m → ¬ nrC w (g 92 k) (q : Int))) → Wp X d SH 157 97 [(2, 87), (0, (s : Int)), (0, (m : Int)), (0, (q : Int)), (0, snd), (0, 1), (0, (k : Int))] [(0, 0)] SH (fl g) Q := by
            intro hz
            have q0 := hno (fun z => hz ⟨z.2.2.1 k hk, fun y y2 => z.2.2.2 y k y2⟩)
            have nx := zero (k + 1) q0
            rw [e10] at nx
            apply s_157_97
            exact ⟨rk, nx⟩
          have ck := nc k hk
          clear hy hno nc zero ih hall c1 h1 hr hbar
          by_cases h3 : g 92 k = (q : Int)
          · have st := stop (fun z => z.1 h3)
            clear stop nxt ck
            apply s_157_41
            try simp only [mi_87, fl_87_7, mi_93, ml_93, fl_93, up_93, fl_87_2, mi_90, ml_90, fl_90, up_90, ek, h3, true_and, and_true, true_or, or_true, implies_true, b10_0, b10_1]
            repeat' (first | refine And.intro ?_ ?_ | intro _)
            all_goals (try (first | omega | (unfold r32; omega) | exact hQ | exact qe hQ (by omega) | exact qe hQ (by (repeat' split) <;> omega) | exact b01 | exact n01 | exact n21 | exact n31 | exact absurd trivial (by assumption)))
            all_goals (try contradiction)
            apply s_157_96
            try simp only [mi_87, fl_87_7, mi_93, ml_93, fl_93, up_93, fl_87_2, mi_90, ml_90, fl_90, up_90, true_and, and_true, true_or, or_true, implies_true, b10_0, b10_1]
            repeat' (first | refine And.intro ?_ ?_ | intro _)
            all_goals (try (first | omega | (unfold r32; omega) | exact hQ | exact qe hQ (by omega) | exact qe hQ (by (repeat' split) <;> omega) | exact b01 | exact n01 | exact n21 | exact n31 | exact absurd trivial (by assumption)))
            all_goals (try exact st)
          · by_cases h4 : snd = 0
            · have nx := nxt ⟨h3, fun z => absurd h4 z⟩
              clear stop nxt ck
              subst h4
              apply s_157_41
              try simp only [mi_87, fl_87_7, mi_93, ml_93, fl_93, up_93, fl_87_2, mi_90, ml_90, fl_90, up_90, ek, h3, true_and, and_true, true_or, or_true, implies_true, b10_0, b10_1]
              repeat' (first | refine And.intro ?_ ?_ | intro _)
              all_goals (try (first | omega | (unfold r32; omega) | exact hQ | exact qe hQ (by omega) | exact qe hQ (by (repeat' split) <;> omega) | exact b01 | exact n01 | exact n21 | exact n31 | exact absurd trivial (by assumption)))
              all_goals (try contradiction)
              apply s_157_92
              try simp only [mi_87, fl_87_7, mi_93, ml_93, fl_93, up_93, fl_87_2, mi_90, ml_90, fl_90, up_90, true_and, and_true, true_or, or_true, implies_true, b10_0, b10_1]
              repeat' (first | refine And.intro ?_ ?_ | intro _)
              all_goals (try (first | omega | (unfold r32; omega) | exact hQ | exact qe hQ (by omega) | exact qe hQ (by (repeat' split) <;> omega) | exact b01 | exact n01 | exact n21 | exact n31 | exact absurd trivial (by assumption)))
              all_goals (try exact nx)
            · by_cases h5 : k + 1 = m
              · have nx := nxt ⟨h3, fun _ z => absurd z (by omega)⟩
                have h5' : (k : Int) = (m : Int) - 1 := by omega
                clear stop nxt ck
                apply s_157_41
                try simp only [mi_87, fl_87_7, mi_93, ml_93, fl_93, up_93, fl_87_2, mi_90, ml_90, fl_90, up_90, ek, h3, h4, true_and, and_true, true_or, or_true, implies_true, b10_0, b10_1]
                repeat' (first | refine And.intro ?_ ?_ | intro _)
                all_goals (try (first | omega | (unfold r32; omega) | exact hQ | exact qe hQ (by omega) | exact qe hQ (by (repeat' split) <;> omega) | exact b01 | exact n01 | exact n21 | exact n31 | exact absurd trivial (by assumption)))
                all_goals (try contradiction)
                apply s_157_92
                try simp only [mi_87, fl_87_7, mi_93, ml_93, fl_93, up_93, fl_87_2, mi_90, ml_90, fl_90, up_90, true_and, and_true, true_or, or_true, implies_true, b10_0, b10_1]
                repeat' (first | refine And.intro ?_ ?_ | intro _)
                all_goals (try (first | omega | (unfold r32; omega) | exact hQ | exact qe hQ (by omega) | exact qe hQ (by (repeat' split) <;> omega) | exact b01 | exact n01 | exact n21 | exact n31 | exact absurd trivial (by assumption)))
                all_goals (try exact nx)
              · by_cases h6 : nrC w (g 92 k) (q : Int)
                · have st := stop (fun z => z.2 h4 (by omega) h6)
                  have ck1 := ck.1 h6
                  clear stop nxt ck h6
                  apply s_157_41
                  try simp only [mi_87, fl_87_7, mi_93, ml_93, fl_93, up_93, fl_87_2, mi_90, ml_90, fl_90, up_90, ek, h3, h4, true_and, and_true, true_or, or_true, implies_true, b10_0, b10_1]
                  repeat' (first | refine And.intro ?_ ?_ | intro _)
                  all_goals (try (first | omega | (unfold r32; omega) | exact hQ | exact qe hQ (by omega) | exact qe hQ (by (repeat' split) <;> omega) | exact b01 | exact n01 | exact n21 | exact n31 | exact absurd trivial (by assumption)))
                  all_goals (try contradiction)
                  refine ck1 _ _ (by omega) ?_
                  apply s_157_89
                  try simp only [mi_87, fl_87_7, mi_93, ml_93, fl_93, up_93, fl_87_2, mi_90, ml_90, fl_90, up_90, true_and, and_true, true_or, or_true, implies_true, b10_0, b10_1]
                  repeat' (first | refine And.intro ?_ ?_ | intro _)
                  all_goals (try (first | omega | (unfold r32; omega) | exact hQ | exact qe hQ (by omega) | exact qe hQ (by (repeat' split) <;> omega) | exact b01 | exact n01 | exact n21 | exact n31 | exact absurd trivial (by assumption)))
                  apply s_157_96
                  try simp only [mi_87, fl_87_7, mi_93, ml_93, fl_93, up_93, fl_87_2, mi_90, ml_90, fl_90, up_90, true_and, and_true, true_or, or_true, implies_true, b10_0, b10_1]
                  repeat' (first | refine And.intro ?_ ?_ | intro _)
                  all_goals (try (first | omega | (unfold r32; omega) | exact hQ | exact qe hQ (by omega) | exact qe hQ (by (repeat' split) <;> omega) | exact b01 | exact n01 | exact n21 | exact n31 | exact absurd trivial (by assumption)))
                  all_goals (try exact st)
                · have nx := nxt ⟨h3, fun _ _ => h6⟩
                  have ck1 := ck.2 h6
                  clear stop nxt ck h6
                  apply s_157_41
                  try simp only [mi_87, fl_87_7, mi_93, ml_93, fl_93, up_93, fl_87_2, mi_90, ml_90, fl_90, up_90, ek, h3, h4, true_and, and_true, true_or, or_true, implies_true, b10_0, b10_1]
                  repeat' (first | refine And.intro ?_ ?_ | intro _)
                  all_goals (try (first | omega | (unfold r32; omega) | exact hQ | exact qe hQ (by omega) | exact qe hQ (by (repeat' split) <;> omega) | exact b01 | exact n01 | exact n21 | exact n31 | exact absurd trivial (by assumption)))
                  all_goals (try contradiction)
                  refine ck1 _ _ (by omega) ?_
                  apply s_157_89
                  try simp only [mi_87, fl_87_7, mi_93, ml_93, fl_93, up_93, fl_87_2, mi_90, ml_90, fl_90, up_90, true_and, and_true, true_or, or_true, implies_true, b10_0, b10_1]
                  repeat' (first | refine And.intro ?_ ?_ | intro _)
                  all_goals (try (first | omega | (unfold r32; omega) | exact hQ | exact qe hQ (by omega) | exact qe hQ (by (repeat' split) <;> omega) | exact b01 | exact n01 | exact n21 | exact n31 | exact absurd trivial (by assumption)))
                  apply s_157_92
                  try simp only [mi_87, fl_87_7, mi_93, ml_93, fl_93, up_93, fl_87_2, mi_90, ml_90, fl_90, up_90, true_and, and_true, true_or, or_true, implies_true, b10_0, b10_1]
                  repeat' (first | refine And.intro ?_ ?_ | intro _)
                  all_goals (try (first | omega | (unfold r32; omega) | exact hQ | exact qe hQ (by omega) | exact qe hQ (by (repeat' split) <;> omega) | exact b01 | exact n01 | exact n21 | exact n31 | exact absurd trivial (by assumption)))
                  all_goals (try exact nx)
      · have q0 := hno (fun z => h2 z.2.1)
        have nx := zero 0 q0
        have c2 := c1.1 h1
        rw [← hqb] at h2
        clear hy hno zero nc c1 h1 hr hbar
        apply s_157_0
        try simp only [mi_87, fl_87_7, mi_93, ml_93, fl_93, up_93, fl_87_2, mi_90, ml_90, fl_90, up_90, em, true_and, and_true, true_or, or_true, implies_true, b10_0, b10_1]
        repeat' (first | refine And.intro ?_ ?_ | intro _)
        all_goals (try (first | omega | (unfold r32; omega) | exact hQ | exact qe hQ (by omega) | exact qe hQ (by (repeat' split) <;> omega) | exact b01 | exact n01 | exact n21 | exact n31 | exact absurd trivial (by assumption)))
        refine c2 _ _ (by omega) ?_
        apply s_157_14
        try simp only [mi_87, fl_87_7, mi_93, ml_93, fl_93, up_93, fl_87_2, mi_90, ml_90, fl_90, up_90, esq, h2, true_and, and_true, true_or, or_true, implies_true, b10_0, b10_1]
        repeat' (first | refine And.intro ?_ ?_ | intro _)
        all_goals (try (first | omega | (unfold r32; omega) | exact hQ | exact qe hQ (by omega) | exact qe hQ (by (repeat' split) <;> omega) | exact b01 | exact n01 | exact n21 | exact n31 | exact absurd trivial (by assumption)))
        all_goals (try contradiction)
        apply s_157_35
        try simp only [mi_87, fl_87_7, mi_93, ml_93, fl_93, up_93, fl_87_2, mi_90, ml_90, fl_90, up_90, true_and, and_true, true_or, or_true, implies_true, b10_0, b10_1]
        repeat' (first | refine And.intro ?_ ?_ | intro _)
        all_goals (try (first | omega | (unfold r32; omega) | exact hQ | exact qe hQ (by omega) | exact qe hQ (by (repeat' split) <;> omega) | exact b01 | exact n01 | exact n21 | exact n31 | exact absurd trivial (by assumption)))
        apply s_157_36
        try simp only [mi_87, fl_87_7, mi_93, ml_93, fl_93, up_93, fl_87_2, mi_90, ml_90, fl_90, up_90, true_and, and_true, true_or, or_true, implies_true, b10_0, b10_1]
        repeat' (first | refine And.intro ?_ ?_ | intro _)
        all_goals (try (first | omega | (unfold r32; omega) | exact hQ | exact qe hQ (by omega) | exact qe hQ (by (repeat' split) <;> omega) | exact b01 | exact n01 | exact n21 | exact n31 | exact absurd trivial (by assumption)))
        all_goals (try exact nx)
    · have q0 := hno (fun z => h1 z.1)
      have nx := zero 0 q0
      have c2 := c1.2 h1
      clear hy hno zero nc c1 h1 hr hbar
      apply s_157_0
      try simp only [mi_87, fl_87_7, mi_93, ml_93, fl_93, up_93, fl_87_2, mi_90, ml_90, fl_90, up_90, em, true_and, and_true, true_or, or_true, implies_true, b10_0, b10_1]
      repeat' (first | refine And.intro ?_ ?_ | intro _)
      all_goals (try (first | omega | (unfold r32; omega) | exact hQ | exact qe hQ (by omega) | exact qe hQ (by (repeat' split) <;> omega) | exact b01 | exact n01 | exact n21 | exact n31 | exact absurd trivial (by assumption)))
      refine c2 _ _ (by omega) ?_
      apply s_157_14
      try simp only [mi_87, fl_87_7, mi_93, ml_93, fl_93, up_93, fl_87_2, mi_90, ml_90, fl_90, up_90, true_and, and_true, true_or, or_true, implies_true, b10_0, b10_1]
      repeat' (first | refine And.intro ?_ ?_ | intro _)
      all_goals (try (first | omega | (unfold r32; omega) | exact hQ | exact qe hQ (by omega) | exact qe hQ (by (repeat' split) <;> omega) | exact b01 | exact n01 | exact n21 | exact n31 | exact absurd trivial (by assumption)))
      all_goals (try contradiction)
      apply s_157_35
      try simp only [mi_87, fl_87_7, mi_93, ml_93, fl_93, up_93, fl_87_2, mi_90, ml_90, fl_90, up_90, true_and, and_true, true_or, or_true, implies_true, b10_0, b10_1]
      repeat' (first | refine And.intro ?_ ?_ | intro _)
      all_goals (try (first | omega | (unfold r32; omega) | exact hQ | exact qe hQ (by omega) | exact qe hQ (by (repeat' split) <;> omega) | exact b01 | exact n01 | exact n21 | exact n31 | exact absurd trivial (by assumption)))
      apply s_157_36
      try simp only [mi_87, fl_87_7, mi_93, ml_93, fl_93, up_93, fl_87_2, mi_90, ml_90, fl_90, up_90, true_and, and_true, true_or, or_true, implies_true, b10_0, b10_1]
      repeat' (first | refine And.intro ?_ ?_ | intro _)
      all_goals (try (first | omega | (unfold r32; omega) | exact hQ | exact qe hQ (by omega) | exact qe hQ (by (repeat' split) <;> omega) | exact b01 | exact n01 | exact n21 | exact n31 | exact absurd trivial (by assumption)))
      all_goals (try exact nx)
  exact ⟨fun hz d Q hd hQ => run d Q hd (fun _ => hQ) (fun hn => absurd hz hn), fun hz d Q hd hQ => run d Q hd (fun hy => absurd hy hz) (fun _ => hQ)⟩
