/-! the cost of a clock: its drops sorted, held against what was heard -/
def fup (d : Nat → Int) (i : Nat) (v : Int) : Nat → Int := fun k => if k = i then v else d k
def insL (t : Int) : Nat → (Nat → Int) → (Nat → Int)
  | 0, d => fup d 0 t
  | p + 1, d => if t < d p then insL t p (fup d (p + 1) (d p)) else fup d (p + 1) t
theorem insL_s {t : Int} {p : Nat} {d : Nat → Int} : insL t (p + 1) d = if t < d p then insL t p (fup d (p + 1) (d p)) else fup d (p + 1) t := rfl
theorem insL_b {t lo hi : Int} (ht : lo ≤ t ∧ t ≤ hi) : ∀ (p : Nat) (d : Nat → Int), (∀ i, lo ≤ d i ∧ d i ≤ hi) → ∀ i, lo ≤ insL t p d i ∧ insL t p d i ≤ hi := by
  intro p
  induction p with
  | zero => intro d hd i; unfold insL fup; split; exact ht; exact hd i
  | succ p ih =>
    intro d hd i
    unfold insL
    split
    · refine ih _ (fun k => ?_) i
      unfold fup
      split
      · exact hd p
      · exact hd k
    · unfold fup
      split
      · exact ht
      · exact hd i
def srtF (bc bl : Nat → Int) (s : mF) (c : Nat) : Nat → Nat × (Nat → Int)
  | 0 => (0, fun _ => 0)
  | k + 1 => if bc k = (c : Int) ∧ s (3 + c) (bl k).toNat ≠ -1 then ((srtF bc bl s c k).1 + 1, insL (s (3 + c) (bl k).toNat) (srtF bc bl s c k).1 (srtF bc bl s c k).2) else srtF bc bl s c k
theorem srtF_b {bc bl : Nat → Int} {s : mF} {c : Nat} {M : Int} (hM : 0 ≤ M) : ∀ k : Nat, (∀ i, i < k → 0 ≤ bl i ∧ bl i ≤ 35) → (∀ i, i < 36 → -1 ≤ s (3 + c) i ∧ s (3 + c) i ≤ M) → (srtF bc bl s c k).1 ≤ k ∧ ∀ i, 0 ≤ (srtF bc bl s c k).2 i ∧ (srtF bc bl s c k).2 i ≤ M := by
  intro k
  induction k with
  | zero => intro _ _; exact ⟨Nat.le_refl _, fun i => ⟨Int.le_refl _, hM⟩⟩
  | succ k ih =>
    intro h1 h2
    obtain ⟨a, b⟩ := ih (fun i hi => h1 i (by omega)) h2
    unfold srtF
    by_cases hz : bc k = (c : Int) ∧ s (3 + c) (bl k).toNat ≠ -1
    · rw [if_pos hz]
      refine ⟨by show _ + 1 ≤ k + 1; omega, ?_⟩
      have q := h1 k (by omega)
      have y := h2 (bl k).toNat (by omega)
      exact insL_b (by omega) _ _ b
    · rw [if_neg hz]
      exact ⟨by omega, b⟩
def pd (dr he : Nat → Int) : Nat → Nat → Int
  | 0, j => 20 * (j : Int)
  | i + 1, 0 => 20 * ((i : Int) + 1)
  | i + 1, j + 1 => min (pd dr he i j + (if 0 ≤ dr i - he j then dr i - he j else -(dr i - he j))) (min (pd dr he i (j + 1)) (pd dr he (i + 1) j) + 20)
theorem pd_b (dr he : Nat → Int) : ∀ i j : Nat, 0 ≤ pd dr he i j ∧ pd dr he i j ≤ 20 * ((i : Int) + (j : Int)) := by
  intro i
  induction i with
  | zero => intro j; unfold pd; omega
  | succ i ihi =>
    intro j
    induction j with
    | zero => unfold pd; omega
    | succ j ihj =>
      have a := ihi j
      have b := ihi (j + 1)
      unfold pd
      split <;> omega
/-- what clock c costs in the night s -/
def CV (g s : mF) (c : Nat) : Int := pd (srtF (g 44) (g 45) s c (g 43 0).toNat).2 (g 46) (srtF (g 44) (g 45) s c (g 43 0).toNat).1 (g 43 1).toNat
theorem c6 (X : mX) {g s : mF} {k c x : Nat} (hk : k < 12) (hc : c < 4) (hx : x < 36) (h44 : g 44 k = (c : Int)) (h45 : g 45 k = (x : Int)) (hS : CS g s) : Ret X 0 6 [(2, 44), (0, (k : Int)), (2, 12)] g (some (0, s (3 + c) x)) g := by
  intro d Q hd hQ
  have z := ((hS c hc).2.2.2 x hx).1
  have ek : ((k : Int)).toNat = k := by omega
  have e0 : ((c : Int)).toNat = c := by omega
  have ex : ((x : Int)).toNat = x := by omega
  apply s_6_0
  try simp only [mi_12, fl_12_0, mi_13, ml_13, fl_13, mi_44, fl_44_2, mi_45, ml_45, fl_45, up_45, cm_o, cl_7, cm_7, cn_7, ca_7, cz_7, fl_44_3, mi_46, ml_46, fl_46, up_46, ek, h44, e0, hc, h45, ex, z, true_and, and_true, true_or, or_true, implies_true, b10_0, b10_1]
  repeat' (first | refine And.intro ?_ ?_ | intro _)
  all_goals (try (first | omega | (unfold r32; omega) | exact hQ | exact qe hQ (by omega) | exact qe hQ (by (repeat' split) <;> omega) | exact b01 | exact n01 | exact n21 | exact n31 | exact absurd trivial (by assumption)))
theorem c10 (X : mX) {g s : mF} {c : Nat} (hc : c < 4) (hb : 0 ≤ g 43 0 ∧ g 43 0 ≤ 12) (hB : ∀ j : Nat, (j : Int) < g 43 0 → 0 ≤ g 44 j ∧ g 44 j ≤ 3 ∧ 0 ≤ g 45 j ∧ g 45 j ≤ 35) (hS : CS g s) (hsb : ∀ i, i < 36 → -1 ≤ s (3 + c) i ∧ s (3 + c) i ≤ 20000) : Rel X 1 10 [(2, 44), (0, (c : Int)), (2, 12), (3, 0), (3, 0), (3, 0), (3, 0)] g (fun ro h => ro = some (0, ((srtF (g 44) (g 45) s c (g 43 0).toNat).1 : Int)) ∧ (∀ o i, o ≠ 47 → h o i = g o i) ∧ ∀ i, i < (srtF (g 44) (g 45) s c (g 43 0).toNat).1 → h 47 i = (srtF (g 44) (g 45) s c (g 43 0).toNat).2 i) := by
  intro d Q hd hQ
  have key := lup (P := fun k => ∀ h : mF, (∀ o i, o ≠ 47 → h o i = g o i) → (∀ i, i < (srtF (g 44) (g 45) s c k).1 → h 47 i = (srtF (g 44) (g 45) s c k).2 i) → ∀ v5 v6, Wp X d SH 10 5 [(2, 44), (0, (c : Int)), (2, 12), (0, ((srtF (g 44) (g 45) s c k).1 : Int)), (0, (k : Int)), v5, v6] [] SH (fl h) Q) (g 43 0).toNat ?_ ?_ 0 (by omega)
  · skip
    apply s_10_0
    try simp only [mi_44, fl_44_0, up_44_0, fl_44_2, mi_45, ml_45, fl_45, up_45, fl_44_5, mi_48, ml_48, fl_48, up_48, true_and, and_true, true_or, or_true, implies_true, b10_0, b10_1]
    repeat' (first | refine And.intro ?_ ?_ | intro _)
    all_goals (try (first | omega | (unfold r32; omega) | exact hQ | exact qe hQ (by omega) | exact qe hQ (by (repeat' split) <;> omega) | exact b01 | exact n01 | exact n21 | exact n31 | exact absurd trivial (by assumption)))
    exact key g (fun _ _ _ => rfl) (fun i hi => absurd hi (by show ¬ i < 0; omega)) _ _
  · intro h hF hr v5 v6
    have f43 : h 43 0 = g 43 0 := hF _ _ (by omega)
    have hq := hQ _ h ⟨rfl, hF, hr⟩
    apply s_10_5
    try simp only [mi_44, fl_44_0, up_44_0, fl_44_2, mi_45, ml_45, fl_45, up_45, fl_44_5, mi_48, ml_48, fl_48, up_48, f43, true_and, and_true, true_or, or_true, implies_true, b10_0, b10_1]
    repeat' (first | refine And.intro ?_ ?_ | intro _)
    all_goals (try (first | omega | (unfold r32; omega) | exact hQ | exact qe hQ (by omega) | exact qe hQ (by (repeat' split) <;> omega) | exact b01 | exact n01 | exact n21 | exact n31 | exact absurd trivial (by assumption)))
    all_goals (try exact hq)
  · intro k hk ih h hF hr v5 v6
    have e2 : ((k : Int)).toNat = k := by omega
    have e10 : ((k + 1 : Nat) : Int) = (k : Int) + 1 := by omega
    obtain ⟨q1, q2, q3, q4⟩ := hB k (by omega)
    have f43 : h 43 0 = g 43 0 := hF _ _ (by omega)
    have f44 : h 44 k = g 44 k := hF _ _ (by omega)
    have f45 : h 45 k = g 45 k := hF _ _ (by omega)
    obtain ⟨x, hx⟩ : ∃ x : Nat, g 45 k = (x : Int) := ⟨(g 45 k).toNat, by omega⟩
    have hx36 : x < 36 := by omega
    have ex : ((x : Int)).toNat = x := by omega
    have hS' : CS h s := by
      intro c' hc'
      obtain ⟨s1, s2, s3, s4⟩ := hS c' hc'
      rw [hF _ _ (by omega), hF _ _ (by omega), hF _ _ (by omega)]
      refine ⟨s1, s2, s3, fun i hi => ?_⟩
      rw [hF _ _ (by omega), hF _ _ (by omega)]
      exact s4 i hi
    have hsr := srtF_b (bc := g 44) (bl := g 45) (s := s) (c := c) (M := 20000) (by omega) k (fun i hi => by have := hB i (by omega); omega) hsb
    unfold srtF at ih
    rw [hx, ex, e10] at ih
    generalize hm : (srtF (g 44) (g 45) s c k).1 = m at ih hr hsr
    generalize hdr : (srtF (g 44) (g 45) s c k).2 = dr at ih hr hsr
    by_cases hcl : g 44 k = (c : Int)
    · have c6' := c6 X (k := k) (by omega) hc hx36 (by rw [f44]; exact hcl) (by rw [f45]; exact hx) hS'
      by_cases hne : s (3 + c) x = -1
      · rw [if_neg (fun z => z.2 hne), hm, hdr] at ih
        rw [hne] at c6'
        apply s_10_5
        try simp only [mi_44, fl_44_0, up_44_0, fl_44_2, mi_45, ml_45, fl_45, up_45, fl_44_5, mi_48, ml_48, fl_48, up_48, f43, e2, f44, true_and, and_true, true_or, or_true, implies_true, b10_0, b10_1]
        repeat' (first | refine And.intro ?_ ?_ | intro _)
        all_goals (try (first | omega | (unfold r32; omega) | exact hQ | exact qe hQ (by omega) | exact qe hQ (by (repeat' split) <;> omega) | exact b01 | exact n01 | exact n21 | exact n31 | exact absurd trivial (by assumption)))
        refine c6' _ _ (by omega) ?_
        apply s_10_32
        try simp only [mi_44, fl_44_0, up_44_0, fl_44_2, mi_45, ml_45, fl_45, up_45, fl_44_5, mi_48, ml_48, fl_48, up_48, true_and, and_true, true_or, or_true, implies_true, b10_0, b10_1]
        repeat' (first | refine And.intro ?_ ?_ | intro _)
        all_goals (try (first | omega | (unfold r32; omega) | exact hQ | exact qe hQ (by omega) | exact qe hQ (by (repeat' split) <;> omega) | exact b01 | exact n01 | exact n21 | exact n31 | exact absurd trivial (by assumption)))
        apply s_10_36
        try simp only [mi_44, fl_44_0, up_44_0, fl_44_2, mi_45, ml_45, fl_45, up_45, fl_44_5, mi_48, ml_48, fl_48, up_48, true_and, and_true, true_or, or_true, implies_true, b10_0, b10_1]
        repeat' (first | refine And.intro ?_ ?_ | intro _)
        all_goals (try (first | omega | (unfold r32; omega) | exact hQ | exact qe hQ (by omega) | exact qe hQ (by (repeat' split) <;> omega) | exact b01 | exact n01 | exact n21 | exact n31 | exact absurd trivial (by assumption)))
        apply s_10_100
        try simp only [mi_44, fl_44_0, up_44_0, fl_44_2, mi_45, ml_45, fl_45, up_45, fl_44_5, mi_48, ml_48, fl_48, up_48, true_and, and_true, true_or, or_true, implies_true, b10_0, b10_1]
        repeat' (first | refine And.intro ?_ ?_ | intro _)
        all_goals (try (first | omega | (unfold r32; omega) | exact hQ | exact qe hQ (by omega) | exact qe hQ (by (repeat' split) <;> omega) | exact b01 | exact n01 | exact n21 | exact n31 | exact absurd trivial (by assumption)))
        exact ih h hF hr _ _
      · rw [if_pos ⟨hcl, hne⟩] at ih
        simp only [] at ih
        generalize ht : s (3 + c) x = t at ih c6' hne
        have htb := hsb x hx36
        rw [ht] at htb
        have wl : ∀ p : Nat, ∀ (h : mF) (dd : Nat → Int), p ≤ m → (∀ o i, o ≠ 47 → h o i = g o i) → (∀ i, i < p → h 47 i = dd i) → (∀ i, p < i → i ≤ m → h 47 i = dd i) → insL t p dd = insL t m dr → Wp X d SH 10 47 [(2, 44), (0, (c : Int)), (2, 12), (0, (m : Int)), (0, (k : Int)), (0, t), (0, (p : Int))] [] SH (fl h) Q := by
          have fin : ∀ p : Nat, ∀ (h : mF) (dd : Nat → Int), p ≤ m → (∀ o i, o ≠ 47 → h o i = g o i) → (∀ i, i < p → h 47 i = dd i) → (∀ i, p < i → i ≤ m → h 47 i = dd i) → fup dd p t = insL t m dr → Wp X d SH 10 88 [(2, 44), (0, (c : Int)), (2, 12), (0, (m : Int)), (0, (k : Int)), (0, t), (0, (p : Int))] [] SH (fl h) Q := by
            intro p h dd hp hF h1 h2 heq
            have e3 : ((p : Int)).toNat = p := by omega
            have hi := ih (mup h 47 p t) (fun o i ho => by rw [mup_n (by omega)]; exact hF o i ho) (fun i hi => by
              rw [← heq]
              unfold fup
              by_cases hip : i = p
              · subst hip; rw [mup_e, if_pos rfl]
              · rw [mup_n (by omega), if_neg hip]
                by_cases hlt : i < p
                · exact h1 i hlt
                · exact h2 i (by omega) (by omega))
            rw [show ((m + 1 : Nat) : Int) = (m : Int) + 1 by omega] at hi
            apply s_10_88
            try simp only [mi_44, fl_44_0, up_44_0, fl_44_2, mi_45, ml_45, fl_45, up_45, fl_44_5, mi_48, ml_48, fl_48, up_48, e3, true_and, and_true, true_or, or_true, implies_true, b10_0, b10_1]
            repeat' (first | refine And.intro ?_ ?_ | intro _)
            all_goals (try (first | omega | (unfold r32; omega) | exact hQ | exact qe hQ (by omega) | exact qe hQ (by (repeat' split) <;> omega) | exact b01 | exact n01 | exact n21 | exact n31 | exact absurd trivial (by assumption)))
            apply s_10_97
            try simp only [mi_44, fl_44_0, up_44_0, fl_44_2, mi_45, ml_45, fl_45, up_45, fl_44_5, mi_48, ml_48, fl_48, up_48, true_and, and_true, true_or, or_true, implies_true, b10_0, b10_1]
            repeat' (first | refine And.intro ?_ ?_ | intro _)
            all_goals (try (first | omega | (unfold r32; omega) | exact hQ | exact qe hQ (by omega) | exact qe hQ (by (repeat' split) <;> omega) | exact b01 | exact n01 | exact n21 | exact n31 | exact absurd trivial (by assumption)))
            apply s_10_100
            try simp only [mi_44, fl_44_0, up_44_0, fl_44_2, mi_45, ml_45, fl_45, up_45, fl_44_5, mi_48, ml_48, fl_48, up_48, true_and, and_true, true_or, or_true, implies_true, b10_0, b10_1]
            repeat' (first | refine And.intro ?_ ?_ | intro _)
            all_goals (try (first | omega | (unfold r32; omega) | exact hQ | exact qe hQ (by omega) | exact qe hQ (by (repeat' split) <;> omega) | exact b01 | exact n01 | exact n21 | exact n31 | exact absurd trivial (by assumption)))
            exact hi _ _
          intro p
          induction p with
          | zero =>
            intro h dd hp hF h1 h2 heq
            apply s_10_47
            try simp only [mi_44, fl_44_0, up_44_0, fl_44_2, mi_45, ml_45, fl_45, up_45, fl_44_5, mi_48, ml_48, fl_48, up_48, true_and, and_true, true_or, or_true, implies_true, b10_0, b10_1]
            repeat' (first | refine And.intro ?_ ?_ | intro _)
            all_goals (try (first | omega | (unfold r32; omega) | exact hQ | exact qe hQ (by omega) | exact qe hQ (by (repeat' split) <;> omega) | exact b01 | exact n01 | exact n21 | exact n31 | exact absurd trivial (by assumption)))
            all_goals (try exact fin 0 h dd hp hF h1 h2 heq)
          | succ p ihp =>
            intro h dd hp hF h1 h2 heq
            have e3 : (((p + 1 : Nat) : Int) - 1).toNat = p := by omega
            have e4 : (((p + 1 : Nat) : Int)).toNat = p + 1 := by omega
            have hp1 := h1 p (by omega)
            rw [insL_s] at heq
            by_cases hlt : t < dd p
            · rw [if_pos hlt] at heq
              have nx := ihp (mup h 47 (p + 1) (dd p)) (fup dd (p + 1) (dd p)) (by omega) (fun o i ho => by rw [mup_n (by omega)]; exact hF o i ho) (fun i hi => by
                rw [mup_n (by omega)]
                unfold fup
                rw [if_neg (by omega)]
                exact h1 i (by omega)) (fun i hi hi2 => by
                unfold fup
                by_cases hip : i = p + 1
                · subst hip; rw [mup_e, if_pos rfl]
                · rw [mup_n (by omega), if_neg hip]
                  exact h2 i (by omega) hi2) heq
              apply s_10_47
              try simp only [mi_44, fl_44_0, up_44_0, fl_44_2, mi_45, ml_45, fl_45, up_45, fl_44_5, mi_48, ml_48, fl_48, up_48, e3, e4, hp1, true_and, and_true, true_or, or_true, implies_true, b10_0, b10_1]
              repeat' (first | refine And.intro ?_ ?_ | intro _)
              all_goals (try (first | omega | (unfold r32; omega) | exact hQ | exact qe hQ (by omega) | exact qe hQ (by (repeat' split) <;> omega) | exact b01 | exact n01 | exact n21 | exact n31 | exact absurd trivial (by assumption)))
              apply s_10_82
              try simp only [mi_44, fl_44_0, up_44_0, fl_44_2, mi_45, ml_45, fl_45, up_45, fl_44_5, mi_48, ml_48, fl_48, up_48, true_and, and_true, true_or, or_true, implies_true, b10_0, b10_1]
              repeat' (first | refine And.intro ?_ ?_ | intro _)
              all_goals (try (first | omega | (unfold r32; omega) | exact hQ | exact qe hQ (by omega) | exact qe hQ (by (repeat' split) <;> omega) | exact b01 | exact n01 | exact n21 | exact n31 | exact absurd trivial (by assumption)))
              all_goals (try (rw [show ((p + 1 : Nat) : Int) + -1 = (p : Int) by omega]; exact nx))
            · rw [if_neg hlt] at heq
              have fi := fin (p + 1) h dd hp hF h1 h2 heq
              apply s_10_47
              try simp only [mi_44, fl_44_0, up_44_0, fl_44_2, mi_45, ml_45, fl_45, up_45, fl_44_5, mi_48, ml_48, fl_48, up_48, e3, e4, hp1, true_and, and_true, true_or, or_true, implies_true, b10_0, b10_1]
              repeat' (first | refine And.intro ?_ ?_ | intro _)
              all_goals (try (first | omega | (unfold r32; omega) | exact hQ | exact qe hQ (by omega) | exact qe hQ (by (repeat' split) <;> omega) | exact b01 | exact n01 | exact n21 | exact n31 | exact absurd trivial (by assumption)))
              all_goals (try exact fi)
        have w0 := wl m h dr (Nat.le_refl _) hF hr (fun i h1 h2 => absurd h1 (by omega)) rfl
        apply s_10_5
        try simp only [mi_44, fl_44_0, up_44_0, fl_44_2, mi_45, ml_45, fl_45, up_45, fl_44_5, mi_48, ml_48, fl_48, up_48, f43, e2, f44, true_and, and_true, true_or, or_true, implies_true, b10_0, b10_1]
        repeat' (first | refine And.intro ?_ ?_ | intro _)
        all_goals (try (first | omega | (unfold r32; omega) | exact hQ | exact qe hQ (by omega) | exact qe hQ (by (repeat' split) <;> omega) | exact b01 | exact n01 | exact n21 | exact n31 | exact absurd trivial (by assumption)))
        refine c6' _ _ (by omega) ?_
        apply s_10_32
        try simp only [mi_44, fl_44_0, up_44_0, fl_44_2, mi_45, ml_45, fl_45, up_45, fl_44_5, mi_48, ml_48, fl_48, up_48, true_and, and_true, true_or, or_true, implies_true, b10_0, b10_1]
        repeat' (first | refine And.intro ?_ ?_ | intro _)
        all_goals (try (first | omega | (unfold r32; omega) | exact hQ | exact qe hQ (by omega) | exact qe hQ (by (repeat' split) <;> omega) | exact b01 | exact n01 | exact n21 | exact n31 | exact absurd trivial (by assumption)))
        apply s_10_36
        try simp only [mi_44, fl_44_0, up_44_0, fl_44_2, mi_45, ml_45, fl_45, up_45, fl_44_5, mi_48, ml_48, fl_48, up_48, true_and, and_true, true_or, or_true, implies_true, b10_0, b10_1]
        repeat' (first | refine And.intro ?_ ?_ | intro _)
        all_goals (try (first | omega | (unfold r32; omega) | exact hQ | exact qe hQ (by omega) | exact qe hQ (by (repeat' split) <;> omega) | exact b01 | exact n01 | exact n21 | exact n31 | exact absurd trivial (by assumption)))
        all_goals (try exact w0)
    · rw [if_neg (fun z => hcl z.1), hm, hdr] at ih
      apply s_10_5
      try simp only [mi_44, fl_44_0, up_44_0, fl_44_2, mi_45, ml_45, fl_45, up_45, fl_44_5, mi_48, ml_48, fl_48, up_48, f43, e2, f44, true_and, and_true, true_or, or_true, implies_true, b10_0, b10_1]
      repeat' (first | refine And.intro ?_ ?_ | intro _)
      all_goals (try (first | omega | (unfold r32; omega) | exact hQ | exact qe hQ (by omega) | exact qe hQ (by (repeat' split) <;> omega) | exact b01 | exact n01 | exact n21 | exact n31 | exact absurd trivial (by assumption)))
      apply s_10_36
      try simp only [mi_44, fl_44_0, up_44_0, fl_44_2, mi_45, ml_45, fl_45, up_45, fl_44_5, mi_48, ml_48, fl_48, up_48, true_and, and_true, true_or, or_true, implies_true, b10_0, b10_1]
      repeat' (first | refine And.intro ?_ ?_ | intro _)
      all_goals (try (first | omega | (unfold r32; omega) | exact hQ | exact qe hQ (by omega) | exact qe hQ (by (repeat' split) <;> omega) | exact b01 | exact n01 | exact n21 | exact n31 | exact absurd trivial (by assumption)))
      apply s_10_100
      try simp only [mi_44, fl_44_0, up_44_0, fl_44_2, mi_45, ml_45, fl_45, up_45, fl_44_5, mi_48, ml_48, fl_48, up_48, true_and, and_true, true_or, or_true, implies_true, b10_0, b10_1]
      repeat' (first | refine And.intro ?_ ?_ | intro _)
      all_goals (try (first | omega | (unfold r32; omega) | exact hQ | exact qe hQ (by omega) | exact qe hQ (by (repeat' split) <;> omega) | exact b01 | exact n01 | exact n21 | exact n31 | exact absurd trivial (by assumption)))
      exact ih h hF hr _ _
