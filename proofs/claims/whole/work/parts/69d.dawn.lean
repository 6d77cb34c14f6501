/-! dawn -/
def bnt (pw bb : Nat → Int) (n : Nat) (p : Int) : Int := sumN n (fun i => if bb i ≠ -1 ∧ pw i = p then 1 else 0)
theorem bnt_b (pw bb : Nat → Int) (n : Nat) (p : Int) : 0 ≤ bnt pw bb n p ∧ bnt pw bb n p ≤ (n : Int) := by
  unfold bnt
  have z := sumN_b (n := n) (a := fun i => if bb i ≠ -1 ∧ pw i = p then (1 : Int) else 0) (lo := 0) (hi := 1) (fun i _ => by (try simp only []); split <;> omega)
  omega
theorem bnt_s {pw bb : Nat → Int} {n : Nat} {p : Int} : bnt pw bb (n + 1) p = bnt pw bb n p + (if bb n ≠ -1 ∧ pw n = p then 1 else 0) := rfl
def cntB (bb : Nat → Int) (n : Nat) : Int := sumN n (fun i => if bb i = -1 then 0 else 1)
theorem cntB_s {bb : Nat → Int} {n : Nat} : cntB bb (n + 1) = cntB bb n + (if bb n = -1 then 0 else 1) := rfl
theorem cntB_b (bb : Nat → Int) (n : Nat) : 0 ≤ cntB bb n ∧ cntB bb n ≤ (n : Int) := by
  unfold cntB
  have z := sumN_b (n := n) (a := fun i => if bb i = -1 then (0 : Int) else 1) (lo := 0) (hi := 1) (fun i _ => by (try simp only []); split <;> omega)
  omega
theorem c80 (X : mX) (g : mF) {p : Nat} (hp : p < 8) (hb : 0 ≤ g 10 p ∧ g 10 p ≤ 1000000) : Ret X 0 80 [(2, 9), (0, (p : Int))] g none (mup g 10 p (g 10 p + 1)) := by
  intro d Q hd hQ
  have e2 : ((p : Int)).toNat = p := by omega
  repeat' (first
    | (exfalso; omega)
    | (exact absurd trivial (by assumption))
    | (apply s_80_0; try simp only [mi_9, fl_9_1, mi_11, ml_11, fl_11, up_11, e2, true_and, and_true, true_or, or_true, implies_true, b10_0, b10_1])
    | (refine And.intro ?_ ?_)
    | (intro _)
    | omega
    | (unfold r32; omega)
    | (exact hQ)
    | (exact qe hQ (by omega))
    | (exact qe hQ (by (repeat' split) <;> omega))
    | (exact b01)
    | (exact n01)
    | (exact n21)
    | (exact n31))
theorem c138 (X : mX) {m : mF} {c : Nat} (hc : c < 4) {n : Int} {pw bb : Nat → Int} (hn : 0 ≤ n ∧ n ≤ 36) (h0 : m (19 + 6 * c) 0 = n) (hpw : ∀ i : Nat, (i : Int) < n → m (20 + 6 * c) i = pw i ∧ (bb i ≠ -1 → 0 ≤ pw i ∧ pw i ≤ 7)) (hbb : ∀ i : Nat, (i : Int) < n → m (21 + 6 * c) i = bb i) (h10 : ∀ p, p < 8 → 0 ≤ m 10 p ∧ m 10 p ≤ 100000) : Rel X 1 138 [(2, 1), (2, 20 + 6 * (c : Int)), (3, 0), (3, 0)] m (fun ro h => ro = some (0, cntB bb n.toNat) ∧ (∀ o k, o ≠ 10 → o ≠ 20 + 6 * c → h o k = m o k) ∧ (∀ p : Nat, p < 8 → h 10 p = m 10 p + bnt pw bb n.toNat (p : Int)) ∧ (∀ k : Nat, (k : Int) < n → h (20 + 6 * c) k = if bb k = -1 then pw k else -1) ∧ ∀ k : Nat, n ≤ (k : Int) → h (20 + 6 * c) k = m (20 + 6 * c) k) := by
  intro d Q hd hQ
  have key := lup (P := fun i => ∀ h : mF, (∀ o k, o ≠ 10 → o ≠ 20 + 6 * c → h o k = m o k) → (∀ p : Nat, p < 8 → h 10 p = m 10 p + bnt pw bb i (p : Int)) → (∀ k, k < i → h (20 + 6 * c) k = if bb k = -1 then pw k else -1) → (∀ k, i ≤ k → h (20 + 6 * c) k = m (20 + 6 * c) k) → Wp X d SH 138 4 [(2, 1), (2, 20 + 6 * (c : Int)), (0, cntB bb i), (0, (i : Int))] [] SH (fl h) Q) n.toNat ?_ ?_ 0 (by omega)
  · have k0 := key m (fun _ _ _ _ => rfl) (fun p hp => by show m 10 p = m 10 p + 0; omega) (fun k hk => absurd hk (by omega)) (fun _ _ => rfl)
    apply s_138_0
    try simp only [cm_o, cl_0, cu_0, cl_7, cm_7, cn_7, ca_7, cz_7, mi_1, fl_1_3, mi_9, cl_1, cm_1, cn_1, ca_1, cz_1, true_and, and_true, true_or, or_true, implies_true, b10_0, b10_1]
    repeat' (first | refine And.intro ?_ ?_ | intro _)
    all_goals (try (first | omega | (unfold r32; omega) | exact hQ | exact qe hQ (by omega) | exact qe hQ (by (repeat' split) <;> omega) | exact b01 | exact n01 | exact n21 | exact n31 | exact absurd trivial (by assumption)))
    all_goals (try exact k0)
  · intro h hF h1 h2 h3
    have f0 : h (19 + 6 * c) 0 = n := by rw [hF _ _ (by omega) (by omega)]; exact h0
    have hq := hQ _ h ⟨rfl, hF, h1, fun k hk => h2 k (by omega), fun k hk => h3 k (by omega)⟩
    apply s_138_4
    try simp only [cm_o, cl_0, cu_0, cl_7, cm_7, cn_7, ca_7, cz_7, mi_1, fl_1_3, mi_9, cl_1, cm_1, cn_1, ca_1, cz_1, hc, f0, true_and, and_true, true_or, or_true, implies_true, b10_0, b10_1]
    repeat' (first | refine And.intro ?_ ?_ | intro _)
    all_goals (try (first | omega | (unfold r32; omega) | exact hQ | exact qe hQ (by omega) | exact qe hQ (by (repeat' split) <;> omega) | exact b01 | exact n01 | exact n21 | exact n31 | exact absurd trivial (by assumption)))
    all_goals (try exact hq)
  · intro i hi ih h hF h1 h2 h3
    have e2 : ((i : Int)).toNat = i := by omega
    have e10 : ((i + 1 : Nat) : Int) = (i : Int) + 1 := by omega
    have f0 : h (19 + 6 * c) 0 = n := by rw [hF _ _ (by omega) (by omega)]; exact h0
    have f21 : h (21 + 6 * c) i = bb i := by rw [hF _ _ (by omega) (by omega)]; exact hbb i (by omega)
    obtain ⟨p1, p2⟩ := hpw i (by omega)
    have f20 : h (20 + 6 * c) i = pw i := by rw [h3 i (Nat.le_refl _)]; exact p1
    have hcb := cntB_b bb i
    rw [e10, cntB_s] at ih
    by_cases hz : bb i = -1
    · rw [if_pos hz, Int.add_zero] at ih
      have nx := ih h hF (fun p hp => by rw [bnt_s, if_neg (fun z => z.1 hz), Int.add_zero]; exact h1 p hp) (fun k hk => by
        by_cases hki : k = i
        · subst hki; rw [if_pos hz]; exact f20
        · exact h2 k (by omega)) (fun k hk => h3 k (by omega))
      apply s_138_4
      try simp only [cm_o, cl_0, cu_0, cl_7, cm_7, cn_7, ca_7, cz_7, mi_1, fl_1_3, mi_9, cl_1, cm_1, cn_1, ca_1, cz_1, hc, f0, e2, f21, true_and, and_true, true_or, or_true, implies_true, b10_0, b10_1]
      repeat' (first | refine And.intro ?_ ?_ | intro _)
      all_goals (try (first | omega | (unfold r32; omega) | exact hQ | exact qe hQ (by omega) | exact qe hQ (by (repeat' split) <;> omega) | exact b01 | exact n01 | exact n21 | exact n31 | exact absurd trivial (by assumption)))
      apply s_138_45
      try simp only [cm_o, cl_0, cu_0, cl_7, cm_7, cn_7, ca_7, cz_7, mi_1, fl_1_3, mi_9, cl_1, cm_1, cn_1, ca_1, cz_1, true_and, and_true, true_or, or_true, implies_true, b10_0, b10_1]
      repeat' (first | refine And.intro ?_ ?_ | intro _)
      all_goals (try (first | omega | (unfold r32; omega) | exact hQ | exact qe hQ (by omega) | exact qe hQ (by (repeat' split) <;> omega) | exact b01 | exact n01 | exact n21 | exact n31 | exact absurd trivial (by assumption)))
      all_goals (try exact nx)
    · rw [if_neg hz] at ih
      have hpb := p2 hz
      obtain ⟨q0, hq0⟩ : ∃ q0 : Nat, pw i = (q0 : Int) := ⟨(pw i).toNat, by omega⟩
      have hq08 : q0 < 8 := by omega
      have hb10 := h1 q0 hq08
      have hm10 := h10 q0 hq08
      have hbn := bnt_b pw bb i (q0 : Int)
      have c80' := c80 X h hq08 (by omega)
      generalize hh2 : mup h 10 q0 (h 10 q0 + 1) = h2' at c80'
      have f2 : ∀ o k, ¬ (o = 10 ∧ k = q0) → h2' o k = h o k := fun o k ho => by rw [← hh2, mup_n ho]
      have nx := ih (mup h2' (20 + 6 * c) i (-1)) (fun o k q1 q2 => by rw [mup_n (by omega), f2 _ _ (by omega)]; exact hF o k q1 q2) (fun p hp => by
        rw [bnt_s, mup_n (by omega)]
        by_cases hpq : p = q0
        · subst hpq
          rw [if_pos ⟨hz, hq0⟩, ← hh2, mup_e, hb10]
          omega
        · rw [if_neg (fun z => hpq (by have := z.2; omega)), f2 _ _ (by omega), Int.add_zero]
          exact h1 p hp) (fun k hk => by
        by_cases hki : k = i
        · subst hki; rw [mup_e, if_neg hz]
        · rw [mup_n (by omega), f2 _ _ (by omega)]; exact h2 k (by omega)) (fun k hk => by rw [mup_n (by omega), f2 _ _ (by omega)]; exact h3 k (by omega))
      apply s_138_4
      try simp only [cm_o, cl_0, cu_0, cl_7, cm_7, cn_7, ca_7, cz_7, mi_1, fl_1_3, mi_9, cl_1, cm_1, cn_1, ca_1, cz_1, hc, f0, e2, f21, f20, hq0, true_and, and_true, true_or, or_true, implies_true, b10_0, b10_1]
      repeat' (first | refine And.intro ?_ ?_ | intro _)
      all_goals (try (first | omega | (unfold r32; omega) | exact hQ | exact qe hQ (by omega) | exact qe hQ (by (repeat' split) <;> omega) | exact b01 | exact n01 | exact n21 | exact n31 | exact absurd trivial (by assumption)))
      refine c80' _ _ (by omega) ?_
      apply s_138_35
      try simp only [cm_o, cl_0, cu_0, cl_7, cm_7, cn_7, ca_7, cz_7, mi_1, fl_1_3, mi_9, cl_1, cm_1, cn_1, ca_1, cz_1, hc, e2, true_and, and_true, true_or, or_true, implies_true, b10_0, b10_1]
      repeat' (first | refine And.intro ?_ ?_ | intro _)
      all_goals (try (first | omega | (unfold r32; omega) | exact hQ | exact qe hQ (by omega) | exact qe hQ (by (repeat' split) <;> omega) | exact b01 | exact n01 | exact n21 | exact n31 | exact absurd trivial (by assumption)))
      apply s_138_42
      try simp only [cm_o, cl_0, cu_0, cl_7, cm_7, cn_7, ca_7, cz_7, mi_1, fl_1_3, mi_9, cl_1, cm_1, cn_1, ca_1, cz_1, true_and, and_true, true_or, or_true, implies_true, b10_0, b10_1]
      repeat' (first | refine And.intro ?_ ?_ | intro _)
      all_goals (try (first | omega | (unfold r32; omega) | exact hQ | exact qe hQ (by omega) | exact qe hQ (by (repeat' split) <;> omega) | exact b01 | exact n01 | exact n21 | exact n31 | exact absurd trivial (by assumption)))
      apply s_138_45
      try simp only [cm_o, cl_0, cu_0, cl_7, cm_7, cn_7, ca_7, cz_7, mi_1, fl_1_3, mi_9, cl_1, cm_1, cn_1, ca_1, cz_1, true_and, and_true, true_or, or_true, implies_true, b10_0, b10_1]
      repeat' (first | refine And.intro ?_ ?_ | intro _)
      all_goals (try (first | omega | (unfold r32; omega) | exact hQ | exact qe hQ (by omega) | exact qe hQ (by (repeat' split) <;> omega) | exact b01 | exact n01 | exact n21 | exact n31 | exact absurd trivial (by assumption)))
      all_goals (try exact nx)
/-- what dawn may change -/
def DC (g g' : mF) : Prop := ∀ o k, ¬ (o = 11 ∧ (k = 1 ∨ k = 2 ∨ k = 3) ∨ ((o = 19 ∨ o = 25 ∨ o = 31 ∨ o = 37) ∧ (k = 2 ∨ k = 4 ∨ k = 5 ∨ k = 6 ∨ k = 11) ∨ o = 21 ∨ o = 27 ∨ o = 33 ∨ o = 39 ∨ o = 22 ∨ o = 28 ∨ o = 34 ∨ o = 40 ∨ o = 24 ∨ o = 30 ∨ o = 36 ∨ o = 42 ∨ o = 20 ∨ o = 26 ∨ o = 32 ∨ o = 38) ∨ 111 ≤ o ∧ o ≤ 116 ∨ o = 86 ∧ (k = 36 ∨ k = 37 ∨ k = 20 ∨ k = 22) ∨ o = 10 ∨ o = 98 ∨ o = 102 ∨ o = 103) → g' o k = g o k
theorem T_dawn (X : mX) (g : mF) {n : Nat} (hn : n < 512) (h : NI g) (hS : Istore n g) : PR X 114 202 [(2, 1), (3, 0), (3, 0)] [(2, 87), (3, 0), (3, 0), (3, 0)] g (fun g2 => (∀ c, c < 4 → Iclk g2 c) ∧ Istore (n + 1) g2 ∧ DC g g2 ∧ (g2 11 1 = 0 ∧ g2 86 20 = 0 ∧ g2 11 2 = 0 ∧ g2 86 22 = 0 ∧ g2 11 3 = 0)) := by
  have kn' := kn X h
  have hC := h.2.1
  have hL := h.2.2.1
  have hA := h.2.2.2.2.1
  intro d Q hd hQ
  have hnb : ∀ c, c < 4 → 0 ≤ g (19 + 6 * c) 0 ∧ g (19 + 6 * c) 0 ≤ 36 := fun c hc => ⟨(hC c hc).2.1, (hC c hc).2.2.1⟩
  -- the sums
  generalize hcn : (fun c : Nat => cntB (NN g (3 + c)) (g (19 + 6 * c) 0).toNat) = cn
  generalize hbn : (fun (p c : Nat) => bnt (g (20 + 6 * c)) (NN g (3 + c)) (g (19 + 6 * c) 0).toNat (p : Int)) = bn
  have hcn' : ∀ c : Nat, cn c = cntB (NN g (3 + c)) (g (19 + 6 * c) 0).toNat := fun c => by rw [← hcn]
  have hbn' : ∀ p c : Nat, bn p c = bnt (g (20 + 6 * c)) (NN g (3 + c)) (g (19 + 6 * c) 0).toNat (p : Int) := fun p c => by rw [← hbn]
  have hcb : ∀ c, c < 4 → 0 ≤ cn c ∧ cn c ≤ 36 := fun c hc => by rw [hcn']; have := cntB_b (NN g (3 + c)) (g (19 + 6 * c) 0).toNat; have := hnb c hc; omega
  have hbb : ∀ p c, c < 4 → 0 ≤ bn p c ∧ bn p c ≤ 36 := fun p c hc => by rw [hbn']; have := bnt_b (g (20 + 6 * c)) (NN g (3 + c)) (g (19 + 6 * c) 0).toNat (p : Int); have := hnb c hc; omega
  have h10b : ∀ p, p < 8 → 0 ≤ g 10 p ∧ g 10 p ≤ 60000 := fun p hp => by
    have z := weW_b hn hS hC hp 3
    omega
  have fin : ∀ g1 : mF, SI (inp g) 18959 (NN g) → (∀ o k, ¬ (o = 11 ∧ (k = 1 ∨ k = 2 ∨ k = 3) ∨ ((o = 19 ∨ o = 25 ∨ o = 31 ∨ o = 37) ∧ (k = 2 ∨ k = 4 ∨ k = 5 ∨ k = 6 ∨ k = 11) ∨ o = 21 ∨ o = 27 ∨ o = 33 ∨ o = 39 ∨ o = 22 ∨ o = 28 ∨ o = 34 ∨ o = 40 ∨ o = 24 ∨ o = 30 ∨ o = 36 ∨ o = 42 ∨ o = 20 ∨ o = 26 ∨ o = 32 ∨ o = 38) ∨ o = 10) → g1 o k = g o k) → (∀ p, p < 8 → g1 10 p = g 10 p + sumN 4 (bn p)) → (∀ c k : Nat, c < 4 → (k : Int) < g (19 + 6 * c) 0 → g1 (20 + 6 * c) k = if NN g (3 + c) k = -1 then g (20 + 6 * c) k else -1) → (∀ c k : Nat, c < 4 → g (19 + 6 * c) 0 ≤ (k : Int) → g1 (20 + 6 * c) k = g (20 + 6 * c) k) → (g1 11 1 = 0 ∧ g1 11 2 = 0 ∧ g1 11 3 = 0) → (∀ c, c < 4 → g1 (19 + 6 * c) 2 = -1) → Q (some (0, sumN 4 cn)) (fl g1) := by
    intro g1 hI hF h10 h20 h20' h11 hhand
    refine hQ _ g1 ⟨_, rfl, ?_⟩
    clear hQ
    intro d Q hd hQ
    have fn' := fnG X h (g1 := g1) (fun o k ho => hF o k (by omega))
    have hpw : ∀ c i : Nat, c < 4 → (i : Int) < g (19 + 6 * c) 0 → NN g (3 + c) i ≠ -1 → 0 ≤ g (20 + 6 * c) i ∧ g (20 + 6 * c) i ≤ 7 := by
      intro c i hc hi hne
      have hnc := hnb c hc
      have z := ((hI c hc).2.2.2 i (by omega)).2 hne
      have z2 := z.2.2
      rw [inp_e (by unfold InpS; omega)] at z2
      exact ⟨z2, ((hC c hc).2.2.2.2.1 i (by omega)).2⟩
    have loop := lup (P := fun c => ∀ m : mF, ∀ g2 : mF, FM g1 g2 → MS g2 (NN g) → (∀ o k, o ≠ 98 → o ≠ 102 → m o k = g2 o k) → (∀ p, p < 8 → m 98 p = g 10 p + sumN c (bn p)) → (∀ c' k : Nat, c' < c → (k : Int) < g (19 + 6 * c') 0 → m 102 (36 * c' + k) = if NN g (3 + c') k = -1 then g (20 + 6 * c') k else -1) → (∀ k, 36 * c ≤ k → m 102 k = g 102 k) → ∀ v3, Wp X d SH 202 8 [(2, 87), (0, sumN c cn), (0, (c : Int)), v3] [] SH (fl m) Q) 4 ?_ ?_ 0 (by omega)
    · skip
      apply s_202_0
      try simp only [mi_87, fl_87_14, mi_100, ml_100, fl_100, up_100, fl_87_33, mi_115, ml_115, fl_115, up_115, fl_87_13, mi_99, ml_99, fl_99, up_99, fl_87_17, mi_103, ml_103, fl_103, up_103, true_and, and_true, true_or, or_true, implies_true, b10_0, b10_1]
      repeat' (first | refine And.intro ?_ ?_ | intro _)
      all_goals (try (first | omega | (unfold r32; omega) | exact hQ | exact qe hQ (by omega) | exact qe hQ (by (repeat' split) <;> omega) | exact b01 | exact n01 | exact n21 | exact n31 | exact absurd trivial (by assumption)))
      refine fn' _ _ (by omega) ?_
      rintro _ g2 ⟨rfl, hM, hS2⟩
      apply s_202_4
      try simp only [mi_87, fl_87_14, mi_100, ml_100, fl_100, up_100, fl_87_33, mi_115, ml_115, fl_115, up_115, fl_87_13, mi_99, ml_99, fl_99, up_99, fl_87_17, mi_103, ml_103, fl_103, up_103, true_and, and_true, true_or, or_true, implies_true, b10_0, b10_1]
      repeat' (first | refine And.intro ?_ ?_ | intro _)
      all_goals (try (first | omega | (unfold r32; omega) | exact hQ | exact qe hQ (by omega) | exact qe hQ (by (repeat' split) <;> omega) | exact b01 | exact n01 | exact n21 | exact n31 | exact absurd trivial (by assumption)))
      exact loop g2 g2 hM hS2 (fun _ _ _ _ => rfl) (fun p hp => by rw [hM _ _ (by omega), hF _ _ (by omega), (hS.2.1 p hp).1]; simp only [sumN]; omega) (fun c' k hc' => absurd hc' (by omega)) (fun k _ => by rw [hM _ _ (by omega), hF _ _ (by omega)]) _
    · intro m g2 hM hS2 hmF h98 h102 h102' v3
      have f20 : m 86 20 = g 11 1 := by rw [hmF _ _ (by omega) (by omega), hM _ _ (by omega), hF _ _ (by omega)]; exact hL.1.1
      have f22 : m 86 22 = g 11 2 := by rw [hmF _ _ (by omega) (by omega), hM _ _ (by omega), hF _ _ (by omega)]; exact hA.2.1
      have c197' := c197 X m (by rw [f20, f22]; have := hL.1; have := hA.1.1; omega)
      generalize hm1 : mfl (mup (mup m 86 20 0) 86 22 0) 103 0 4 (-1) = m1 at c197'
      have fm1 : ∀ o k, ¬ (o = 86 ∧ (k = 20 ∨ k = 22) ∨ o = 103 ∧ k < 4) → m1 o k = m o k := fun o k ho => by rw [← hm1, mfl_n (by omega), mup_n (by omega), mup_n (by omega)]
      have w1 : m1 86 20 = 0 := by rw [← hm1, mfl_n (by omega), mup_n (by omega), mup_e]
      have w2 : m1 86 22 = 0 := by rw [← hm1, mfl_n (by omega), mup_e]
      have w3 : ∀ c, c < 4 → m1 103 c = -1 := fun c hc => by rw [← hm1, mfl_e (by omega)]
      -- m1 against g1 and g
      have q1 : ∀ o k, ¬ (111 ≤ o ∧ o ≤ 116 ∨ o = 86 ∧ (k = 36 ∨ k = 37 ∨ k = 20 ∨ k = 22) ∨ o = 98 ∨ o = 102 ∨ o = 103) → m1 o k = g1 o k := fun o k ho => by rw [fm1 _ _ (by omega), hmF _ _ (by omega) (by omega), hM _ _ (by omega)]
      have hall : DC g m1 := fun o k ho => by
        rw [fm1 _ _ (by omega), hmF _ _ (by omega) (by omega), hM _ _ (by omega)]
        exact hF o k (by omega)
      have hq : Q (some (0, sumN 4 cn)) (fl m1) := by
        refine hQ _ m1 ⟨rfl, ?_, ?_, hall, ?_, w1, ?_, w2, ?_⟩
        · intro c hc
          obtain ⟨k1, k2, k3, k4, k5, k6, k7, k8, k9, k10, k11, k12⟩ := hC c hc
          unfold Iclk
          rw [hall 99 _ (by omega), hall (19 + 6 * c) 0 (by omega), hall (19 + 6 * c) 3 (by omega), hall 104 _ (by omega), w3 c hc, q1 (19 + 6 * c) 2 (by omega), hhand c hc]
          refine ⟨k1, k2, k3, fun i hi => ?_, fun i hi => ?_, fun i hi hl => ?_, rfl, by omega, by omega, k10, k11, k12⟩
          · rw [fm1 _ _ (by omega), h102 c i hc hi, q1 _ _ (by omega), h20 c i hc hi]
          · rw [q1 _ _ (by omega)]
            have z := k5 i hi
            by_cases hz : (i : Int) < g (19 + 6 * c) 0
            · rw [h20 c i hc hz]; split <;> omega
            · rw [h20' c i hc (by omega)]; exact z
          · rw [q1 _ _ (by omega), h20' c i hc hl]
            exact k6 i hi hl
        · have cel : ∀ c (p : Nat), c < 4 → celp m1 c (p : Int) = celp g c (p : Int) - bn p c := by
            intro c p hc
            rw [hbn']
            unfold celp bnt
            rw [hall (19 + 6 * c) 0 (by omega)]
            have e : ∀ N : Nat, (N : Int) ≤ g (19 + 6 * c) 0 → sumN N (fun i => if m1 (20 + 6 * c) i = (p : Int) then (1 : Int) else 0) = sumN N (fun i => if g (20 + 6 * c) i = (p : Int) then (1 : Int) else 0) - sumN N (fun i => if NN g (3 + c) i ≠ -1 ∧ g (20 + 6 * c) i = (p : Int) then (1 : Int) else 0) := by
              intro N
              induction N with
              | zero => intro _; rfl
              | succ N ihN =>
                intro hN
                have z := ihN (by omega)
                simp only [sumN]
                rw [z, q1 _ _ (by omega), h20 c N hc (by omega)]
                by_cases hz : NN g (3 + c) N = -1
                · rw [if_pos hz]
                  rw [if_neg (show ¬ (NN g (3 + c) N ≠ -1 ∧ g (20 + 6 * c) N = (p : Int)) from fun y => y.1 hz)]
                  omega
                · rw [if_neg hz]
                  by_cases hy : g (20 + 6 * c) N = (p : Int)
                  · rw [if_neg (show ¬ ((-1 : Int) = (p : Int)) by omega), if_pos hy, if_pos ⟨hz, hy⟩]
                    omega
                  · rw [if_neg (show ¬ ((-1 : Int) = (p : Int)) by omega), if_neg hy, if_neg (fun y => hy y.2)]
                    omega
            have hnc := hnb c hc
            exact e _ (by omega)
          refine ⟨fun k hk => ?_, fun p hp => ?_, fun p hp => ?_⟩
          · rw [hall 96 _ (by omega), hall 9 _ (by omega)]
            exact hS.1 k hk
          · have z : m1 98 p = g 10 p + sumN 4 (bn p) := by rw [fm1 _ _ (by omega)]; exact h98 p hp
            have y : m1 10 p = g 10 p + sumN 4 (bn p) := by rw [q1 _ _ (by omega)]; exact h10 p hp
            have x := (hS.2.1 p hp).2
            rw [z, y, sum4]
            have b0 := hbb p 0 (by omega)
            have b1 := hbb p 1 (by omega)
            have b2 := hbb p 2 (by omega)
            have b3 := hbb p 3 (by omega)
            omega
          · have s := hS.2.2 p hp
            have y : m1 10 p = g 10 p + sumN 4 (bn p) := by rw [q1 _ _ (by omega)]; exact h10 p hp
            rw [hall 97 _ (by omega), hall 9 _ (by omega), hall 9 _ (by omega), hall 9 _ (by omega), hall 9 _ (by omega), y, sum4, cel 0 p (by omega), cel 1 p (by omega), cel 2 p (by omega), cel 3 p (by omega)]
            omega
        · rw [q1 _ _ (by omega)]; exact h11.1
        · rw [q1 _ _ (by omega)]; exact h11.2.1
        · rw [q1 _ _ (by omega)]; exact h11.2.2
      apply s_202_8
      try simp only [mi_87, fl_87_14, mi_100, ml_100, fl_100, up_100, fl_87_33, mi_115, ml_115, fl_115, up_115, fl_87_13, mi_99, ml_99, fl_99, up_99, fl_87_17, mi_103, ml_103, fl_103, up_103, true_and, and_true, true_or, or_true, implies_true, b10_0, b10_1]
      repeat' (first | refine And.intro ?_ ?_ | intro _)
      all_goals (try (first | omega | (unfold r32; omega) | exact hQ | exact qe hQ (by omega) | exact qe hQ (by (repeat' split) <;> omega) | exact b01 | exact n01 | exact n21 | exact n31 | exact absurd trivial (by assumption)))
      refine c197' _ _ (by omega) ?_
      apply s_202_95
      try simp only [mi_87, fl_87_14, mi_100, ml_100, fl_100, up_100, fl_87_33, mi_115, ml_115, fl_115, up_115, fl_87_13, mi_99, ml_99, fl_99, up_99, fl_87_17, mi_103, ml_103, fl_103, up_103, true_and, and_true, true_or, or_true, implies_true, b10_0, b10_1]
      repeat' (first | refine And.intro ?_ ?_ | intro _)
      all_goals (try (first | omega | (unfold r32; omega) | exact hQ | exact qe hQ (by omega) | exact qe hQ (by (repeat' split) <;> omega) | exact b01 | exact n01 | exact n21 | exact n31 | exact absurd trivial (by assumption)))
      all_goals (try exact hq)
    · intro c hc ih m g2 hM hS2 hmF h98 h102 h102' v3
      have e0 : ((c : Int)).toNat = c := by omega
      have e10 : ((c + 1 : Nat) : Int) = (c : Int) + 1 := by omega
      have hnc := hnb c hc
      have hS3 : MS m (NN g) := by
        intro c' hc'
        obtain ⟨s1, s2, s3, s4⟩ := hS2 c' hc'
        rw [hmF _ _ (by omega) (by omega), hmF _ _ (by omega) (by omega), hmF _ _ (by omega) (by omega)]
        refine ⟨s1, s2, s3, fun i hi => ?_⟩
        rw [hmF _ _ (by omega) (by omega), hmF _ _ (by omega) (by omega)]
        exact s4 i hi
      have f99 : m 99 c = g (19 + 6 * c) 0 := by rw [hmF _ _ (by omega) (by omega), hM _ _ (by omega), hF _ _ (by omega)]; exact (hC c hc).1
      have c198' := c198 X (g := m) (s := NN g) (n := g (19 + 6 * c) 0) hc hnc f99 hS3 (fun i hi => (SI_b hI hc hi).1)
      rw [show sumN (g (19 + 6 * c) 0).toNat (fun i => if NN g (3 + c) i = -1 then (0 : Int) else 1) = cn c by rw [hcn']; rfl] at c198'
      have hcbs := sumN_b (n := c) (a := cn) (lo := 0) (hi := 36) (fun i hi => hcb i (by omega))
      have hcbc := hcb c hc
      simp only [e10, sumN] at ih
      have inner := lup (P := fun i => ∀ m' : mF, (∀ o k, o ≠ 98 → o ≠ 102 → m' o k = g2 o k) → (∀ p, p < 8 → m' 98 p = g 10 p + sumN c (bn p) + bnt (g (20 + 6 * c)) (NN g (3 + c)) i (p : Int)) → (∀ c' k : Nat, c' < c → (k : Int) < g (19 + 6 * c') 0 → m' 102 (36 * c' + k) = if NN g (3 + c') k = -1 then g (20 + 6 * c') k else -1) → (∀ k : Nat, k < i → m' 102 (36 * c + k) = if NN g (3 + c) k = -1 then g (20 + 6 * c) k else -1) → (∀ k, 36 * c + i ≤ k → m' 102 k = g 102 k) → Wp X d SH 202 23 [(2, 87), (0, sumN c cn + cn c), (0, (c : Int)), (0, (i : Int))] [] SH (fl m') Q) (g (19 + 6 * c) 0).toNat ?_ ?_ 0 (by omega)
      · have i0 := inner m hmF (fun p hp => by rw [h98 p hp]; show _ = _ + 0; omega) h102 (fun k hk => absurd hk (by omega)) (fun k hk => h102' k (by omega))
        apply s_202_8
        try simp only [mi_87, fl_87_14, mi_100, ml_100, fl_100, up_100, fl_87_33, mi_115, ml_115, fl_115, up_115, fl_87_13, mi_99, ml_99, fl_99, up_99, fl_87_17, mi_103, ml_103, fl_103, up_103, true_and, and_true, true_or, or_true, implies_true, b10_0, b10_1]
        repeat' (first | refine And.intro ?_ ?_ | intro _)
        all_goals (try (first | omega | (unfold r32; omega) | exact hQ | exact qe hQ (by omega) | exact qe hQ (by (repeat' split) <;> omega) | exact b01 | exact n01 | exact n21 | exact n31 | exact absurd trivial (by assumption)))
        refine c198' _ _ (by omega) ?_
        apply s_202_19
        try simp only [mi_87, fl_87_14, mi_100, ml_100, fl_100, up_100, fl_87_33, mi_115, ml_115, fl_115, up_115, fl_87_13, mi_99, ml_99, fl_99, up_99, fl_87_17, mi_103, ml_103, fl_103, up_103, true_and, and_true, true_or, or_true, implies_true, b10_0, b10_1]
        repeat' (first | refine And.intro ?_ ?_ | intro _)
        all_goals (try (first | omega | (unfold r32; omega) | exact hQ | exact qe hQ (by omega) | exact qe hQ (by (repeat' split) <;> omega) | exact b01 | exact n01 | exact n21 | exact n31 | exact absurd trivial (by assumption)))
        all_goals (try exact i0)
      · intro m' hmF' h98' h102a h102b h102c
        have f99' : m' 99 c = g (19 + 6 * c) 0 := by rw [hmF' _ _ (by omega) (by omega), hM _ _ (by omega), hF _ _ (by omega)]; exact (hC c hc).1
        have nx := ih m' g2 hM hS2 hmF' (fun p hp => by rw [h98' p hp, ← hbn']; omega) (fun c' k hc' hk => by
          by_cases hcc : c' = c
          · subst hcc; exact h102b k (by omega)
          · exact h102a c' k (by omega) hk) (fun k hk => h102c k (by omega))
        apply s_202_23
        try simp only [mi_87, fl_87_14, mi_100, ml_100, fl_100, up_100, fl_87_33, mi_115, ml_115, fl_115, up_115, fl_87_13, mi_99, ml_99, fl_99, up_99, fl_87_17, mi_103, ml_103, fl_103, up_103, e0, f99', true_and, and_true, true_or, or_true, implies_true, b10_0, b10_1]
        repeat' (first | refine And.intro ?_ ?_ | intro _)
        all_goals (try (first | omega | (unfold r32; omega) | exact hQ | exact qe hQ (by omega) | exact qe hQ (by (repeat' split) <;> omega) | exact b01 | exact n01 | exact n21 | exact n31 | exact absurd trivial (by assumption)))
        all_goals (try exact nx _)
      · intro i hi ihi m' hmF' h98' h102a h102b h102c
        have e11 : ((i + 1 : Nat) : Int) = (i : Int) + 1 := by omega
        have eci : (36 * (c : Int) + (i : Int)).toNat = 36 * c + i := by omega
        have f99' : m' 99 c = g (19 + 6 * c) 0 := by rw [hmF' _ _ (by omega) (by omega), hM _ _ (by omega), hF _ _ (by omega)]; exact (hC c hc).1
        have f114 : m' 114 (36 * c + i) = NN g (3 + c) i := by rw [hmF' _ _ (by omega) (by omega)]; exact ((hS2 c hc).2.2.2 i (by omega)).1
        have f102 : m' 102 (36 * c + i) = g (20 + 6 * c) i := by rw [h102c _ (by omega)]; exact (hC c hc).2.2.2.1 i (by omega)
        have hlo := (SI_b hI hc (show i < 36 by omega)).1
        rw [e11] at ihi
        by_cases hz : NN g (3 + c) i = -1
        · have nx := ihi m' hmF' (fun p hp => by rw [bnt_s, if_neg (fun z => z.1 hz), Int.add_zero]; exact h98' p hp) h102a (fun k hk => by
            by_cases hki : k = i
            · subst hki; rw [if_pos hz]; exact f102
            · exact h102b k (by omega)) (fun k hk => h102c k (by omega))
          apply s_202_23
          try simp only [mi_87, fl_87_14, mi_100, ml_100, fl_100, up_100, fl_87_33, mi_115, ml_115, fl_115, up_115, fl_87_13, mi_99, ml_99, fl_99, up_99, fl_87_17, mi_103, ml_103, fl_103, up_103, e0, f99', eci, f114, true_and, and_true, true_or, or_true, implies_true, b10_0, b10_1]
          repeat' (first | refine And.intro ?_ ?_ | intro _)
          all_goals (try (first | omega | (unfold r32; omega) | exact hQ | exact qe hQ (by omega) | exact qe hQ (by (repeat' split) <;> omega) | exact b01 | exact n01 | exact n21 | exact n31 | exact absurd trivial (by assumption)))
          apply s_202_79
          try simp only [mi_87, fl_87_14, mi_100, ml_100, fl_100, up_100, fl_87_33, mi_115, ml_115, fl_115, up_115, fl_87_13, mi_99, ml_99, fl_99, up_99, fl_87_17, mi_103, ml_103, fl_103, up_103, true_and, and_true, true_or, or_true, implies_true, b10_0, b10_1]
          repeat' (first | refine And.intro ?_ ?_ | intro _)
          all_goals (try (first | omega | (unfold r32; omega) | exact hQ | exact qe hQ (by omega) | exact qe hQ (by (repeat' split) <;> omega) | exact b01 | exact n01 | exact n21 | exact n31 | exact absurd trivial (by assumption)))
          all_goals (try exact nx)
        · have hpb := hpw c i hc (by omega) hz
          obtain ⟨q0, hq0⟩ : ∃ q0 : Nat, g (20 + 6 * c) i = (q0 : Int) := ⟨(g (20 + 6 * c) i).toNat, by omega⟩
          have hq08 : q0 < 8 := by omega
          have eq0 : ((q0 : Int)).toNat = q0 := by omega
          have hb98 := h98' q0 hq08
          have hb10 := h10b q0 hq08
          have hbs := sumN_b (n := c) (a := bn q0) (lo := 0) (hi := 36) (fun k hk => hbb q0 k (by omega))
          have hbt := bnt_b (g (20 + 6 * c)) (NN g (3 + c)) i (q0 : Int)
          generalize hh2 : mup m' 98 q0 (m' 98 q0 + 1) = m2
          have f2 : ∀ o k, ¬ (o = 98 ∧ k = q0) → m2 o k = m' o k := fun o k ho => by rw [← hh2, mup_n ho]
          have nx := ihi (mup m2 102 (36 * c + i) (-1)) (fun o k q1 q2 => by rw [mup_n (by omega), f2 _ _ (by omega)]; exact hmF' o k q1 q2) (fun p hp => by
            rw [bnt_s, mup_n (by omega)]
            by_cases hpq : p = q0
            · subst hpq
              rw [if_pos ⟨hz, hq0⟩, ← hh2, mup_e, hb98]
              omega
            · rw [if_neg (fun z => hpq (by have := z.2; omega)), f2 _ _ (by omega), Int.add_zero]
              exact h98' p hp) (fun c' k hc' hk => by
            have hn' := hnb c' (by omega)
            rw [mup_n (by omega), f2 _ _ (by omega)]
            exact h102a c' k hc' hk) (fun k hk => by
            by_cases hki : k = i
            · subst hki; rw [mup_e, if_neg hz]
            · rw [mup_n (by omega), f2 _ _ (by omega)]; exact h102b k (by omega)) (fun k hk => by rw [mup_n (by omega), f2 _ _ (by omega)]; exact h102c k (by omega))
          apply s_202_23
          try simp only [mi_87, fl_87_14, mi_100, ml_100, fl_100, up_100, fl_87_33, mi_115, ml_115, fl_115, up_115, fl_87_13, mi_99, ml_99, fl_99, up_99, fl_87_17, mi_103, ml_103, fl_103, up_103, e0, f99', eci, f114, f102, hq0, eq0, hh2, true_and, and_true, true_or, or_true, implies_true, b10_0, b10_1]
          repeat' (first | refine And.intro ?_ ?_ | intro _)
          all_goals (try (first | omega | (unfold r32; omega) | exact hQ | exact qe hQ (by omega) | exact qe hQ (by (repeat' split) <;> omega) | exact b01 | exact n01 | exact n21 | exact n31 | exact absurd trivial (by assumption)))
          apply s_202_67
          try simp only [mi_87, fl_87_14, mi_100, ml_100, fl_100, up_100, fl_87_33, mi_115, ml_115, fl_115, up_115, fl_87_13, mi_99, ml_99, fl_99, up_99, fl_87_17, mi_103, ml_103, fl_103, up_103, e0, eci, true_and, and_true, true_or, or_true, implies_true, b10_0, b10_1]
          repeat' (first | refine And.intro ?_ ?_ | intro _)
          all_goals (try (first | omega | (unfold r32; omega) | exact hQ | exact qe hQ (by omega) | exact qe hQ (by (repeat' split) <;> omega) | exact b01 | exact n01 | exact n21 | exact n31 | exact absurd trivial (by assumption)))
          apply s_202_79
          try simp only [mi_87, fl_87_14, mi_100, ml_100, fl_100, up_100, fl_87_33, mi_115, ml_115, fl_115, up_115, fl_87_13, mi_99, ml_99, fl_99, up_99, fl_87_17, mi_103, ml_103, fl_103, up_103, true_and, and_true, true_or, or_true, implies_true, b10_0, b10_1]
          repeat' (first | refine And.intro ?_ ?_ | intro _)
          all_goals (try (first | omega | (unfold r32; omega) | exact hQ | exact qe hQ (by omega) | exact qe hQ (by (repeat' split) <;> omega) | exact b01 | exact n01 | exact n21 | exact n31 | exact absurd trivial (by assumption)))
          all_goals (try exact nx)
  apply s_114_0
  try simp only [mi_1, fl_1_4, mi_12, fl_1_2, mi_6, fl_12_0, mi_13, ml_13, fl_13, true_and, and_true, true_or, or_true, implies_true, b10_0, b10_1]
  repeat' (first | refine And.intro ?_ ?_ | intro _)
  all_goals (try (first | omega | (unfold r32; omega) | exact hQ | exact qe hQ (by omega) | exact qe hQ (by (repeat' split) <;> omega) | exact b01 | exact n01 | exact n21 | exact n31 | exact absurd trivial (by assumption)))
  refine kn' _ _ (by omega) ?_
  rintro _ g1 ⟨rfl, hK, hSS, hI⟩
  have hg1 : ∀ o k, ¬ (o = 11 ∧ k = 3 ∨ ((o = 19 ∨ o = 25 ∨ o = 31 ∨ o = 37) ∧ (k = 4 ∨ k = 5 ∨ k = 6 ∨ k = 11) ∨ o = 21 ∨ o = 27 ∨ o = 33 ∨ o = 39 ∨ o = 22 ∨ o = 28 ∨ o = 34 ∨ o = 40 ∨ o = 24 ∨ o = 30 ∨ o = 36 ∨ o = 42)) → g1 o k = g o k := fun o k ho => by rw [hK _ _ (by omega), mup_n (by omega)]
  have loop := lup (P := fun c => ∀ m : mF, (∀ o k, o ≠ 10 → ¬ (o = 20 ∨ o = 26 ∨ o = 32 ∨ o = 38) → m o k = g1 o k) → (∀ p, p < 8 → m 10 p = g 10 p + sumN c (bn p)) → (∀ c' k : Nat, c' < c → (k : Int) < g (19 + 6 * c') 0 → m (20 + 6 * c') k = if NN g (3 + c') k = -1 then g (20 + 6 * c') k else -1) → (∀ c' k : Nat, c' < 4 → c ≤ c' → m (20 + 6 * c') k = g (20 + 6 * c') k) → (∀ c' k : Nat, c' < 4 → g (19 + 6 * c') 0 ≤ (k : Int) → m (20 + 6 * c') k = g (20 + 6 * c') k) → Wp X d SH 114 15 [(2, 1), (0, sumN c cn), (0, (c : Int))] [] SH (fl m) Q) 4 ?_ ?_ 0 (by omega)
  · have l0 := loop g1 (fun _ _ _ _ => rfl) (fun p hp => by rw [hg1 _ _ (by omega)]; simp only [sumN]; omega) (fun c' k hc' => absurd hc' (by omega)) (fun c' k hc' _ => by rw [hg1 _ _ (by omega)]) (fun c' k hc' _ => by rw [hg1 _ _ (by omega)])
    apply s_114_11
    try simp only [mi_1, fl_1_4, mi_12, fl_1_2, mi_6, fl_12_0, mi_13, ml_13, fl_13, true_and, and_true, true_or, or_true, implies_true, b10_0, b10_1]
    repeat' (first | refine And.intro ?_ ?_ | intro _)
    all_goals (try (first | omega | (unfold r32; omega) | exact hQ | exact qe hQ (by omega) | exact qe hQ (by (repeat' split) <;> omega) | exact b01 | exact n01 | exact n21 | exact n31 | exact absurd trivial (by assumption)))
    all_goals (try exact l0)
  · intro m hmF h10 h20 _ h20'
    have c37' := c37 X m
    generalize hm1 : mup (mup (mup (hcl m 4) 11 1 0) 11 2 0) 11 3 0 = m1 at c37'
    have fm1 : ∀ o k, ¬ (o = 11 ∧ (k = 1 ∨ k = 2 ∨ k = 3) ∨ (o = 19 ∨ o = 25 ∨ o = 31 ∨ o = 37) ∧ k = 2) → m1 o k = m o k := fun o k ho => by rw [← hm1, mup_n (by omega), mup_n (by omega), mup_n (by omega), hcl_n (by omega)]
    have hq := fin m1 hI (fun o k ho => by rw [fm1 _ _ (by omega), hmF _ _ (by omega) (by omega), hg1 _ _ (by omega)]) (fun p hp => by rw [fm1 _ _ (by omega)]; exact h10 p hp) (fun c k hc hk => by rw [fm1 _ _ (by omega)]; exact h20 c k hc hk) (fun c k hc hk => by rw [fm1 _ _ (by omega)]; exact h20' c k hc hk) ⟨by rw [← hm1, mup_n (by omega), mup_n (by omega), mup_e], by rw [← hm1, mup_n (by omega), mup_e], by rw [← hm1, mup_e]⟩ (fun c hc => by rw [← hm1, mup_n (by omega), mup_n (by omega), mup_n (by omega), hcl_e hc])
    apply s_114_15
    try simp only [mi_1, fl_1_4, mi_12, fl_1_2, mi_6, fl_12_0, mi_13, ml_13, fl_13, true_and, and_true, true_or, or_true, implies_true, b10_0, b10_1]
    repeat' (first | refine And.intro ?_ ?_ | intro _)
    all_goals (try (first | omega | (unfold r32; omega) | exact hQ | exact qe hQ (by omega) | exact qe hQ (by (repeat' split) <;> omega) | exact b01 | exact n01 | exact n21 | exact n31 | exact absurd trivial (by assumption)))
    refine c37' _ _ (by omega) ?_
    apply s_114_49
    try simp only [mi_1, fl_1_4, mi_12, fl_1_2, mi_6, fl_12_0, mi_13, ml_13, fl_13, true_and, and_true, true_or, or_true, implies_true, b10_0, b10_1]
    repeat' (first | refine And.intro ?_ ?_ | intro _)
    all_goals (try (first | omega | (unfold r32; omega) | exact hQ | exact qe hQ (by omega) | exact qe hQ (by (repeat' split) <;> omega) | exact b01 | exact n01 | exact n21 | exact n31 | exact absurd trivial (by assumption)))
    all_goals (try exact hq)
  · intro c hc ih m hmF h10 h20 h20a h20'
    have e0 : ((c : Int)).toNat = c := by omega
    have e10 : ((c + 1 : Nat) : Int) = (c : Int) + 1 := by omega
    have hnc := hnb c hc
    have c138' := c138 X (m := m) (n := g (19 + 6 * c) 0) (pw := g (20 + 6 * c)) (bb := NN g (3 + c)) hc hnc (by rw [hmF _ _ (by omega) (by omega), hg1 _ _ (by omega)]) (fun i hi => ⟨h20a c i hc (Nat.le_refl _), fun hne => by
      have z := ((hI c hc).2.2.2 i (by omega)).2 hne
      have z2 := z.2.2
      rw [inp_e (by unfold InpS; omega)] at z2
      exact ⟨z2, ((hC c hc).2.2.2.2.1 i (by omega)).2⟩⟩) (fun i hi => by rw [hmF _ _ (by omega) (by omega)]; exact ((hSS c hc).2.2.2 i (by omega)).1) (fun p hp => by
      have b := h10b p hp
      have s := sumN_b (n := c) (a := bn p) (lo := 0) (hi := 36) (fun k hk => hbb p k (by omega))
      rw [h10 p hp]
      omega)
    rw [← hcn'] at c138'
    have hcbs := sumN_b (n := c) (a := cn) (lo := 0) (hi := 36) (fun i hi => hcb i (by omega))
    have hcbc := hcb c hc
    simp only [e10, sumN] at ih
    apply s_114_15
    try simp only [mi_1, fl_1_4, mi_12, fl_1_2, mi_6, fl_12_0, mi_13, ml_13, fl_13, e0, hc, true_and, and_true, true_or, or_true, implies_true, b10_0, b10_1]
    repeat' (first | refine And.intro ?_ ?_ | intro _)
    all_goals (try (first | omega | (unfold r32; omega) | exact hQ | exact qe hQ (by omega) | exact qe hQ (by (repeat' split) <;> omega) | exact b01 | exact n01 | exact n21 | exact n31 | exact absurd trivial (by assumption)))
    refine c138' _ _ (by omega) ?_
    rintro _ m2 ⟨rfl, hF2, q10, q20, q20'⟩
    have nx := ih m2 (fun o k q1 q2 => by rw [hF2 _ _ q1 (by omega)]; exact hmF o k q1 q2) (fun p hp => by rw [q10 p hp, h10 p hp, ← hbn']; omega) (fun c' k hc' hk => by
      by_cases hcc : c' = c
      · subst hcc; exact q20 k hk
      · rw [hF2 _ _ (by omega) (by omega)]; exact h20 c' k (by omega) hk) (fun c' k hc' hcc => by rw [hF2 _ _ (by omega) (by omega)]; exact h20a c' k hc' (by omega)) (fun c' k hc' hk => by
      by_cases hcc : c' = c
      · subst hcc; rw [q20' k hk]; exact h20' c' k hc' hk
      · rw [hF2 _ _ (by omega) (by omega)]; exact h20' c' k hc' hk)
    apply s_114_34
    try simp only [mi_1, fl_1_4, mi_12, fl_1_2, mi_6, fl_12_0, mi_13, ml_13, fl_13, true_and, and_true, true_or, or_true, implies_true, b10_0, b10_1]
    repeat' (first | refine And.intro ?_ ?_ | intro _)
    all_goals (try (first | omega | (unfold r32; omega) | exact hQ | exact qe hQ (by omega) | exact qe hQ (by (repeat' split) <;> omega) | exact b01 | exact n01 | exact n21 | exact n31 | exact absurd trivial (by assumption)))
    all_goals (try exact nx)
