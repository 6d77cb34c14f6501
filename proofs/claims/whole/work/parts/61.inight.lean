/-! the night between two calls of the law -/
noncomputable def inp (g : mF) : mF := fun o k => @ite Int (InpS o k) (Classical.propDecidable _) (g o k) 0
theorem inp_e {g : mF} {o k : Nat} (h : InpS o k) : inp g o k = g o k := by unfold inp; rw [if_pos h]
theorem inp_ag (g : mF) : Agree (inp g) g := fun o k h => (inp_e h).symm
theorem inp_c {g g' : mF} (h : ∀ o k, InpS o k → g' o k = g o k) : inp g' = inp g := by
  funext o k
  by_cases hi : InpS o k
  · rw [inp_e hi, inp_e hi, h o k hi]
  · unfold inp; rw [if_neg hi, if_neg hi]
def Inear (g : mF) (c : Nat) : Prop := (∀ i : Nat, (i : Int) < g (19 + 6 * c) 0 → (0 ≤ g 100 (36 * c + i) ∧ g 100 (36 * c + i) ≤ 5) ∧ (0 ≤ g 101 (36 * c + i) ∧ g 101 (36 * c + i) ≤ 5)) ∧ (∀ i : Nat, (i : Int) < g (19 + 6 * c) 0 → ∀ side, side < 4 → -1 ≤ g (23 + 6 * c) (4 * i + side) ∧ g (23 + 6 * c) (4 * i + side) < g (19 + 6 * c) 0) ∧ ∀ i k : Nat, (i : Int) < g (19 + 6 * c) 0 → (k : Int) < g (19 + 6 * c) 0 → (dst g c i k = 1 ↔ CAd g c i k)
def Iagn (g : mF) : Prop := Gag g ∧ AgR g g
noncomputable def NN (g : mF) : mF := nightS (inp g) (-1) 4
def Iknow (g : mF) : Prop := g 11 3 = 0 ∨ g 11 3 = 1 ∧ CS g (NN g) ∧ SI (inp g) 18959 (NN g)
def NI (g : mF) : Prop := Iair g ∧ (∀ c, c < 4 → Iclk g c) ∧ Ilink g ∧ (∀ c, c < 4 → Inear g c) ∧ Iagn g ∧ Iknow g
theorem NI_in {g : mF} (h : NI g) : CG (inp g) ∧ Glk (inp g) ∧ Gag (inp g) ∧ MAg (-1) (inp g) g ∧ AgR (inp g) g := by
  obtain ⟨⟨a1, a2, a3, a4⟩, hC, ⟨l1, l2⟩, hN, ⟨⟨g1, g2⟩, r1, r2, r3⟩, hK⟩ := h
  have e6 : ∀ k, inp g 6 k = g 6 k := fun k => inp_e (by unfold InpS; omega)
  have e7 : ∀ k, inp g 7 k = g 7 k := fun k => inp_e (by unfold InpS; omega)
  have e13 : ∀ o k, 13 ≤ o ∧ o ≤ 18 → inp g o k = g o k := fun o k _ => inp_e (by unfold InpS; omega)
  have e11 : inp g 11 1 = g 11 1 := inp_e (by unfold InpS; omega)
  have e12 : inp g 11 2 = g 11 2 := inp_e (by unfold InpS; omega)
  have ec : ∀ c k, c < 4 → (k = 0 ∨ k = 2 ∨ k = 3) → inp g (19 + 6 * c) k = g (19 + 6 * c) k := fun c k _ _ => inp_e (by unfold InpS; omega)
  have ep : ∀ c k, c < 4 → inp g (20 + 6 * c) k = g (20 + 6 * c) k := fun c k _ => inp_e (by unfold InpS; omega)
  have en : ∀ c k, c < 4 → inp g (23 + 6 * c) k = g (23 + 6 * c) k := fun c k _ => inp_e (by unfold InpS; omega)
  refine ⟨⟨⟨fun p hp => ?_, fun p hp => ?_⟩, fun c hc => ?_⟩, ⟨?_, fun k hk => ?_⟩, ⟨?_, fun k hk => ?_⟩, ⟨fun p hp => ?_, fun p hp => ?_, a4, fun c hc => ?_, ?_, fun k hk => ?_⟩, ?_⟩
  · rw [e6]; exact (a1 p hp).2
  · rw [e7]; exact (a2 p hp).2
  · obtain ⟨k1, k2, k3, k4, k5, k6, k7, k8, k9, k10, k11, k12⟩ := hC c hc
    obtain ⟨n1, n2, n3⟩ := hN c hc
    rw [ec c 0 hc (by omega), ec c 2 hc (by omega), ec c 3 hc (by omega)]
    refine ⟨⟨k2, k3⟩, ⟨k8, k9⟩, ⟨k11, k12⟩, fun i hi => ?_, fun i hi side hs => ?_⟩
    · rw [ep c i hc]
      exact ⟨(k5 i hi).1, (k5 i hi).2, k6 i hi⟩
    · rw [en c _ hc]
      exact n2 i hi side hs
  · rw [e11]; exact l1.2
  · rw [e11] at hk
    rw [e13 13 k (by omega), e13 14 k (by omega), e13 15 k (by omega)]
    have z := l2 k hk
    exact ⟨z.1.2, z.2.1.2, z.2.2.2⟩
  · rw [e12]; exact g1
  · rw [e12] at hk
    rw [e13 16 k (by omega), e13 17 k (by omega), e13 18 k (by omega)]
    exact g2 k hk
  · rw [e6]; exact (a1 p hp).1
  · rw [e7]; exact (a2 p hp).1
  · obtain ⟨k1, k2, k3, k4, k5, k6, k7, k8, k9, k10, k11, k12⟩ := hC c hc
    obtain ⟨n1, n2, n3⟩ := hN c hc
    rw [ec c 0 hc (by omega), ec c 2 hc (by omega), ec c 3 hc (by omega)]
    refine ⟨k1, k7, k10, fun i hi => ?_, fun i k hi hk => ?_⟩
    · rw [ep c i hc]
      exact ⟨k4 i hi, n1 i hi⟩
    · rw [n3 i k hi hk]
      unfold CAd
      simp only [en c _ hc]
  · rw [e11]; exact l1.1
  · rw [e11] at hk
    rw [e13 13 k (by omega), e13 14 k (by omega), e13 15 k (by omega)]
    have z := l2 k hk
    exact ⟨z.1.1, z.2.1.1, z.2.2.1⟩
  · unfold AgR
    have er : rdC (inp g) = rdC g := by
      funext k
      unfold rdC
      rw [e13 16 k (by omega), e13 17 k (by omega), e13 18 k (by omega)]
    rw [e12, er]
    exact ⟨r1, r2, r3⟩
/-- the class knows the night -/
theorem kn (X : mX) {g : mF} (h : NI g) : Rel X 5 41 [(2, 12), (2, 6), (3, 0), (3, 0)] g (fun ro g1 => ro = none ∧ FK (mup g 11 3 1) g1 ∧ CS g1 (NN g) ∧ SI (inp g) 18959 (NN g)) := by
  obtain ⟨i1, i2, i3, i4, i5⟩ := NI_in h
  exact c41 X (D := -1) (inp_ag g) i1 i2 i3 h.1.2.2.1 (by omega) h.2.2.2.2.2
/-- the reference finds the night -/
theorem fn (X : mX) {g g1 : mF} (h : NI g) (hK : FK (mup g 11 3 1) g1) : Rel X 6 192 [(2, 87), (3, 0), (3, 0), (3, 0), (3, 0), (3, 0), (3, 0)] g1 (fun ro g2 => ro = none ∧ FM g1 g2 ∧ MS g2 (NN g)) := by
  obtain ⟨i1, i2, i3, i4, i5⟩ := NI_in h
  have f : ∀ o k, 94 ≤ o ∧ o ≤ 110 ∨ o = 86 → g1 o k = g o k := fun o k ho => by
    rw [hK o k (by omega), mup_n (by omega)]
  have hA : MAg (-1) (inp g) g1 := by
    obtain ⟨a1, a2, a3, a4, a5, a6⟩ := i4
    refine ⟨fun p hp => by rw [f _ _ (by omega)]; exact a1 p hp, fun p hp => by rw [f _ _ (by omega)]; exact a2 p hp, by rw [f _ _ (by omega)]; exact a3, fun c hc => ?_, by rw [f _ _ (by omega)]; exact a5, fun k hk => ?_⟩
    · obtain ⟨b1, b2, b3, b4, b5⟩ := a4 c hc
      refine ⟨by rw [f _ _ (by omega)]; exact b1, by rw [f _ _ (by omega)]; exact b2, by rw [f _ _ (by omega)]; exact b3, fun i hi => ?_, fun i k hi hk => ?_⟩
      · rw [f _ _ (by omega), f _ _ (by omega), f _ _ (by omega)]
        exact b4 i hi
      · rw [dst_congr (fun k => f _ _ (by omega)) (fun k => f _ _ (by omega))]
        exact b5 i k hi hk
    · rw [f _ _ (by omega), f _ _ (by omega), f _ _ (by omega)]
      exact a6 k hk
  have hR : AgR (inp g) g1 := by
    have e : ∀ k, g1 106 k = g 106 k := fun k => f _ _ (by omega)
    have e2 : rdM g1 = rdM g := by funext k; unfold rdM; simp only [e]
    unfold AgR at *
    simp only [e, e2, f 86 22 (by omega)]
    exact i5
  intro d Q hd hQ
  refine c192 X hA hR i1 i2 i3.1 (by omega) _ _ (by omega) ?_
  rintro _ g2 ⟨rfl, h1, h2, h3⟩
  exact hQ _ _ ⟨rfl, h1, h2⟩
/-- what a look at the night may change -/
def NC (g g' : mF) : Prop := ∀ o k, ¬ (o = 11 ∧ k = 3 ∨ ((o = 19 ∨ o = 25 ∨ o = 31 ∨ o = 37) ∧ (k = 4 ∨ k = 5 ∨ k = 6 ∨ k = 11) ∨ o = 21 ∨ o = 27 ∨ o = 33 ∨ o = 39 ∨ o = 22 ∨ o = 28 ∨ o = 34 ∨ o = 40 ∨ o = 24 ∨ o = 30 ∨ o = 36 ∨ o = 42) ∨ 111 ≤ o ∧ o ≤ 116 ∨ o = 86 ∧ (k = 36 ∨ k = 37)) → g' o k = g o k
theorem NC_in {g g' : mF} (h : NC g g') : inp g' = inp g := inp_c (fun o k ho => h o k (by unfold InpS at ho; omega))
theorem NC_fin {g g1 g2 : mF} (hK : FK (mup g 11 3 1) g1) (hS : CS g1 (NN g)) (hI : SI (inp g) 18959 (NN g)) (hM : FM g1 g2) : NC g g2 ∧ Iknow g2 := by
  have hn : NC g g2 := fun o k ho => by rw [hM o k (by omega), hK o k (by omega), mup_n (by omega)]
  refine ⟨hn, Or.inr ⟨by rw [hM _ _ (by omega), hK _ _ (by omega), mup_e], ?_, ?_⟩⟩
  · have e : NN g2 = NN g := by unfold NN; rw [NC_in hn]
    rw [e]
    intro c hc
    obtain ⟨s1, s2, s3, s4⟩ := hS c hc
    rw [hM _ _ (by omega), hM _ _ (by omega), hM _ _ (by omega)]
    refine ⟨s1, s2, s3, fun i hi => ?_⟩
    rw [hM _ _ (by omega), hM _ _ (by omega)]
    exact s4 i hi
  · unfold NN
    rw [NC_in hn]
    exact hI
/-- a call of the class and the same call of the reference answer alike; R holds behind them -/
def PR (X : mX) (xop mop : Nat) (la lb : List mV) (g : mF) (R : mF → Prop) : Prop := Rel X 60 xop la g (fun r g1 => ∃ v : Int, r = some (0, v) ∧ Rel X 60 mop lb g1 (fun r2 g2 => r2 = some (0, v) ∧ R g2))
theorem PR_of {X : mX} {xop mop : Nat} {la lb : List mV} {g g1 g2 : mF} {r : Int} {R : mF → Prop} (h1 : Ret X 60 xop la g (some (0, r)) g1) (h2 : Ret X 60 mop lb g1 (some (0, r)) g2) (h : R g2) : PR X xop mop la lb g R := h1.rel ⟨r, rfl, h2.rel ⟨rfl, h⟩⟩
theorem PR_mono {X : mX} {xop mop : Nat} {la lb : List mV} {g : mF} {R R' : mF → Prop} (h : PR X xop mop la lb g R) (hR : ∀ g2, R g2 → R' g2) : PR X xop mop la lb g R' := fun d Q hd hQ => h d Q hd (fun r g1 ⟨v, hv, hr⟩ => hQ r g1 ⟨v, hv, fun d Q hd hQ => hr d Q hd (fun r2 g2 ⟨a, b⟩ => hQ r2 g2 ⟨a, hR g2 b⟩)⟩)
theorem NC_r {g : mF} (h : NI g) : NC g g ∧ Iknow g := ⟨fun _ _ _ => rfl, h.2.2.2.2.2⟩
/-- cells that began -/
theorem c26 (X : mX) {c : Nat} (hc : c < 4) {g s : mF} (hn : 0 ≤ g (19 + 6 * c) 0 ∧ g (19 + 6 * c) 0 ≤ 36) (hS : CS g s) : Ret X 0 26 [(2, 20 + 6 * (c : Int)), (3, 0), (3, 0)] g (some (0, sumN (g (19 + 6 * c) 0).toNat (fun i => if s (3 + c) i = -1 then 0 else 1))) g := by
  intro d Q hd hQ
  have key := lup (P := fun k => Wp X d SH 26 4 [(2, 20 + 6 * (c : Int)), (0, sumN k (fun i => if s (3 + c) i = -1 then 0 else 1)), (0, (k : Int))] [] SH (fl g) Q) (g (19 + 6 * c) 0).toNat ?_ ?_ 0 (by omega)
  · skip
    apply s_26_0
    try simp only [cm_o, cl_0, cu_0, cl_7, cm_7, cn_7, ca_7, cz_7, true_and, and_true, true_or, or_true, implies_true, b10_0, b10_1]
    repeat' (first | refine And.intro ?_ ?_ | intro _)
    all_goals (try (first | omega | (unfold r32; omega) | exact hQ | exact qe hQ (by omega) | exact qe hQ (by (repeat' split) <;> omega) | exact b01 | exact n01 | exact n21 | exact n31 | exact absurd trivial (by assumption)))
    exact key
  · skip
    apply s_26_4
    try simp only [cm_o, cl_0, cu_0, cl_7, cm_7, cn_7, ca_7, cz_7, hc, true_and, and_true, true_or, or_true, implies_true, b10_0, b10_1]
    repeat' (first | refine And.intro ?_ ?_ | intro _)
    all_goals (try (first | omega | (unfold r32; omega) | exact hQ | exact qe hQ (by omega) | exact qe hQ (by (repeat' split) <;> omega) | exact b01 | exact n01 | exact n21 | exact n31 | exact absurd trivial (by assumption)))
  · intro k hk ih
    have e2 : ((k : Int)).toNat = k := by omega
    have e10 : ((k + 1 : Nat) : Int) = (k : Int) + 1 := by omega
    have f := ((hS c hc).2.2.2 k (by omega)).1
    have b1 := sumN_b (n := k) (a := fun i => if s (3 + c) i = -1 then (0 : Int) else 1) (lo := 0) (hi := 1) (fun i _ => by (try simp only []); split <;> omega)
    simp only [e10, sumN] at ih
    apply s_26_4
    try simp only [cm_o, cl_0, cu_0, cl_7, cm_7, cn_7, ca_7, cz_7, hc, e2, f, true_and, and_true, true_or, or_true, implies_true, b10_0, b10_1]
    repeat' (first | refine And.intro ?_ ?_ | intro _)
    all_goals (try (first | omega | (unfold r32; omega) | exact hQ | exact qe hQ (by omega) | exact qe hQ (by (repeat' split) <;> omega) | exact b01 | exact n01 | exact n21 | exact n31 | exact absurd trivial (by assumption)))
    · rw [if_pos (by assumption), Int.add_zero] at ih
      apply s_26_25
      try simp only [cm_o, cl_0, cu_0, cl_7, cm_7, cn_7, ca_7, cz_7, true_and, and_true, true_or, or_true, implies_true, b10_0, b10_1]
      repeat' (first | refine And.intro ?_ ?_ | intro _)
      all_goals (try (first | omega | (unfold r32; omega) | exact hQ | exact qe hQ (by omega) | exact qe hQ (by (repeat' split) <;> omega) | exact b01 | exact n01 | exact n21 | exact n31 | exact absurd trivial (by assumption)))
      all_goals (try exact ih)
    · rw [if_neg (by assumption)] at ih
      apply s_26_25
      try simp only [cm_o, cl_0, cu_0, cl_7, cm_7, cn_7, ca_7, cz_7, true_and, and_true, true_or, or_true, implies_true, b10_0, b10_1]
      repeat' (first | refine And.intro ?_ ?_ | intro _)
      all_goals (try (first | omega | (unfold r32; omega) | exact hQ | exact qe hQ (by omega) | exact qe hQ (by (repeat' split) <;> omega) | exact b01 | exact n01 | exact n21 | exact n31 | exact absurd trivial (by assumption)))
      all_goals (try exact ih)
theorem c198 (X : mX) {c : Nat} (hc : c < 4) {g s : mF} {n : Int} (hn : 0 ≤ n ∧ n ≤ 36) (h99 : g 99 c = n) (hS : MS g s) (hb : ∀ i, i < 36 → -1 ≤ s (3 + c) i) : Ret X 0 198 [(2, 87), (0, (c : Int)), (3, 0), (3, 0)] g (some (0, sumN n.toNat (fun i => if s (3 + c) i = -1 then 0 else 1))) g := by
  intro d Q hd hQ
  have e0 : ((c : Int)).toNat = c := by omega
  have key := lup (P := fun k => Wp X d SH 198 4 [(2, 87), (0, (c : Int)), (0, sumN k (fun i => if s (3 + c) i = -1 then 0 else 1)), (0, (k : Int))] [] SH (fl g) Q) n.toNat ?_ ?_ 0 (by omega)
  · skip
    apply s_198_0
    try simp only [mi_87, fl_87_14, mi_100, ml_100, fl_100, up_100, fl_87_33, mi_115, ml_115, fl_115, up_115, true_and, and_true, true_or, or_true, implies_true, b10_0, b10_1]
    repeat' (first | refine And.intro ?_ ?_ | intro _)
    all_goals (try (first | omega | (unfold r32; omega) | exact hQ | exact qe hQ (by omega) | exact qe hQ (by (repeat' split) <;> omega) | exact b01 | exact n01 | exact n21 | exact n31 | exact absurd trivial (by assumption)))
    exact key
  · skip
    apply s_198_4
    try simp only [mi_87, fl_87_14, mi_100, ml_100, fl_100, up_100, fl_87_33, mi_115, ml_115, fl_115, up_115, e0, h99, true_and, and_true, true_or, or_true, implies_true, b10_0, b10_1]
    repeat' (first | refine And.intro ?_ ?_ | intro _)
    all_goals (try (first | omega | (unfold r32; omega) | exact hQ | exact qe hQ (by omega) | exact qe hQ (by (repeat' split) <;> omega) | exact b01 | exact n01 | exact n21 | exact n31 | exact absurd trivial (by assumption)))
  · intro k hk ih
    have e2 : (36 * (c : Int) + (k : Int)).toNat = 36 * c + k := by omega
    have e10 : ((k + 1 : Nat) : Int) = (k : Int) + 1 := by omega
    have f := ((hS c hc).2.2.2 k (by omega)).1
    have hbk := hb k (by omega)
    have b1 := sumN_b (n := k) (a := fun i => if s (3 + c) i = -1 then (0 : Int) else 1) (lo := 0) (hi := 1) (fun i _ => by (try simp only []); split <;> omega)
    simp only [e10, sumN] at ih
    apply s_198_4
    try simp only [mi_87, fl_87_14, mi_100, ml_100, fl_100, up_100, fl_87_33, mi_115, ml_115, fl_115, up_115, e0, h99, e2, f, true_and, and_true, true_or, or_true, implies_true, b10_0, b10_1]
    repeat' (first | refine And.intro ?_ ?_ | intro _)
    all_goals (try (first | omega | (unfold r32; omega) | exact hQ | exact qe hQ (by omega) | exact qe hQ (by (repeat' split) <;> omega) | exact b01 | exact n01 | exact n21 | exact n31 | exact absurd trivial (by assumption)))
    · rw [if_pos (by omega)] at ih
      apply s_198_34
      try simp only [mi_87, fl_87_14, mi_100, ml_100, fl_100, up_100, fl_87_33, mi_115, ml_115, fl_115, up_115, true_and, and_true, true_or, or_true, implies_true, b10_0, b10_1]
      repeat' (first | refine And.intro ?_ ?_ | intro _)
      all_goals (try (first | omega | (unfold r32; omega) | exact hQ | exact qe hQ (by omega) | exact qe hQ (by (repeat' split) <;> omega) | exact b01 | exact n01 | exact n21 | exact n31 | exact absurd trivial (by assumption)))
      all_goals (try exact ih)
    · rw [if_neg (by omega)] at ih
      apply s_198_34
      try simp only [mi_87, fl_87_14, mi_100, ml_100, fl_100, up_100, fl_87_33, mi_115, ml_115, fl_115, up_115, true_and, and_true, true_or, or_true, implies_true, b10_0, b10_1]
      repeat' (first | refine And.intro ?_ ?_ | intro _)
      all_goals (try (first | omega | (unfold r32; omega) | exact hQ | exact qe hQ (by omega) | exact qe hQ (by (repeat' split) <;> omega) | exact b01 | exact n01 | exact n21 | exact n31 | exact absurd trivial (by assumption)))
      all_goals (try exact ih)
