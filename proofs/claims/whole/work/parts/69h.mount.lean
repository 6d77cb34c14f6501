/-! mount -/
theorem nearf0 {w h q : Int} : nearf w h q 0 = if 0 < q / w then q - w else -1 := by unfold nearf; rw [if_pos rfl]
theorem nearf1 {w h q : Int} : nearf w h q 1 = if 0 < q % w then q - 1 else -1 := by unfold nearf; rw [if_neg (by omega), if_pos rfl]
theorem nearf2 {w h q : Int} : nearf w h q 2 = if q % w < w - 1 then q + 1 else -1 := by unfold nearf; rw [if_neg (by omega), if_neg (by omega), if_pos rfl]
theorem nearf3 {w h q : Int} : nearf w h q 3 = if q / w < h - 1 then q + w else -1 := by unfold nearf; rw [if_neg (by omega), if_neg (by omega), if_neg (by omega)]
theorem near_iff {w h a b : Int} (hw : 1 ≤ w ∧ w ≤ 6) (hh : 1 ≤ h ∧ h ≤ 6) (ha : 0 ≤ a ∧ a < w * h) (hb : 0 ≤ b ∧ b < w * h) : (∃ side : Nat, side < 4 ∧ nearf w h a side = b) ↔ (if b % w - a % w < 0 then -(b % w - a % w) else b % w - a % w) + (if b / w - a / w < 0 then -(b / w - a / w) else b / w - a / w) = 1 := by
  have e : (∃ side : Nat, side < 4 ∧ nearf w h a side = b) ↔ (nearf w h a 0 = b ∨ nearf w h a 1 = b ∨ nearf w h a 2 = b ∨ nearf w h a 3 = b) := by
    constructor
    · rintro ⟨side, hs, he⟩
      have : side = 0 ∨ side = 1 ∨ side = 2 ∨ side = 3 := by omega
      rcases this with rfl | rfl | rfl | rfl
      · exact Or.inl he
      · exact Or.inr (Or.inl he)
      · exact Or.inr (Or.inr (Or.inl he))
      · exact Or.inr (Or.inr (Or.inr he))
    · rintro (he | he | he | he)
      · exact ⟨0, by omega, he⟩
      · exact ⟨1, by omega, he⟩
      · exact ⟨2, by omega, he⟩
      · exact ⟨3, by omega, he⟩
  rw [e, nearf0, nearf1, nearf2, nearf3]
  have hc : w = 1 ∨ w = 2 ∨ w = 3 ∨ w = 4 ∨ w = 5 ∨ w = 6 := by omega
  rcases hc with rfl | rfl | rfl | rfl | rfl | rfl
  all_goals
    constructor
    · rintro (z | z | z | z) <;> split at z <;> split <;> split <;> omega
    · intro z
      by_cases z0 : b = a - 1 ∨ b = a + 1
      · split <;> split <;> split <;> split <;> split at z <;> split at z <;> omega
      · split <;> split <;> split <;> split <;> split at z <;> split at z <;> omega
theorem nearf_r {w h q : Int} (hw : 1 ≤ w ∧ w ≤ 6) (hh : 1 ≤ h ∧ h ≤ 6) (hq : 0 ≤ q ∧ q < w * h) {side : Nat} (hs : side < 4) : nearf w h q side = -1 ∨ 0 ≤ nearf w h q side ∧ nearf w h q side < w * h := by
  have : side = 0 ∨ side = 1 ∨ side = 2 ∨ side = 3 := by omega
  have hc : w = 1 ∨ w = 2 ∨ w = 3 ∨ w = 4 ∨ w = 5 ∨ w = 6 := by omega
  rcases this with rfl | rfl | rfl | rfl
  · rw [nearf0]; rcases hc with rfl | rfl | rfl | rfl | rfl | rfl <;> split <;> omega
  · rw [nearf1]; rcases hc with rfl | rfl | rfl | rfl | rfl | rfl <;> split <;> omega
  · rw [nearf2]; rcases hc with rfl | rfl | rfl | rfl | rfl | rfl <;> split <;> omega
  · rw [nearf3]; rcases hc with rfl | rfl | rfl | rfl | rfl | rfl <;> split <;> omega
theorem byT_len {rd : Nat → Int × Int × Int} : ∀ n, (∀ k, k < n → 0 ≤ (rd k).1 ∧ (rd k).1 ≤ 5999) → (byT (lsO rd n) 6000).length = n := by
  intro n
  induction n with
  | zero =>
    intro _
    have : ∀ m, (byT (lsO rd 0) m).length = 0 := by
      intro m
      induction m with
      | zero => rfl
      | succ m ih =>
        rw [byT_s, List.length_append, ih]
        rfl
    exact this 6000
  | succ n ih =>
    intro h
    have z := ih (fun k hk => h k (by omega))
    have y := h n (by omega)
    obtain ⟨t, ht⟩ : ∃ t : Nat, (rd n).1 = (t : Int) := ⟨(rd n).1.toNat, by omega⟩
    have a := byT_in (l := lsO rd n) (x := rd n) (t := t) (m := 5999 - t) ht
    have b := byT_add (l := lsO rd n) (a := t + 1) (b := 5999 - t)
    rw [show t + 1 + (5999 - t) = 6000 by omega] at a b
    rw [lsO_s, a]
    rw [b, List.length_append] at z
    simp only [List.length_append, List.length_singleton]
    omega
theorem c15 (X : mX) {g : mF} {c s : Nat} (hc : c < 4) (hs : s < 6) (hI : Iseal g s) : Rel X 0 15 [(2, 20 + 6 * (c : Int)), (2, 57 + 5 * (s : Int)), (3, 0), (3, 0), (3, 0), (3, 0)] g (fun ro h => ro = none ∧ (∀ o k, ¬ (o = 19 + 6 * c ∧ k = 0 ∨ o = 23 + 6 * c) → h o k = g o k) ∧ h (19 + 6 * c) 0 = g (56 + 5 * s) 2 ∧ ∀ i : Nat, (i : Int) < g (56 + 5 * s) 2 → ∀ side, side < 4 → h (23 + 6 * c) (4 * i + side) = if nearf (g (56 + 5 * s) 0) (g (56 + 5 * s) 1) (g (57 + 5 * s) i) side = -1 then -1 else g (58 + 5 * s) (nearf (g (56 + 5 * s) 0) (g (56 + 5 * s) 1) (g (57 + 5 * s) i) side).toNat) := by
  intro d Q hd hQ
  obtain ⟨⟨p1, p2, ⟨p3, p4, p5⟩, p6⟩, h2, h3, h4, h5, h6, h7⟩ := hI
  have hwh := mul_b p1.2 p2.2
  generalize hN : g (56 + 5 * s) 2 = N at *
  have loop := lup (P := fun i => ∀ h : mF, (∀ o k, ¬ (o = 19 + 6 * c ∧ k = 0 ∨ o = 23 + 6 * c) → h o k = g o k) → h (19 + 6 * c) 0 = N → (∀ i' : Nat, i' < i → ∀ side, side < 4 → h (23 + 6 * c) (4 * i' + side) = if nearf (g (56 + 5 * s) 0) (g (56 + 5 * s) 1) (g (57 + 5 * s) i') side = -1 then -1 else g (58 + 5 * s) (nearf (g (56 + 5 * s) 0) (g (56 + 5 * s) 1) (g (57 + 5 * s) i') side).toNat) → ∀ v3 v4 v5, Wp X d SH 15 10 [(2, 20 + 6 * (c : Int)), (2, 57 + 5 * (s : Int)), (0, (i : Int)), v3, v4, v5] [] SH (fl h) Q) N.toNat ?_ ?_ 0 (by omega)
  · generalize hm : mup g (19 + 6 * c) 0 N = m1
    have l0 := loop m1 (fun o k ho => by rw [← hm, mup_n (by omega)]) (by rw [← hm, mup_e]) (fun i' hi' => absurd hi' (by omega))
    apply s_15_0
    try simp only [sm_o, sl_2, su_2, cm_o, cl_0, cu_0, sl_3, sm_3, sn_3, sa_3, sz_3, sl_6, sm_6, sn_6, sa_6, sz_6, cl_9, cm_9, cn_9, ca_9, cz_9, sl_4, sm_4, sn_4, sa_4, sz_4, hc, hs, hN, hm, true_and, and_true, true_or, or_true, implies_true, b10_0, b10_1]
    repeat' (first | refine And.intro ?_ ?_ | intro _)
    all_goals (try (first | omega | (unfold r32; omega) | exact hQ | exact qe hQ (by omega) | exact qe hQ (by (repeat' split) <;> omega) | exact b01 | exact n01 | exact n21 | exact n31 | exact absurd trivial (by assumption)))
    apply s_15_8
    try simp only [sm_o, sl_2, su_2, cm_o, cl_0, cu_0, sl_3, sm_3, sn_3, sa_3, sz_3, sl_6, sm_6, sn_6, sa_6, sz_6, cl_9, cm_9, cn_9, ca_9, cz_9, sl_4, sm_4, sn_4, sa_4, sz_4, true_and, and_true, true_or, or_true, implies_true, b10_0, b10_1]
    repeat' (first | refine And.intro ?_ ?_ | intro _)
    all_goals (try (first | omega | (unfold r32; omega) | exact hQ | exact qe hQ (by omega) | exact qe hQ (by (repeat' split) <;> omega) | exact b01 | exact n01 | exact n21 | exact n31 | exact absurd trivial (by assumption)))
    all_goals (try exact l0 _ _ _)
  · intro h hF h0 hv v3 v4 v5
    have hq := hQ none h ⟨rfl, hF, h0, fun i hi side hside => hv i (by omega) side hside⟩
    apply s_15_10
    try simp only [sm_o, sl_2, su_2, cm_o, cl_0, cu_0, sl_3, sm_3, sn_3, sa_3, sz_3, sl_6, sm_6, sn_6, sa_6, sz_6, cl_9, cm_9, cn_9, ca_9, cz_9, sl_4, sm_4, sn_4, sa_4, sz_4, hc, h0, true_and, and_true, true_or, or_true, implies_true, b10_0, b10_1]
    repeat' (first | refine And.intro ?_ ?_ | intro _)
    all_goals (try (first | omega | (unfold r32; omega) | exact hQ | exact qe hQ (by omega) | exact qe hQ (by (repeat' split) <;> omega) | exact b01 | exact n01 | exact n21 | exact n31 | exact absurd trivial (by assumption)))
    all_goals (try exact hq)
  · intro i hi ih h hF h0 hv v3 v4 v5
    have e2 : ((i : Int)).toNat = i := by omega
    have e10 : ((i + 1 : Nat) : Int) = (i : Int) + 1 := by omega
    have hpi := (p6 i (by omega)).2
    have hpi2 := (h5 i (by omega)).2
    obtain ⟨q, hq⟩ : ∃ q : Nat, g (57 + 5 * s) i = (q : Int) := ⟨(g (57 + 5 * s) i).toNat, by omega⟩
    have f57 : h (57 + 5 * s) i = (q : Int) := by rw [hF _ _ (by omega)]; exact hq
    have hqwh : (q : Int) < g (56 + 5 * s) 0 * g (56 + 5 * s) 1 := by omega
    rw [e10] at ih
    have inner := lup (P := fun j => ∀ h : mF, (∀ o k, ¬ (o = 19 + 6 * c ∧ k = 0 ∨ o = 23 + 6 * c) → h o k = g o k) → h (19 + 6 * c) 0 = N → (∀ i' : Nat, i' < i → ∀ side, side < 4 → h (23 + 6 * c) (4 * i' + side) = if nearf (g (56 + 5 * s) 0) (g (56 + 5 * s) 1) (g (57 + 5 * s) i') side = -1 then -1 else g (58 + 5 * s) (nearf (g (56 + 5 * s) 0) (g (56 + 5 * s) 1) (g (57 + 5 * s) i') side).toNat) → (∀ side, side < j → h (23 + 6 * c) (4 * i + side) = if nearf (g (56 + 5 * s) 0) (g (56 + 5 * s) 1) (g (57 + 5 * s) i) side = -1 then -1 else g (58 + 5 * s) (nearf (g (56 + 5 * s) 0) (g (56 + 5 * s) 1) (g (57 + 5 * s) i) side).toNat) → ∀ v5, Wp X d SH 15 30 [(2, 20 + 6 * (c : Int)), (2, 57 + 5 * (s : Int)), (0, (i : Int)), (0, (q : Int) * 4), (0, (j : Int)), v5] [] SH (fl h) Q) 4 ?_ ?_ 0 (by omega)
    · have l0 := inner h hF h0 hv (fun side hside => absurd hside (by omega))
      apply s_15_10
      try simp only [sm_o, sl_2, su_2, cm_o, cl_0, cu_0, sl_3, sm_3, sn_3, sa_3, sz_3, sl_6, sm_6, sn_6, sa_6, sz_6, cl_9, cm_9, cn_9, ca_9, cz_9, sl_4, sm_4, sn_4, sa_4, sz_4, hc, hs, h0, e2, f57, true_and, and_true, true_or, or_true, implies_true, b10_0, b10_1]
      repeat' (first | refine And.intro ?_ ?_ | intro _)
      all_goals (try (first | omega | (unfold r32; omega) | exact hQ | exact qe hQ (by omega) | exact qe hQ (by (repeat' split) <;> omega) | exact b01 | exact n01 | exact n21 | exact n31 | exact absurd trivial (by assumption)))
      apply s_15_27
      try simp only [sm_o, sl_2, su_2, cm_o, cl_0, cu_0, sl_3, sm_3, sn_3, sa_3, sz_3, sl_6, sm_6, sn_6, sa_6, sz_6, cl_9, cm_9, cn_9, ca_9, cz_9, sl_4, sm_4, sn_4, sa_4, sz_4, true_and, and_true, true_or, or_true, implies_true, b10_0, b10_1]
      repeat' (first | refine And.intro ?_ ?_ | intro _)
      all_goals (try (first | omega | (unfold r32; omega) | exact hQ | exact qe hQ (by omega) | exact qe hQ (by (repeat' split) <;> omega) | exact b01 | exact n01 | exact n21 | exact n31 | exact absurd trivial (by assumption)))
      all_goals (try exact l0 _)
    · intro h hF h0 hv hv2 v5
      have nx := ih h hF h0 (fun i' hi' side hside => by
        by_cases hii : i' = i
        · subst hii; exact hv2 side hside
        · exact hv i' (by omega) side hside)
      apply s_15_30
      try simp only [sm_o, sl_2, su_2, cm_o, cl_0, cu_0, sl_3, sm_3, sn_3, sa_3, sz_3, sl_6, sm_6, sn_6, sa_6, sz_6, cl_9, cm_9, cn_9, ca_9, cz_9, sl_4, sm_4, sn_4, sa_4, sz_4, true_and, and_true, true_or, or_true, implies_true, b10_0, b10_1]
      repeat' (first | refine And.intro ?_ ?_ | intro _)
      all_goals (try (first | omega | (unfold r32; omega) | exact hQ | exact qe hQ (by omega) | exact qe hQ (by (repeat' split) <;> omega) | exact b01 | exact n01 | exact n21 | exact n31 | exact absurd trivial (by assumption)))
      all_goals (try exact nx _ _ _)
    · intro j hj ihj h hF h0 hv hv2 v5
      have e11 : ((j + 1 : Nat) : Int) = (j : Int) + 1 := by omega
      have ej : ((q : Int) * 4 + (j : Int)).toNat = 4 * q + j := by omega
      have eij : ((i : Int) * 4 + (j : Int)).toNat = 4 * i + j := by omega
      have f60 : h (60 + 5 * s) (4 * q + j) = nearf (g (56 + 5 * s) 0) (g (56 + 5 * s) 1) (q : Int) j := by rw [hF _ _ (by omega)]; exact h6 q hqwh j hj
      have hr := nearf_r p1.2 p2.2 (show 0 ≤ (q : Int) ∧ (q : Int) < g (56 + 5 * s) 0 * g (56 + 5 * s) 1 by omega) hj
      rw [e11] at ihj
      have fin : ∀ y v5, (y = if nearf (g (56 + 5 * s) 0) (g (56 + 5 * s) 1) (q : Int) j = -1 then -1 else g (58 + 5 * s) (nearf (g (56 + 5 * s) 0) (g (56 + 5 * s) 1) (q : Int) j).toNat) → Wp X d SH 15 74 [(2, 20 + 6 * (c : Int)), (2, 57 + 5 * (s : Int)), (0, (i : Int)), (0, (q : Int) * 4), (0, (j : Int)), v5] [(0, y), (0, (i : Int) * 4 + (j : Int)), (2, 24 + 6 * (c : Int))] SH (fl h) Q := by
        intro y v5 hy
        generalize hm : mup h (23 + 6 * c) (4 * i + j) y = m1
        have fm : ∀ o k, ¬ (o = 23 + 6 * c ∧ k = 4 * i + j) → m1 o k = h o k := fun o k ho => by rw [← hm, mup_n ho]
        have nx := ihj m1 (fun o k ho => by rw [fm _ _ (by omega)]; exact hF o k ho) (by rw [fm _ _ (by omega)]; exact h0) (fun i' hi' side hside => by rw [fm _ _ (by omega)]; exact hv i' hi' side hside) (fun side hside => by
          by_cases hsj : side = j
          · subst hsj
            rw [← hm, mup_e, hq]
            exact hy
          · rw [fm _ _ (by omega)]; exact hv2 side (by omega))
        have m23 := cm_9 hc
        have l23 := cn_9 hc
        have z23 := cz_9 h hc
        apply s_15_74
        try simp only [sm_o, sl_2, su_2, cm_o, cl_0, cu_0, sl_3, sm_3, sn_3, sa_3, sz_3, sl_6, sm_6, sn_6, sa_6, sz_6, cl_9, cm_9, cn_9, ca_9, cz_9, sl_4, sm_4, sn_4, sa_4, sz_4, eij, m23, l23, z23, hm, true_and, and_true, true_or, or_true, implies_true, b10_0, b10_1]
        repeat' (first | refine And.intro ?_ ?_ | intro _)
        all_goals (try (first | omega | (unfold r32; omega) | exact hQ | exact qe hQ (by omega) | exact qe hQ (by (repeat' split) <;> omega) | exact b01 | exact n01 | exact n21 | exact n31 | exact absurd trivial (by assumption)))
        apply s_15_75
        try simp only [sm_o, sl_2, su_2, cm_o, cl_0, cu_0, sl_3, sm_3, sn_3, sa_3, sz_3, sl_6, sm_6, sn_6, sa_6, sz_6, cl_9, cm_9, cn_9, ca_9, cz_9, sl_4, sm_4, sn_4, sa_4, sz_4, true_and, and_true, true_or, or_true, implies_true, b10_0, b10_1]
        repeat' (first | refine And.intro ?_ ?_ | intro _)
        all_goals (try (first | omega | (unfold r32; omega) | exact hQ | exact qe hQ (by omega) | exact qe hQ (by (repeat' split) <;> omega) | exact b01 | exact n01 | exact n21 | exact n31 | exact absurd trivial (by assumption)))
        all_goals (try exact nx _)
      generalize hnf : nearf (g (56 + 5 * s) 0) (g (56 + 5 * s) 1) (q : Int) j = nf at *
      by_cases hz : nf = -1
      · have f1 := fun v5 => fin (-1) v5 (by rw [if_pos hz])
        apply s_15_30
        try simp only [sm_o, sl_2, su_2, cm_o, cl_0, cu_0, sl_3, sm_3, sn_3, sa_3, sz_3, sl_6, sm_6, sn_6, sa_6, sz_6, cl_9, cm_9, cn_9, ca_9, cz_9, sl_4, sm_4, sn_4, sa_4, sz_4, hs, ej, f60, true_and, and_true, true_or, or_true, implies_true, b10_0, b10_1]
        repeat' (first | refine And.intro ?_ ?_ | intro _)
        all_goals (try (first | omega | (unfold r32; omega) | exact hQ | exact qe hQ (by omega) | exact qe hQ (by (repeat' split) <;> omega) | exact b01 | exact n01 | exact n21 | exact n31 | exact absurd trivial (by assumption)))
        apply s_15_47
        try simp only [sm_o, sl_2, su_2, cm_o, cl_0, cu_0, sl_3, sm_3, sn_3, sa_3, sz_3, sl_6, sm_6, sn_6, sa_6, sz_6, cl_9, cm_9, cn_9, ca_9, cz_9, sl_4, sm_4, sn_4, sa_4, sz_4, hc, hs, true_and, and_true, true_or, or_true, implies_true, b10_0, b10_1]
        repeat' (first | refine And.intro ?_ ?_ | intro _)
        all_goals (try (first | omega | (unfold r32; omega) | exact hQ | exact qe hQ (by omega) | exact qe hQ (by (repeat' split) <;> omega) | exact b01 | exact n01 | exact n21 | exact n31 | exact absurd trivial (by assumption)))
        all_goals (try exact f1 _)
      · have f1 := fun v5 => fin (g (58 + 5 * s) nf.toNat) v5 (by rw [if_neg hz])
        have f58 : h (58 + 5 * s) nf.toNat = g (58 + 5 * s) nf.toNat := hF _ _ (by omega)
        apply s_15_30
        try simp only [sm_o, sl_2, su_2, cm_o, cl_0, cu_0, sl_3, sm_3, sn_3, sa_3, sz_3, sl_6, sm_6, sn_6, sa_6, sz_6, cl_9, cm_9, cn_9, ca_9, cz_9, sl_4, sm_4, sn_4, sa_4, sz_4, hs, ej, f60, true_and, and_true, true_or, or_true, implies_true, b10_0, b10_1]
        repeat' (first | refine And.intro ?_ ?_ | intro _)
        all_goals (try (first | omega | (unfold r32; omega) | exact hQ | exact qe hQ (by omega) | exact qe hQ (by (repeat' split) <;> omega) | exact b01 | exact n01 | exact n21 | exact n31 | exact absurd trivial (by assumption)))
        apply s_15_47
        try simp only [sm_o, sl_2, su_2, cm_o, cl_0, cu_0, sl_3, sm_3, sn_3, sa_3, sz_3, sl_6, sm_6, sn_6, sa_6, sz_6, cl_9, cm_9, cn_9, ca_9, cz_9, sl_4, sm_4, sn_4, sa_4, sz_4, hc, hs, f58, true_and, and_true, true_or, or_true, implies_true, b10_0, b10_1]
        repeat' (first | refine And.intro ?_ ?_ | intro _)
        all_goals (try (first | omega | (unfold r32; omega) | exact hQ | exact qe hQ (by omega) | exact qe hQ (by (repeat' split) <;> omega) | exact b01 | exact n01 | exact n21 | exact n31 | exact absurd trivial (by assumption)))
        all_goals (try exact f1 _)
