/-! told -/
theorem sumN_tl {n m : Nat} {a : Nat → Int} (hnm : n ≤ m) (h : ∀ k, n ≤ k → k < m → a k = 0) : sumN m a = sumN n a := by
  obtain ⟨j, rfl⟩ : ∃ j, m = n + j := ⟨m - n, by omega⟩
  rw [sumN_add, sumN_nil (n := j) (fun k hk => h (n + k) (by omega) (by omega))]
  omega
theorem c66 (X : mX) (g : mF) {s : Nat} (hs : s < 6) (hI : Iseal g s) : Ret X 0 66 [(2, 57 + 5 * (s : Int)), (3, 0), (3, 0)] g (some (0, sumN 36 (g (59 + 5 * s)))) g := by
  intro d Q hd hQ
  obtain ⟨⟨p1, p2, -, -⟩, s2, s3, -, -, -, -⟩ := hI
  have hwh := mul_b p1.2 p2.2
  obtain ⟨n, hn⟩ : ∃ n : Nat, g (56 + 5 * s) 0 * g (56 + 5 * s) 1 = (n : Int) := ⟨(g (56 + 5 * s) 0 * g (56 + 5 * s) 1).toNat, by omega⟩
  rw [sumN_tl (n := n) (by omega) (fun k k1 k2 => s3 k k2 (by omega))] at hQ
  have key := lup (P := fun i => Wp X d SH 66 4 [(2, 57 + 5 * (s : Int)), (0, sumN i (g (59 + 5 * s))), (0, (i : Int))] [] SH (fl g) Q) n ?_ ?_ 0 (by omega)
  · skip
    apply s_66_0
    try simp only [sm_o, sl_0, su_0, sl_1, su_1, sl_5, sm_5, sn_5, sa_5, sz_5, true_and, and_true, true_or, or_true, implies_true, b10_0, b10_1]
    repeat' (first | refine And.intro ?_ ?_ | intro _)
    all_goals (try (first | omega | (unfold r32; omega) | exact hQ | exact qe hQ (by omega) | exact qe hQ (by (repeat' split) <;> omega) | exact b01 | exact n01 | exact n21 | exact n31 | exact absurd trivial (by assumption)))
    all_goals (try exact key)
  · skip
    apply s_66_4
    try simp only [sm_o, sl_0, su_0, sl_1, su_1, sl_5, sm_5, sn_5, sa_5, sz_5, hs, hn, true_and, and_true, true_or, or_true, implies_true, b10_0, b10_1]
    repeat' (first | refine And.intro ?_ ?_ | intro _)
    all_goals (try (first | omega | (unfold r32; omega) | exact hQ | exact qe hQ (by omega) | exact qe hQ (by (repeat' split) <;> omega) | exact b01 | exact n01 | exact n21 | exact n31 | exact absurd trivial (by assumption)))
  · intro i hi ih
    have e10 : ((i + 1 : Nat) : Int) = (i : Int) + 1 := by omega
    have ei : ((i : Int)).toNat = i := by omega
    have es : sumN (i + 1) (g (59 + 5 * s)) = sumN i (g (59 + 5 * s)) + g (59 + 5 * s) i := rfl
    have b := sumN_b (n := i) (a := g (59 + 5 * s)) (lo := 0) (hi := 1) (fun k hk => by
      rcases (s2 k (by omega)).2 with z | z <;> omega)
    have bi := (s2 i (by omega)).2
    rw [es, e10] at ih
    generalize sumN i (g (59 + 5 * s)) = S at *
    clear s2 s3
    apply s_66_4
    try simp only [sm_o, sl_0, su_0, sl_1, su_1, sl_5, sm_5, sn_5, sa_5, sz_5, hs, hn, ei, true_and, and_true, true_or, or_true, implies_true, b10_0, b10_1]
    repeat' (first | refine And.intro ?_ ?_ | intro _)
    all_goals (try (first | omega | (unfold r32; omega) | exact hQ | exact qe hQ (by omega) | exact qe hQ (by (repeat' split) <;> omega) | exact b01 | exact n01 | exact n21 | exact n31 | exact absurd trivial (by assumption)))
    all_goals (try exact ih)
theorem T_told (X : mX) (g : mF) (a b : Int) (hI : ∀ s, s < 6 → Iseal g s) : PR X 92 163 [(2, 1), (0, a), (0, b), (3, 0)] [(2, 87), (0, a), (0, b), (3, 0), (3, 0), (3, 0)] g (fun g2 => g2 = g) := by
  by_cases ha : 0 ≤ a ∧ a ≤ 5
  · obtain ⟨s, rfl⟩ : ∃ s : Nat, a = (s : Int) := ⟨a.toNat, by omega⟩
    have hs : s < 6 := by omega
    have es : ((s : Int)).toNat = s := by omega
    have hIs := hI s hs
    obtain ⟨⟨p1, p2, ⟨p3, p4, p5⟩, p6⟩, s2, s3, s4', s5, s6, s7⟩ := id hIs
    have hwh := mul_b p1.2 p2.2
    obtain ⟨N, hN⟩ : ∃ N : Nat, g (56 + 5 * s) 2 = (N : Int) := ⟨(g (56 + 5 * s) 2).toNat, by omega⟩
    have t67 := c67 X g hs hIs hN
    have t162 := c162 X g hs hIs hN
    have t66 := c66 X g hs hIs
    generalize Tt (PA g s) N = T at *
    have al : ∀ kind : Int, 1 ≤ kind ∧ kind ≤ 3 → ∃ e : Int, (e = 0 ∨ e = 1) ∧ Ret X 1 70 [(2, 57 + 5 * (s : Int)), (2, 59 + 5 * (s : Int)), (0, kind), (3, 0), (3, 0), (3, 0), (3, 0)] g (some (0, e)) g ∧ Ret X 1 156 [(2, 87), (0, (s : Int)), (2, 91), (0, 36 * (s : Int)), (0, (N : Int)), (0, kind), (3, 0), (3, 0), (3, 0), (3, 0)] g (some (0, e)) g := by
      intro kind hk
      have c1 := c70 X g hs p1.2 p2.2 (sm_4 hs) (sn_4 hs) (p := g (58 + 5 * s)) (sa_4 g hs) (kind := kind) (by omega)
      have hr : ∀ i, i < N → 0 ≤ g 90 (36 * s + i) ∧ g 90 (36 * s + i) < g (56 + 5 * s) 0 * g (56 + 5 * s) 1 := fun i hi => by
        rw [(p6 i (by omega)).1]
        exact ⟨(p6 i (by omega)).2.1, (s5 i (by omega)).2⟩
      have c2 := c156 X g hs p1.2 p2.2 p1.1 p2.1 (R := 91) mi_91 (L := 216) ml_91 (ρ := g 90) (fun k => fl_91 g k) (F := 36 * s) (M := N) (by omega) (by omega) hr hk
      have ai := AL_iff (h := g (56 + 5 * s) 1) (kind := kind) (N := N) (ρ := fun i => g 90 (36 * s + i)) (p := g (58 + 5 * s)) p1.2 hr (fun i hi => by
        show g (58 + 5 * s) (g 90 (36 * s + i)).toNat = (i : Int)
        rw [(p6 i (by omega)).1]
        exact (s5 i (by omega)).1) (fun k hk => by
        rcases s4' k (by omega) with z | ⟨j, z1, z2, z3⟩
        · exact Or.inl z
        · refine Or.inr ⟨j, by omega, z2, ?_⟩
          show g 90 (36 * s + j) = (k : Int)
          rw [(p6 j (by omega)).1]
          exact z3)
      rw [show ((36 * s : Nat) : Int) = 36 * (s : Int) by omega] at c2
      by_cases hA : ALC (g (56 + 5 * s) 0) (g (56 + 5 * s) 1) kind (g (58 + 5 * s))
      · exact ⟨1, Or.inr rfl, c1.1 hA, c2.1 (ai.1 hA)⟩
      · exact ⟨0, Or.inl rfl, c1.2 hA, c2.2 (fun z => hA (ai.2 z))⟩
    obtain ⟨e1, z1, r1, m1⟩ := al 1 (by omega)
    obtain ⟨e2, z2, r2, m2⟩ := al 2 (by omega)
    obtain ⟨e3, z3, r3, m3⟩ := al 3 (by omega)
    have hB : ∀ k, k < 36 → (g 89 (36 * s + k) = g (59 + 5 * s) k ∧ (g (59 + 5 * s) k = 0 ∨ g (59 + 5 * s) k = 1)) := s2
    have bB := fun i (hi : i ≤ 36) => sumN_b (n := i) (a := g (59 + 5 * s)) (lo := 0) (hi := 1) (fun k hk => by
      rcases (s2 k (by omega)).2 with z | z <;> omega)
    clear al s2 s3 s4' s5 s6 s7 p6
    have k69 : Ret X 2 69 [(2, 57 + 5 * (s : Int)), (3, 0), (3, 0)] g (some (0, 2 * e1 + 4 * e2 + 8 * e3)) g := by
      intro d Q hd hQ
      have stp : ∀ x k v e : Int, k ≤ 3 → 1 ≤ k → Ret X 1 70 [(2, 57 + 5 * (s : Int)), (2, 59 + 5 * (s : Int)), (0, k), (3, 0), (3, 0), (3, 0), (3, 0)] g (some (0, e)) g → (e = 0 ∧ x = v ∨ e = 1 ∧ ((Int32.ofInt x ||| Int32.ofInt ((Int32.ofInt 1 <<< (Int32.ofInt k &&& 31)).toInt)).toInt) = v) → Wp X d SH 69 4 [(2, 57 + 5 * (s : Int)), (0, v), (0, k + 1)] [] SH (fl g) Q → Wp X d SH 69 4 [(2, 57 + 5 * (s : Int)), (0, x), (0, k)] [] SH (fl g) Q := by
        intro x k v e hk hk1 m hv hw
        apply s_69_4
        refine ⟨fun z => absurd z (by omega), fun _ => ⟨sm_o hs, by omega, sm_o hs, ?_⟩⟩
        rw [sl_4 g hs]
        refine m _ _ (by omega) ?_
        apply s_69_18
        have rk : r32 (k + 1) := by unfold r32; omega
        rcases hv with ⟨rfl, rfl⟩ | ⟨rfl, hv⟩
        · refine ⟨fun _ => ?_, fun z => absurd rfl z⟩
          apply s_69_27
          exact ⟨rk, hw⟩
        · refine ⟨fun z => absurd z (by decide), fun _ => ?_⟩
          rw [hv]
          apply s_69_27
          exact ⟨rk, hw⟩
      have w4 : Wp X d SH 69 4 [(2, 57 + 5 * (s : Int)), (0, 2 * e1 + 4 * e2 + 8 * e3), (0, 3 + 1)] [] SH (fl g) Q := by
        apply s_69_4
        exact ⟨fun _ => hQ, fun z => absurd (by decide) z⟩
      have w3 := stp (2 * e1 + 4 * e2) 3 _ e3 (by decide) (by decide) r3 (by
        rcases z1 with rfl | rfl <;> rcases z2 with rfl | rfl <;> rcases z3 with rfl | rfl <;> first | exact Or.inl ⟨rfl, by decide⟩ | exact Or.inr ⟨rfl, by decide⟩) w4
      have w2 := stp (2 * e1) 2 _ e2 (by decide) (by decide) r2 (by
        rcases z1 with rfl | rfl <;> rcases z2 with rfl | rfl <;> first | exact Or.inl ⟨rfl, by decide⟩ | exact Or.inr ⟨rfl, by decide⟩) w3
      have w1 := stp 0 1 _ e1 (by decide) (by decide) r1 (by
        rcases z1 with rfl | rfl <;> first | exact Or.inl ⟨rfl, by decide⟩ | exact Or.inr ⟨rfl, by decide⟩) w2
      apply s_69_0
      exact w1
    have pre : ∀ d Q, 60 ≤ d → Wp X d SH 163 58 [(2, 87), (0, (s : Int)), (0, b), (0, sumN 36 (g (59 + 5 * s))), (0, 2 * e1 + 4 * e2 + 8 * e3), (0, 3 + 1)] [] SH (fl g) Q → Wp X d SH 163 0 [(2, 87), (0, (s : Int)), (0, b), (3, 0), (3, 0), (3, 0)] [] SH (fl g) Q := by
      intro d Q hd w4
      have t91 : g 91 s = (N : Int) := by rw [p3, hN]
      have stp : ∀ x k v e : Int, k ≤ 3 → 1 ≤ k → Ret X 1 156 [(2, 87), (0, (s : Int)), (2, 91), (0, 36 * (s : Int)), (0, (N : Int)), (0, k), (3, 0), (3, 0), (3, 0), (3, 0)] g (some (0, e)) g → (e = 0 ∧ ((Int32.ofInt x ||| Int32.ofInt 0).toInt) = v ∨ e = 1 ∧ ((Int32.ofInt x ||| Int32.ofInt ((Int32.ofInt 1 <<< (Int32.ofInt k &&& 31)).toInt)).toInt) = v) → Wp X d SH 163 58 [(2, 87), (0, (s : Int)), (0, b), (0, sumN 36 (g (59 + 5 * s))), (0, v), (0, k + 1)] [] SH (fl g) Q → Wp X d SH 163 58 [(2, 87), (0, (s : Int)), (0, b), (0, sumN 36 (g (59 + 5 * s))), (0, x), (0, k)] [] SH (fl g) Q := by
        intro x k v e hk hk1 m hv hw
        have rk : r32 (k + 1) := by unfold r32; omega
        have fin : Wp X d SH 163 87 [(2, 87), (0, (s : Int)), (0, b), (0, sumN 36 (g (59 + 5 * s))), (0, x), (0, k)] [(0, e), (0, x)] SH (fl g) Q := by
          apply s_163_87
          rcases hv with ⟨rfl, hv⟩ | ⟨rfl, hv⟩
          · refine ⟨fun _ => ?_, fun z => absurd rfl z⟩
            apply s_163_98
            rw [hv]
            apply s_163_101
            exact ⟨rk, hw⟩
          · refine ⟨fun z => absurd z (by decide), fun _ => ?_⟩
            apply s_163_98
            rw [hv]
            apply s_163_101
            exact ⟨rk, hw⟩
        clear hv hw
        apply s_163_58
        try simp only [mi_87, fl_87_2, mi_90, ml_90, fl_90, up_90, fl_87_3, mi_91, ml_91, fl_91, up_91, fl_87_4, mi_92, ml_92, fl_92, up_92, fl_87_0, mi_88, ml_88, fl_88, up_88, fl_87_1, mi_89, ml_89, fl_89, up_89, es, t91, true_and, and_true, true_or, or_true, implies_true, b10_0, b10_1]
        repeat' (first | refine And.intro ?_ ?_ | intro _)
        all_goals (try (first | omega | (unfold r32; omega) | exact hQ | exact qe hQ (by omega) | exact qe hQ (by (repeat' split) <;> omega) | exact b01 | exact n01 | exact n21 | exact n31 | exact absurd trivial (by assumption)))
        all_goals (try contradiction)
        refine m _ _ (by omega) ?_
        exact fin
      have w3 := stp (2 * e1 + 4 * e2) 3 _ e3 (by decide) (by decide) m3 (by
        rcases z1 with rfl | rfl <;> rcases z2 with rfl | rfl <;> rcases z3 with rfl | rfl <;> first | exact Or.inl ⟨rfl, by decide⟩ | exact Or.inr ⟨rfl, by decide⟩) w4
      have w2 := stp (2 * e1) 2 _ e2 (by decide) (by decide) m2 (by
        rcases z1 with rfl | rfl <;> rcases z2 with rfl | rfl <;> first | exact Or.inl ⟨rfl, by decide⟩ | exact Or.inr ⟨rfl, by decide⟩) w3
      have w1 := stp 0 1 _ e1 (by decide) (by decide) m1 (by
        rcases z1 with rfl | rfl <;> first | exact Or.inl ⟨rfl, by decide⟩ | exact Or.inr ⟨rfl, by decide⟩) w2
      have key := lup (P := fun i => Wp X d SH 163 16 [(2, 87), (0, (s : Int)), (0, b), (0, sumN i (g (59 + 5 * s))), (0, (i : Int)), (3, 0)] [] SH (fl g) Q) 36 ?_ ?_ 0 (by omega)
      · skip
        apply s_163_0
        try simp only [mi_87, fl_87_2, mi_90, ml_90, fl_90, up_90, fl_87_3, mi_91, ml_91, fl_91, up_91, fl_87_4, mi_92, ml_92, fl_92, up_92, fl_87_0, mi_88, ml_88, fl_88, up_88, fl_87_1, mi_89, ml_89, fl_89, up_89, true_and, and_true, true_or, or_true, implies_true, b10_0, b10_1]
        repeat' (first | refine And.intro ?_ ?_ | intro _)
        all_goals (try (first | omega | (unfold r32; omega) | exact hQ | exact qe hQ (by omega) | exact qe hQ (by (repeat' split) <;> omega) | exact b01 | exact n01 | exact n21 | exact n31 | exact absurd trivial (by assumption)))
        refine c147 X _ _ _ _ (by omega) ?_
        apply s_163_4
        try simp only [mi_87, fl_87_2, mi_90, ml_90, fl_90, up_90, fl_87_3, mi_91, ml_91, fl_91, up_91, fl_87_4, mi_92, ml_92, fl_92, up_92, fl_87_0, mi_88, ml_88, fl_88, up_88, fl_87_1, mi_89, ml_89, fl_89, up_89, true_and, and_true, true_or, or_true, implies_true, b10_0, b10_1]
        repeat' (first | refine And.intro ?_ ?_ | intro _)
        all_goals (try (first | omega | (unfold r32; omega) | exact hQ | exact qe hQ (by omega) | exact qe hQ (by (repeat' split) <;> omega) | exact b01 | exact n01 | exact n21 | exact n31 | exact absurd trivial (by assumption)))
        all_goals (try exact key)
      · apply s_163_16
        exact ⟨fun _ => w1, fun z => absurd (by decide) z⟩
      · intro i hi ih
        have e10 : ((i + 1 : Nat) : Int) = (i : Int) + 1 := by omega
        have esi : (36 * (s : Int) + (i : Int)).toNat = 36 * s + i := by omega
        have eS : sumN (i + 1) (g (59 + 5 * s)) = sumN i (g (59 + 5 * s)) + g (59 + 5 * s) i := rfl
        have bb := bB i (by omega)
        obtain ⟨h1, h2⟩ := hB i hi
        rw [eS, e10] at ih
        generalize sumN i (g (59 + 5 * s)) = S at *
        clear hB bB w1 w2 w3 w4 stp
        rcases h2 with h2 | h2
        · rw [h2] at h1 ih
          apply s_163_16
          try simp only [mi_87, fl_87_2, mi_90, ml_90, fl_90, up_90, fl_87_3, mi_91, ml_91, fl_91, up_91, fl_87_4, mi_92, ml_92, fl_92, up_92, fl_87_0, mi_88, ml_88, fl_88, up_88, fl_87_1, mi_89, ml_89, fl_89, up_89, esi, h1, true_and, and_true, true_or, or_true, implies_true, b10_0, b10_1]
          repeat' (first | refine And.intro ?_ ?_ | intro _)
          all_goals (try (first | omega | (unfold r32; omega) | exact hQ | exact qe hQ (by omega) | exact qe hQ (by (repeat' split) <;> omega) | exact b01 | exact n01 | exact n21 | exact n31 | exact absurd trivial (by assumption)))
          apply s_163_44
          try simp only [mi_87, fl_87_2, mi_90, ml_90, fl_90, up_90, fl_87_3, mi_91, ml_91, fl_91, up_91, fl_87_4, mi_92, ml_92, fl_92, up_92, fl_87_0, mi_88, ml_88, fl_88, up_88, fl_87_1, mi_89, ml_89, fl_89, up_89, true_and, and_true, true_or, or_true, implies_true, b10_0, b10_1]
          repeat' (first | refine And.intro ?_ ?_ | intro _)
          all_goals (try (first | omega | (unfold r32; omega) | exact hQ | exact qe hQ (by omega) | exact qe hQ (by (repeat' split) <;> omega) | exact b01 | exact n01 | exact n21 | exact n31 | exact absurd trivial (by assumption)))
          all_goals (try exact ih)
        · rw [h2] at h1 ih
          apply s_163_16
          try simp only [mi_87, fl_87_2, mi_90, ml_90, fl_90, up_90, fl_87_3, mi_91, ml_91, fl_91, up_91, fl_87_4, mi_92, ml_92, fl_92, up_92, fl_87_0, mi_88, ml_88, fl_88, up_88, fl_87_1, mi_89, ml_89, fl_89, up_89, esi, h1, true_and, and_true, true_or, or_true, implies_true, b10_0, b10_1]
          repeat' (first | refine And.intro ?_ ?_ | intro _)
          all_goals (try (first | omega | (unfold r32; omega) | exact hQ | exact qe hQ (by omega) | exact qe hQ (by (repeat' split) <;> omega) | exact b01 | exact n01 | exact n21 | exact n31 | exact absurd trivial (by assumption)))
          apply s_163_44
          try simp only [mi_87, fl_87_2, mi_90, ml_90, fl_90, up_90, fl_87_3, mi_91, ml_91, fl_91, up_91, fl_87_4, mi_92, ml_92, fl_92, up_92, fl_87_0, mi_88, ml_88, fl_88, up_88, fl_87_1, mi_89, ml_89, fl_89, up_89, true_and, and_true, true_or, or_true, implies_true, b10_0, b10_1]
          repeat' (first | refine And.intro ?_ ?_ | intro _)
          all_goals (try (first | omega | (unfold r32; omega) | exact hQ | exact qe hQ (by omega) | exact qe hQ (by (repeat' split) <;> omega) | exact b01 | exact n01 | exact n21 | exact n31 | exact absurd trivial (by assumption)))
          all_goals (try exact ih)
    clear m1 m2 m3 r1 r2 r3
    generalize sumN 36 (g (59 + 5 * s)) = BS at *
    generalize 2 * e1 + 4 * e2 + 8 * e3 = K at *
    clear hB bB z1 z2 z3
    have t91 : g 91 s = (N : Int) := by rw [p3, hN]
    have q87 := p1.1
    have q88 := p2.1
    have done : ∀ r : Int, Ret X 60 92 [(2, 1), (0, (s : Int)), (0, b), (3, 0)] g (some (0, r)) g → Ret X 60 163 [(2, 87), (0, (s : Int)), (0, b), (3, 0), (3, 0), (3, 0)] g (some (0, r)) g → PR X 92 163 [(2, 1), (0, (s : Int)), (0, b), (3, 0)] [(2, 87), (0, (s : Int)), (0, b), (3, 0), (3, 0), (3, 0)] g (fun g2 => g2 = g) := fun r h1 h2 => PR_of h1 h2 rfl
    have hb : b < 0 ∨ 6 < b ∨ b = 0 ∨ b = 1 ∨ b = 2 ∨ b = 3 ∨ b = 4 ∨ b = 5 ∨ b = 6 := by omega
    have e31 : (3 : Int) + 1 = 4 := rfl
    rw [e31] at pre
    have head : ∀ d Q, 60 ≤ d → Wp X d SH 92 5 [(2, 1), (0, (s : Int)), (0, b), (3, 0)] [(2, 57 + 5 * (s : Int))] SH (fl g) Q → Wp X d SH 92 0 [(2, 1), (0, (s : Int)), (0, b), (3, 0)] [] SH (fl g) Q := by
      intro d Q hd hw
      apply s_92_0
      try simp only [mi_1, sm_o, sl_0, su_0, sl_1, su_1, sl_2, su_2, hs, true_and, and_true, true_or, or_true, implies_true, b10_0, b10_1]
      repeat' (first | refine And.intro ?_ ?_ | intro _)
      all_goals (try (first | omega | (unfold r32; omega) | exact hQ | exact qe hQ (by omega) | exact qe hQ (by (repeat' split) <;> omega) | exact b01 | exact n01 | exact n21 | exact n31 | exact absurd trivial (by assumption)))
      refine c135 X g hs _ _ (by omega) ?_
      exact hw
    rcases hb with hb | hb | rfl | rfl | rfl | rfl | rfl | rfl | rfl
    · refine done (-1002) ?_ ?_
      · intro d Q hd hQ
        refine head d Q hd ?_
        apply s_92_5
        try simp only [mi_1, sm_o, sl_0, su_0, sl_1, su_1, sl_2, su_2, hs, true_and, and_true, true_or, or_true, implies_true, b10_0, b10_1]
        repeat' (first | refine And.intro ?_ ?_ | intro _)
        all_goals (try (first | omega | (unfold r32; omega) | exact hQ | exact qe hQ (by omega) | exact qe hQ (by (repeat' split) <;> omega) | exact b01 | exact n01 | exact n21 | exact n31 | exact absurd trivial (by assumption)))
      · intro d Q hd hQ
        refine pre d Q hd ?_
        apply s_163_58
        try simp only [mi_87, fl_87_2, mi_90, ml_90, fl_90, up_90, fl_87_3, mi_91, ml_91, fl_91, up_91, fl_87_4, mi_92, ml_92, fl_92, up_92, fl_87_0, mi_88, ml_88, fl_88, up_88, fl_87_1, mi_89, ml_89, fl_89, up_89, es, true_and, and_true, true_or, or_true, implies_true, b10_0, b10_1]
        repeat' (first | refine And.intro ?_ ?_ | intro _)
        all_goals (try (first | omega | (unfold r32; omega) | exact hQ | exact qe hQ (by omega) | exact qe hQ (by (repeat' split) <;> omega) | exact b01 | exact n01 | exact n21 | exact n31 | exact absurd trivial (by assumption)))
    · refine done (-1002) ?_ ?_
      · intro d Q hd hQ
        refine head d Q hd ?_
        apply s_92_5
        try simp only [mi_1, sm_o, sl_0, su_0, sl_1, su_1, sl_2, su_2, hs, true_and, and_true, true_or, or_true, implies_true, b10_0, b10_1]
        repeat' (first | refine And.intro ?_ ?_ | intro _)
        all_goals (try (first | omega | (unfold r32; omega) | exact hQ | exact qe hQ (by omega) | exact qe hQ (by (repeat' split) <;> omega) | exact b01 | exact n01 | exact n21 | exact n31 | exact absurd trivial (by assumption)))
      · intro d Q hd hQ
        refine pre d Q hd ?_
        apply s_163_58
        try simp only [mi_87, fl_87_2, mi_90, ml_90, fl_90, up_90, fl_87_3, mi_91, ml_91, fl_91, up_91, fl_87_4, mi_92, ml_92, fl_92, up_92, fl_87_0, mi_88, ml_88, fl_88, up_88, fl_87_1, mi_89, ml_89, fl_89, up_89, es, true_and, and_true, true_or, or_true, implies_true, b10_0, b10_1]
        repeat' (first | refine And.intro ?_ ?_ | intro _)
        all_goals (try (first | omega | (unfold r32; omega) | exact hQ | exact qe hQ (by omega) | exact qe hQ (by (repeat' split) <;> omega) | exact b01 | exact n01 | exact n21 | exact n31 | exact absurd trivial (by assumption)))
    · refine done (g (56 + 5 * s) 0) ?_ ?_
      · intro d Q hd hQ
        refine head d Q hd ?_
        apply s_92_5
        try simp only [mi_1, sm_o, sl_0, su_0, sl_1, su_1, sl_2, su_2, hs, true_and, and_true, true_or, or_true, implies_true, b10_0, b10_1]
        repeat' (first | refine And.intro ?_ ?_ | intro _)
        all_goals (try (first | omega | (unfold r32; omega) | exact hQ | exact qe hQ (by omega) | exact qe hQ (by (repeat' split) <;> omega) | exact b01 | exact n01 | exact n21 | exact n31 | exact absurd trivial (by assumption)))
      · intro d Q hd hQ
        refine pre d Q hd ?_
        apply s_163_58
        try simp only [mi_87, fl_87_2, mi_90, ml_90, fl_90, up_90, fl_87_3, mi_91, ml_91, fl_91, up_91, fl_87_4, mi_92, ml_92, fl_92, up_92, fl_87_0, mi_88, ml_88, fl_88, up_88, fl_87_1, mi_89, ml_89, fl_89, up_89, es, q87, true_and, and_true, true_or, or_true, implies_true, b10_0, b10_1]
        repeat' (first | refine And.intro ?_ ?_ | intro _)
        all_goals (try (first | omega | (unfold r32; omega) | exact hQ | exact qe hQ (by omega) | exact qe hQ (by (repeat' split) <;> omega) | exact b01 | exact n01 | exact n21 | exact n31 | exact absurd trivial (by assumption)))
    · refine done (g (56 + 5 * s) 1) ?_ ?_
      · intro d Q hd hQ
        refine head d Q hd ?_
        apply s_92_5
        try simp only [mi_1, sm_o, sl_0, su_0, sl_1, su_1, sl_2, su_2, hs, true_and, and_true, true_or, or_true, implies_true, b10_0, b10_1]
        repeat' (first | refine And.intro ?_ ?_ | intro _)
        all_goals (try (first | omega | (unfold r32; omega) | exact hQ | exact qe hQ (by omega) | exact qe hQ (by (repeat' split) <;> omega) | exact b01 | exact n01 | exact n21 | exact n31 | exact absurd trivial (by assumption)))
      · intro d Q hd hQ
        refine pre d Q hd ?_
        apply s_163_58
        try simp only [mi_87, fl_87_2, mi_90, ml_90, fl_90, up_90, fl_87_3, mi_91, ml_91, fl_91, up_91, fl_87_4, mi_92, ml_92, fl_92, up_92, fl_87_0, mi_88, ml_88, fl_88, up_88, fl_87_1, mi_89, ml_89, fl_89, up_89, es, q88, true_and, and_true, true_or, or_true, implies_true, b10_0, b10_1]
        repeat' (first | refine And.intro ?_ ?_ | intro _)
        all_goals (try (first | omega | (unfold r32; omega) | exact hQ | exact qe hQ (by omega) | exact qe hQ (by (repeat' split) <;> omega) | exact b01 | exact n01 | exact n21 | exact n31 | exact absurd trivial (by assumption)))
    · refine done BS ?_ ?_
      · intro d Q hd hQ
        refine head d Q hd ?_
        apply s_92_5
        try simp only [mi_1, sm_o, sl_0, su_0, sl_1, su_1, sl_2, su_2, hs, true_and, and_true, true_or, or_true, implies_true, b10_0, b10_1]
        repeat' (first | refine And.intro ?_ ?_ | intro _)
        all_goals (try (first | omega | (unfold r32; omega) | exact hQ | exact qe hQ (by omega) | exact qe hQ (by (repeat' split) <;> omega) | exact b01 | exact n01 | exact n21 | exact n31 | exact absurd trivial (by assumption)))
        refine t66 _ _ (by omega) ?_
        apply s_92_70
        try simp only [mi_1, sm_o, sl_0, su_0, sl_1, su_1, sl_2, su_2, true_and, and_true, true_or, or_true, implies_true, b10_0, b10_1]
        repeat' (first | refine And.intro ?_ ?_ | intro _)
        all_goals (try (first | omega | (unfold r32; omega) | exact hQ | exact qe hQ (by omega) | exact qe hQ (by (repeat' split) <;> omega) | exact b01 | exact n01 | exact n21 | exact n31 | exact absurd trivial (by assumption)))
      · intro d Q hd hQ
        refine pre d Q hd ?_
        apply s_163_58
        try simp only [mi_87, fl_87_2, mi_90, ml_90, fl_90, up_90, fl_87_3, mi_91, ml_91, fl_91, up_91, fl_87_4, mi_92, ml_92, fl_92, up_92, fl_87_0, mi_88, ml_88, fl_88, up_88, fl_87_1, mi_89, ml_89, fl_89, up_89, es, true_and, and_true, true_or, or_true, implies_true, b10_0, b10_1]
        repeat' (first | refine And.intro ?_ ?_ | intro _)
        all_goals (try (first | omega | (unfold r32; omega) | exact hQ | exact qe hQ (by omega) | exact qe hQ (by (repeat' split) <;> omega) | exact b01 | exact n01 | exact n21 | exact n31 | exact absurd trivial (by assumption)))
    · refine done (N : Int) ?_ ?_
      · intro d Q hd hQ
        refine head d Q hd ?_
        apply s_92_5
        try simp only [mi_1, sm_o, sl_0, su_0, sl_1, su_1, sl_2, su_2, hs, hN, true_and, and_true, true_or, or_true, implies_true, b10_0, b10_1]
        repeat' (first | refine And.intro ?_ ?_ | intro _)
        all_goals (try (first | omega | (unfold r32; omega) | exact hQ | exact qe hQ (by omega) | exact qe hQ (by (repeat' split) <;> omega) | exact b01 | exact n01 | exact n21 | exact n31 | exact absurd trivial (by assumption)))
      · intro d Q hd hQ
        refine pre d Q hd ?_
        apply s_163_58
        try simp only [mi_87, fl_87_2, mi_90, ml_90, fl_90, up_90, fl_87_3, mi_91, ml_91, fl_91, up_91, fl_87_4, mi_92, ml_92, fl_92, up_92, fl_87_0, mi_88, ml_88, fl_88, up_88, fl_87_1, mi_89, ml_89, fl_89, up_89, es, t91, true_and, and_true, true_or, or_true, implies_true, b10_0, b10_1]
        repeat' (first | refine And.intro ?_ ?_ | intro _)
        all_goals (try (first | omega | (unfold r32; omega) | exact hQ | exact qe hQ (by omega) | exact qe hQ (by (repeat' split) <;> omega) | exact b01 | exact n01 | exact n21 | exact n31 | exact absurd trivial (by assumption)))
    · refine done (if T = 0 then 1 else 0) ?_ ?_
      · intro d Q hd hQ
        refine head d Q hd ?_
        apply s_92_5
        try simp only [mi_1, sm_o, sl_0, su_0, sl_1, su_1, sl_2, su_2, hs, true_and, and_true, true_or, or_true, implies_true, b10_0, b10_1]
        repeat' (first | refine And.intro ?_ ?_ | intro _)
        all_goals (try (first | omega | (unfold r32; omega) | exact hQ | exact qe hQ (by omega) | exact qe hQ (by (repeat' split) <;> omega) | exact b01 | exact n01 | exact n21 | exact n31 | exact absurd trivial (by assumption)))
        refine t67 _ _ (by omega) ?_
        by_cases hT : T = 0
        · rw [if_pos hT] at hQ
          apply s_92_80
          try simp only [mi_1, sm_o, sl_0, su_0, sl_1, su_1, sl_2, su_2, hT, true_and, and_true, true_or, or_true, implies_true, b10_0, b10_1]
          repeat' (first | refine And.intro ?_ ?_ | intro _)
          all_goals (try (first | omega | (unfold r32; omega) | exact hQ | exact qe hQ (by omega) | exact qe hQ (by (repeat' split) <;> omega) | exact b01 | exact n01 | exact n21 | exact n31 | exact absurd trivial (by assumption)))
        · rw [if_neg hT] at hQ
          apply s_92_80
          try simp only [mi_1, sm_o, sl_0, su_0, sl_1, su_1, sl_2, su_2, hT, true_and, and_true, true_or, or_true, implies_true, b10_0, b10_1]
          repeat' (first | refine And.intro ?_ ?_ | intro _)
          all_goals (try (first | omega | (unfold r32; omega) | exact hQ | exact qe hQ (by omega) | exact qe hQ (by (repeat' split) <;> omega) | exact b01 | exact n01 | exact n21 | exact n31 | exact absurd trivial (by assumption)))
          all_goals (try contradiction)
      · intro d Q hd hQ
        refine pre d Q hd ?_
        apply s_163_58
        try simp only [mi_87, fl_87_2, mi_90, ml_90, fl_90, up_90, fl_87_3, mi_91, ml_91, fl_91, up_91, fl_87_4, mi_92, ml_92, fl_92, up_92, fl_87_0, mi_88, ml_88, fl_88, up_88, fl_87_1, mi_89, ml_89, fl_89, up_89, es, true_and, and_true, true_or, or_true, implies_true, b10_0, b10_1]
        repeat' (first | refine And.intro ?_ ?_ | intro _)
        all_goals (try (first | omega | (unfold r32; omega) | exact hQ | exact qe hQ (by omega) | exact qe hQ (by (repeat' split) <;> omega) | exact b01 | exact n01 | exact n21 | exact n31 | exact absurd trivial (by assumption)))
        refine t162 _ _ (by omega) ?_
        by_cases hT : T = 0
        · rw [if_pos hT] at hQ
          apply s_163_180
          try simp only [mi_87, fl_87_2, mi_90, ml_90, fl_90, up_90, fl_87_3, mi_91, ml_91, fl_91, up_91, fl_87_4, mi_92, ml_92, fl_92, up_92, fl_87_0, mi_88, ml_88, fl_88, up_88, fl_87_1, mi_89, ml_89, fl_89, up_89, hT, true_and, and_true, true_or, or_true, implies_true, b10_0, b10_1]
          repeat' (first | refine And.intro ?_ ?_ | intro _)
          all_goals (try (first | omega | (unfold r32; omega) | exact hQ | exact qe hQ (by omega) | exact qe hQ (by (repeat' split) <;> omega) | exact b01 | exact n01 | exact n21 | exact n31 | exact absurd trivial (by assumption)))
        · rw [if_neg hT] at hQ
          apply s_163_180
          try simp only [mi_87, fl_87_2, mi_90, ml_90, fl_90, up_90, fl_87_3, mi_91, ml_91, fl_91, up_91, fl_87_4, mi_92, ml_92, fl_92, up_92, fl_87_0, mi_88, ml_88, fl_88, up_88, fl_87_1, mi_89, ml_89, fl_89, up_89, hT, true_and, and_true, true_or, or_true, implies_true, b10_0, b10_1]
          repeat' (first | refine And.intro ?_ ?_ | intro _)
          all_goals (try (first | omega | (unfold r32; omega) | exact hQ | exact qe hQ (by omega) | exact qe hQ (by (repeat' split) <;> omega) | exact b01 | exact n01 | exact n21 | exact n31 | exact absurd trivial (by assumption)))
          all_goals (try contradiction)
    · refine done K ?_ ?_
      · intro d Q hd hQ
        refine head d Q hd ?_
        apply s_92_5
        try simp only [mi_1, sm_o, sl_0, su_0, sl_1, su_1, sl_2, su_2, hs, true_and, and_true, true_or, or_true, implies_true, b10_0, b10_1]
        repeat' (first | refine And.intro ?_ ?_ | intro _)
        all_goals (try (first | omega | (unfold r32; omega) | exact hQ | exact qe hQ (by omega) | exact qe hQ (by (repeat' split) <;> omega) | exact b01 | exact n01 | exact n21 | exact n31 | exact absurd trivial (by assumption)))
        refine k69 _ _ (by omega) ?_
        apply s_92_93
        try simp only [mi_1, sm_o, sl_0, su_0, sl_1, su_1, sl_2, su_2, true_and, and_true, true_or, or_true, implies_true, b10_0, b10_1]
        repeat' (first | refine And.intro ?_ ?_ | intro _)
        all_goals (try (first | omega | (unfold r32; omega) | exact hQ | exact qe hQ (by omega) | exact qe hQ (by (repeat' split) <;> omega) | exact b01 | exact n01 | exact n21 | exact n31 | exact absurd trivial (by assumption)))
      · intro d Q hd hQ
        refine pre d Q hd ?_
        apply s_163_58
        try simp only [mi_87, fl_87_2, mi_90, ml_90, fl_90, up_90, fl_87_3, mi_91, ml_91, fl_91, up_91, fl_87_4, mi_92, ml_92, fl_92, up_92, fl_87_0, mi_88, ml_88, fl_88, up_88, fl_87_1, mi_89, ml_89, fl_89, up_89, es, true_and, and_true, true_or, or_true, implies_true, b10_0, b10_1]
        repeat' (first | refine And.intro ?_ ?_ | intro _)
        all_goals (try (first | omega | (unfold r32; omega) | exact hQ | exact qe hQ (by omega) | exact qe hQ (by (repeat' split) <;> omega) | exact b01 | exact n01 | exact n21 | exact n31 | exact absurd trivial (by assumption)))
    · refine done T ?_ ?_
      · intro d Q hd hQ
        refine head d Q hd ?_
        apply s_92_5
        try simp only [mi_1, sm_o, sl_0, su_0, sl_1, su_1, sl_2, su_2, hs, true_and, and_true, true_or, or_true, implies_true, b10_0, b10_1]
        repeat' (first | refine And.intro ?_ ?_ | intro _)
        all_goals (try (first | omega | (unfold r32; omega) | exact hQ | exact qe hQ (by omega) | exact qe hQ (by (repeat' split) <;> omega) | exact b01 | exact n01 | exact n21 | exact n31 | exact absurd trivial (by assumption)))
        refine t67 _ _ (by omega) ?_
        apply s_92_98
        try simp only [mi_1, sm_o, sl_0, su_0, sl_1, su_1, sl_2, su_2, true_and, and_true, true_or, or_true, implies_true, b10_0, b10_1]
        repeat' (first | refine And.intro ?_ ?_ | intro _)
        all_goals (try (first | omega | (unfold r32; omega) | exact hQ | exact qe hQ (by omega) | exact qe hQ (by (repeat' split) <;> omega) | exact b01 | exact n01 | exact n21 | exact n31 | exact absurd trivial (by assumption)))
      · intro d Q hd hQ
        refine pre d Q hd ?_
        apply s_163_58
        try simp only [mi_87, fl_87_2, mi_90, ml_90, fl_90, up_90, fl_87_3, mi_91, ml_91, fl_91, up_91, fl_87_4, mi_92, ml_92, fl_92, up_92, fl_87_0, mi_88, ml_88, fl_88, up_88, fl_87_1, mi_89, ml_89, fl_89, up_89, es, true_and, and_true, true_or, or_true, implies_true, b10_0, b10_1]
        repeat' (first | refine And.intro ?_ ?_ | intro _)
        all_goals (try (first | omega | (unfold r32; omega) | exact hQ | exact qe hQ (by omega) | exact qe hQ (by (repeat' split) <;> omega) | exact b01 | exact n01 | exact n21 | exact n31 | exact absurd trivial (by assumption)))
        refine t162 _ _ (by omega) ?_
        apply s_163_197
        try simp only [mi_87, fl_87_2, mi_90, ml_90, fl_90, up_90, fl_87_3, mi_91, ml_91, fl_91, up_91, fl_87_4, mi_92, ml_92, fl_92, up_92, fl_87_0, mi_88, ml_88, fl_88, up_88, fl_87_1, mi_89, ml_89, fl_89, up_89, true_and, and_true, true_or, or_true, implies_true, b10_0, b10_1]
        repeat' (first | refine And.intro ?_ ?_ | intro _)
        all_goals (try (first | omega | (unfold r32; omega) | exact hQ | exact qe hQ (by omega) | exact qe hQ (by (repeat' split) <;> omega) | exact b01 | exact n01 | exact n21 | exact n31 | exact absurd trivial (by assumption)))
  · have q1 : Ret X 60 92 [(2, 1), (0, a), (0, b), (3, 0)] g (some (0, -1001)) g := by
      intro d Q hd hQ
      apply s_92_0
      try simp only [mi_1, sm_o, sl_0, su_0, sl_1, su_1, sl_2, su_2, true_and, and_true, true_or, or_true, implies_true, b10_0, b10_1]
      repeat' (first | refine And.intro ?_ ?_ | intro _)
      all_goals (try (first | omega | (unfold r32; omega) | exact hQ | exact qe hQ (by omega) | exact qe hQ (by (repeat' split) <;> omega) | exact b01 | exact n01 | exact n21 | exact n31 | exact absurd trivial (by assumption)))
      refine c135n X g _ ha _ _ (by omega) ?_
      apply s_92_5
      try simp only [mi_1, sm_o, sl_0, su_0, sl_1, su_1, sl_2, su_2, true_and, and_true, true_or, or_true, implies_true, b10_0, b10_1]
      repeat' (first | refine And.intro ?_ ?_ | intro _)
      all_goals (try (first | omega | (unfold r32; omega) | exact hQ | exact qe hQ (by omega) | exact qe hQ (by (repeat' split) <;> omega) | exact b01 | exact n01 | exact n21 | exact n31 | exact absurd trivial (by assumption)))
    have q2 : Ret X 60 163 [(2, 87), (0, a), (0, b), (3, 0), (3, 0), (3, 0)] g (some (0, -1001)) g := by
      intro d Q hd hQ
      apply s_163_0
      try simp only [mi_87, fl_87_2, mi_90, ml_90, fl_90, up_90, fl_87_3, mi_91, ml_91, fl_91, up_91, fl_87_4, mi_92, ml_92, fl_92, up_92, fl_87_0, mi_88, ml_88, fl_88, up_88, fl_87_1, mi_89, ml_89, fl_89, up_89, true_and, and_true, true_or, or_true, implies_true, b10_0, b10_1]
      repeat' (first | refine And.intro ?_ ?_ | intro _)
      all_goals (try (first | omega | (unfold r32; omega) | exact hQ | exact qe hQ (by omega) | exact qe hQ (by (repeat' split) <;> omega) | exact b01 | exact n01 | exact n21 | exact n31 | exact absurd trivial (by assumption)))
      refine c147 X _ _ _ _ (by omega) ?_
      apply s_163_4
      try simp only [mi_87, fl_87_2, mi_90, ml_90, fl_90, up_90, fl_87_3, mi_91, ml_91, fl_91, up_91, fl_87_4, mi_92, ml_92, fl_92, up_92, fl_87_0, mi_88, ml_88, fl_88, up_88, fl_87_1, mi_89, ml_89, fl_89, up_89, true_and, and_true, true_or, or_true, implies_true, b10_0, b10_1]
      repeat' (first | refine And.intro ?_ ?_ | intro _)
      all_goals (try (first | omega | (unfold r32; omega) | exact hQ | exact qe hQ (by omega) | exact qe hQ (by (repeat' split) <;> omega) | exact b01 | exact n01 | exact n21 | exact n31 | exact absurd trivial (by assumption)))
    exact PR_of q1 q2 rfl
