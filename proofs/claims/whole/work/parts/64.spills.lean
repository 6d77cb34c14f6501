/-! spills -/
theorem sumN_add {m p : Nat} {a : Nat → Int} : sumN (m + p) a = sumN m a + sumN p (fun j => a (m + j)) := by
  induction p with
  | zero => show sumN m a = sumN m a + 0; omega
  | succ p ih =>
    show sumN (m + p) a + a (m + p) = sumN m a + (sumN p (fun j => a (m + j)) + a (m + p))
    omega
theorem sumN_blk {n b : Nat} {a : Nat → Int} : sumN (b * n) a = sumN n (fun k => sumN b (fun j => a (b * k + j))) := by
  induction n with
  | zero => rfl
  | succ n ih =>
    rw [Nat.mul_succ, sumN_add, ih]
    rfl
theorem sumN_plus {n : Nat} {a b : Nat → Int} : sumN n (fun i => a i + b i) = sumN n a + sumN n b := by
  induction n with
  | zero => rfl
  | succ n ih => simp only [sumN]; rw [ih]; omega
theorem sumN_zero {n : Nat} : sumN n (fun _ => 0) = 0 := by
  induction n with
  | zero => rfl
  | succ n ih => simp only [sumN]; rw [ih]; omega
theorem sumN_swap {n m : Nat} {a : Nat → Nat → Int} : sumN n (fun k => sumN m (fun i => a k i)) = sumN m (fun i => sumN n (fun k => a k i)) := by
  induction n with
  | zero => exact sumN_zero.symm
  | succ n ih => simp only [sumN]; rw [ih, ← sumN_plus]
theorem cnt_t {b e F : Int} : ∀ m : Nat, sumN m (fun j => if b ≤ F + (j : Int) ∧ F + (j : Int) < e then (1 : Int) else 0) = max (min e (F + (m : Int)) - max b F) 0 := by
  intro m
  induction m with
  | zero => simp only [sumN]; omega
  | succ m ih =>
    simp only [sumN]
    rw [ih]
    by_cases h : b ≤ F + (m : Int) ∧ F + (m : Int) < e
    · rw [if_pos h]; omega
    · rw [if_neg h]; omega
/-- ticks of an hour in which a cell burns under another powder's scent -/
def spU (pw b e : Nat → Int) (p F : Int) (i : Nat) : Int := if b i ≠ -1 ∧ pw i ≠ p then max (min (e i) (F + 60) - max (b i) F) 0 else 0
theorem spU_b {pw b e : Nat → Int} {p F : Int} {i : Nat} : 0 ≤ spU pw b e p F i ∧ spU pw b e p F i ≤ 60 := by
  unfold spU
  split <;> omega
theorem c28 (X : mX) {c : Nat} (hc : c < 4) {g s : mF} {p F : Int} (hF : 0 ≤ F ∧ F ≤ 10000) (hn : 0 ≤ g (19 + 6 * c) 0 ∧ g (19 + 6 * c) 0 ≤ 36) (hS : CS g s) (hsb : ∀ i, i < 36 → -1 ≤ s (3 + c) i ∧ s (3 + c) i ≤ 20000 ∧ -1 ≤ s (7 + c) i ∧ s (7 + c) i ≤ 20000) : Ret X 1 28 [(2, 20 + 6 * (c : Int)), (0, p), (0, F), (3, 0), (3, 0), (3, 0), (3, 0)] g (some (0, sumN (g (19 + 6 * c) 0).toNat (spU (g (20 + 6 * c)) (s (3 + c)) (s (7 + c)) p F))) g := by
  intro d Q hd hQ
  have key := lup (P := fun k => ∀ v5 v6, Wp X d SH 28 5 [(2, 20 + 6 * (c : Int)), (0, p), (0, F), (0, sumN k (spU (g (20 + 6 * c)) (s (3 + c)) (s (7 + c)) p F)), (0, (k : Int)), v5, v6] [] SH (fl g) Q) (g (19 + 6 * c) 0).toNat ?_ ?_ 0 (by omega)
  · skip
    apply s_28_0
    try simp only [cm_o, cl_0, cu_0, cl_7, cm_7, cn_7, ca_7, cz_7, cl_1, cm_1, cn_1, ca_1, cz_1, cl_8, cm_8, cn_8, ca_8, cz_8, true_and, and_true, true_or, or_true, implies_true, b10_0, b10_1]
    repeat' (first | refine And.intro ?_ ?_ | intro _)
    all_goals (try (first | omega | (unfold r32; omega) | exact hQ | exact qe hQ (by omega) | exact qe hQ (by (repeat' split) <;> omega) | exact b01 | exact n01 | exact n21 | exact n31 | exact absurd trivial (by assumption)))
    exact key _ _
  · intro v5 v6
    apply s_28_5
    try simp only [cm_o, cl_0, cu_0, cl_7, cm_7, cn_7, ca_7, cz_7, cl_1, cm_1, cn_1, ca_1, cz_1, cl_8, cm_8, cn_8, ca_8, cz_8, hc, true_and, and_true, true_or, or_true, implies_true, b10_0, b10_1]
    repeat' (first | refine And.intro ?_ ?_ | intro _)
    all_goals (try (first | omega | (unfold r32; omega) | exact hQ | exact qe hQ (by omega) | exact qe hQ (by (repeat' split) <;> omega) | exact b01 | exact n01 | exact n21 | exact n31 | exact absurd trivial (by assumption)))
  · intro k hk ih v5 v6
    have e2 : ((k : Int)).toNat = k := by omega
    have e10 : ((k + 1 : Nat) : Int) = (k : Int) + 1 := by omega
    have f := (hS c hc).2.2.2 k (by omega)
    have f1 := f.1
    have f2 := f.2
    have hb := hsb k (by omega)
    have b1 := sumN_b (n := k) (a := spU (g (20 + 6 * c)) (s (3 + c)) (s (7 + c)) p F) (lo := 0) (hi := 60) (fun i _ => spU_b)
    have hu : spU (g (20 + 6 * c)) (s (3 + c)) (s (7 + c)) p F k = if s (3 + c) k ≠ -1 ∧ g (20 + 6 * c) k ≠ p then max (min (s (7 + c) k) (F + 60) - max (s (3 + c) k) F) 0 else 0 := rfl
    have hub := spU_b (pw := g (20 + 6 * c)) (b := s (3 + c)) (e := s (7 + c)) (p := p) (F := F) (i := k)
    simp only [e10, sumN] at ih
    by_cases hz : s (3 + c) k ≠ -1 ∧ g (20 + 6 * c) k ≠ p
    · rw [if_pos hz] at hu
      rw [hu] at ih hub
      apply s_28_5
      try simp only [cm_o, cl_0, cu_0, cl_7, cm_7, cn_7, ca_7, cz_7, cl_1, cm_1, cn_1, ca_1, cz_1, cl_8, cm_8, cn_8, ca_8, cz_8, hc, e2, f1, f2, true_and, and_true, true_or, or_true, implies_true, b10_0, b10_1]
      repeat' (first | refine And.intro ?_ ?_ | intro _)
      all_goals (try (first | omega | (unfold r32; omega) | exact hQ | exact qe hQ (by omega) | exact qe hQ (by (repeat' split) <;> omega) | exact b01 | exact n01 | exact n21 | exact n31 | exact absurd trivial (by assumption)))
      apply s_28_49
      try simp only [cm_o, cl_0, cu_0, cl_7, cm_7, cn_7, ca_7, cz_7, cl_1, cm_1, cn_1, ca_1, cz_1, cl_8, cm_8, cn_8, ca_8, cz_8, hc, e2, f1, f2, true_and, and_true, true_or, or_true, implies_true, b10_0, b10_1]
      repeat' (first | refine And.intro ?_ ?_ | intro _)
      all_goals (try (first | omega | (unfold r32; omega) | exact hQ | exact qe hQ (by omega) | exact qe hQ (by (repeat' split) <;> omega) | exact b01 | exact n01 | exact n21 | exact n31 | exact absurd trivial (by assumption)))
      apply s_28_65
      try simp only [cm_o, cl_0, cu_0, cl_7, cm_7, cn_7, ca_7, cz_7, cl_1, cm_1, cn_1, ca_1, cz_1, cl_8, cm_8, cn_8, ca_8, cz_8, true_and, and_true, true_or, or_true, implies_true, b10_0, b10_1]
      repeat' (first | refine And.intro ?_ ?_ | intro _)
      all_goals (try (first | omega | (unfold r32; omega) | exact hQ | exact qe hQ (by omega) | exact qe hQ (by (repeat' split) <;> omega) | exact b01 | exact n01 | exact n21 | exact n31 | exact absurd trivial (by assumption)))
      apply s_28_77
      try simp only [cm_o, cl_0, cu_0, cl_7, cm_7, cn_7, ca_7, cz_7, cl_1, cm_1, cn_1, ca_1, cz_1, cl_8, cm_8, cn_8, ca_8, cz_8, true_and, and_true, true_or, or_true, implies_true, b10_0, b10_1]
      repeat' (first | refine And.intro ?_ ?_ | intro _)
      all_goals (try (first | omega | (unfold r32; omega) | exact hQ | exact qe hQ (by omega) | exact qe hQ (by (repeat' split) <;> omega) | exact b01 | exact n01 | exact n21 | exact n31 | exact absurd trivial (by assumption)))
      exact ih _ _
    · rw [if_neg hz] at hu
      rw [hu, Int.add_zero] at ih
      apply s_28_5
      try simp only [cm_o, cl_0, cu_0, cl_7, cm_7, cn_7, ca_7, cz_7, cl_1, cm_1, cn_1, ca_1, cz_1, cl_8, cm_8, cn_8, ca_8, cz_8, hc, e2, f1, f2, true_and, and_true, true_or, or_true, implies_true, b10_0, b10_1]
      repeat' (first | refine And.intro ?_ ?_ | intro _)
      all_goals (try (first | omega | (unfold r32; omega) | exact hQ | exact qe hQ (by omega) | exact qe hQ (by (repeat' split) <;> omega) | exact b01 | exact n01 | exact n21 | exact n31 | exact absurd trivial (by assumption)))
      all_goals
        apply s_28_77
        try simp only [cm_o, cl_0, cu_0, cl_7, cm_7, cn_7, ca_7, cz_7, cl_1, cm_1, cn_1, ca_1, cz_1, cl_8, cm_8, cn_8, ca_8, cz_8, true_and, and_true, true_or, or_true, implies_true, b10_0, b10_1]
        repeat' (first | refine And.intro ?_ ?_ | intro _)
        all_goals (try (first | omega | (unfold r32; omega) | exact hQ | exact qe hQ (by omega) | exact qe hQ (by (repeat' split) <;> omega) | exact b01 | exact n01 | exact n21 | exact n31 | exact absurd trivial (by assumption)))
        exact ih _ _
theorem c134 (X : mX) (g : mF) (s n : Int) (hn : r32 n) : Ret X 2 134 [(0, s), (0, n)] g (some (0, if (1 ≤ n ∧ n ≤ 12) ∧ 0 ≤ s ∧ s ≤ 99 - n then 1 else 0)) g := by
  intro d Q hd hQ
  unfold r32 at hn
  repeat' (first
    | (exfalso; omega)
    | (exact absurd trivial (by assumption))
    | (apply s_134_0; try simp only [mi_1, true_and, and_true, true_or, or_true, implies_true, b10_0, b10_1])
    | (apply s_134_7; try simp only [mi_1, true_and, and_true, true_or, or_true, implies_true, b10_0, b10_1])
    | (apply s_134_19; try simp only [mi_1, true_and, and_true, true_or, or_true, implies_true, b10_0, b10_1])
    | (refine c130 X _ _ _ _ _ _ (by omega) ?_)
    | (refine And.intro ?_ ?_)
    | (intro _)
    | omega
    | (unfold r32; omega)
    | (exact hQ)
    | (exact qe hQ (by omega))
    | (exact qe hQ (by (repeat' split) <;> omega))
    | (exact b01)
    | (exact n01)
    | (exact n21)
    | (exact n31))
theorem c185 (X : mX) (g : mF) (s n : Int) (hn : r32 n) : Ret X 2 185 [(0, s), (0, n)] g (some (0, if (1 ≤ n ∧ n ≤ 12) ∧ 0 ≤ s ∧ s ≤ 99 - n then 1 else 0)) g := by
  intro d Q hd hQ
  unfold r32 at hn
  repeat' (first
    | (exfalso; omega)
    | (exact absurd trivial (by assumption))
    | (apply s_185_0; try simp only [mi_87, true_and, and_true, true_or, or_true, implies_true, b10_0, b10_1])
    | (apply s_185_9; try simp only [mi_87, true_and, and_true, true_or, or_true, implies_true, b10_0, b10_1])
    | (apply s_185_23; try simp only [mi_87, true_and, and_true, true_or, or_true, implies_true, b10_0, b10_1])
    | (refine c144 X _ _ _ _ _ _ (by omega) ?_)
    | (refine And.intro ?_ ?_)
    | (intro _)
    | omega
    | (unfold r32; omega)
    | (exact hQ)
    | (exact qe hQ (by omega))
    | (exact qe hQ (by (repeat' split) <;> omega))
    | (exact b01)
    | (exact n01)
    | (exact n21)
    | (exact n31))
theorem T_spills (X : mX) (g : mF) (a s n : Int) (hn32 : r32 n) (h : NI g) (hSc : Iscent g) : PR X 106 193 [(2, 1), (0, a), (0, s), (0, n), (3, 0), (3, 0), (3, 0)] [(2, 87), (0, a), (0, s), (0, n), (3, 0), (3, 0), (3, 0), (3, 0)] g (fun g2 => NC g g2 ∧ Iknow g2) := by
  have kn' := kn X h
  intro d Q hd hQ
  have h134 := c134 X g s n hn32
  have h185 := c185 X g s n hn32
  by_cases ha : 0 ≤ a ∧ a ≤ 3
  · obtain ⟨c, rfl⟩ : ∃ c : Nat, a = (c : Int) := ⟨a.toNat, by omega⟩
    have hc : c < 4 := by omega
    have e0 : ((c : Int)).toNat = c := by omega
    obtain ⟨k1, k2, k3, k4, k5, -⟩ := h.2.1 c hc
    by_cases hs : (1 ≤ n ∧ n ≤ 12) ∧ 0 ≤ s ∧ s ≤ 99 - n
    · rw [if_pos hs] at h134 h185
      generalize hv : sumN n.toNat (fun k => sumN (g (19 + 6 * c) 0).toNat (spU (g (20 + 6 * c)) (NN g (3 + c)) (NN g (7 + c)) (g 53 k) ((s + (k : Int)) * 60))) = v
      have fin : ∀ g1, FK (mup g 11 3 1) g1 → CS g1 (NN g) → SI (inp g) 18959 (NN g) → Q (some (0, v)) (fl g1) := by
        intro g1 hK hS hI
        refine hQ _ g1 ⟨v, rfl, ?_⟩
        clear hQ
        intro d Q hd hQ
        have fn' := fn X h hK
        have h185' := c185 X g1 s n hn32
        rw [if_pos hs] at h185'
        apply s_193_0
        try simp only [mi_87, fl_87_14, mi_100, ml_100, fl_100, up_100, fl_87_33, mi_115, ml_115, fl_115, up_115, fl_87_34, mi_116, ml_116, fl_116, up_116, fl_87_17, mi_103, ml_103, fl_103, up_103, fl_87_27, mi_110, ml_110, fl_110, up_110, true_and, and_true, true_or, or_true, implies_true, b10_0, b10_1]
        repeat' (first | refine And.intro ?_ ?_ | intro _)
        all_goals (try (first | omega | (unfold r32; omega) | exact hQ | exact qe hQ (by omega) | exact qe hQ (by (repeat' split) <;> omega) | exact b01 | exact n01 | exact n21 | exact n31 | exact absurd trivial (by assumption)))
        refine c174 X _ _ _ _ (by omega) ?_
        apply s_193_4
        try simp only [mi_87, fl_87_14, mi_100, ml_100, fl_100, up_100, fl_87_33, mi_115, ml_115, fl_115, up_115, fl_87_34, mi_116, ml_116, fl_116, up_116, fl_87_17, mi_103, ml_103, fl_103, up_103, fl_87_27, mi_110, ml_110, fl_110, up_110, true_and, and_true, true_or, or_true, implies_true, b10_0, b10_1]
        repeat' (first | refine And.intro ?_ ?_ | intro _)
        all_goals (try (first | omega | (unfold r32; omega) | exact hQ | exact qe hQ (by omega) | exact qe hQ (by (repeat' split) <;> omega) | exact b01 | exact n01 | exact n21 | exact n31 | exact absurd trivial (by assumption)))
        refine h185' _ _ (by omega) ?_
        apply s_193_16
        try simp only [mi_87, fl_87_14, mi_100, ml_100, fl_100, up_100, fl_87_33, mi_115, ml_115, fl_115, up_115, fl_87_34, mi_116, ml_116, fl_116, up_116, fl_87_17, mi_103, ml_103, fl_103, up_103, fl_87_27, mi_110, ml_110, fl_110, up_110, true_and, and_true, true_or, or_true, implies_true, b10_0, b10_1]
        repeat' (first | refine And.intro ?_ ?_ | intro _)
        all_goals (try (first | omega | (unfold r32; omega) | exact hQ | exact qe hQ (by omega) | exact qe hQ (by (repeat' split) <;> omega) | exact b01 | exact n01 | exact n21 | exact n31 | exact absurd trivial (by assumption)))
        refine fn' _ _ (by omega) ?_
        rintro _ g2 ⟨rfl, hM, hS2⟩
        have hq := hQ (some (0, v)) g2 ⟨rfl, NC_fin hK hS hI hM⟩
        clear hQ
        have f99 : g2 99 c = g (19 + 6 * c) 0 := by rw [hM _ _ (by omega), hK _ _ (by omega), mup_n (by omega)]; exact k1
        -- the reference's sum
        rw [sumN_swap] at hv
        have hin : ∀ i : Nat, i < 36 → sumN (60 * n.toNat) (fun j => if (NN g (3 + c) i ≤ 60 * s + (j : Int) ∧ 60 * s + (j : Int) < NN g (7 + c) i) ∧ NN g (3 + c) i ≠ -1 ∧ g (20 + 6 * c) i ≠ g 53 (j / 60) then (1 : Int) else 0) = sumN n.toNat (fun k => spU (g (20 + 6 * c)) (NN g (3 + c)) (NN g (7 + c)) (g 53 k) ((s + (k : Int)) * 60) i) := by
          intro i hi
          rw [sumN_blk]
          refine sumN_congr (fun k hk => ?_)
          unfold spU
          by_cases hz : NN g (3 + c) i ≠ -1 ∧ g (20 + 6 * c) i ≠ g 53 k
          · have ct : max (min (NN g (7 + c) i) ((s + (k : Int)) * 60 + 60) - max (NN g (3 + c) i) ((s + (k : Int)) * 60)) 0 = sumN 60 (fun j => if NN g (3 + c) i ≤ (s + (k : Int)) * 60 + (j : Int) ∧ (s + (k : Int)) * 60 + (j : Int) < NN g (7 + c) i then (1 : Int) else 0) := (cnt_t 60).symm
            rw [if_pos hz, ct]
            refine sumN_congr (fun j hj => ?_)
            rw [show (60 * k + j) / 60 = k by omega]
            have e1 : 60 * s + ((60 * k + j : Nat) : Int) = (s + (k : Int)) * 60 + (j : Int) := by omega
            rw [e1]
            by_cases hy : NN g (3 + c) i ≤ (s + (k : Int)) * 60 + (j : Int) ∧ (s + (k : Int)) * 60 + (j : Int) < NN g (7 + c) i
            · rw [if_pos ⟨hy, hz⟩, if_pos hy]
            · rw [if_neg (fun z => hy z.1), if_neg hy]
          · rw [if_neg hz]
            refine Eq.trans (sumN_congr (b := fun _ => 0) (fun j hj => ?_)) sumN_zero
            rw [show (60 * k + j) / 60 = k by omega, if_neg (fun z => hz z.2)]
        have key := lup (P := fun k => ∀ v6 v7, Wp X d SH 193 33 [(2, 87), (0, (c : Int)), (0, s), (0, n), (0, sumN k (fun i => sumN n.toNat (fun k => spU (g (20 + 6 * c)) (NN g (3 + c)) (NN g (7 + c)) (g 53 k) ((s + (k : Int)) * 60) i))), (0, (k : Int)), v6, v7] [] SH (fl g2) Q) (g (19 + 6 * c) 0).toNat ?_ ?_ 0 (by omega)
        · skip
          apply s_193_27
          try simp only [mi_87, fl_87_14, mi_100, ml_100, fl_100, up_100, fl_87_33, mi_115, ml_115, fl_115, up_115, fl_87_34, mi_116, ml_116, fl_116, up_116, fl_87_17, mi_103, ml_103, fl_103, up_103, fl_87_27, mi_110, ml_110, fl_110, up_110, true_and, and_true, true_or, or_true, implies_true, b10_0, b10_1]
          repeat' (first | refine And.intro ?_ ?_ | intro _)
          all_goals (try (first | omega | (unfold r32; omega) | exact hQ | exact qe hQ (by omega) | exact qe hQ (by (repeat' split) <;> omega) | exact b01 | exact n01 | exact n21 | exact n31 | exact absurd trivial (by assumption)))
          exact key _ _
        · intro v6 v7
          rw [hv]
          apply s_193_33
          try simp only [mi_87, fl_87_14, mi_100, ml_100, fl_100, up_100, fl_87_33, mi_115, ml_115, fl_115, up_115, fl_87_34, mi_116, ml_116, fl_116, up_116, fl_87_17, mi_103, ml_103, fl_103, up_103, fl_87_27, mi_110, ml_110, fl_110, up_110, e0, f99, true_and, and_true, true_or, or_true, implies_true, b10_0, b10_1]
          repeat' (first | refine And.intro ?_ ?_ | intro _)
          all_goals (try (first | omega | (unfold r32; omega) | exact hQ | exact qe hQ (by omega) | exact qe hQ (by (repeat' split) <;> omega) | exact b01 | exact n01 | exact n21 | exact n31 | exact absurd trivial (by assumption)))
          all_goals (try exact hq)
        · intro i hi ih v6 v7
          have hi36 : i < 36 := by omega
          have e2 : (36 * (c : Int) + (i : Int)).toNat = 36 * c + i := by omega
          have e10 : ((i + 1 : Nat) : Int) = (i : Int) + 1 := by omega
          have f := (hS2 c hc).2.2.2 i hi36
          have f1 := f.1
          have f2 := f.2
          have f3 : g2 102 (36 * c + i) = g (20 + 6 * c) i := by rw [hM _ _ (by omega), hK _ _ (by omega), mup_n (by omega)]; exact k4 i (by omega)
          have hlo := (SI_b hI hc hi36)
          simp only [e10, sumN] at ih
          rw [← hin i hi36] at ih
          have b0 := sumN_b (n := i) (a := fun i => sumN n.toNat (fun k => spU (g (20 + 6 * c)) (NN g (3 + c)) (NN g (7 + c)) (g 53 k) ((s + (k : Int)) * 60) i)) (lo := 0) (hi := 720) (fun i _ => by
            have z := sumN_b (n := n.toNat) (a := fun k => spU (g (20 + 6 * c)) (NN g (3 + c)) (NN g (7 + c)) (g 53 k) ((s + (k : Int)) * 60) i) (lo := 0) (hi := 60) (fun k _ => spU_b)
            constructor <;> omega)
          generalize sumN i (fun i => sumN n.toNat (fun k => spU (g (20 + 6 * c)) (NN g (3 + c)) (NN g (7 + c)) (g 53 k) ((s + (k : Int)) * 60) i)) = S0 at ih b0
          have loop := lup (P := fun j => ∀ v7, Wp X d SH 193 50 [(2, 87), (0, (c : Int)), (0, s), (0, n), (0, S0 + sumN j (fun j => if (NN g (3 + c) i ≤ 60 * s + (j : Int) ∧ 60 * s + (j : Int) < NN g (7 + c) i) ∧ NN g (3 + c) i ≠ -1 ∧ g (20 + 6 * c) i ≠ g 53 (j / 60) then (1 : Int) else 0)), (0, (i : Int)), (0, 60 * s + (j : Int)), v7] [] SH (fl g2) Q) (60 * n.toNat) ?_ ?_ 0 (by omega)
          · simp only [sumN, Int.add_zero] at loop
            have l0 := loop v7
            rw [show 60 * s + ((0 : Nat) : Int) = 60 * s by omega] at l0
            apply s_193_33
            try simp only [mi_87, fl_87_14, mi_100, ml_100, fl_100, up_100, fl_87_33, mi_115, ml_115, fl_115, up_115, fl_87_34, mi_116, ml_116, fl_116, up_116, fl_87_17, mi_103, ml_103, fl_103, up_103, fl_87_27, mi_110, ml_110, fl_110, up_110, e0, f99, true_and, and_true, true_or, or_true, implies_true, b10_0, b10_1]
            repeat' (first | refine And.intro ?_ ?_ | intro _)
            all_goals (try (first | omega | (unfold r32; omega) | exact hQ | exact qe hQ (by omega) | exact qe hQ (by (repeat' split) <;> omega) | exact b01 | exact n01 | exact n21 | exact n31 | exact absurd trivial (by assumption)))
            all_goals (try exact l0)
          · intro v7
            apply s_193_50
            try simp only [mi_87, fl_87_14, mi_100, ml_100, fl_100, up_100, fl_87_33, mi_115, ml_115, fl_115, up_115, fl_87_34, mi_116, ml_116, fl_116, up_116, fl_87_17, mi_103, ml_103, fl_103, up_103, fl_87_27, mi_110, ml_110, fl_110, up_110, true_and, and_true, true_or, or_true, implies_true, b10_0, b10_1]
            repeat' (first | refine And.intro ?_ ?_ | intro _)
            all_goals (try (first | omega | (unfold r32; omega) | exact hQ | exact qe hQ (by omega) | exact qe hQ (by (repeat' split) <;> omega) | exact b01 | exact n01 | exact n21 | exact n31 | exact absurd trivial (by assumption)))
            all_goals (try exact ih _ _)
          · intro j hj ihj v7
            have e11 : 60 * s + ((j + 1 : Nat) : Int) = 60 * s + (j : Int) + 1 := by omega
            have b1 := sumN_b (n := j) (a := fun j => if (NN g (3 + c) i ≤ 60 * s + (j : Int) ∧ 60 * s + (j : Int) < NN g (7 + c) i) ∧ NN g (3 + c) i ≠ -1 ∧ g (20 + 6 * c) i ≠ g 53 (j / 60) then (1 : Int) else 0) (lo := 0) (hi := 1) (fun i _ => by (try simp only []); split <;> omega)
            have td : Int.tdiv (60 * s + (j : Int)) 60 = s + ((j / 60 : Nat) : Int) := by rw [tdn (by omega)]; omega
            have te : (s + ((j / 60 : Nat) : Int) - s).toNat = j / 60 := by omega
            have f4 : g2 109 (j / 60) = g 53 (j / 60) := by rw [hM _ _ (by omega), hK _ _ (by omega), mup_n (by omega)]; exact (hSc (j / 60) (by omega)).1
            simp only [e11, sumN] at ihj
            generalize sumN j (fun j => if (NN g (3 + c) i ≤ 60 * s + (j : Int) ∧ 60 * s + (j : Int) < NN g (7 + c) i) ∧ NN g (3 + c) i ≠ -1 ∧ g (20 + 6 * c) i ≠ g 53 (j / 60) then (1 : Int) else 0) = S1 at ihj b1 ⊢
            have fin3 : ¬ ((NN g (3 + c) i ≤ 60 * s + (j : Int) ∧ 60 * s + (j : Int) < NN g (7 + c) i) ∧ NN g (3 + c) i ≠ -1 ∧ g (20 + 6 * c) i ≠ g 53 (j / 60)) → ∀ v7, Wp X d SH 193 155 [(2, 87), (0, (c : Int)), (0, s), (0, n), (0, S0 + S1), (0, (i : Int)), (0, 60 * s + (j : Int)), v7] [(0, S0 + S1)] SH (fl g2) Q := by
              intro hz v7
              rw [if_neg hz, Int.add_zero] at ihj
              apply s_193_155
              try simp only [mi_87, fl_87_14, mi_100, ml_100, fl_100, up_100, fl_87_33, mi_115, ml_115, fl_115, up_115, fl_87_34, mi_116, ml_116, fl_116, up_116, fl_87_17, mi_103, ml_103, fl_103, up_103, fl_87_27, mi_110, ml_110, fl_110, up_110, true_and, and_true, true_or, or_true, implies_true, b10_0, b10_1]
              repeat' (first | refine And.intro ?_ ?_ | intro _)
              all_goals (try (first | omega | (unfold r32; omega) | exact hQ | exact qe hQ (by omega) | exact qe hQ (by (repeat' split) <;> omega) | exact b01 | exact n01 | exact n21 | exact n31 | exact absurd trivial (by assumption)))
              apply s_193_156
              try simp only [mi_87, fl_87_14, mi_100, ml_100, fl_100, up_100, fl_87_33, mi_115, ml_115, fl_115, up_115, fl_87_34, mi_116, ml_116, fl_116, up_116, fl_87_17, mi_103, ml_103, fl_103, up_103, fl_87_27, mi_110, ml_110, fl_110, up_110, true_and, and_true, true_or, or_true, implies_true, b10_0, b10_1]
              repeat' (first | refine And.intro ?_ ?_ | intro _)
              all_goals (try (first | omega | (unfold r32; omega) | exact hQ | exact qe hQ (by omega) | exact qe hQ (by (repeat' split) <;> omega) | exact b01 | exact n01 | exact n21 | exact n31 | exact absurd trivial (by assumption)))
              all_goals (try (rw [Int.add_zero]; exact ihj _))
            have fin2 : ¬ ((NN g (3 + c) i ≤ 60 * s + (j : Int) ∧ 60 * s + (j : Int) < NN g (7 + c) i) ∧ NN g (3 + c) i ≠ -1 ∧ g (20 + 6 * c) i ≠ g 53 (j / 60)) → ∀ v7, Wp X d SH 193 114 [(2, 87), (0, (c : Int)), (0, s), (0, n), (0, S0 + S1), (0, (i : Int)), (0, 60 * s + (j : Int)), v7] [] SH (fl g2) Q := by
              intro hz v7
              apply s_193_114
              try simp only [mi_87, fl_87_14, mi_100, ml_100, fl_100, up_100, fl_87_33, mi_115, ml_115, fl_115, up_115, fl_87_34, mi_116, ml_116, fl_116, up_116, fl_87_17, mi_103, ml_103, fl_103, up_103, fl_87_27, mi_110, ml_110, fl_110, up_110, true_and, and_true, true_or, or_true, implies_true, b10_0, b10_1]
              repeat' (first | refine And.intro ?_ ?_ | intro _)
              all_goals (try (first | omega | (unfold r32; omega) | exact hQ | exact qe hQ (by omega) | exact qe hQ (by (repeat' split) <;> omega) | exact b01 | exact n01 | exact n21 | exact n31 | exact absurd trivial (by assumption)))
              apply s_193_115
              try simp only [mi_87, fl_87_14, mi_100, ml_100, fl_100, up_100, fl_87_33, mi_115, ml_115, fl_115, up_115, fl_87_34, mi_116, ml_116, fl_116, up_116, fl_87_17, mi_103, ml_103, fl_103, up_103, fl_87_27, mi_110, ml_110, fl_110, up_110, true_and, and_true, true_or, or_true, implies_true, b10_0, b10_1]
              repeat' (first | refine And.intro ?_ ?_ | intro _)
              all_goals (try (first | omega | (unfold r32; omega) | exact hQ | exact qe hQ (by omega) | exact qe hQ (by (repeat' split) <;> omega) | exact b01 | exact n01 | exact n21 | exact n31 | exact absurd trivial (by assumption)))
              all_goals (try exact fin3 hz _)
            apply s_193_50
            try simp only [mi_87, fl_87_14, mi_100, ml_100, fl_100, up_100, fl_87_33, mi_115, ml_115, fl_115, up_115, fl_87_34, mi_116, ml_116, fl_116, up_116, fl_87_17, mi_103, ml_103, fl_103, up_103, fl_87_27, mi_110, ml_110, fl_110, up_110, e2, f1, f2, true_and, and_true, true_or, or_true, implies_true, b10_0, b10_1]
            repeat' (first | refine And.intro ?_ ?_ | intro _)
            all_goals (try (first | omega | (unfold r32; omega) | exact hQ | exact qe hQ (by omega) | exact qe hQ (by (repeat' split) <;> omega) | exact b01 | exact n01 | exact n21 | exact n31 | exact absurd trivial (by assumption)))
            · exact fin2 (by omega) _
            · exact fin2 (by omega) _
            · exact fin2 (by omega) _
            · skip
              apply s_193_115
              try simp only [mi_87, fl_87_14, mi_100, ml_100, fl_100, up_100, fl_87_33, mi_115, ml_115, fl_115, up_115, fl_87_34, mi_116, ml_116, fl_116, up_116, fl_87_17, mi_103, ml_103, fl_103, up_103, fl_87_27, mi_110, ml_110, fl_110, up_110, e2, f3, td, te, f4, true_and, and_true, true_or, or_true, implies_true, b10_0, b10_1]
              repeat' (first | refine And.intro ?_ ?_ | intro _)
              all_goals (try (first | omega | (unfold r32; omega) | exact hQ | exact qe hQ (by omega) | exact qe hQ (by (repeat' split) <;> omega) | exact b01 | exact n01 | exact n21 | exact n31 | exact absurd trivial (by assumption)))
              · exact fin3 (by omega) _
              · rw [if_pos (by omega), ← Int.add_assoc] at ihj
                apply s_193_156
                try simp only [mi_87, fl_87_14, mi_100, ml_100, fl_100, up_100, fl_87_33, mi_115, ml_115, fl_115, up_115, fl_87_34, mi_116, ml_116, fl_116, up_116, fl_87_17, mi_103, ml_103, fl_103, up_103, fl_87_27, mi_110, ml_110, fl_110, up_110, true_and, and_true, true_or, or_true, implies_true, b10_0, b10_1]
                repeat' (first | refine And.intro ?_ ?_ | intro _)
                all_goals (try (first | omega | (unfold r32; omega) | exact hQ | exact qe hQ (by omega) | exact qe hQ (by (repeat' split) <;> omega) | exact b01 | exact n01 | exact n21 | exact n31 | exact absurd trivial (by assumption)))
                all_goals (try exact ihj _)
      apply s_106_0
      try simp only [mi_1, fl_1_4, mi_12, fl_1_2, mi_6, fl_1_7, mi_54, ml_54, fl_54, up_54, cm_o, true_and, and_true, true_or, or_true, implies_true, b10_0, b10_1]
      repeat' (first | refine And.intro ?_ ?_ | intro _)
      all_goals (try (first | omega | (unfold r32; omega) | exact hQ | exact qe hQ (by omega) | exact qe hQ (by (repeat' split) <;> omega) | exact b01 | exact n01 | exact n21 | exact n31 | exact absurd trivial (by assumption)))
      refine c32 X g hc _ _ (by omega) ?_
      apply s_106_8
      try simp only [mi_1, fl_1_4, mi_12, fl_1_2, mi_6, fl_1_7, mi_54, ml_54, fl_54, up_54, cm_o, true_and, and_true, true_or, or_true, implies_true, b10_0, b10_1]
      repeat' (first | refine And.intro ?_ ?_ | intro _)
      all_goals (try (first | omega | (unfold r32; omega) | exact hQ | exact qe hQ (by omega) | exact qe hQ (by (repeat' split) <;> omega) | exact b01 | exact n01 | exact n21 | exact n31 | exact absurd trivial (by assumption)))
      refine h134 _ _ (by omega) ?_
      apply s_106_24
      try simp only [mi_1, fl_1_4, mi_12, fl_1_2, mi_6, fl_1_7, mi_54, ml_54, fl_54, up_54, cm_o, true_and, and_true, true_or, or_true, implies_true, b10_0, b10_1]
      repeat' (first | refine And.intro ?_ ?_ | intro _)
      all_goals (try (first | omega | (unfold r32; omega) | exact hQ | exact qe hQ (by omega) | exact qe hQ (by (repeat' split) <;> omega) | exact b01 | exact n01 | exact n21 | exact n31 | exact absurd trivial (by assumption)))
      refine kn' _ _ (by omega) ?_
      rintro _ g1 ⟨rfl, hK, hS, hI⟩
      have f0 : g1 (19 + 6 * c) 0 = g (19 + 6 * c) 0 := by rw [hK _ _ (by omega), mup_n (by omega)]
      have f20 : g1 (20 + 6 * c) = g (20 + 6 * c) := funext (fun k => by rw [hK _ _ (by omega), mup_n (by omega)])
      have key := lup (P := fun k => Wp X d SH 106 48 [(2, 1), (0, (c : Int)), (0, s), (0, n), (2, 20 + 6 * (c : Int)), (0, sumN k (fun k => sumN (g (19 + 6 * c) 0).toNat (spU (g (20 + 6 * c)) (NN g (3 + c)) (NN g (7 + c)) (g 53 k) ((s + (k : Int)) * 60)))), (0, (k : Int))] [] SH (fl g1) Q) n.toNat ?_ ?_ 0 (by omega)
      · skip
        apply s_106_42
        try simp only [mi_1, fl_1_4, mi_12, fl_1_2, mi_6, fl_1_7, mi_54, ml_54, fl_54, up_54, cm_o, true_and, and_true, true_or, or_true, implies_true, b10_0, b10_1]
        repeat' (first | refine And.intro ?_ ?_ | intro _)
        all_goals (try (first | omega | (unfold r32; omega) | exact hQ | exact qe hQ (by omega) | exact qe hQ (by (repeat' split) <;> omega) | exact b01 | exact n01 | exact n21 | exact n31 | exact absurd trivial (by assumption)))
        exact key
      · rw [hv]
        have hq := fin g1 hK hS hI
        apply s_106_48
        try simp only [mi_1, fl_1_4, mi_12, fl_1_2, mi_6, fl_1_7, mi_54, ml_54, fl_54, up_54, cm_o, true_and, and_true, true_or, or_true, implies_true, b10_0, b10_1]
        repeat' (first | refine And.intro ?_ ?_ | intro _)
        all_goals (try (first | omega | (unfold r32; omega) | exact hQ | exact qe hQ (by omega) | exact qe hQ (by (repeat' split) <;> omega) | exact b01 | exact n01 | exact n21 | exact n31 | exact absurd trivial (by assumption)))
        all_goals (try exact hq)
      · intro k hk ih
        have e2 : ((k : Int)).toNat = k := by omega
        have e10 : ((k + 1 : Nat) : Int) = (k : Int) + 1 := by omega
        have f53 : g1 53 k = g 53 k := by rw [hK _ _ (by omega), mup_n (by omega)]
        have c28' := c28 X (g := g1) (p := g 53 k) (F := (s + (k : Int)) * 60) hc (by omega) (by rw [f0]; exact ⟨k2, k3⟩) hS (fun i hi => by have := SI_b hI hc hi; omega)
        rw [f0, f20] at c28'
        have b0 := sumN_b (n := k) (a := fun k => sumN (g (19 + 6 * c) 0).toNat (spU (g (20 + 6 * c)) (NN g (3 + c)) (NN g (7 + c)) (g 53 k) ((s + (k : Int)) * 60))) (lo := 0) (hi := 2160) (fun k _ => by
          have z := sumN_b (n := (g (19 + 6 * c) 0).toNat) (a := spU (g (20 + 6 * c)) (NN g (3 + c)) (NN g (7 + c)) (g 53 k) ((s + (k : Int)) * 60)) (lo := 0) (hi := 60) (fun k _ => spU_b)
          constructor <;> omega)
        have b1 := sumN_b (n := (g (19 + 6 * c) 0).toNat) (a := spU (g (20 + 6 * c)) (NN g (3 + c)) (NN g (7 + c)) (g 53 k) ((s + (k : Int)) * 60)) (lo := 0) (hi := 60) (fun k _ => spU_b)
        simp only [e10, sumN] at ih
        apply s_106_48
        try simp only [mi_1, fl_1_4, mi_12, fl_1_2, mi_6, fl_1_7, mi_54, ml_54, fl_54, up_54, cm_o, hc, e2, f53, true_and, and_true, true_or, or_true, implies_true, b10_0, b10_1]
        repeat' (first | refine And.intro ?_ ?_ | intro _)
        all_goals (try (first | omega | (unfold r32; omega) | exact hQ | exact qe hQ (by omega) | exact qe hQ (by (repeat' split) <;> omega) | exact b01 | exact n01 | exact n21 | exact n31 | exact absurd trivial (by assumption)))
        refine c28' _ _ (by omega) ?_
        apply s_106_75
        try simp only [mi_1, fl_1_4, mi_12, fl_1_2, mi_6, fl_1_7, mi_54, ml_54, fl_54, up_54, cm_o, true_and, and_true, true_or, or_true, implies_true, b10_0, b10_1]
        repeat' (first | refine And.intro ?_ ?_ | intro _)
        all_goals (try (first | omega | (unfold r32; omega) | exact hQ | exact qe hQ (by omega) | exact qe hQ (by (repeat' split) <;> omega) | exact b01 | exact n01 | exact n21 | exact n31 | exact absurd trivial (by assumption)))
        all_goals (try exact ih)
    · rw [if_neg hs] at h134 h185
      have r1 : Ret X 60 106 [(2, 1), (0, (c : Int)), (0, s), (0, n), (3, 0), (3, 0), (3, 0)] g (some (0, -1002)) g := by
        intro d Q hd hQ
        repeat' (first
          | (exfalso; omega)
          | (exact absurd trivial (by assumption))
          | (apply s_106_0; try simp only [mi_1, fl_1_4, mi_12, fl_1_2, mi_6, fl_1_7, mi_54, ml_54, fl_54, up_54, cm_o, true_and, and_true, true_or, or_true, implies_true, b10_0, b10_1])
          | (apply s_106_8; try simp only [mi_1, fl_1_4, mi_12, fl_1_2, mi_6, fl_1_7, mi_54, ml_54, fl_54, up_54, cm_o, true_and, and_true, true_or, or_true, implies_true, b10_0, b10_1])
          | (apply s_106_24; try simp only [mi_1, fl_1_4, mi_12, fl_1_2, mi_6, fl_1_7, mi_54, ml_54, fl_54, up_54, cm_o, true_and, and_true, true_or, or_true, implies_true, b10_0, b10_1])
          | (apply s_106_42; try simp only [mi_1, fl_1_4, mi_12, fl_1_2, mi_6, fl_1_7, mi_54, ml_54, fl_54, up_54, cm_o, true_and, and_true, true_or, or_true, implies_true, b10_0, b10_1])
          | (apply s_106_48; try simp only [mi_1, fl_1_4, mi_12, fl_1_2, mi_6, fl_1_7, mi_54, ml_54, fl_54, up_54, cm_o, true_and, and_true, true_or, or_true, implies_true, b10_0, b10_1])
          | (apply s_106_75; try simp only [mi_1, fl_1_4, mi_12, fl_1_2, mi_6, fl_1_7, mi_54, ml_54, fl_54, up_54, cm_o, true_and, and_true, true_or, or_true, implies_true, b10_0, b10_1])
          | (refine c32 X g hc _ _ (by omega) ?_)
          | (refine h134 _ _ (by omega) ?_)
          | (refine And.intro ?_ ?_)
          | (intro _)
          | omega
          | (unfold r32; omega)
          | (exact hQ)
          | (exact qe hQ (by omega))
          | (exact qe hQ (by (repeat' split) <;> omega))
          | (exact b01)
          | (exact n01)
          | (exact n21)
          | (exact n31))
      have r2 : Ret X 60 193 [(2, 87), (0, (c : Int)), (0, s), (0, n), (3, 0), (3, 0), (3, 0), (3, 0)] g (some (0, -1002)) g := by
        intro d Q hd hQ
        repeat' (first
          | (exfalso; omega)
          | (exact absurd trivial (by assumption))
          | (apply s_193_0; try simp only [mi_87, fl_87_14, mi_100, ml_100, fl_100, up_100, fl_87_33, mi_115, ml_115, fl_115, up_115, fl_87_34, mi_116, ml_116, fl_116, up_116, fl_87_17, mi_103, ml_103, fl_103, up_103, fl_87_27, mi_110, ml_110, fl_110, up_110, true_and, and_true, true_or, or_true, implies_true, b10_0, b10_1])
          | (apply s_193_4; try simp only [mi_87, fl_87_14, mi_100, ml_100, fl_100, up_100, fl_87_33, mi_115, ml_115, fl_115, up_115, fl_87_34, mi_116, ml_116, fl_116, up_116, fl_87_17, mi_103, ml_103, fl_103, up_103, fl_87_27, mi_110, ml_110, fl_110, up_110, true_and, and_true, true_or, or_true, implies_true, b10_0, b10_1])
          | (apply s_193_16; try simp only [mi_87, fl_87_14, mi_100, ml_100, fl_100, up_100, fl_87_33, mi_115, ml_115, fl_115, up_115, fl_87_34, mi_116, ml_116, fl_116, up_116, fl_87_17, mi_103, ml_103, fl_103, up_103, fl_87_27, mi_110, ml_110, fl_110, up_110, true_and, and_true, true_or, or_true, implies_true, b10_0, b10_1])
          | (apply s_193_27; try simp only [mi_87, fl_87_14, mi_100, ml_100, fl_100, up_100, fl_87_33, mi_115, ml_115, fl_115, up_115, fl_87_34, mi_116, ml_116, fl_116, up_116, fl_87_17, mi_103, ml_103, fl_103, up_103, fl_87_27, mi_110, ml_110, fl_110, up_110, true_and, and_true, true_or, or_true, implies_true, b10_0, b10_1])
          | (apply s_193_33; try simp only [mi_87, fl_87_14, mi_100, ml_100, fl_100, up_100, fl_87_33, mi_115, ml_115, fl_115, up_115, fl_87_34, mi_116, ml_116, fl_116, up_116, fl_87_17, mi_103, ml_103, fl_103, up_103, fl_87_27, mi_110, ml_110, fl_110, up_110, true_and, and_true, true_or, or_true, implies_true, b10_0, b10_1])
          | (apply s_193_50; try simp only [mi_87, fl_87_14, mi_100, ml_100, fl_100, up_100, fl_87_33, mi_115, ml_115, fl_115, up_115, fl_87_34, mi_116, ml_116, fl_116, up_116, fl_87_17, mi_103, ml_103, fl_103, up_103, fl_87_27, mi_110, ml_110, fl_110, up_110, true_and, and_true, true_or, or_true, implies_true, b10_0, b10_1])
          | (apply s_193_114; try simp only [mi_87, fl_87_14, mi_100, ml_100, fl_100, up_100, fl_87_33, mi_115, ml_115, fl_115, up_115, fl_87_34, mi_116, ml_116, fl_116, up_116, fl_87_17, mi_103, ml_103, fl_103, up_103, fl_87_27, mi_110, ml_110, fl_110, up_110, true_and, and_true, true_or, or_true, implies_true, b10_0, b10_1])
          | (apply s_193_115; try simp only [mi_87, fl_87_14, mi_100, ml_100, fl_100, up_100, fl_87_33, mi_115, ml_115, fl_115, up_115, fl_87_34, mi_116, ml_116, fl_116, up_116, fl_87_17, mi_103, ml_103, fl_103, up_103, fl_87_27, mi_110, ml_110, fl_110, up_110, true_and, and_true, true_or, or_true, implies_true, b10_0, b10_1])
          | (apply s_193_155; try simp only [mi_87, fl_87_14, mi_100, ml_100, fl_100, up_100, fl_87_33, mi_115, ml_115, fl_115, up_115, fl_87_34, mi_116, ml_116, fl_116, up_116, fl_87_17, mi_103, ml_103, fl_103, up_103, fl_87_27, mi_110, ml_110, fl_110, up_110, true_and, and_true, true_or, or_true, implies_true, b10_0, b10_1])
          | (apply s_193_156; try simp only [mi_87, fl_87_14, mi_100, ml_100, fl_100, up_100, fl_87_33, mi_115, ml_115, fl_115, up_115, fl_87_34, mi_116, ml_116, fl_116, up_116, fl_87_17, mi_103, ml_103, fl_103, up_103, fl_87_27, mi_110, ml_110, fl_110, up_110, true_and, and_true, true_or, or_true, implies_true, b10_0, b10_1])
          | (refine c174 X _ _ _ _ (by omega) ?_)
          | (refine h185 _ _ (by omega) ?_)
          | (refine And.intro ?_ ?_)
          | (intro _)
          | omega
          | (unfold r32; omega)
          | (exact hQ)
          | (exact qe hQ (by omega))
          | (exact qe hQ (by (repeat' split) <;> omega))
          | (exact b01)
          | (exact n01)
          | (exact n21)
          | (exact n31))
      exact PR_of r1 r2 (NC_r h) d Q hd hQ
  · have r1 : Ret X 60 106 [(2, 1), (0, a), (0, s), (0, n), (3, 0), (3, 0), (3, 0)] g (some (0, -1001)) g := by
      intro d Q hd hQ
      repeat' (first
        | (exfalso; omega)
        | (exact absurd trivial (by assumption))
        | (apply s_106_0; try simp only [mi_1, fl_1_4, mi_12, fl_1_2, mi_6, fl_1_7, mi_54, ml_54, fl_54, up_54, cm_o, true_and, and_true, true_or, or_true, implies_true, b10_0, b10_1])
        | (apply s_106_8; try simp only [mi_1, fl_1_4, mi_12, fl_1_2, mi_6, fl_1_7, mi_54, ml_54, fl_54, up_54, cm_o, true_and, and_true, true_or, or_true, implies_true, b10_0, b10_1])
        | (apply s_106_24; try simp only [mi_1, fl_1_4, mi_12, fl_1_2, mi_6, fl_1_7, mi_54, ml_54, fl_54, up_54, cm_o, true_and, and_true, true_or, or_true, implies_true, b10_0, b10_1])
        | (apply s_106_42; try simp only [mi_1, fl_1_4, mi_12, fl_1_2, mi_6, fl_1_7, mi_54, ml_54, fl_54, up_54, cm_o, true_and, and_true, true_or, or_true, implies_true, b10_0, b10_1])
        | (apply s_106_48; try simp only [mi_1, fl_1_4, mi_12, fl_1_2, mi_6, fl_1_7, mi_54, ml_54, fl_54, up_54, cm_o, true_and, and_true, true_or, or_true, implies_true, b10_0, b10_1])
        | (apply s_106_75; try simp only [mi_1, fl_1_4, mi_12, fl_1_2, mi_6, fl_1_7, mi_54, ml_54, fl_54, up_54, cm_o, true_and, and_true, true_or, or_true, implies_true, b10_0, b10_1])
        | (refine c32n X g _ ha _ _ (by omega) ?_)
        | (refine And.intro ?_ ?_)
        | (intro _)
        | omega
        | (unfold r32; omega)
        | (exact hQ)
        | (exact qe hQ (by omega))
        | (exact qe hQ (by (repeat' split) <;> omega))
        | (exact b01)
        | (exact n01)
        | (exact n21)
        | (exact n31))
    have r2 : Ret X 60 193 [(2, 87), (0, a), (0, s), (0, n), (3, 0), (3, 0), (3, 0), (3, 0)] g (some (0, -1001)) g := by
      intro d Q hd hQ
      repeat' (first
        | (exfalso; omega)
        | (exact absurd trivial (by assumption))
        | (apply s_193_0; try simp only [mi_87, fl_87_14, mi_100, ml_100, fl_100, up_100, fl_87_33, mi_115, ml_115, fl_115, up_115, fl_87_34, mi_116, ml_116, fl_116, up_116, fl_87_17, mi_103, ml_103, fl_103, up_103, fl_87_27, mi_110, ml_110, fl_110, up_110, true_and, and_true, true_or, or_true, implies_true, b10_0, b10_1])
        | (apply s_193_4; try simp only [mi_87, fl_87_14, mi_100, ml_100, fl_100, up_100, fl_87_33, mi_115, ml_115, fl_115, up_115, fl_87_34, mi_116, ml_116, fl_116, up_116, fl_87_17, mi_103, ml_103, fl_103, up_103, fl_87_27, mi_110, ml_110, fl_110, up_110, true_and, and_true, true_or, or_true, implies_true, b10_0, b10_1])
        | (apply s_193_16; try simp only [mi_87, fl_87_14, mi_100, ml_100, fl_100, up_100, fl_87_33, mi_115, ml_115, fl_115, up_115, fl_87_34, mi_116, ml_116, fl_116, up_116, fl_87_17, mi_103, ml_103, fl_103, up_103, fl_87_27, mi_110, ml_110, fl_110, up_110, true_and, and_true, true_or, or_true, implies_true, b10_0, b10_1])
        | (apply s_193_27; try simp only [mi_87, fl_87_14, mi_100, ml_100, fl_100, up_100, fl_87_33, mi_115, ml_115, fl_115, up_115, fl_87_34, mi_116, ml_116, fl_116, up_116, fl_87_17, mi_103, ml_103, fl_103, up_103, fl_87_27, mi_110, ml_110, fl_110, up_110, true_and, and_true, true_or, or_true, implies_true, b10_0, b10_1])
        | (apply s_193_33; try simp only [mi_87, fl_87_14, mi_100, ml_100, fl_100, up_100, fl_87_33, mi_115, ml_115, fl_115, up_115, fl_87_34, mi_116, ml_116, fl_116, up_116, fl_87_17, mi_103, ml_103, fl_103, up_103, fl_87_27, mi_110, ml_110, fl_110, up_110, true_and, and_true, true_or, or_true, implies_true, b10_0, b10_1])
        | (apply s_193_50; try simp only [mi_87, fl_87_14, mi_100, ml_100, fl_100, up_100, fl_87_33, mi_115, ml_115, fl_115, up_115, fl_87_34, mi_116, ml_116, fl_116, up_116, fl_87_17, mi_103, ml_103, fl_103, up_103, fl_87_27, mi_110, ml_110, fl_110, up_110, true_and, and_true, true_or, or_true, implies_true, b10_0, b10_1])
        | (apply s_193_114; try simp only [mi_87, fl_87_14, mi_100, ml_100, fl_100, up_100, fl_87_33, mi_115, ml_115, fl_115, up_115, fl_87_34, mi_116, ml_116, fl_116, up_116, fl_87_17, mi_103, ml_103, fl_103, up_103, fl_87_27, mi_110, ml_110, fl_110, up_110, true_and, and_true, true_or, or_true, implies_true, b10_0, b10_1])
        | (apply s_193_115; try simp only [mi_87, fl_87_14, mi_100, ml_100, fl_100, up_100, fl_87_33, mi_115, ml_115, fl_115, up_115, fl_87_34, mi_116, ml_116, fl_116, up_116, fl_87_17, mi_103, ml_103, fl_103, up_103, fl_87_27, mi_110, ml_110, fl_110, up_110, true_and, and_true, true_or, or_true, implies_true, b10_0, b10_1])
        | (apply s_193_155; try simp only [mi_87, fl_87_14, mi_100, ml_100, fl_100, up_100, fl_87_33, mi_115, ml_115, fl_115, up_115, fl_87_34, mi_116, ml_116, fl_116, up_116, fl_87_17, mi_103, ml_103, fl_103, up_103, fl_87_27, mi_110, ml_110, fl_110, up_110, true_and, and_true, true_or, or_true, implies_true, b10_0, b10_1])
        | (apply s_193_156; try simp only [mi_87, fl_87_14, mi_100, ml_100, fl_100, up_100, fl_87_33, mi_115, ml_115, fl_115, up_115, fl_87_34, mi_116, ml_116, fl_116, up_116, fl_87_17, mi_103, ml_103, fl_103, up_103, fl_87_27, mi_110, ml_110, fl_110, up_110, true_and, and_true, true_or, or_true, implies_true, b10_0, b10_1])
        | (refine c174 X _ _ _ _ (by omega) ?_)
        | (refine And.intro ?_ ?_)
        | (intro _)
        | omega
        | (unfold r32; omega)
        | (exact hQ)
        | (exact qe hQ (by omega))
        | (exact qe hQ (by (repeat' split) <;> omega))
        | (exact b01)
        | (exact n01)
        | (exact n21)
        | (exact n31))
    exact PR_of r1 r2 (NC_r h) d Q hd hQ
