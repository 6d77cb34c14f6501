/-! scent, count -/
theorem or_t : ∀ x : Fin 256, ∀ p : Fin 8, 0 ≤ (Int32.ofInt (x.val : Int) ||| Int32.ofInt ((Int32.ofInt 1 <<< (Int32.ofInt (p.val : Int) &&& 31)).toInt)).toInt ∧ (Int32.ofInt (x.val : Int) ||| Int32.ofInt ((Int32.ofInt 1 <<< (Int32.ofInt (p.val : Int) &&& 31)).toInt)).toInt ≤ 255 := by decide +kernel
theorem or_z : ∀ x : Fin 256, (Int32.ofInt (x.val : Int) ||| Int32.ofInt 0).toInt = (x.val : Int) := by decide +kernel
theorem or_tb {x p : Int} (hx : 0 ≤ x ∧ x ≤ 255) (hp : 0 ≤ p ∧ p ≤ 7) : 0 ≤ (Int32.ofInt x ||| Int32.ofInt ((Int32.ofInt 1 <<< (Int32.ofInt p &&& 31)).toInt)).toInt ∧ (Int32.ofInt x ||| Int32.ofInt ((Int32.ofInt 1 <<< (Int32.ofInt p &&& 31)).toInt)).toInt ≤ 255 := by
  have z := or_t ⟨x.toNat, by omega⟩ ⟨p.toNat, by omega⟩
  simp only [] at z
  rw [show ((x.toNat : Nat) : Int) = x by omega, show ((p.toNat : Nat) : Int) = p by omega] at z
  exact z
theorem or_zb {x : Int} (hx : 0 ≤ x ∧ x ≤ 255) : (Int32.ofInt x ||| Int32.ofInt 0).toInt = x := by
  have z := or_z ⟨x.toNat, by omega⟩
  simp only [] at z
  rw [show ((x.toNat : Nat) : Int) = x by omega] at z
  exact z
/-- powders that burn at a tick -/
def scN (pw b e : Nat → Int) (t : Int) : Nat → Int
  | 0 => 0
  | k + 1 => if b k ≠ -1 ∧ b k ≤ t ∧ t < e k then (Int32.ofInt (scN pw b e t k) ||| Int32.ofInt ((Int32.ofInt 1 <<< (Int32.ofInt (pw k) &&& 31)).toInt)).toInt else scN pw b e t k
theorem scN_b {pw b e : Nat → Int} {t : Int} : ∀ k : Nat, (∀ i, i < k → b i ≠ -1 → 0 ≤ pw i ∧ pw i ≤ 7) → 0 ≤ scN pw b e t k ∧ scN pw b e t k ≤ 255 := by
  intro k
  induction k with
  | zero => intro _; unfold scN; omega
  | succ k ih =>
    intro h
    have y := ih (fun i hi => h i (by omega))
    unfold scN
    by_cases hz : b k ≠ -1 ∧ b k ≤ t ∧ t < e k
    · rw [if_pos hz]
      exact or_tb y (h k (by omega) hz.1)
    · rw [if_neg hz]
      exact y
theorem c27 (X : mX) {c : Nat} (hc : c < 4) {g s : mF} {t : Int} (hn : 0 ≤ g (19 + 6 * c) 0 ∧ g (19 + 6 * c) 0 ≤ 36) (hS : CS g s) : Ret X 0 27 [(2, 20 + 6 * (c : Int)), (0, t), (3, 0), (3, 0)] g (some (0, scN (g (20 + 6 * c)) (s (3 + c)) (s (7 + c)) t (g (19 + 6 * c) 0).toNat)) g := by
  intro d Q hd hQ
  have key := lup (P := fun k => Wp X d SH 27 4 [(2, 20 + 6 * (c : Int)), (0, t), (0, scN (g (20 + 6 * c)) (s (3 + c)) (s (7 + c)) t k), (0, (k : Int))] [] SH (fl g) Q) (g (19 + 6 * c) 0).toNat ?_ ?_ 0 (by omega)
  · skip
    apply s_27_0
    try simp only [cm_o, cl_0, cu_0, cl_7, cm_7, cn_7, ca_7, cz_7, cl_8, cm_8, cn_8, ca_8, cz_8, cl_1, cm_1, cn_1, ca_1, cz_1, true_and, and_true, true_or, or_true, implies_true, b10_0, b10_1]
    repeat' (first | refine And.intro ?_ ?_ | intro _)
    all_goals (try (first | omega | (unfold r32; omega) | exact hQ | exact qe hQ (by omega) | exact qe hQ (by (repeat' split) <;> omega) | exact b01 | exact n01 | exact n21 | exact n31 | exact absurd trivial (by assumption)))
    exact key
  · skip
    apply s_27_4
    try simp only [cm_o, cl_0, cu_0, cl_7, cm_7, cn_7, ca_7, cz_7, cl_8, cm_8, cn_8, ca_8, cz_8, cl_1, cm_1, cn_1, ca_1, cz_1, hc, true_and, and_true, true_or, or_true, implies_true, b10_0, b10_1]
    repeat' (first | refine And.intro ?_ ?_ | intro _)
    all_goals (try (first | omega | (unfold r32; omega) | exact hQ | exact qe hQ (by omega) | exact qe hQ (by (repeat' split) <;> omega) | exact b01 | exact n01 | exact n21 | exact n31 | exact absurd trivial (by assumption)))
  · intro k hk ih
    have e2 : ((k : Int)).toNat = k := by omega
    have e10 : ((k + 1 : Nat) : Int) = (k : Int) + 1 := by omega
    have f := (hS c hc).2.2.2 k (by omega)
    have f1 := f.1
    have f2 := f.2
    simp only [e10, scN] at ih
    apply s_27_4
    try simp only [cm_o, cl_0, cu_0, cl_7, cm_7, cn_7, ca_7, cz_7, cl_8, cm_8, cn_8, ca_8, cz_8, cl_1, cm_1, cn_1, ca_1, cz_1, hc, e2, f1, f2, true_and, and_true, true_or, or_true, implies_true, b10_0, b10_1]
    repeat' (first | refine And.intro ?_ ?_ | intro _)
    all_goals (try (first | omega | (unfold r32; omega) | exact hQ | exact qe hQ (by omega) | exact qe hQ (by (repeat' split) <;> omega) | exact b01 | exact n01 | exact n21 | exact n31 | exact absurd trivial (by assumption)))
    · rw [if_neg (by omega)] at ih
      apply s_27_53
      try simp only [cm_o, cl_0, cu_0, cl_7, cm_7, cn_7, ca_7, cz_7, cl_8, cm_8, cn_8, ca_8, cz_8, cl_1, cm_1, cn_1, ca_1, cz_1, true_and, and_true, true_or, or_true, implies_true, b10_0, b10_1]
      repeat' (first | refine And.intro ?_ ?_ | intro _)
      all_goals (try (first | omega | (unfold r32; omega) | exact hQ | exact qe hQ (by omega) | exact qe hQ (by (repeat' split) <;> omega) | exact b01 | exact n01 | exact n21 | exact n31 | exact absurd trivial (by assumption)))
      all_goals (try exact ih)
    · rw [if_neg (by omega)] at ih
      apply s_27_53
      try simp only [cm_o, cl_0, cu_0, cl_7, cm_7, cn_7, ca_7, cz_7, cl_8, cm_8, cn_8, ca_8, cz_8, cl_1, cm_1, cn_1, ca_1, cz_1, true_and, and_true, true_or, or_true, implies_true, b10_0, b10_1]
      repeat' (first | refine And.intro ?_ ?_ | intro _)
      all_goals (try (first | omega | (unfold r32; omega) | exact hQ | exact qe hQ (by omega) | exact qe hQ (by (repeat' split) <;> omega) | exact b01 | exact n01 | exact n21 | exact n31 | exact absurd trivial (by assumption)))
      all_goals (try exact ih)
    · rw [if_neg (by omega)] at ih
      apply s_27_53
      try simp only [cm_o, cl_0, cu_0, cl_7, cm_7, cn_7, ca_7, cz_7, cl_8, cm_8, cn_8, ca_8, cz_8, cl_1, cm_1, cn_1, ca_1, cz_1, true_and, and_true, true_or, or_true, implies_true, b10_0, b10_1]
      repeat' (first | refine And.intro ?_ ?_ | intro _)
      all_goals (try (first | omega | (unfold r32; omega) | exact hQ | exact qe hQ (by omega) | exact qe hQ (by (repeat' split) <;> omega) | exact b01 | exact n01 | exact n21 | exact n31 | exact absurd trivial (by assumption)))
      all_goals (try exact ih)
    · rw [if_pos (by omega)] at ih
      apply s_27_53
      try simp only [cm_o, cl_0, cu_0, cl_7, cm_7, cn_7, ca_7, cz_7, cl_8, cm_8, cn_8, ca_8, cz_8, cl_1, cm_1, cn_1, ca_1, cz_1, true_and, and_true, true_or, or_true, implies_true, b10_0, b10_1]
      repeat' (first | refine And.intro ?_ ?_ | intro _)
      all_goals (try (first | omega | (unfold r32; omega) | exact hQ | exact qe hQ (by omega) | exact qe hQ (by (repeat' split) <;> omega) | exact b01 | exact n01 | exact n21 | exact n31 | exact absurd trivial (by assumption)))
      all_goals (try exact ih)
theorem T_scent (X : mX) (g : mF) (a t : Int) (h : NI g) : PR X 113 201 [(2, 1), (0, a), (0, t), (3, 0)] [(2, 87), (0, a), (0, t), (3, 0), (3, 0), (3, 0)] g (fun g2 => NC g g2 ∧ Iknow g2) := by
  have kn' := kn X h
  intro d Q hd hQ
  by_cases ha : 0 ≤ a ∧ a ≤ 3
  · obtain ⟨c, rfl⟩ : ∃ c : Nat, a = (c : Int) := ⟨a.toNat, by omega⟩
    have hc : c < 4 := by omega
    have e0 : ((c : Int)).toNat = c := by omega
    obtain ⟨k1, k2, k3, k4, k5, -⟩ := h.2.1 c hc
    by_cases ht : 0 ≤ t ∧ t ≤ 20000
    · generalize hv : scN (g (20 + 6 * c)) (NN g (3 + c)) (NN g (7 + c)) t (g (19 + 6 * c) 0).toNat = v
      have fin : ∀ g1, FK (mup g 11 3 1) g1 → CS g1 (NN g) → SI (inp g) 18959 (NN g) → Q (some (0, v)) (fl g1) := by
        intro g1 hK hS hI
        refine hQ _ g1 ⟨v, rfl, ?_⟩
        clear hQ
        intro d Q hd hQ
        have fn' := fn X h hK
        apply s_201_0
        try simp only [mi_87, fl_87_14, mi_100, ml_100, fl_100, up_100, fl_87_33, mi_115, ml_115, fl_115, up_115, fl_87_34, mi_116, ml_116, fl_116, up_116, fl_87_17, mi_103, ml_103, fl_103, up_103, true_and, and_true, true_or, or_true, implies_true, b10_0, b10_1]
        repeat' (first | refine And.intro ?_ ?_ | intro _)
        all_goals (try (first | omega | (unfold r32; omega) | exact hQ | exact qe hQ (by omega) | exact qe hQ (by (repeat' split) <;> omega) | exact b01 | exact n01 | exact n21 | exact n31 | exact absurd trivial (by assumption)))
        refine c174 X _ _ _ _ (by omega) ?_
        apply s_201_4
        try simp only [mi_87, fl_87_14, mi_100, ml_100, fl_100, up_100, fl_87_33, mi_115, ml_115, fl_115, up_115, fl_87_34, mi_116, ml_116, fl_116, up_116, fl_87_17, mi_103, ml_103, fl_103, up_103, true_and, and_true, true_or, or_true, implies_true, b10_0, b10_1]
        repeat' (first | refine And.intro ?_ ?_ | intro _)
        all_goals (try (first | omega | (unfold r32; omega) | exact hQ | exact qe hQ (by omega) | exact qe hQ (by (repeat' split) <;> omega) | exact b01 | exact n01 | exact n21 | exact n31 | exact absurd trivial (by assumption)))
        refine c144 X _ _ _ _ _ _ (by omega) ?_
        apply s_201_20
        try simp only [mi_87, fl_87_14, mi_100, ml_100, fl_100, up_100, fl_87_33, mi_115, ml_115, fl_115, up_115, fl_87_34, mi_116, ml_116, fl_116, up_116, fl_87_17, mi_103, ml_103, fl_103, up_103, true_and, and_true, true_or, or_true, implies_true, b10_0, b10_1]
        repeat' (first | refine And.intro ?_ ?_ | intro _)
        all_goals (try (first | omega | (unfold r32; omega) | exact hQ | exact qe hQ (by omega) | exact qe hQ (by (repeat' split) <;> omega) | exact b01 | exact n01 | exact n21 | exact n31 | exact absurd trivial (by assumption)))
        refine fn' _ _ (by omega) ?_
        rintro _ g2 ⟨rfl, hM, hS2⟩
        have hq := hQ (some (0, v)) g2 ⟨rfl, NC_fin hK hS hI hM⟩
        clear hQ
        have f99 : g2 99 c = g (19 + 6 * c) 0 := by rw [hM _ _ (by omega), hK _ _ (by omega), mup_n (by omega)]; exact k1
        have hpw : ∀ i, i < 36 → NN g (3 + c) i ≠ -1 → 0 ≤ g (20 + 6 * c) i ∧ g (20 + 6 * c) i ≤ 7 := by
          intro i hi hne
          have z := ((hI c hc).2.2.2 i hi).2 hne
          rw [inp_e (by unfold InpS; omega)] at z
          exact ⟨(show 0 ≤ g (20 + 6 * c) i by have := z.2.2; rw [inp_e (by unfold InpS; omega)] at this; exact this), (k5 i hi).2⟩
        have key := lup (P := fun k => ∀ v5, Wp X d SH 201 36 [(2, 87), (0, (c : Int)), (0, t), (0, scN (g (20 + 6 * c)) (NN g (3 + c)) (NN g (7 + c)) t k), (0, (k : Int)), v5] [] SH (fl g2) Q) (g (19 + 6 * c) 0).toNat ?_ ?_ 0 (by omega)
        · skip
          apply s_201_31
          try simp only [mi_87, fl_87_14, mi_100, ml_100, fl_100, up_100, fl_87_33, mi_115, ml_115, fl_115, up_115, fl_87_34, mi_116, ml_116, fl_116, up_116, fl_87_17, mi_103, ml_103, fl_103, up_103, true_and, and_true, true_or, or_true, implies_true, b10_0, b10_1]
          repeat' (first | refine And.intro ?_ ?_ | intro _)
          all_goals (try (first | omega | (unfold r32; omega) | exact hQ | exact qe hQ (by omega) | exact qe hQ (by (repeat' split) <;> omega) | exact b01 | exact n01 | exact n21 | exact n31 | exact absurd trivial (by assumption)))
          exact key _
        · intro v5
          rw [hv]
          apply s_201_36
          try simp only [mi_87, fl_87_14, mi_100, ml_100, fl_100, up_100, fl_87_33, mi_115, ml_115, fl_115, up_115, fl_87_34, mi_116, ml_116, fl_116, up_116, fl_87_17, mi_103, ml_103, fl_103, up_103, e0, f99, true_and, and_true, true_or, or_true, implies_true, b10_0, b10_1]
          repeat' (first | refine And.intro ?_ ?_ | intro _)
          all_goals (try (first | omega | (unfold r32; omega) | exact hQ | exact qe hQ (by omega) | exact qe hQ (by (repeat' split) <;> omega) | exact b01 | exact n01 | exact n21 | exact n31 | exact absurd trivial (by assumption)))
          all_goals (try exact hq)
        · intro k hk ih v5
          have hk36 : k < 36 := by omega
          have e2 : (36 * (c : Int) + (k : Int)).toNat = 36 * c + k := by omega
          have e10 : ((k + 1 : Nat) : Int) = (k : Int) + 1 := by omega
          have f := (hS2 c hc).2.2.2 k hk36
          have f1 := f.1
          have f2 := f.2
          have f3 : g2 102 (36 * c + k) = g (20 + 6 * c) k := by rw [hM _ _ (by omega), hK _ _ (by omega), mup_n (by omega)]; exact k4 k (by omega)
          have hsb := scN_b (pw := g (20 + 6 * c)) (b := NN g (3 + c)) (e := NN g (7 + c)) (t := t) k (fun i hi => hpw i (by omega))
          have hlo := (SI_b hI hc hk36).1
          have hz := or_zb hsb
          simp only [e10, scN] at ih
          have fin2 : ¬ (NN g (3 + c) k ≠ -1 ∧ NN g (3 + c) k ≤ t ∧ t < NN g (7 + c) k) → ∀ v5, Wp X d SH 201 98 [(2, 87), (0, (c : Int)), (0, t), (0, scN (g (20 + 6 * c)) (NN g (3 + c)) (NN g (7 + c)) t k), (0, (k : Int)), v5] [] SH (fl g2) Q := by
            intro hn v5
            rw [if_neg hn] at ih
            apply s_201_98
            try simp only [mi_87, fl_87_14, mi_100, ml_100, fl_100, up_100, fl_87_33, mi_115, ml_115, fl_115, up_115, fl_87_34, mi_116, ml_116, fl_116, up_116, fl_87_17, mi_103, ml_103, fl_103, up_103, true_and, and_true, true_or, or_true, implies_true, b10_0, b10_1]
            repeat' (first | refine And.intro ?_ ?_ | intro _)
            all_goals (try (first | omega | (unfold r32; omega) | exact hQ | exact qe hQ (by omega) | exact qe hQ (by (repeat' split) <;> omega) | exact b01 | exact n01 | exact n21 | exact n31 | exact absurd trivial (by assumption)))
            apply s_201_99
            try simp only [mi_87, fl_87_14, mi_100, ml_100, fl_100, up_100, fl_87_33, mi_115, ml_115, fl_115, up_115, fl_87_34, mi_116, ml_116, fl_116, up_116, fl_87_17, mi_103, ml_103, fl_103, up_103, true_and, and_true, true_or, or_true, implies_true, b10_0, b10_1]
            repeat' (first | refine And.intro ?_ ?_ | intro _)
            all_goals (try (first | omega | (unfold r32; omega) | exact hQ | exact qe hQ (by omega) | exact qe hQ (by (repeat' split) <;> omega) | exact b01 | exact n01 | exact n21 | exact n31 | exact absurd trivial (by assumption)))
            apply s_201_125
            try simp only [mi_87, fl_87_14, mi_100, ml_100, fl_100, up_100, fl_87_33, mi_115, ml_115, fl_115, up_115, fl_87_34, mi_116, ml_116, fl_116, up_116, fl_87_17, mi_103, ml_103, fl_103, up_103, hz, true_and, and_true, true_or, or_true, implies_true, b10_0, b10_1]
            repeat' (first | refine And.intro ?_ ?_ | intro _)
            all_goals (try (first | omega | (unfold r32; omega) | exact hQ | exact qe hQ (by omega) | exact qe hQ (by (repeat' split) <;> omega) | exact b01 | exact n01 | exact n21 | exact n31 | exact absurd trivial (by assumption)))
            apply s_201_127
            try simp only [mi_87, fl_87_14, mi_100, ml_100, fl_100, up_100, fl_87_33, mi_115, ml_115, fl_115, up_115, fl_87_34, mi_116, ml_116, fl_116, up_116, fl_87_17, mi_103, ml_103, fl_103, up_103, true_and, and_true, true_or, or_true, implies_true, b10_0, b10_1]
            repeat' (first | refine And.intro ?_ ?_ | intro _)
            all_goals (try (first | omega | (unfold r32; omega) | exact hQ | exact qe hQ (by omega) | exact qe hQ (by (repeat' split) <;> omega) | exact b01 | exact n01 | exact n21 | exact n31 | exact absurd trivial (by assumption)))
            exact ih _
          apply s_201_36
          try simp only [mi_87, fl_87_14, mi_100, ml_100, fl_100, up_100, fl_87_33, mi_115, ml_115, fl_115, up_115, fl_87_34, mi_116, ml_116, fl_116, up_116, fl_87_17, mi_103, ml_103, fl_103, up_103, e0, f99, e2, f1, f2, true_and, and_true, true_or, or_true, implies_true, b10_0, b10_1]
          repeat' (first | refine And.intro ?_ ?_ | intro _)
          all_goals (try (first | omega | (unfold r32; omega) | exact hQ | exact qe hQ (by omega) | exact qe hQ (by (repeat' split) <;> omega) | exact b01 | exact n01 | exact n21 | exact n31 | exact absurd trivial (by assumption)))
          · exact fin2 (by omega) _
          · exact fin2 (by omega) _
          · exact fin2 (by omega) _
          · rw [if_pos (by omega)] at ih
            apply s_201_99
            try simp only [mi_87, fl_87_14, mi_100, ml_100, fl_100, up_100, fl_87_33, mi_115, ml_115, fl_115, up_115, fl_87_34, mi_116, ml_116, fl_116, up_116, fl_87_17, mi_103, ml_103, fl_103, up_103, e2, f3, true_and, and_true, true_or, or_true, implies_true, b10_0, b10_1]
            repeat' (first | refine And.intro ?_ ?_ | intro _)
            all_goals (try (first | omega | (unfold r32; omega) | exact hQ | exact qe hQ (by omega) | exact qe hQ (by (repeat' split) <;> omega) | exact b01 | exact n01 | exact n21 | exact n31 | exact absurd trivial (by assumption)))
            apply s_201_125
            try simp only [mi_87, fl_87_14, mi_100, ml_100, fl_100, up_100, fl_87_33, mi_115, ml_115, fl_115, up_115, fl_87_34, mi_116, ml_116, fl_116, up_116, fl_87_17, mi_103, ml_103, fl_103, up_103, true_and, and_true, true_or, or_true, implies_true, b10_0, b10_1]
            repeat' (first | refine And.intro ?_ ?_ | intro _)
            all_goals (try (first | omega | (unfold r32; omega) | exact hQ | exact qe hQ (by omega) | exact qe hQ (by (repeat' split) <;> omega) | exact b01 | exact n01 | exact n21 | exact n31 | exact absurd trivial (by assumption)))
            apply s_201_127
            try simp only [mi_87, fl_87_14, mi_100, ml_100, fl_100, up_100, fl_87_33, mi_115, ml_115, fl_115, up_115, fl_87_34, mi_116, ml_116, fl_116, up_116, fl_87_17, mi_103, ml_103, fl_103, up_103, true_and, and_true, true_or, or_true, implies_true, b10_0, b10_1]
            repeat' (first | refine And.intro ?_ ?_ | intro _)
            all_goals (try (first | omega | (unfold r32; omega) | exact hQ | exact qe hQ (by omega) | exact qe hQ (by (repeat' split) <;> omega) | exact b01 | exact n01 | exact n21 | exact n31 | exact absurd trivial (by assumption)))
            exact ih _
      apply s_113_0
      try simp only [mi_1, fl_1_4, mi_12, fl_1_2, mi_6, cm_o, true_and, and_true, true_or, or_true, implies_true, b10_0, b10_1]
      repeat' (first | refine And.intro ?_ ?_ | intro _)
      all_goals (try (first | omega | (unfold r32; omega) | exact hQ | exact qe hQ (by omega) | exact qe hQ (by (repeat' split) <;> omega) | exact b01 | exact n01 | exact n21 | exact n31 | exact absurd trivial (by assumption)))
      refine c32 X g hc _ _ (by omega) ?_
      apply s_113_8
      try simp only [mi_1, fl_1_4, mi_12, fl_1_2, mi_6, cm_o, true_and, and_true, true_or, or_true, implies_true, b10_0, b10_1]
      repeat' (first | refine And.intro ?_ ?_ | intro _)
      all_goals (try (first | omega | (unfold r32; omega) | exact hQ | exact qe hQ (by omega) | exact qe hQ (by (repeat' split) <;> omega) | exact b01 | exact n01 | exact n21 | exact n31 | exact absurd trivial (by assumption)))
      refine c130 X _ _ _ _ _ _ (by omega) ?_
      apply s_113_25
      try simp only [mi_1, fl_1_4, mi_12, fl_1_2, mi_6, cm_o, true_and, and_true, true_or, or_true, implies_true, b10_0, b10_1]
      repeat' (first | refine And.intro ?_ ?_ | intro _)
      all_goals (try (first | omega | (unfold r32; omega) | exact hQ | exact qe hQ (by omega) | exact qe hQ (by (repeat' split) <;> omega) | exact b01 | exact n01 | exact n21 | exact n31 | exact absurd trivial (by assumption)))
      refine kn' _ _ (by omega) ?_
      rintro _ g1 ⟨rfl, hK, hS, hI⟩
      have f0 : g1 (19 + 6 * c) 0 = g (19 + 6 * c) 0 := by rw [hK _ _ (by omega), mup_n (by omega)]
      have f20 : g1 (20 + 6 * c) = g (20 + 6 * c) := funext (fun k => by rw [hK _ _ (by omega), mup_n (by omega)])
      have c27' := c27 X (g := g1) (t := t) hc (by rw [f0]; exact ⟨k2, k3⟩) hS
      rw [f0, f20, hv] at c27'
      apply s_113_43
      try simp only [mi_1, fl_1_4, mi_12, fl_1_2, mi_6, cm_o, hc, true_and, and_true, true_or, or_true, implies_true, b10_0, b10_1]
      repeat' (first | refine And.intro ?_ ?_ | intro _)
      all_goals (try (first | omega | (unfold r32; omega) | exact hQ | exact qe hQ (by omega) | exact qe hQ (by (repeat' split) <;> omega) | exact b01 | exact n01 | exact n21 | exact n31 | exact absurd trivial (by assumption)))
      refine c27' _ _ (by omega) ?_
      refine s_113_48 ?_
      exact fin g1 hK hS hI
    · have r1 : Ret X 60 113 [(2, 1), (0, (c : Int)), (0, t), (3, 0)] g (some (0, -1002)) g := by
        intro d Q hd hQ
        repeat' (first
          | (exfalso; omega)
          | (exact absurd trivial (by assumption))
          | (apply s_113_0; try simp only [mi_1, fl_1_4, mi_12, fl_1_2, mi_6, cm_o, true_and, and_true, true_or, or_true, implies_true, b10_0, b10_1])
          | (apply s_113_8; try simp only [mi_1, fl_1_4, mi_12, fl_1_2, mi_6, cm_o, true_and, and_true, true_or, or_true, implies_true, b10_0, b10_1])
          | (apply s_113_25; try simp only [mi_1, fl_1_4, mi_12, fl_1_2, mi_6, cm_o, true_and, and_true, true_or, or_true, implies_true, b10_0, b10_1])
          | (apply s_113_43; try simp only [mi_1, fl_1_4, mi_12, fl_1_2, mi_6, cm_o, true_and, and_true, true_or, or_true, implies_true, b10_0, b10_1])
          | (apply s_113_48; try simp only [mi_1, fl_1_4, mi_12, fl_1_2, mi_6, cm_o, true_and, and_true, true_or, or_true, implies_true, b10_0, b10_1])
          | (refine c130 X _ _ _ _ _ _ (by omega) ?_)
          | (refine c32 X g hc _ _ (by omega) ?_)
          | (refine And.intro ?_ ?_)
          | (intro _)
          | omega
          | (unfold r32; omega)
          | (exact hQ)
          | (exact qe hQ (by omega))
          | (exact qe hQ (by (repeat' split) <;> omega))
          | (exact b01)
          | (exact n01)
          | (exact n21)
          | (exact n31))
      have r2 : Ret X 60 201 [(2, 87), (0, (c : Int)), (0, t), (3, 0), (3, 0), (3, 0)] g (some (0, -1002)) g := by
        intro d Q hd hQ
        repeat' (first
          | (exfalso; omega)
          | (exact absurd trivial (by assumption))
          | (apply s_201_0; try simp only [mi_87, fl_87_14, mi_100, ml_100, fl_100, up_100, fl_87_33, mi_115, ml_115, fl_115, up_115, fl_87_34, mi_116, ml_116, fl_116, up_116, fl_87_17, mi_103, ml_103, fl_103, up_103, true_and, and_true, true_or, or_true, implies_true, b10_0, b10_1])
          | (apply s_201_4; try simp only [mi_87, fl_87_14, mi_100, ml_100, fl_100, up_100, fl_87_33, mi_115, ml_115, fl_115, up_115, fl_87_34, mi_116, ml_116, fl_116, up_116, fl_87_17, mi_103, ml_103, fl_103, up_103, true_and, and_true, true_or, or_true, implies_true, b10_0, b10_1])
          | (apply s_201_20; try simp only [mi_87, fl_87_14, mi_100, ml_100, fl_100, up_100, fl_87_33, mi_115, ml_115, fl_115, up_115, fl_87_34, mi_116, ml_116, fl_116, up_116, fl_87_17, mi_103, ml_103, fl_103, up_103, true_and, and_true, true_or, or_true, implies_true, b10_0, b10_1])
          | (apply s_201_31; try simp only [mi_87, fl_87_14, mi_100, ml_100, fl_100, up_100, fl_87_33, mi_115, ml_115, fl_115, up_115, fl_87_34, mi_116, ml_116, fl_116, up_116, fl_87_17, mi_103, ml_103, fl_103, up_103, true_and, and_true, true_or, or_true, implies_true, b10_0, b10_1])
          | (apply s_201_36; try simp only [mi_87, fl_87_14, mi_100, ml_100, fl_100, up_100, fl_87_33, mi_115, ml_115, fl_115, up_115, fl_87_34, mi_116, ml_116, fl_116, up_116, fl_87_17, mi_103, ml_103, fl_103, up_103, true_and, and_true, true_or, or_true, implies_true, b10_0, b10_1])
          | (apply s_201_98; try simp only [mi_87, fl_87_14, mi_100, ml_100, fl_100, up_100, fl_87_33, mi_115, ml_115, fl_115, up_115, fl_87_34, mi_116, ml_116, fl_116, up_116, fl_87_17, mi_103, ml_103, fl_103, up_103, true_and, and_true, true_or, or_true, implies_true, b10_0, b10_1])
          | (apply s_201_99; try simp only [mi_87, fl_87_14, mi_100, ml_100, fl_100, up_100, fl_87_33, mi_115, ml_115, fl_115, up_115, fl_87_34, mi_116, ml_116, fl_116, up_116, fl_87_17, mi_103, ml_103, fl_103, up_103, true_and, and_true, true_or, or_true, implies_true, b10_0, b10_1])
          | (apply s_201_125; try simp only [mi_87, fl_87_14, mi_100, ml_100, fl_100, up_100, fl_87_33, mi_115, ml_115, fl_115, up_115, fl_87_34, mi_116, ml_116, fl_116, up_116, fl_87_17, mi_103, ml_103, fl_103, up_103, true_and, and_true, true_or, or_true, implies_true, b10_0, b10_1])
          | (apply s_201_127; try simp only [mi_87, fl_87_14, mi_100, ml_100, fl_100, up_100, fl_87_33, mi_115, ml_115, fl_115, up_115, fl_87_34, mi_116, ml_116, fl_116, up_116, fl_87_17, mi_103, ml_103, fl_103, up_103, true_and, and_true, true_or, or_true, implies_true, b10_0, b10_1])
          | (refine c174 X _ _ _ _ (by omega) ?_)
          | (refine c144 X _ _ _ _ _ _ (by omega) ?_)
          | (refine And.intro ?_ ?_)
          | (intro _)
          | omega
          | (unfold r32; omega)
          | (exact hQ)
          | (exact qe hQ (by omega))
          | (exact qe hQ (by (repeat' split) <;> omega))
          | (exact b01)
          | (exact n01)
          | (exact n21)
          | (exact n31))
      exact PR_of r1 r2 (NC_r h) d Q hd hQ
  · have r1 : Ret X 60 113 [(2, 1), (0, a), (0, t), (3, 0)] g (some (0, -1001)) g := by
      intro d Q hd hQ
      repeat' (first
        | (exfalso; omega)
        | (exact absurd trivial (by assumption))
        | (apply s_113_0; try simp only [mi_1, fl_1_4, mi_12, fl_1_2, mi_6, cm_o, true_and, and_true, true_or, or_true, implies_true, b10_0, b10_1])
        | (apply s_113_8; try simp only [mi_1, fl_1_4, mi_12, fl_1_2, mi_6, cm_o, true_and, and_true, true_or, or_true, implies_true, b10_0, b10_1])
        | (apply s_113_25; try simp only [mi_1, fl_1_4, mi_12, fl_1_2, mi_6, cm_o, true_and, and_true, true_or, or_true, implies_true, b10_0, b10_1])
        | (apply s_113_43; try simp only [mi_1, fl_1_4, mi_12, fl_1_2, mi_6, cm_o, true_and, and_true, true_or, or_true, implies_true, b10_0, b10_1])
        | (apply s_113_48; try simp only [mi_1, fl_1_4, mi_12, fl_1_2, mi_6, cm_o, true_and, and_true, true_or, or_true, implies_true, b10_0, b10_1])
        | (refine c130 X _ _ _ _ _ _ (by omega) ?_)
        | (refine c32n X g _ ha _ _ (by omega) ?_)
        | (refine And.intro ?_ ?_)
        | (intro _)
        | omega
        | (unfold r32; omega)
        | (exact hQ)
        | (exact qe hQ (by omega))
        | (exact qe hQ (by (repeat' split) <;> omega))
        | (exact b01)
        | (exact n01)
        | (exact n21)
        | (exact n31))
    have r2 : Ret X 60 201 [(2, 87), (0, a), (0, t), (3, 0), (3, 0), (3, 0)] g (some (0, -1001)) g := by
      intro d Q hd hQ
      repeat' (first
        | (exfalso; omega)
        | (exact absurd trivial (by assumption))
        | (apply s_201_0; try simp only [mi_87, fl_87_14, mi_100, ml_100, fl_100, up_100, fl_87_33, mi_115, ml_115, fl_115, up_115, fl_87_34, mi_116, ml_116, fl_116, up_116, fl_87_17, mi_103, ml_103, fl_103, up_103, true_and, and_true, true_or, or_true, implies_true, b10_0, b10_1])
        | (apply s_201_4; try simp only [mi_87, fl_87_14, mi_100, ml_100, fl_100, up_100, fl_87_33, mi_115, ml_115, fl_115, up_115, fl_87_34, mi_116, ml_116, fl_116, up_116, fl_87_17, mi_103, ml_103, fl_103, up_103, true_and, and_true, true_or, or_true, implies_true, b10_0, b10_1])
        | (apply s_201_20; try simp only [mi_87, fl_87_14, mi_100, ml_100, fl_100, up_100, fl_87_33, mi_115, ml_115, fl_115, up_115, fl_87_34, mi_116, ml_116, fl_116, up_116, fl_87_17, mi_103, ml_103, fl_103, up_103, true_and, and_true, true_or, or_true, implies_true, b10_0, b10_1])
        | (apply s_201_31; try simp only [mi_87, fl_87_14, mi_100, ml_100, fl_100, up_100, fl_87_33, mi_115, ml_115, fl_115, up_115, fl_87_34, mi_116, ml_116, fl_116, up_116, fl_87_17, mi_103, ml_103, fl_103, up_103, true_and, and_true, true_or, or_true, implies_true, b10_0, b10_1])
        | (apply s_201_36; try simp only [mi_87, fl_87_14, mi_100, ml_100, fl_100, up_100, fl_87_33, mi_115, ml_115, fl_115, up_115, fl_87_34, mi_116, ml_116, fl_116, up_116, fl_87_17, mi_103, ml_103, fl_103, up_103, true_and, and_true, true_or, or_true, implies_true, b10_0, b10_1])
        | (apply s_201_98; try simp only [mi_87, fl_87_14, mi_100, ml_100, fl_100, up_100, fl_87_33, mi_115, ml_115, fl_115, up_115, fl_87_34, mi_116, ml_116, fl_116, up_116, fl_87_17, mi_103, ml_103, fl_103, up_103, true_and, and_true, true_or, or_true, implies_true, b10_0, b10_1])
        | (apply s_201_99; try simp only [mi_87, fl_87_14, mi_100, ml_100, fl_100, up_100, fl_87_33, mi_115, ml_115, fl_115, up_115, fl_87_34, mi_116, ml_116, fl_116, up_116, fl_87_17, mi_103, ml_103, fl_103, up_103, true_and, and_true, true_or, or_true, implies_true, b10_0, b10_1])
        | (apply s_201_125; try simp only [mi_87, fl_87_14, mi_100, ml_100, fl_100, up_100, fl_87_33, mi_115, ml_115, fl_115, up_115, fl_87_34, mi_116, ml_116, fl_116, up_116, fl_87_17, mi_103, ml_103, fl_103, up_103, true_and, and_true, true_or, or_true, implies_true, b10_0, b10_1])
        | (apply s_201_127; try simp only [mi_87, fl_87_14, mi_100, ml_100, fl_100, up_100, fl_87_33, mi_115, ml_115, fl_115, up_115, fl_87_34, mi_116, ml_116, fl_116, up_116, fl_87_17, mi_103, ml_103, fl_103, up_103, true_and, and_true, true_or, or_true, implies_true, b10_0, b10_1])
        | (refine c174 X _ _ _ _ (by omega) ?_)
        | (refine c144 X _ _ _ _ _ _ (by omega) ?_)
        | (refine And.intro ?_ ?_)
        | (intro _)
        | omega
        | (unfold r32; omega)
        | (exact hQ)
        | (exact qe hQ (by omega))
        | (exact qe hQ (by (repeat' split) <;> omega))
        | (exact b01)
        | (exact n01)
        | (exact n21)
        | (exact n31))
    exact PR_of r1 r2 (NC_r h) d Q hd hQ
