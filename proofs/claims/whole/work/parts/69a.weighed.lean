/-! weighed -/
theorem sum4 {a : Nat → Int} : sumN 4 a = a 0 + a 1 + a 2 + a 3 := by simp only [sumN]; omega
theorem celp_le (g : mF) (c : Nat) (p : Int) (h : g (19 + 6 * c) 0 ≤ 36) : celp g c p ≤ 36 := by
  unfold celp
  have z := (sumN_b (n := (g (19 + 6 * c) 0).toNat) (a := fun i => if g (20 + 6 * c) i = p then (1 : Int) else 0) (lo := 0) (hi := 1) (fun i _ => by split <;> omega)).2
  omega
theorem c18 (X : mX) (g : mF) {c : Nat} (hc : c < 4) (p : Int) (hn : 0 ≤ g (19 + 6 * c) 0 ∧ g (19 + 6 * c) 0 ≤ 36) : Ret X 0 18 [(2, 20 + 6 * (c : Int)), (0, p), (3, 0), (3, 0)] g (some (0, celp g c p)) g := by
  intro d Q hd hQ
  unfold celp at hQ
  have key := lup (P := fun k => Wp X d SH 18 4 [(2, 20 + 6 * (c : Int)), (0, p), (0, sumN k (fun i => if g (20 + 6 * c) i = p then 1 else 0)), (0, (k : Int))] [] SH (fl g) Q) (g (19 + 6 * c) 0).toNat ?_ ?_ 0 (by omega)
  · skip
    apply s_18_0
    try simp only [cm_o, cl_0, cu_0, cl_1, cm_1, cn_1, ca_1, cz_1, true_and, and_true, true_or, or_true, implies_true, b10_0, b10_1]
    repeat' (first | refine And.intro ?_ ?_ | intro _)
    all_goals (try (first | omega | (unfold r32; omega) | exact hQ | exact qe hQ (by omega) | exact qe hQ (by (repeat' split) <;> omega) | exact b01 | exact n01 | exact n21 | exact n31 | exact absurd trivial (by assumption)))
    exact key
  · skip
    apply s_18_4
    try simp only [cm_o, cl_0, cu_0, cl_1, cm_1, cn_1, ca_1, cz_1, hc, true_and, and_true, true_or, or_true, implies_true, b10_0, b10_1]
    repeat' (first | refine And.intro ?_ ?_ | intro _)
    all_goals (try (first | omega | (unfold r32; omega) | exact hQ | exact qe hQ (by omega) | exact qe hQ (by (repeat' split) <;> omega) | exact b01 | exact n01 | exact n21 | exact n31 | exact absurd trivial (by assumption)))
  · intro k hk ih
    have e2 : ((k : Int)).toNat = k := by omega
    have e10 : ((k + 1 : Nat) : Int) = (k : Int) + 1 := by omega
    have b1 := sumN_b (n := k) (a := fun i => if g (20 + 6 * c) i = p then (1 : Int) else 0) (lo := 0) (hi := 1) (fun i _ => by (try simp only []); split <;> omega)
    simp only [e10, sumN] at ih
    apply s_18_4
    try simp only [cm_o, cl_0, cu_0, cl_1, cm_1, cn_1, ca_1, cz_1, hc, e2, true_and, and_true, true_or, or_true, implies_true, b10_0, b10_1]
    repeat' (first | refine And.intro ?_ ?_ | intro _)
    all_goals (try (first | omega | (unfold r32; omega) | exact hQ | exact qe hQ (by omega) | exact qe hQ (by (repeat' split) <;> omega) | exact b01 | exact n01 | exact n21 | exact n31 | exact absurd trivial (by assumption)))
    · rw [if_neg (by assumption), Int.add_zero] at ih
      apply s_18_25
      try simp only [cm_o, cl_0, cu_0, cl_1, cm_1, cn_1, ca_1, cz_1, true_and, and_true, true_or, or_true, implies_true, b10_0, b10_1]
      repeat' (first | refine And.intro ?_ ?_ | intro _)
      all_goals (try (first | omega | (unfold r32; omega) | exact hQ | exact qe hQ (by omega) | exact qe hQ (by (repeat' split) <;> omega) | exact b01 | exact n01 | exact n21 | exact n31 | exact absurd trivial (by assumption)))
      all_goals (try exact ih)
    · rw [if_pos (by omega)] at ih
      apply s_18_25
      try simp only [cm_o, cl_0, cu_0, cl_1, cm_1, cn_1, ca_1, cz_1, true_and, and_true, true_or, or_true, implies_true, b10_0, b10_1]
      repeat' (first | refine And.intro ?_ ?_ | intro _)
      all_goals (try (first | omega | (unfold r32; omega) | exact hQ | exact qe hQ (by omega) | exact qe hQ (by (repeat' split) <;> omega) | exact b01 | exact n01 | exact n21 | exact n31 | exact absurd trivial (by assumption)))
      all_goals (try exact ih)
theorem c172 (X : mX) (g : mF) {c : Nat} (hc : c < 4) (p : Int) (hI : Iclk g c) : Ret X 0 172 [(2, 87), (0, (c : Int)), (0, p), (3, 0), (3, 0)] g (some (0, celp g c p)) g := by
  intro d Q hd hQ
  obtain ⟨k1, k2, k3, k4, -⟩ := hI
  unfold celp at hQ
  have e0 : ((c : Int)).toNat = c := by omega
  have key := lup (P := fun k => Wp X d SH 172 5 [(2, 87), (0, (c : Int)), (0, p), (0, sumN k (fun i => if g (20 + 6 * c) i = p then 1 else 0)), (0, (k : Int))] [] SH (fl g) Q) (g (19 + 6 * c) 0).toNat ?_ ?_ 0 (by omega)
  · skip
    apply s_172_0
    try simp only [mi_87, fl_87_14, mi_100, ml_100, fl_100, up_100, fl_87_17, mi_103, ml_103, fl_103, up_103, true_and, and_true, true_or, or_true, implies_true, b10_0, b10_1]
    repeat' (first | refine And.intro ?_ ?_ | intro _)
    all_goals (try (first | omega | (unfold r32; omega) | exact hQ | exact qe hQ (by omega) | exact qe hQ (by (repeat' split) <;> omega) | exact b01 | exact n01 | exact n21 | exact n31 | exact absurd trivial (by assumption)))
    exact key
  · skip
    apply s_172_5
    try simp only [mi_87, fl_87_14, mi_100, ml_100, fl_100, up_100, fl_87_17, mi_103, ml_103, fl_103, up_103, e0, k1, true_and, and_true, true_or, or_true, implies_true, b10_0, b10_1]
    repeat' (first | refine And.intro ?_ ?_ | intro _)
    all_goals (try (first | omega | (unfold r32; omega) | exact hQ | exact qe hQ (by omega) | exact qe hQ (by (repeat' split) <;> omega) | exact b01 | exact n01 | exact n21 | exact n31 | exact absurd trivial (by assumption)))
  · intro k hk ih
    have eck : (36 * (c : Int) + (k : Int)).toNat = 36 * c + k := by omega
    have e10 : ((k + 1 : Nat) : Int) = (k : Int) + 1 := by omega
    have fk := k4 k (by omega)
    have b1 := sumN_b (n := k) (a := fun i => if g (20 + 6 * c) i = p then (1 : Int) else 0) (lo := 0) (hi := 1) (fun i _ => by (try simp only []); split <;> omega)
    simp only [e10, sumN] at ih
    apply s_172_5
    try simp only [mi_87, fl_87_14, mi_100, ml_100, fl_100, up_100, fl_87_17, mi_103, ml_103, fl_103, up_103, e0, k1, eck, fk, true_and, and_true, true_or, or_true, implies_true, b10_0, b10_1]
    repeat' (first | refine And.intro ?_ ?_ | intro _)
    all_goals (try (first | omega | (unfold r32; omega) | exact hQ | exact qe hQ (by omega) | exact qe hQ (by (repeat' split) <;> omega) | exact b01 | exact n01 | exact n21 | exact n31 | exact absurd trivial (by assumption)))
    · rw [if_neg (by assumption)] at ih
      apply s_172_38
      try simp only [mi_87, fl_87_14, mi_100, ml_100, fl_100, up_100, fl_87_17, mi_103, ml_103, fl_103, up_103, true_and, and_true, true_or, or_true, implies_true, b10_0, b10_1]
      repeat' (first | refine And.intro ?_ ?_ | intro _)
      all_goals (try (first | omega | (unfold r32; omega) | exact hQ | exact qe hQ (by omega) | exact qe hQ (by (repeat' split) <;> omega) | exact b01 | exact n01 | exact n21 | exact n31 | exact absurd trivial (by assumption)))
      all_goals (try exact ih)
    · rw [if_pos (by omega)] at ih
      apply s_172_38
      try simp only [mi_87, fl_87_14, mi_100, ml_100, fl_100, up_100, fl_87_17, mi_103, ml_103, fl_103, up_103, true_and, and_true, true_or, or_true, implies_true, b10_0, b10_1]
      repeat' (first | refine And.intro ?_ ?_ | intro _)
      all_goals (try (first | omega | (unfold r32; omega) | exact hQ | exact qe hQ (by omega) | exact qe hQ (by (repeat' split) <;> omega) | exact b01 | exact n01 | exact n21 | exact n31 | exact absurd trivial (by assumption)))
      all_goals (try exact ih)
theorem c38 (X : mX) (g : mF) (p : Int) (hn : ∀ c, c < 4 → 0 ≤ g (19 + 6 * c) 0 ∧ g (19 + 6 * c) 0 ≤ 36) : Ret X 1 38 [(2, 12), (0, p), (3, 0), (3, 0)] g (some (0, sumN 4 (fun c => celp g c p))) g := by
  intro d Q hd hQ
  have key := lup (P := fun k => Wp X d SH 38 4 [(2, 12), (0, p), (0, sumN k (fun c => celp g c p)), (0, (k : Int))] [] SH (fl g) Q) 4 ?_ ?_ 0 (by omega)
  · skip
    apply s_38_0
    try simp only [mi_12, fl_12_0, mi_13, ml_13, fl_13, cm_o, true_and, and_true, true_or, or_true, implies_true, b10_0, b10_1]
    repeat' (first | refine And.intro ?_ ?_ | intro _)
    all_goals (try (first | omega | (unfold r32; omega) | exact hQ | exact qe hQ (by omega) | exact qe hQ (by (repeat' split) <;> omega) | exact b01 | exact n01 | exact n21 | exact n31 | exact absurd trivial (by assumption)))
    exact key
  · skip
    apply s_38_4
    try simp only [mi_12, fl_12_0, mi_13, ml_13, fl_13, cm_o, true_and, and_true, true_or, or_true, implies_true, b10_0, b10_1]
    repeat' (first | refine And.intro ?_ ?_ | intro _)
    all_goals (try (first | omega | (unfold r32; omega) | exact hQ | exact qe hQ (by omega) | exact qe hQ (by (repeat' split) <;> omega) | exact b01 | exact n01 | exact n21 | exact n31 | exact absurd trivial (by assumption)))
  · intro k hk ih
    have e2 : ((k : Int)).toNat = k := by omega
    have e10 : ((k + 1 : Nat) : Int) = (k : Int) + 1 := by omega
    have b1 := sumN_b (n := k) (a := fun c => celp g c p) (lo := 0) (hi := 36) (fun i hi => ⟨celp_nn g i p, celp_le g i p (hn i (by omega)).2⟩)
    have b2 := celp_nn g k p
    have b3 := celp_le g k p (hn k hk).2
    simp only [e10, sumN] at ih
    apply s_38_4
    try simp only [mi_12, fl_12_0, mi_13, ml_13, fl_13, cm_o, hk, e2, true_and, and_true, true_or, or_true, implies_true, b10_0, b10_1]
    repeat' (first | refine And.intro ?_ ?_ | intro _)
    all_goals (try (first | omega | (unfold r32; omega) | exact hQ | exact qe hQ (by omega) | exact qe hQ (by (repeat' split) <;> omega) | exact b01 | exact n01 | exact n21 | exact n31 | exact absurd trivial (by assumption)))
    refine c18 X g hk p (hn k hk) _ _ (by omega) ?_
    apply s_38_20
    try simp only [mi_12, fl_12_0, mi_13, ml_13, fl_13, cm_o, true_and, and_true, true_or, or_true, implies_true, b10_0, b10_1]
    repeat' (first | refine And.intro ?_ ?_ | intro _)
    all_goals (try (first | omega | (unfold r32; omega) | exact hQ | exact qe hQ (by omega) | exact qe hQ (by (repeat' split) <;> omega) | exact b01 | exact n01 | exact n21 | exact n31 | exact absurd trivial (by assumption)))
    all_goals (try exact ih)
def weW (g : mF) (w : Int) (p : Nat) : Int := if w = 1 then sumN 4 (fun j => g 9 (8 * j + p)) else if w = 2 then sumN 4 (fun c => celp g c (p : Int)) else if w = 3 then g 10 p else g 97 p
theorem weW_b {g : mF} {n : Nat} (hn : n < 512) (hS : Istore n g) (hC : ∀ c, c < 4 → Iclk g c) {p : Nat} (hp : p < 8) (w : Int) : (0 ≤ weW g w p ∧ weW g w p ≤ 60000) ∧ sumN 4 (fun j => g 9 (8 * j + p)) + sumN 4 (fun c => celp g c (p : Int)) + g 10 p = g 97 p ∧ 0 ≤ sumN 4 (fun j => g 9 (8 * j + p)) ∧ 0 ≤ sumN 4 (fun c => celp g c (p : Int)) ∧ 0 ≤ g 10 p ∧ g 97 p ≤ 60000 := by
  have s := hS.2.2 p hp
  have a0 := (hS.1 p (by omega)).2
  have a1 := (hS.1 (8 + p) (by omega)).2
  have a2 := (hS.1 (16 + p) (by omega)).2
  have a3 := (hS.1 (24 + p) (by omega)).2
  have b := (hS.2.1 p hp).2
  have k0 := celp_nn g 0 (p : Int)
  have k1 := celp_nn g 1 (p : Int)
  have k2 := celp_nn g 2 (p : Int)
  have k3 := celp_nn g 3 (p : Int)
  have e1 : sumN 4 (fun j => g 9 (8 * j + p)) = g 9 p + g 9 (8 + p) + g 9 (16 + p) + g 9 (24 + p) := by
    rw [sum4]
    simp only [Nat.mul_zero, Nat.zero_add]
  have e2 : sumN 4 (fun c => celp g c (p : Int)) = celp g 0 p + celp g 1 p + celp g 2 p + celp g 3 p := sum4
  unfold weW
  rw [e1, e2]
  refine ⟨?_, by omega, by omega, by omega, b, by omega⟩
  split
  · omega
  · split
    · omega
    · split <;> omega
theorem T_weighed (X : mX) (g : mF) (a w : Int) {n : Nat} (hn : n < 512) (hC : ∀ c, c < 4 → Iclk g c) (hS : Istore n g) : ∃ r, Ret X 60 99 [(2, 1), (0, a), (0, w), (3, 0), (3, 0)] g (some (0, r)) g ∧ Ret X 60 173 [(2, 87), (0, a), (0, w), (3, 0), (3, 0), (3, 0), (3, 0)] g (some (0, r)) g := by
  have hn4 : ∀ c, c < 4 → 0 ≤ g (19 + 6 * c) 0 ∧ g (19 + 6 * c) 0 ≤ 36 := fun c hc => ⟨(hC c hc).2.1, (hC c hc).2.2.1⟩
  by_cases ha : -1 ≤ a ∧ a ≤ 7
  · by_cases hw : 0 ≤ w ∧ w ≤ 3
    · refine ⟨sumN 8 (fun p => if a = -1 ∨ a = (p : Int) then weW g w p else 0), ?_, ?_⟩
      · intro d Q hd hQ
        have key := lup (P := fun p => Wp X d SH 99 34 [(2, 1), (0, a), (0, w), (0, sumN p (fun p => if a = -1 ∨ a = (p : Int) then weW g w p else 0)), (0, (p : Int))] [] SH (fl g) Q) 8 ?_ ?_ 0 (by omega)
        · have k2 : Wp X d SH 99 16 [(2, 1), (0, a), (0, w), (3, 0), (3, 0)] [] SH (fl g) Q := by
            apply s_99_16
            try simp only [mi_1, true_and, and_true, true_or, or_true, implies_true, b10_0, b10_1]
            repeat' (first | refine And.intro ?_ ?_ | intro _)
            all_goals (try (first | omega | (unfold r32; omega) | exact hQ | exact qe hQ (by omega) | exact qe hQ (by (repeat' split) <;> omega) | exact b01 | exact n01 | exact n21 | exact n31 | exact absurd trivial (by assumption)))
            refine c130 X _ _ _ _ _ _ (by omega) ?_
            apply s_99_22
            try simp only [mi_1, true_and, and_true, true_or, or_true, implies_true, b10_0, b10_1]
            repeat' (first | refine And.intro ?_ ?_ | intro _)
            all_goals (try (first | omega | (unfold r32; omega) | exact hQ | exact qe hQ (by omega) | exact qe hQ (by (repeat' split) <;> omega) | exact b01 | exact n01 | exact n21 | exact n31 | exact absurd trivial (by assumption)))
            all_goals (try exact key)
          apply s_99_0
          try simp only [mi_1, true_and, and_true, true_or, or_true, implies_true, b10_0, b10_1]
          repeat' (first | refine And.intro ?_ ?_ | intro _)
          all_goals (try (first | omega | (unfold r32; omega) | exact hQ | exact qe hQ (by omega) | exact qe hQ (by (repeat' split) <;> omega) | exact b01 | exact n01 | exact n21 | exact n31 | exact absurd trivial (by assumption)))
          all_goals (try exact k2)
          refine c131 X _ _ _ _ (by omega) ?_
          apply s_99_9
          try simp only [mi_1, true_and, and_true, true_or, or_true, implies_true, b10_0, b10_1]
          repeat' (first | refine And.intro ?_ ?_ | intro _)
          all_goals (try (first | omega | (unfold r32; omega) | exact hQ | exact qe hQ (by omega) | exact qe hQ (by (repeat' split) <;> omega) | exact b01 | exact n01 | exact n21 | exact n31 | exact absurd trivial (by assumption)))
          all_goals (try exact k2)
        · skip
          apply s_99_34
          try simp only [mi_1, true_and, and_true, true_or, or_true, implies_true, b10_0, b10_1]
          repeat' (first | refine And.intro ?_ ?_ | intro _)
          all_goals (try (first | omega | (unfold r32; omega) | exact hQ | exact qe hQ (by omega) | exact qe hQ (by (repeat' split) <;> omega) | exact b01 | exact n01 | exact n21 | exact n31 | exact absurd trivial (by assumption)))
        · intro p hp ih
          have e2 : ((p : Int)).toNat = p := by omega
          have e10 : ((p + 1 : Nat) : Int) = (p : Int) + 1 := by omega
          obtain ⟨wb, ws, w1, w2, w3, w4⟩ := weW_b hn hS hC hp w
          have b1 := sumN_b (n := p) (a := fun p => if a = -1 ∨ a = (p : Int) then weW g w p else 0) (lo := 0) (hi := 60000) (fun i hi => by
            have z := (weW_b hn hS hC (show i < 8 by omega) w).1
            (try simp only [])
            split <;> omega)
          simp only [e10, sumN] at ih
          by_cases hz : a = -1 ∨ a = (p : Int)
          · rw [if_pos hz] at ih
            have c81' := c81 X g (p : Int) (by omega) (fun j hj => (hS.1 j hj).2)
            rw [e2] at c81'
            have c38' := c38 X g (p : Int) hn4
            have fin : Wp X d SH 99 52 [(2, 1), (0, a), (0, w), (0, sumN p (fun p => if a = -1 ∨ a = (p : Int) then weW g w p else 0)), (0, (p : Int))] [] SH (fl g) Q := by
              apply s_99_52
              try simp only [mi_1, true_and, and_true, true_or, or_true, implies_true, b10_0, b10_1]
              repeat' (first | refine And.intro ?_ ?_ | intro _)
              all_goals (try (first | omega | (unfold r32; omega) | exact hQ | exact qe hQ (by omega) | exact qe hQ (by (repeat' split) <;> omega) | exact b01 | exact n01 | exact n21 | exact n31 | exact absurd trivial (by assumption)))
              apply s_136_0
              try simp only [mi_1, fl_1_3, mi_9, fl_1_4, mi_12, fl_9_1, mi_11, ml_11, fl_11, up_11, true_and, and_true, true_or, or_true, implies_true, b10_0, b10_1]
              repeat' (first | refine And.intro ?_ ?_ | intro _)
              all_goals (try (first | omega | (unfold r32; omega) | exact hQ | exact qe hQ (by omega) | exact qe hQ (by (repeat' split) <;> omega) | exact b01 | exact n01 | exact n21 | exact n31 | exact absurd trivial (by assumption)))
              refine c81' _ _ (by omega) ?_
              apply s_136_8
              try simp only [mi_1, fl_1_3, mi_9, fl_1_4, mi_12, fl_9_1, mi_11, ml_11, fl_11, up_11, true_and, and_true, true_or, or_true, implies_true, b10_0, b10_1]
              repeat' (first | refine And.intro ?_ ?_ | intro _)
              all_goals (try (first | omega | (unfold r32; omega) | exact hQ | exact qe hQ (by omega) | exact qe hQ (by (repeat' split) <;> omega) | exact b01 | exact n01 | exact n21 | exact n31 | exact absurd trivial (by assumption)))
              refine c38' _ _ (by omega) ?_
              apply s_136_17
              try simp only [mi_1, fl_1_3, mi_9, fl_1_4, mi_12, fl_9_1, mi_11, ml_11, fl_11, up_11, e2, true_and, and_true, true_or, or_true, implies_true, b10_0, b10_1]
              repeat' (first | refine And.intro ?_ ?_ | intro _)
              all_goals (try (first | omega | (unfold r32; omega) | exact hQ | exact qe hQ (by omega) | exact qe hQ (by (repeat' split) <;> omega) | exact b01 | exact n01 | exact n21 | exact n31 | exact absurd trivial (by assumption)))
              have fin2 : ∀ u, u = weW g w p → Wp X d SH 99 60 [(2, 1), (0, a), (0, w), (0, sumN p (fun p => if a = -1 ∨ a = (p : Int) then weW g w p else 0)), (0, (p : Int))] [(0, u), (0, sumN p (fun p => if a = -1 ∨ a = (p : Int) then weW g w p else 0))] SH (fl g) Q := by
                intro u hu
                subst hu
                apply s_99_60
                try simp only [mi_1, true_and, and_true, true_or, or_true, implies_true, b10_0, b10_1]
                repeat' (first | refine And.intro ?_ ?_ | intro _)
                all_goals (try (first | omega | (unfold r32; omega) | exact hQ | exact qe hQ (by omega) | exact qe hQ (by (repeat' split) <;> omega) | exact b01 | exact n01 | exact n21 | exact n31 | exact absurd trivial (by assumption)))
                apply s_99_62
                try simp only [mi_1, true_and, and_true, true_or, or_true, implies_true, b10_0, b10_1]
                repeat' (first | refine And.intro ?_ ?_ | intro _)
                all_goals (try (first | omega | (unfold r32; omega) | exact hQ | exact qe hQ (by omega) | exact qe hQ (by (repeat' split) <;> omega) | exact b01 | exact n01 | exact n21 | exact n31 | exact absurd trivial (by assumption)))
                all_goals (try exact ih)
              unfold weW at fin2
              apply s_136_30
              try simp only [mi_1, fl_1_3, mi_9, fl_1_4, mi_12, fl_9_1, mi_11, ml_11, fl_11, up_11, true_and, and_true, true_or, or_true, implies_true, b10_0, b10_1]
              repeat' (first | refine And.intro ?_ ?_ | intro _)
              all_goals (try (first | omega | (unfold r32; omega) | exact hQ | exact qe hQ (by omega) | exact qe hQ (by (repeat' split) <;> omega) | exact b01 | exact n01 | exact n21 | exact n31 | exact absurd trivial (by assumption)))
              all_goals (exact fin2 _ (by (repeat' split) <;> omega))
            apply s_99_34
            try simp only [mi_1, true_and, and_true, true_or, or_true, implies_true, b10_0, b10_1]
            repeat' (first | refine And.intro ?_ ?_ | intro _)
            all_goals (try (first | omega | (unfold r32; omega) | exact hQ | exact qe hQ (by omega) | exact qe hQ (by (repeat' split) <;> omega) | exact b01 | exact n01 | exact n21 | exact n31 | exact absurd trivial (by assumption)))
            all_goals (try exact fin)
          · rw [if_neg hz, Int.add_zero] at ih
            apply s_99_34
            try simp only [mi_1, true_and, and_true, true_or, or_true, implies_true, b10_0, b10_1]
            repeat' (first | refine And.intro ?_ ?_ | intro _)
            all_goals (try (first | omega | (unfold r32; omega) | exact hQ | exact qe hQ (by omega) | exact qe hQ (by (repeat' split) <;> omega) | exact b01 | exact n01 | exact n21 | exact n31 | exact absurd trivial (by assumption)))
            apply s_99_62
            try simp only [mi_1, true_and, and_true, true_or, or_true, implies_true, b10_0, b10_1]
            repeat' (first | refine And.intro ?_ ?_ | intro _)
            all_goals (try (first | omega | (unfold r32; omega) | exact hQ | exact qe hQ (by omega) | exact qe hQ (by (repeat' split) <;> omega) | exact b01 | exact n01 | exact n21 | exact n31 | exact absurd trivial (by assumption)))
            all_goals (try exact ih)
      · intro d Q hd hQ
        have key := lup (P := fun p => ∀ v5 v6, Wp X d SH 173 37 [(2, 87), (0, a), (0, w), (0, sumN p (fun p => if a = -1 ∨ a = (p : Int) then weW g w p else 0)), (0, (p : Int)), v5, v6] [] SH (fl g) Q) 8 ?_ ?_ 0 (by omega)
        · have k2 : Wp X d SH 173 16 [(2, 87), (0, a), (0, w), (3, 0), (3, 0), (3, 0), (3, 0)] [] SH (fl g) Q := by
            apply s_173_16
            try simp only [mi_87, fl_87_12, mi_98, ml_98, fl_98, up_98, fl_87_13, mi_99, ml_99, fl_99, up_99, fl_87_11, mi_97, ml_97, fl_97, up_97, true_and, and_true, true_or, or_true, implies_true, b10_0, b10_1]
            repeat' (first | refine And.intro ?_ ?_ | intro _)
            all_goals (try (first | omega | (unfold r32; omega) | exact hQ | exact qe hQ (by omega) | exact qe hQ (by (repeat' split) <;> omega) | exact b01 | exact n01 | exact n21 | exact n31 | exact absurd trivial (by assumption)))
            refine c144 X _ _ _ _ _ _ (by omega) ?_
            apply s_173_25
            try simp only [mi_87, fl_87_12, mi_98, ml_98, fl_98, up_98, fl_87_13, mi_99, ml_99, fl_99, up_99, fl_87_11, mi_97, ml_97, fl_97, up_97, true_and, and_true, true_or, or_true, implies_true, b10_0, b10_1]
            repeat' (first | refine And.intro ?_ ?_ | intro _)
            all_goals (try (first | omega | (unfold r32; omega) | exact hQ | exact qe hQ (by omega) | exact qe hQ (by (repeat' split) <;> omega) | exact b01 | exact n01 | exact n21 | exact n31 | exact absurd trivial (by assumption)))
            all_goals (try exact key _ _)
          apply s_173_0
          try simp only [mi_87, fl_87_12, mi_98, ml_98, fl_98, up_98, fl_87_13, mi_99, ml_99, fl_99, up_99, fl_87_11, mi_97, ml_97, fl_97, up_97, true_and, and_true, true_or, or_true, implies_true, b10_0, b10_1]
          repeat' (first | refine And.intro ?_ ?_ | intro _)
          all_goals (try (first | omega | (unfold r32; omega) | exact hQ | exact qe hQ (by omega) | exact qe hQ (by (repeat' split) <;> omega) | exact b01 | exact n01 | exact n21 | exact n31 | exact absurd trivial (by assumption)))
          all_goals (try exact k2)
          refine c165 X _ _ _ _ (by omega) ?_
          apply s_173_9
          try simp only [mi_87, fl_87_12, mi_98, ml_98, fl_98, up_98, fl_87_13, mi_99, ml_99, fl_99, up_99, fl_87_11, mi_97, ml_97, fl_97, up_97, true_and, and_true, true_or, or_true, implies_true, b10_0, b10_1]
          repeat' (first | refine And.intro ?_ ?_ | intro _)
          all_goals (try (first | omega | (unfold r32; omega) | exact hQ | exact qe hQ (by omega) | exact qe hQ (by (repeat' split) <;> omega) | exact b01 | exact n01 | exact n21 | exact n31 | exact absurd trivial (by assumption)))
          all_goals (try exact k2)
        · intro v5 v6
          apply s_173_37
          try simp only [mi_87, fl_87_12, mi_98, ml_98, fl_98, up_98, fl_87_13, mi_99, ml_99, fl_99, up_99, fl_87_11, mi_97, ml_97, fl_97, up_97, true_and, and_true, true_or, or_true, implies_true, b10_0, b10_1]
          repeat' (first | refine And.intro ?_ ?_ | intro _)
          all_goals (try (first | omega | (unfold r32; omega) | exact hQ | exact qe hQ (by omega) | exact qe hQ (by (repeat' split) <;> omega) | exact b01 | exact n01 | exact n21 | exact n31 | exact absurd trivial (by assumption)))
        · intro p hp ih v5 v6
          have e2 : ((p : Int)).toNat = p := by omega
          have e10 : ((p + 1 : Nat) : Int) = (p : Int) + 1 := by omega
          obtain ⟨wb, ws, w1, w2, w3, w4⟩ := weW_b hn hS hC hp w
          have b1 := sumN_b (n := p) (a := fun p => if a = -1 ∨ a = (p : Int) then weW g w p else 0) (lo := 0) (hi := 60000) (fun i hi => by
            have z := (weW_b hn hS hC (show i < 8 by omega) w).1
            (try simp only [])
            split <;> omega)
          simp only [e10, sumN] at ih
          generalize sumN p (fun p => if a = -1 ∨ a = (p : Int) then weW g w p else 0) = S0 at ih b1 ⊢
          have f98 : g 98 p = g 10 p := (hS.2.1 p hp).1
          -- one powder's weight
          have inner : ∀ i0, (i0 = if w = 0 then g 97 p else if w = 3 then g 10 p else 0) → Wp X d SH 173 74 [(2, 87), (0, a), (0, w), (0, S0), (0, (p : Int)), v5, v6] [(0, i0)] SH (fl g) Q := by
            intro i0 hi0
            have hi0b : 0 ≤ i0 ∧ i0 ≤ 60000 := by rw [hi0]; (repeat' split) <;> omega
            have hfin : i0 + sumN 4 (fun j => if w = 1 then g 9 (8 * j + p) else if w = 2 then celp g j (p : Int) else 0) = weW g w p := by
              rw [hi0]
              unfold weW
              by_cases h1 : w = 1
              · simp only [h1, if_true]
                rw [if_neg (by omega), if_neg (by omega)]
                omega
              · by_cases h2 : w = 2
                · simp only [h2, if_true]
                  rw [if_neg (by omega), if_neg (by omega), if_neg (by omega)]
                  simp only [show ¬ ((2 : Int) = 1) by omega, if_false]
                  omega
                · simp only [h1, h2, if_false]
                  rw [sumN_zero]
                  by_cases h3 : w = 3
                  · rw [if_neg (by omega), if_pos h3, if_pos h3]; omega
                  · rw [if_pos (by omega), if_neg h3]; omega
            have loop := lup (P := fun j => Wp X d SH 173 79 [(2, 87), (0, a), (0, w), (0, S0), (0, (p : Int)), (0, i0 + sumN j (fun j => if w = 1 then g 9 (8 * j + p) else if w = 2 then celp g j (p : Int) else 0)), (0, (j : Int))] [] SH (fl g) Q) 4 ?_ ?_ 0 (by omega)
            · simp only [sumN, Int.add_zero] at loop
              apply s_173_74
              try simp only [mi_87, fl_87_12, mi_98, ml_98, fl_98, up_98, fl_87_13, mi_99, ml_99, fl_99, up_99, fl_87_11, mi_97, ml_97, fl_97, up_97, true_and, and_true, true_or, or_true, implies_true, b10_0, b10_1]
              repeat' (first | refine And.intro ?_ ?_ | intro _)
              all_goals (try (first | omega | (unfold r32; omega) | exact hQ | exact qe hQ (by omega) | exact qe hQ (by (repeat' split) <;> omega) | exact b01 | exact n01 | exact n21 | exact n31 | exact absurd trivial (by assumption)))
              all_goals (try exact loop)
            · rw [hfin]
              by_cases hz : a = -1 ∨ a = (p : Int)
              · rw [if_pos hz] at ih
                apply s_173_79
                try simp only [mi_87, fl_87_12, mi_98, ml_98, fl_98, up_98, fl_87_13, mi_99, ml_99, fl_99, up_99, fl_87_11, mi_97, ml_97, fl_97, up_97, true_and, and_true, true_or, or_true, implies_true, b10_0, b10_1]
                repeat' (first | refine And.intro ?_ ?_ | intro _)
                all_goals (try (first | omega | (unfold r32; omega) | exact hQ | exact qe hQ (by omega) | exact qe hQ (by (repeat' split) <;> omega) | exact b01 | exact n01 | exact n21 | exact n31 | exact absurd trivial (by assumption)))
                all_goals
                  apply s_173_146
                  try simp only [mi_87, fl_87_12, mi_98, ml_98, fl_98, up_98, fl_87_13, mi_99, ml_99, fl_99, up_99, fl_87_11, mi_97, ml_97, fl_97, up_97, true_and, and_true, true_or, or_true, implies_true, b10_0, b10_1]
                  repeat' (first | refine And.intro ?_ ?_ | intro _)
                  all_goals (try (first | omega | (unfold r32; omega) | exact hQ | exact qe hQ (by omega) | exact qe hQ (by (repeat' split) <;> omega) | exact b01 | exact n01 | exact n21 | exact n31 | exact absurd trivial (by assumption)))
                  apply s_173_152
                  try simp only [mi_87, fl_87_12, mi_98, ml_98, fl_98, up_98, fl_87_13, mi_99, ml_99, fl_99, up_99, fl_87_11, mi_97, ml_97, fl_97, up_97, true_and, and_true, true_or, or_true, implies_true, b10_0, b10_1]
                  repeat' (first | refine And.intro ?_ ?_ | intro _)
                  all_goals (try (first | omega | (unfold r32; omega) | exact hQ | exact qe hQ (by omega) | exact qe hQ (by (repeat' split) <;> omega) | exact b01 | exact n01 | exact n21 | exact n31 | exact absurd trivial (by assumption)))
                  exact ih _ _
              · rw [if_neg hz] at ih
                apply s_173_79
                try simp only [mi_87, fl_87_12, mi_98, ml_98, fl_98, up_98, fl_87_13, mi_99, ml_99, fl_99, up_99, fl_87_11, mi_97, ml_97, fl_97, up_97, true_and, and_true, true_or, or_true, implies_true, b10_0, b10_1]
                repeat' (first | refine And.intro ?_ ?_ | intro _)
                all_goals (try (first | omega | (unfold r32; omega) | exact hQ | exact qe hQ (by omega) | exact qe hQ (by (repeat' split) <;> omega) | exact b01 | exact n01 | exact n21 | exact n31 | exact absurd trivial (by assumption)))
                apply s_173_152
                try simp only [mi_87, fl_87_12, mi_98, ml_98, fl_98, up_98, fl_87_13, mi_99, ml_99, fl_99, up_99, fl_87_11, mi_97, ml_97, fl_97, up_97, true_and, and_true, true_or, or_true, implies_true, b10_0, b10_1]
                repeat' (first | refine And.intro ?_ ?_ | intro _)
                all_goals (try (first | omega | (unfold r32; omega) | exact hQ | exact qe hQ (by omega) | exact qe hQ (by (repeat' split) <;> omega) | exact b01 | exact n01 | exact n21 | exact n31 | exact absurd trivial (by assumption)))
                all_goals (try exact ih _ _)
            · intro j hj ihj
              have ej : (8 * (j : Int) + (p : Int)).toNat = 8 * j + p := by omega
              have e11 : ((j + 1 : Nat) : Int) = (j : Int) + 1 := by omega
              have f96 := hS.1 (8 * j + p) (by omega)
              have f96e := f96.1
              have bj := sumN_b (n := j) (a := fun j => if w = 1 then g 9 (8 * j + p) else if w = 2 then celp g j (p : Int) else 0) (lo := 0) (hi := 1000) (fun i hi => by
                have z := (hS.1 (8 * i + p) (by omega)).2
                have y := celp_nn g i (p : Int)
                have x := celp_le g i (p : Int) (hn4 i (by omega)).2
                (try simp only [])
                (repeat' split) <;> omega)
              have y := celp_nn g j (p : Int)
              have x := celp_le g j (p : Int) (hn4 j hj).2
              simp only [e11, sumN] at ihj
              generalize sumN j (fun j => if w = 1 then g 9 (8 * j + p) else if w = 2 then celp g j (p : Int) else 0) = S1 at ihj bj ⊢
              have st : ∀ u, (u = if w = 1 then g 9 (8 * j + p) else if w = 2 then celp g j (p : Int) else 0) → Wp X d SH 173 125 [(2, 87), (0, a), (0, w), (0, S0), (0, (p : Int)), (0, i0 + S1), (0, (j : Int))] [(0, u), (0, i0 + S1)] SH (fl g) Q := by
                intro u hu
                rw [← hu, ← Int.add_assoc] at ihj
                have hub : 0 ≤ u ∧ u ≤ 1000 := by rw [hu]; (repeat' split) <;> omega
                apply s_173_125
                try simp only [mi_87, fl_87_12, mi_98, ml_98, fl_98, up_98, fl_87_13, mi_99, ml_99, fl_99, up_99, fl_87_11, mi_97, ml_97, fl_97, up_97, true_and, and_true, true_or, or_true, implies_true, b10_0, b10_1]
                repeat' (first | refine And.intro ?_ ?_ | intro _)
                all_goals (try (first | omega | (unfold r32; omega) | exact hQ | exact qe hQ (by omega) | exact qe hQ (by (repeat' split) <;> omega) | exact b01 | exact n01 | exact n21 | exact n31 | exact absurd trivial (by assumption)))
                all_goals (try exact ihj)
              apply s_173_79
              try simp only [mi_87, fl_87_12, mi_98, ml_98, fl_98, up_98, fl_87_13, mi_99, ml_99, fl_99, up_99, fl_87_11, mi_97, ml_97, fl_97, up_97, ej, f96e, true_and, and_true, true_or, or_true, implies_true, b10_0, b10_1]
              repeat' (first | refine And.intro ?_ ?_ | intro _)
              all_goals (try (first | omega | (unfold r32; omega) | exact hQ | exact qe hQ (by omega) | exact qe hQ (by (repeat' split) <;> omega) | exact b01 | exact n01 | exact n21 | exact n31 | exact absurd trivial (by assumption)))
              · exact st _ (by rw [if_neg (by omega), if_neg (by omega)])
              · refine c172 X g hj (p : Int) (hC j hj) _ _ (by omega) ?_
                apply s_173_121
                try simp only [mi_87, fl_87_12, mi_98, ml_98, fl_98, up_98, fl_87_13, mi_99, ml_99, fl_99, up_99, fl_87_11, mi_97, ml_97, fl_97, up_97, true_and, and_true, true_or, or_true, implies_true, b10_0, b10_1]
                repeat' (first | refine And.intro ?_ ?_ | intro _)
                all_goals (try (first | omega | (unfold r32; omega) | exact hQ | exact qe hQ (by omega) | exact qe hQ (by (repeat' split) <;> omega) | exact b01 | exact n01 | exact n21 | exact n31 | exact absurd trivial (by assumption)))
                exact st _ (by rw [if_neg (by omega), if_pos (by omega)])
              · exact st _ (by rw [if_pos (by omega)])
          apply s_173_37
          try simp only [mi_87, fl_87_12, mi_98, ml_98, fl_98, up_98, fl_87_13, mi_99, ml_99, fl_99, up_99, fl_87_11, mi_97, ml_97, fl_97, up_97, e2, f98, true_and, and_true, true_or, or_true, implies_true, b10_0, b10_1]
          repeat' (first | refine And.intro ?_ ?_ | intro _)
          all_goals (try (first | omega | (unfold r32; omega) | exact hQ | exact qe hQ (by omega) | exact qe hQ (by (repeat' split) <;> omega) | exact b01 | exact n01 | exact n21 | exact n31 | exact absurd trivial (by assumption)))
          · exact inner _ (by rw [if_neg (by omega), if_neg (by omega)])
          · exact inner _ (by rw [if_neg (by omega), if_pos (by omega)])
          · exact inner _ (by rw [if_pos (by omega)])
    · refine ⟨-1002, ?_, ?_⟩
      · intro d Q hd hQ
        have k2 : Wp X d SH 99 16 [(2, 1), (0, a), (0, w), (3, 0), (3, 0)] [] SH (fl g) Q := by
          apply s_99_16
          try simp only [mi_1, true_and, and_true, true_or, or_true, implies_true, b10_0, b10_1]
          repeat' (first | refine And.intro ?_ ?_ | intro _)
          all_goals (try (first | omega | (unfold r32; omega) | exact hQ | exact qe hQ (by omega) | exact qe hQ (by (repeat' split) <;> omega) | exact b01 | exact n01 | exact n21 | exact n31 | exact absurd trivial (by assumption)))
          refine c130 X _ _ _ _ _ _ (by omega) ?_
          apply s_99_22
          try simp only [mi_1, true_and, and_true, true_or, or_true, implies_true, b10_0, b10_1]
          repeat' (first | refine And.intro ?_ ?_ | intro _)
          all_goals (try (first | omega | (unfold r32; omega) | exact hQ | exact qe hQ (by omega) | exact qe hQ (by (repeat' split) <;> omega) | exact b01 | exact n01 | exact n21 | exact n31 | exact absurd trivial (by assumption)))
        apply s_99_0
        try simp only [mi_1, true_and, and_true, true_or, or_true, implies_true, b10_0, b10_1]
        repeat' (first | refine And.intro ?_ ?_ | intro _)
        all_goals (try (first | omega | (unfold r32; omega) | exact hQ | exact qe hQ (by omega) | exact qe hQ (by (repeat' split) <;> omega) | exact b01 | exact n01 | exact n21 | exact n31 | exact absurd trivial (by assumption)))
        all_goals (try exact k2)
        refine c131 X _ _ _ _ (by omega) ?_
        apply s_99_9
        try simp only [mi_1, true_and, and_true, true_or, or_true, implies_true, b10_0, b10_1]
        repeat' (first | refine And.intro ?_ ?_ | intro _)
        all_goals (try (first | omega | (unfold r32; omega) | exact hQ | exact qe hQ (by omega) | exact qe hQ (by (repeat' split) <;> omega) | exact b01 | exact n01 | exact n21 | exact n31 | exact absurd trivial (by assumption)))
        all_goals (try exact k2)
      · intro d Q hd hQ
        have k2 : Wp X d SH 173 16 [(2, 87), (0, a), (0, w), (3, 0), (3, 0), (3, 0), (3, 0)] [] SH (fl g) Q := by
          apply s_173_16
          try simp only [mi_87, fl_87_12, mi_98, ml_98, fl_98, up_98, fl_87_13, mi_99, ml_99, fl_99, up_99, fl_87_11, mi_97, ml_97, fl_97, up_97, true_and, and_true, true_or, or_true, implies_true, b10_0, b10_1]
          repeat' (first | refine And.intro ?_ ?_ | intro _)
          all_goals (try (first | omega | (unfold r32; omega) | exact hQ | exact qe hQ (by omega) | exact qe hQ (by (repeat' split) <;> omega) | exact b01 | exact n01 | exact n21 | exact n31 | exact absurd trivial (by assumption)))
          refine c144 X _ _ _ _ _ _ (by omega) ?_
          apply s_173_25
          try simp only [mi_87, fl_87_12, mi_98, ml_98, fl_98, up_98, fl_87_13, mi_99, ml_99, fl_99, up_99, fl_87_11, mi_97, ml_97, fl_97, up_97, true_and, and_true, true_or, or_true, implies_true, b10_0, b10_1]
          repeat' (first | refine And.intro ?_ ?_ | intro _)
          all_goals (try (first | omega | (unfold r32; omega) | exact hQ | exact qe hQ (by omega) | exact qe hQ (by (repeat' split) <;> omega) | exact b01 | exact n01 | exact n21 | exact n31 | exact absurd trivial (by assumption)))
        apply s_173_0
        try simp only [mi_87, fl_87_12, mi_98, ml_98, fl_98, up_98, fl_87_13, mi_99, ml_99, fl_99, up_99, fl_87_11, mi_97, ml_97, fl_97, up_97, true_and, and_true, true_or, or_true, implies_true, b10_0, b10_1]
        repeat' (first | refine And.intro ?_ ?_ | intro _)
        all_goals (try (first | omega | (unfold r32; omega) | exact hQ | exact qe hQ (by omega) | exact qe hQ (by (repeat' split) <;> omega) | exact b01 | exact n01 | exact n21 | exact n31 | exact absurd trivial (by assumption)))
        all_goals (try exact k2)
        refine c165 X _ _ _ _ (by omega) ?_
        apply s_173_9
        try simp only [mi_87, fl_87_12, mi_98, ml_98, fl_98, up_98, fl_87_13, mi_99, ml_99, fl_99, up_99, fl_87_11, mi_97, ml_97, fl_97, up_97, true_and, and_true, true_or, or_true, implies_true, b10_0, b10_1]
        repeat' (first | refine And.intro ?_ ?_ | intro _)
        all_goals (try (first | omega | (unfold r32; omega) | exact hQ | exact qe hQ (by omega) | exact qe hQ (by (repeat' split) <;> omega) | exact b01 | exact n01 | exact n21 | exact n31 | exact absurd trivial (by assumption)))
        all_goals (try exact k2)
  · refine ⟨-1001, ?_, ?_⟩
    · intro d Q hd hQ
      apply s_99_0
      try simp only [mi_1, true_and, and_true, true_or, or_true, implies_true, b10_0, b10_1]
      repeat' (first | refine And.intro ?_ ?_ | intro _)
      all_goals (try (first | omega | (unfold r32; omega) | exact hQ | exact qe hQ (by omega) | exact qe hQ (by (repeat' split) <;> omega) | exact b01 | exact n01 | exact n21 | exact n31 | exact absurd trivial (by assumption)))
      refine c131 X _ _ _ _ (by omega) ?_
      apply s_99_9
      try simp only [mi_1, true_and, and_true, true_or, or_true, implies_true, b10_0, b10_1]
      repeat' (first | refine And.intro ?_ ?_ | intro _)
      all_goals (try (first | omega | (unfold r32; omega) | exact hQ | exact qe hQ (by omega) | exact qe hQ (by (repeat' split) <;> omega) | exact b01 | exact n01 | exact n21 | exact n31 | exact absurd trivial (by assumption)))
    · intro d Q hd hQ
      apply s_173_0
      try simp only [mi_87, fl_87_12, mi_98, ml_98, fl_98, up_98, fl_87_13, mi_99, ml_99, fl_99, up_99, fl_87_11, mi_97, ml_97, fl_97, up_97, true_and, and_true, true_or, or_true, implies_true, b10_0, b10_1]
      repeat' (first | refine And.intro ?_ ?_ | intro _)
      all_goals (try (first | omega | (unfold r32; omega) | exact hQ | exact qe hQ (by omega) | exact qe hQ (by (repeat' split) <;> omega) | exact b01 | exact n01 | exact n21 | exact n31 | exact absurd trivial (by assumption)))
      refine c165 X _ _ _ _ (by omega) ?_
      apply s_173_9
      try simp only [mi_87, fl_87_12, mi_98, ml_98, fl_98, up_98, fl_87_13, mi_99, ml_99, fl_99, up_99, fl_87_11, mi_97, ml_97, fl_97, up_97, true_and, and_true, true_or, or_true, implies_true, b10_0, b10_1]
      repeat' (first | refine And.intro ?_ ?_ | intro _)
      all_goals (try (first | omega | (unfold r32; omega) | exact hQ | exact qe hQ (by omega) | exact qe hQ (by (repeat' split) <;> omega) | exact b01 | exact n01 | exact n21 | exact n31 | exact absurd trivial (by assumption)))
