/-! board -/
theorem qd {w x y q : Int} (hw : 1 ≤ w ∧ w ≤ 6) (hx : 0 ≤ x ∧ x < w) (hy : 0 ≤ y) (hq : q = y * w + x) : q / w = y ∧ q % w = x := by
  have hc : w = 1 ∨ w = 2 ∨ w = 3 ∨ w = 4 ∨ w = 5 ∨ w = 6 := by omega
  rcases hc with rfl | rfl | rfl | rfl | rfl | rfl <;> omega
theorem c59 (X : mX) {g : mF} {s x y q : Nat} {w h : Int} (hs : s < 6) (hw : 1 ≤ w ∧ w ≤ 6) (hh : 1 ≤ h ∧ h ≤ 6) (h0 : g (56 + 5 * s) 0 = w) (h1 : g (56 + 5 * s) 1 = h) (hx : (x : Int) < w) (hy : (y : Int) < h) (hq : (q : Int) = (y : Int) * w + (x : Int)) (hq36 : q < 36) : Rel X 0 59 [(2, 57 + 5 * (s : Int)), (0, (x : Int)), (0, (y : Int)), (3, 0), (3, 0)] g (fun ro m => ro = none ∧ (∀ o k, ¬ (o = 60 + 5 * s ∧ 4 * q ≤ k ∧ k < 4 * q + 4) → m o k = g o k) ∧ ∀ side, side < 4 → m (60 + 5 * s) (4 * q + side) = nearf w h (q : Int) side) := by
  intro d Q hd hQ
  obtain ⟨d1, d2⟩ := qd hw (show 0 ≤ (x : Int) ∧ (x : Int) < w by omega) (by omega) hq
  have n0 : nearf w h (q : Int) 0 = if 0 < (y : Int) then (q : Int) - w else -1 := by rw [nearf0, d1]
  have n1 : nearf w h (q : Int) 1 = if 0 < (x : Int) then (q : Int) - 1 else -1 := by rw [nearf1, d2]
  have n2 : nearf w h (q : Int) 2 = if (x : Int) < w - 1 then (q : Int) + 1 else -1 := by rw [nearf2, d2]
  have n3 : nearf w h (q : Int) 3 = if (y : Int) < h - 1 then (q : Int) + w else -1 := by rw [nearf3, d1]
  generalize hv0 : nearf w h (q : Int) 0 = a0 at n0
  generalize hv1 : nearf w h (q : Int) 1 = a1 at n1
  generalize hv2 : nearf w h (q : Int) 2 = a2 at n2
  generalize hv3 : nearf w h (q : Int) 3 = a3 at n3
  have j0 : ((q : Int) * 4).toNat = 4 * q := by omega
  have j1 : ((q : Int) * 4 + 1).toNat = 4 * q + 1 := by omega
  have j2 : ((q : Int) * 4 + 2).toNat = 4 * q + 2 := by omega
  have j3 : ((q : Int) * 4 + 3).toNat = 4 * q + 3 := by omega
  generalize hm0 : mup g (60 + 5 * s) (4 * q) a0 = m0
  generalize hm1 : mup m0 (60 + 5 * s) (4 * q + 1) a1 = m1
  generalize hm2 : mup m1 (60 + 5 * s) (4 * q + 2) a2 = m2
  generalize hm3 : mup m2 (60 + 5 * s) (4 * q + 3) a3 = m3
  have f1 : m1 (56 + 5 * s) 0 = w := by rw [← hm1, mup_n (by omega), ← hm0, mup_n (by omega)]; exact h0
  have f2 : m2 (56 + 5 * s) 0 = w ∧ m2 (56 + 5 * s) 1 = h := by rw [← hm2, mup_n (by omega), mup_n (by omega), ← hm1, mup_n (by omega), mup_n (by omega), ← hm0, mup_n (by omega), mup_n (by omega)]; exact ⟨h0, h1⟩
  have hf : (∀ o k, ¬ (o = 60 + 5 * s ∧ 4 * q ≤ k ∧ k < 4 * q + 4) → m3 o k = g o k) ∧ m3 (60 + 5 * s) (4 * q) = a0 ∧ m3 (60 + 5 * s) (4 * q + 1) = a1 ∧ m3 (60 + 5 * s) (4 * q + 2) = a2 ∧ m3 (60 + 5 * s) (4 * q + 3) = a3 := by
    refine ⟨fun o k ho => ?_, ?_, ?_, ?_, ?_⟩
    · rw [← hm3, mup_n (by omega), ← hm2, mup_n (by omega), ← hm1, mup_n (by omega), ← hm0, mup_n (by omega)]
    · rw [← hm3, mup_n (by omega), ← hm2, mup_n (by omega), ← hm1, mup_n (by omega), ← hm0, mup_e]
    · rw [← hm3, mup_n (by omega), ← hm2, mup_n (by omega), ← hm1, mup_e]
    · rw [← hm3, mup_n (by omega), ← hm2, mup_e]
    · rw [← hm3, mup_e]
  have e109 : ∀ v0 v1 v2 v3 v4 v, v = a3 → Wp X d SH 59 109 [v0, v1, v2, v3, v4] [(0, v), (0, (q : Int) * 4 + 3), (2, 61 + 5 * (s : Int))] SH (fl m2) Q := by
    intro v0 v1 v2 v3 v4 v hv
    have sm6 := sm_6 hs
    have sn6 := sn_6 hs
    have sz6 := sz_6 m2 hs
    have hq2 := hQ none m3 ⟨rfl, hf.1, fun side hsd => by
      have hc : side = 0 ∨ side = 1 ∨ side = 2 ∨ side = 3 := by omega
      rcases hc with rfl | rfl | rfl | rfl
      · rw [hv0]; exact hf.2.1
      · rw [hv1]; exact hf.2.2.1
      · rw [hv2]; exact hf.2.2.2.1
      · rw [hv3]; exact hf.2.2.2.2⟩
    subst hv
    apply s_59_109
    try simp only [sm_o, sl_0, su_0, sl_6, sm_6, sn_6, sa_6, sz_6, sl_1, su_1, sm6, sn6, sz6, j3, hm3, true_and, and_true, true_or, or_true, implies_true, b10_0, b10_1]
    repeat' (first | refine And.intro ?_ ?_ | intro _)
    all_goals (try (first | omega | (unfold r32; omega) | exact hQ | exact qe hQ (by omega) | exact qe hQ (by (repeat' split) <;> omega) | exact b01 | exact n01 | exact n21 | exact n31 | exact absurd trivial (by assumption)))
    all_goals (try exact hq2)
  have e80 : ∀ v1 v, v = a2 → Wp X d SH 59 80 [(2, 57 + 5 * (s : Int)), v1, (0, (y : Int)), (0, (q : Int)), (0, (q : Int) * 4)] [(0, v), (0, (q : Int) * 4 + 2), (2, 61 + 5 * (s : Int))] SH (fl m1) Q := by
    intro v1 v hv
    have sm6 := sm_6 hs
    have sn6 := sn_6 hs
    have sz6 := sz_6 m1 hs
    subst hv
    have g0 := f2.1
    have g1 := f2.2
    apply s_59_80
    try simp only [sm_o, sl_0, su_0, sl_6, sm_6, sn_6, sa_6, sz_6, sl_1, su_1, sm6, sn6, sz6, j2, hm2, true_and, and_true, true_or, or_true, implies_true, b10_0, b10_1]
    repeat' (first | refine And.intro ?_ ?_ | intro _)
    all_goals (try (first | omega | (unfold r32; omega) | exact hQ | exact qe hQ (by omega) | exact qe hQ (by (repeat' split) <;> omega) | exact b01 | exact n01 | exact n21 | exact n31 | exact absurd trivial (by assumption)))
    apply s_59_81
    try simp only [sm_o, sl_0, su_0, sl_6, sm_6, sn_6, sa_6, sz_6, sl_1, su_1, hs, g0, g1, true_and, and_true, true_or, or_true, implies_true, b10_0, b10_1]
    repeat' (first | refine And.intro ?_ ?_ | intro _)
    all_goals (try (first | omega | (unfold r32; omega) | exact hQ | exact qe hQ (by omega) | exact qe hQ (by (repeat' split) <;> omega) | exact b01 | exact n01 | exact n21 | exact n31 | exact absurd trivial (by assumption)))
    · exact e109 _ _ _ _ _ _ (by rw [n3, if_neg (by omega)])
    · exact e109 _ _ _ _ _ _ (by rw [n3, if_pos (by omega)])
  have e54 : ∀ v, v = a1 → Wp X d SH 59 54 [(2, 57 + 5 * (s : Int)), (0, (x : Int)), (0, (y : Int)), (0, (q : Int)), (0, (q : Int) * 4)] [(0, v), (0, (q : Int) * 4 + 1), (2, 61 + 5 * (s : Int))] SH (fl m0) Q := by
    intro v hv
    have sm6 := sm_6 hs
    have sn6 := sn_6 hs
    have sz6 := sz_6 m0 hs
    subst hv
    apply s_59_54
    try simp only [sm_o, sl_0, su_0, sl_6, sm_6, sn_6, sa_6, sz_6, sl_1, su_1, sm6, sn6, sz6, j1, hm1, true_and, and_true, true_or, or_true, implies_true, b10_0, b10_1]
    repeat' (first | refine And.intro ?_ ?_ | intro _)
    all_goals (try (first | omega | (unfold r32; omega) | exact hQ | exact qe hQ (by omega) | exact qe hQ (by (repeat' split) <;> omega) | exact b01 | exact n01 | exact n21 | exact n31 | exact absurd trivial (by assumption)))
    apply s_59_55
    try simp only [sm_o, sl_0, su_0, sl_6, sm_6, sn_6, sa_6, sz_6, sl_1, su_1, hs, f1, true_and, and_true, true_or, or_true, implies_true, b10_0, b10_1]
    repeat' (first | refine And.intro ?_ ?_ | intro _)
    all_goals (try (first | omega | (unfold r32; omega) | exact hQ | exact qe hQ (by omega) | exact qe hQ (by (repeat' split) <;> omega) | exact b01 | exact n01 | exact n21 | exact n31 | exact absurd trivial (by assumption)))
    · exact e80 _ _ (by rw [n2, if_neg (by omega)])
    · exact e80 _ _ (by rw [n2, if_pos (by omega)])
  have e34 : ∀ v, v = a0 → Wp X d SH 59 34 [(2, 57 + 5 * (s : Int)), (0, (x : Int)), (0, (y : Int)), (0, (q : Int)), (0, (q : Int) * 4)] [(0, v), (0, (q : Int) * 4), (2, 61 + 5 * (s : Int))] SH (fl g) Q := by
    intro v hv
    have sm6 := sm_6 hs
    have sn6 := sn_6 hs
    have sz6 := sz_6 g hs
    subst hv
    apply s_59_34
    try simp only [sm_o, sl_0, su_0, sl_6, sm_6, sn_6, sa_6, sz_6, sl_1, su_1, sm6, sn6, sz6, j0, hm0, true_and, and_true, true_or, or_true, implies_true, b10_0, b10_1]
    repeat' (first | refine And.intro ?_ ?_ | intro _)
    all_goals (try (first | omega | (unfold r32; omega) | exact hQ | exact qe hQ (by omega) | exact qe hQ (by (repeat' split) <;> omega) | exact b01 | exact n01 | exact n21 | exact n31 | exact absurd trivial (by assumption)))
    apply s_59_35
    try simp only [sm_o, sl_0, su_0, sl_6, sm_6, sn_6, sa_6, sz_6, sl_1, su_1, hs, true_and, and_true, true_or, or_true, implies_true, b10_0, b10_1]
    repeat' (first | refine And.intro ?_ ?_ | intro _)
    all_goals (try (first | omega | (unfold r32; omega) | exact hQ | exact qe hQ (by omega) | exact qe hQ (by (repeat' split) <;> omega) | exact b01 | exact n01 | exact n21 | exact n31 | exact absurd trivial (by assumption)))
    · exact e54 _ (by rw [n1, if_neg (by omega)])
    · exact e54 _ (by rw [n1, if_pos (by omega)])
  have hq' : (y : Int) * w + (x : Int) = (q : Int) := hq.symm
  apply s_59_0
  try simp only [sm_o, sl_0, su_0, sl_6, sm_6, sn_6, sa_6, sz_6, sl_1, su_1, hs, h0, hq', true_and, and_true, true_or, or_true, implies_true, b10_0, b10_1]
  repeat' (first | refine And.intro ?_ ?_ | intro _)
  all_goals (try (first | omega | (unfold r32; omega) | exact hQ | exact qe hQ (by omega) | exact qe hQ (by (repeat' split) <;> omega) | exact b01 | exact n01 | exact n21 | exact n31 | exact absurd trivial (by assumption)))
  apply s_59_14
  try simp only [sm_o, sl_0, su_0, sl_6, sm_6, sn_6, sa_6, sz_6, sl_1, su_1, hs, h0, true_and, and_true, true_or, or_true, implies_true, b10_0, b10_1]
  repeat' (first | refine And.intro ?_ ?_ | intro _)
  all_goals (try (first | omega | (unfold r32; omega) | exact hQ | exact qe hQ (by omega) | exact qe hQ (by (repeat' split) <;> omega) | exact b01 | exact n01 | exact n21 | exact n31 | exact absurd trivial (by assumption)))
  · exact e34 _ (by rw [n0, if_neg (by omega)])
  · exact e34 _ (by rw [n0, if_pos (by omega)])
theorem c58 (X : mX) {g : mF} {s : Nat} {w h : Int} (hs : s < 6) (hw : 1 ≤ w ∧ w ≤ 6) (hh : 1 ≤ h ∧ h ≤ 6) : Rel X 3 58 [(2, 57 + 5 * (s : Int)), (0, w), (0, h), (3, 0), (3, 0)] g (fun ro m => ro = none ∧ (∀ o k, ¬ (o = 56 + 5 * s ∧ k < 3 ∨ o = 58 + 5 * s ∨ o = 59 + 5 * s ∨ o = 60 + 5 * s) → m o k = g o k) ∧ m (56 + 5 * s) 0 = w ∧ m (56 + 5 * s) 1 = h ∧ m (56 + 5 * s) 2 = 0 ∧ (∀ q, q < 36 → m (58 + 5 * s) q = -1 ∧ m (59 + 5 * s) q = 0) ∧ ∀ q : Nat, (q : Int) < w * h → ∀ side, side < 4 → m (60 + 5 * s) (4 * q + side) = nearf w h (q : Int) side) := by
  intro d Q hd hQ
  have hwh := mul_b hw hh
  generalize hm1 : mup g (56 + 5 * s) 0 w = m1
  generalize hm2 : mup m1 (56 + 5 * s) 1 h = m2
  have a1 := c232 X m2 (R := 60 + 5 * (s : Int)) (o := 59 + 5 * s) (N := 36) (sm_5 hs) (sn_5 hs) (fun g i x => sz_5 g hs i x) (by omega) 0
  generalize hm3 : mfl m2 (59 + 5 * s) 0 36 0 = m3 at a1
  have a2 := c61 X m3 hs
  generalize hm4 : mfl (mup m3 (56 + 5 * s) 2 0) (58 + 5 * s) 0 36 (-1) = m4 at a2
  have F4 : ∀ o k, ¬ (o = 56 + 5 * s ∧ k < 3 ∨ o = 58 + 5 * s ∨ o = 59 + 5 * s) → m4 o k = g o k := fun o k ho => by rw [← hm4, mfl_n (by omega), mup_n (by omega), ← hm3, mfl_n (by omega), ← hm2, mup_n (by omega), ← hm1, mup_n (by omega)]
  have v0 : m4 (56 + 5 * s) 0 = w := by rw [← hm4, mfl_n (by omega), mup_n (by omega), ← hm3, mfl_n (by omega), ← hm2, mup_n (by omega), ← hm1, mup_e]
  have v1 : m4 (56 + 5 * s) 1 = h := by rw [← hm4, mfl_n (by omega), mup_n (by omega), ← hm3, mfl_n (by omega), ← hm2, mup_e]
  have v2 : m4 (56 + 5 * s) 2 = 0 := by rw [← hm4, mfl_n (by omega), mup_e]
  have v3 : ∀ q, q < 36 → m4 (58 + 5 * s) q = -1 ∧ m4 (59 + 5 * s) q = 0 := fun q hq => ⟨by rw [← hm4, mfl_e (by omega)], by rw [← hm4, mfl_n (by omega), mup_n (by omega), ← hm3, mfl_e (by omega)]⟩
  have loop := lup (P := fun y => ∀ m : mF, (∀ o k, o ≠ 60 + 5 * s → m o k = m4 o k) → (∀ q : Nat, (q : Int) < (y : Int) * w → ∀ side, side < 4 → m (60 + 5 * s) (4 * q + side) = nearf w h (q : Int) side) → ∀ v4, Wp X d SH 58 24 [(2, 57 + 5 * (s : Int)), (0, w), (0, h), (0, (y : Int)), v4] [] SH (fl m) Q) h.toNat ?_ ?_ 0 (by omega)
  · have l0 := loop m4 (fun _ _ _ => rfl) (fun q hq => absurd hq (by have e : ((0 : Nat) : Int) * w = 0 := Int.zero_mul w; omega))
    apply s_58_0
    try simp only [sm_o, sl_0, su_0, sl_1, su_1, sl_5, sm_5, sn_5, sa_5, sz_5, hs, hm1, true_and, and_true, true_or, or_true, implies_true, b10_0, b10_1]
    repeat' (first | refine And.intro ?_ ?_ | intro _)
    all_goals (try (first | omega | (unfold r32; omega) | exact hQ | exact qe hQ (by omega) | exact qe hQ (by (repeat' split) <;> omega) | exact b01 | exact n01 | exact n21 | exact n31 | exact absurd trivial (by assumption)))
    apply s_58_5
    try simp only [sm_o, sl_0, su_0, sl_1, su_1, sl_5, sm_5, sn_5, sa_5, sz_5, hs, hm2, true_and, and_true, true_or, or_true, implies_true, b10_0, b10_1]
    repeat' (first | refine And.intro ?_ ?_ | intro _)
    all_goals (try (first | omega | (unfold r32; omega) | exact hQ | exact qe hQ (by omega) | exact qe hQ (by (repeat' split) <;> omega) | exact b01 | exact n01 | exact n21 | exact n31 | exact absurd trivial (by assumption)))
    apply s_58_10
    try simp only [sm_o, sl_0, su_0, sl_1, su_1, sl_5, sm_5, sn_5, sa_5, sz_5, hs, true_and, and_true, true_or, or_true, implies_true, b10_0, b10_1]
    repeat' (first | refine And.intro ?_ ?_ | intro _)
    all_goals (try (first | omega | (unfold r32; omega) | exact hQ | exact qe hQ (by omega) | exact qe hQ (by (repeat' split) <;> omega) | exact b01 | exact n01 | exact n21 | exact n31 | exact absurd trivial (by assumption)))
    refine a1 _ _ (by omega) ?_
    apply s_58_18
    try simp only [sm_o, sl_0, su_0, sl_1, su_1, sl_5, sm_5, sn_5, sa_5, sz_5, hs, true_and, and_true, true_or, or_true, implies_true, b10_0, b10_1]
    repeat' (first | refine And.intro ?_ ?_ | intro _)
    all_goals (try (first | omega | (unfold r32; omega) | exact hQ | exact qe hQ (by omega) | exact qe hQ (by (repeat' split) <;> omega) | exact b01 | exact n01 | exact n21 | exact n31 | exact absurd trivial (by assumption)))
    refine a2 _ _ (by omega) ?_
    apply s_58_22
    try simp only [sm_o, sl_0, su_0, sl_1, su_1, sl_5, sm_5, sn_5, sa_5, sz_5, true_and, and_true, true_or, or_true, implies_true, b10_0, b10_1]
    repeat' (first | refine And.intro ?_ ?_ | intro _)
    all_goals (try (first | omega | (unfold r32; omega) | exact hQ | exact qe hQ (by omega) | exact qe hQ (by (repeat' split) <;> omega) | exact b01 | exact n01 | exact n21 | exact n31 | exact absurd trivial (by assumption)))
    all_goals (try exact l0 _)
  · intro m hm hv v4
    have e : ((h.toNat : Nat) : Int) * w = w * h := by rw [show ((h.toNat : Nat) : Int) = h by omega, Int.mul_comm]
    rw [e] at hv
    have hq := hQ none m ⟨rfl, fun o k ho => by rw [hm _ _ (by omega)]; exact F4 o k (by omega), by rw [hm _ _ (by omega)]; exact v0, by rw [hm _ _ (by omega)]; exact v1, by rw [hm _ _ (by omega)]; exact v2, fun q hq => by rw [hm _ _ (by omega), hm _ _ (by omega)]; exact v3 q hq, hv⟩
    apply s_58_24
    try simp only [sm_o, sl_0, su_0, sl_1, su_1, sl_5, sm_5, sn_5, sa_5, sz_5, true_and, and_true, true_or, or_true, implies_true, b10_0, b10_1]
    repeat' (first | refine And.intro ?_ ?_ | intro _)
    all_goals (try (first | omega | (unfold r32; omega) | exact hQ | exact qe hQ (by omega) | exact qe hQ (by (repeat' split) <;> omega) | exact b01 | exact n01 | exact n21 | exact n31 | exact absurd trivial (by assumption)))
    all_goals (try exact hq)
  · intro y hy ih m hm hv v4
    have e10 : ((y + 1 : Nat) : Int) = (y : Int) + 1 := by omega
    have eyw : ((y : Int) + 1) * w = (y : Int) * w + w := by rw [Int.add_mul, Int.one_mul]
    have hle := Int.mul_le_mul_of_nonneg_right (show (y : Int) + 1 ≤ h by omega) (show 0 ≤ w by omega)
    have hyw : 0 ≤ (y : Int) * w := Int.mul_nonneg (by omega) (by omega)
    rw [Int.mul_comm h w, eyw] at hle
    rw [e10, eyw] at ih
    have inner := lup (P := fun x => ∀ m : mF, (∀ o k, o ≠ 60 + 5 * s → m o k = m4 o k) → (∀ q : Nat, (q : Int) < (y : Int) * w + (x : Int) → ∀ side, side < 4 → m (60 + 5 * s) (4 * q + side) = nearf w h (q : Int) side) → Wp X d SH 58 32 [(2, 57 + 5 * (s : Int)), (0, w), (0, h), (0, (y : Int)), (0, (x : Int))] [] SH (fl m) Q) w.toNat ?_ ?_ 0 (by omega)
    · have l0 := inner m hm (fun q hq => hv q (by omega))
      apply s_58_24
      try simp only [sm_o, sl_0, su_0, sl_1, su_1, sl_5, sm_5, sn_5, sa_5, sz_5, true_and, and_true, true_or, or_true, implies_true, b10_0, b10_1]
      repeat' (first | refine And.intro ?_ ?_ | intro _)
      all_goals (try (first | omega | (unfold r32; omega) | exact hQ | exact qe hQ (by omega) | exact qe hQ (by (repeat' split) <;> omega) | exact b01 | exact n01 | exact n21 | exact n31 | exact absurd trivial (by assumption)))
      all_goals (try exact l0)
    · intro m hm hv
      have nx := ih m hm (fun q hq => hv q (by omega))
      apply s_58_32
      try simp only [sm_o, sl_0, su_0, sl_1, su_1, sl_5, sm_5, sn_5, sa_5, sz_5, true_and, and_true, true_or, or_true, implies_true, b10_0, b10_1]
      repeat' (first | refine And.intro ?_ ?_ | intro _)
      all_goals (try (first | omega | (unfold r32; omega) | exact hQ | exact qe hQ (by omega) | exact qe hQ (by (repeat' split) <;> omega) | exact b01 | exact n01 | exact n21 | exact n31 | exact absurd trivial (by assumption)))
      all_goals (try exact nx _)
    · intro x hx ihx m hm hv
      have e11 : ((x + 1 : Nat) : Int) = (x : Int) + 1 := by omega
      obtain ⟨q, hq⟩ : ∃ q : Nat, (q : Int) = (y : Int) * w + (x : Int) := ⟨((y : Int) * w + (x : Int)).toNat, by omega⟩
      have c59' := c59 X (g := m) (q := q) hs hw hh (by rw [hm _ _ (by omega)]; exact v0) (by rw [hm _ _ (by omega)]; exact v1) (show (x : Int) < w by omega) (show (y : Int) < h by omega) hq (by omega)
      rw [e11] at ihx
      apply s_58_32
      try simp only [sm_o, sl_0, su_0, sl_1, su_1, sl_5, sm_5, sn_5, sa_5, sz_5, hs, true_and, and_true, true_or, or_true, implies_true, b10_0, b10_1]
      repeat' (first | refine And.intro ?_ ?_ | intro _)
      all_goals (try (first | omega | (unfold r32; omega) | exact hQ | exact qe hQ (by omega) | exact qe hQ (by (repeat' split) <;> omega) | exact b01 | exact n01 | exact n21 | exact n31 | exact absurd trivial (by assumption)))
      refine c59' _ _ (by omega) ?_
      rintro _ n ⟨rfl, hF, hn⟩
      have nx := ihx n (fun o k ho => by rw [hF _ _ (by omega)]; exact hm o k ho) (fun q' hq' side hsd => by
        by_cases hqq : q' = q
        · subst hqq; exact hn side hsd
        · rw [hF _ _ (by omega)]; exact hv q' (by omega) side hsd)
      apply s_58_45
      try simp only [sm_o, sl_0, su_0, sl_1, su_1, sl_5, sm_5, sn_5, sa_5, sz_5, true_and, and_true, true_or, or_true, implies_true, b10_0, b10_1]
      repeat' (first | refine And.intro ?_ ?_ | intro _)
      all_goals (try (first | omega | (unfold r32; omega) | exact hQ | exact qe hQ (by omega) | exact qe hQ (by (repeat' split) <;> omega) | exact b01 | exact n01 | exact n21 | exact n31 | exact absurd trivial (by assumption)))
      all_goals (try exact nx)
theorem T_board (X : mX) (g : mF) (a w h : Int) (hI : ∀ s, s < 6 → Iseal g s) : PR X 85 149 [(2, 1), (0, a), (0, w), (0, h), (3, 0)] [(2, 87), (0, a), (0, w), (0, h), (3, 0)] g (fun g2 => (∀ s, s < 6 → Iseal g2 s) ∧ ∀ o k, ¬ (56 ≤ o ∧ o < 86 ∨ o = 87 ∨ o = 88 ∨ o = 89 ∨ o = 91) → g2 o k = g o k) := by
  have rr : (∀ s, s < 6 → Iseal g s) ∧ ∀ o k, ¬ (56 ≤ o ∧ o < 86 ∨ o = 87 ∨ o = 88 ∨ o = 89 ∨ o = 91) → g o k = g o k := ⟨hI, fun _ _ _ => rfl⟩
  intro d Q hd hQ
  by_cases ha : 0 ≤ a ∧ a ≤ 5
  · obtain ⟨s, rfl⟩ : ∃ s : Nat, a = (s : Int) := ⟨a.toNat, by omega⟩
    have hs : s < 6 := by omega
    have es : ((s : Int)).toNat = s := by omega
    by_cases hwh : (1 ≤ w ∧ w ≤ 6) ∧ (1 ≤ h ∧ h ≤ 6)
    · obtain ⟨hw, hh⟩ := hwh
      have hb := mul_b hw hh
      apply s_85_0
      try simp only [mi_1, sm_o, hs, true_and, and_true, true_or, or_true, implies_true, b10_0, b10_1]
      repeat' (first | refine And.intro ?_ ?_ | intro _)
      all_goals (try (first | omega | (unfold r32; omega) | exact hQ | exact qe hQ (by omega) | exact qe hQ (by (repeat' split) <;> omega) | exact b01 | exact n01 | exact n21 | exact n31 | exact absurd trivial (by assumption)))
      refine c135 X g hs _ _ (by omega) ?_
      apply s_85_5
      try simp only [mi_1, sm_o, true_and, and_true, true_or, or_true, implies_true, b10_0, b10_1]
      repeat' (first | refine And.intro ?_ ?_ | intro _)
      all_goals (try (first | omega | (unfold r32; omega) | exact hQ | exact qe hQ (by omega) | exact qe hQ (by (repeat' split) <;> omega) | exact b01 | exact n01 | exact n21 | exact n31 | exact absurd trivial (by assumption)))
      refine c130 X _ _ _ _ _ _ (by omega) ?_
      apply s_85_23
      try simp only [mi_1, sm_o, true_and, and_true, true_or, or_true, implies_true, b10_0, b10_1]
      repeat' (first | refine And.intro ?_ ?_ | intro _)
      all_goals (try (first | omega | (unfold r32; omega) | exact hQ | exact qe hQ (by omega) | exact qe hQ (by (repeat' split) <;> omega) | exact b01 | exact n01 | exact n21 | exact n31 | exact absurd trivial (by assumption)))
      refine c130 X _ _ _ _ _ _ (by omega) ?_
      apply s_85_33
      try simp only [mi_1, sm_o, hs, true_and, and_true, true_or, or_true, implies_true, b10_0, b10_1]
      repeat' (first | refine And.intro ?_ ?_ | intro _)
      all_goals (try (first | omega | (unfold r32; omega) | exact hQ | exact qe hQ (by omega) | exact qe hQ (by (repeat' split) <;> omega) | exact b01 | exact n01 | exact n21 | exact n31 | exact absurd trivial (by assumption)))
      refine c58 X hs hw hh _ _ (by omega) ?_
      rintro _ g1 ⟨rfl, hF, v0, v1, v2, v3, v4⟩
      refine s_85_47 ⟨by unfold r32; omega, ?_⟩
      refine hQ _ g1 ⟨_, rfl, ?_⟩
      clear hQ
      intro d Q hd hQ
      generalize hm1 : mup g1 87 s w = m1
      generalize hm2 : mup m1 88 s h = m2
      generalize hm3 : mup m2 91 s 0 = m3
      have F3 : ∀ o k, ¬ ((o = 87 ∨ o = 88 ∨ o = 91) ∧ k = s) → m3 o k = g1 o k := fun o k ho => by rw [← hm3, mup_n (by omega), ← hm2, mup_n (by omega), ← hm1, mup_n (by omega)]
      have u87 : m3 87 s = w := by rw [← hm3, mup_n (by omega), ← hm2, mup_n (by omega), ← hm1, mup_e]
      have u88 : m3 88 s = h := by rw [← hm3, mup_n (by omega), ← hm2, mup_e]
      have u91 : m3 91 s = 0 := by rw [← hm3, mup_e]
      have loop := lup (P := fun k => ∀ m : mF, (∀ o i, ¬ (o = 89 ∧ 36 * s ≤ i ∧ i < 36 * s + k) → m o i = m3 o i) → (∀ i, i < k → m 89 (36 * s + i) = 0) → Wp X d SH 149 63 [(2, 87), (0, (s : Int)), (0, w), (0, h), (0, (k : Int))] [] SH (fl m) Q) 36 ?_ ?_ 0 (by omega)
      · have l0 := loop m3 (fun _ _ _ => rfl) (fun i hi => absurd hi (by omega))
        apply s_149_0
        try simp only [mi_87, fl_87_0, mi_88, ml_88, fl_88, up_88, fl_87_1, mi_89, ml_89, fl_89, up_89, fl_87_4, mi_92, ml_92, fl_92, up_92, fl_87_2, mi_90, ml_90, fl_90, up_90, true_and, and_true, true_or, or_true, implies_true, b10_0, b10_1]
        repeat' (first | refine And.intro ?_ ?_ | intro _)
        all_goals (try (first | omega | (unfold r32; omega) | exact hQ | exact qe hQ (by omega) | exact qe hQ (by (repeat' split) <;> omega) | exact b01 | exact n01 | exact n21 | exact n31 | exact absurd trivial (by assumption)))
        refine c147 X _ _ _ _ (by omega) ?_
        apply s_149_4
        try simp only [mi_87, fl_87_0, mi_88, ml_88, fl_88, up_88, fl_87_1, mi_89, ml_89, fl_89, up_89, fl_87_4, mi_92, ml_92, fl_92, up_92, fl_87_2, mi_90, ml_90, fl_90, up_90, true_and, and_true, true_or, or_true, implies_true, b10_0, b10_1]
        repeat' (first | refine And.intro ?_ ?_ | intro _)
        all_goals (try (first | omega | (unfold r32; omega) | exact hQ | exact qe hQ (by omega) | exact qe hQ (by (repeat' split) <;> omega) | exact b01 | exact n01 | exact n21 | exact n31 | exact absurd trivial (by assumption)))
        refine c144 X _ _ _ _ _ _ (by omega) ?_
        apply s_149_20
        try simp only [mi_87, fl_87_0, mi_88, ml_88, fl_88, up_88, fl_87_1, mi_89, ml_89, fl_89, up_89, fl_87_4, mi_92, ml_92, fl_92, up_92, fl_87_2, mi_90, ml_90, fl_90, up_90, true_and, and_true, true_or, or_true, implies_true, b10_0, b10_1]
        repeat' (first | refine And.intro ?_ ?_ | intro _)
        all_goals (try (first | omega | (unfold r32; omega) | exact hQ | exact qe hQ (by omega) | exact qe hQ (by (repeat' split) <;> omega) | exact b01 | exact n01 | exact n21 | exact n31 | exact absurd trivial (by assumption)))
        refine c144 X _ _ _ _ _ _ (by omega) ?_
        apply s_149_32
        try simp only [mi_87, fl_87_0, mi_88, ml_88, fl_88, up_88, fl_87_1, mi_89, ml_89, fl_89, up_89, fl_87_4, mi_92, ml_92, fl_92, up_92, fl_87_2, mi_90, ml_90, fl_90, up_90, es, hm1, true_and, and_true, true_or, or_true, implies_true, b10_0, b10_1]
        repeat' (first | refine And.intro ?_ ?_ | intro _)
        all_goals (try (first | omega | (unfold r32; omega) | exact hQ | exact qe hQ (by omega) | exact qe hQ (by (repeat' split) <;> omega) | exact b01 | exact n01 | exact n21 | exact n31 | exact absurd trivial (by assumption)))
        apply s_149_46
        try simp only [mi_87, fl_87_0, mi_88, ml_88, fl_88, up_88, fl_87_1, mi_89, ml_89, fl_89, up_89, fl_87_4, mi_92, ml_92, fl_92, up_92, fl_87_2, mi_90, ml_90, fl_90, up_90, es, hm2, true_and, and_true, true_or, or_true, implies_true, b10_0, b10_1]
        repeat' (first | refine And.intro ?_ ?_ | intro _)
        all_goals (try (first | omega | (unfold r32; omega) | exact hQ | exact qe hQ (by omega) | exact qe hQ (by (repeat' split) <;> omega) | exact b01 | exact n01 | exact n21 | exact n31 | exact absurd trivial (by assumption)))
        apply s_149_53
        try simp only [mi_87, fl_87_0, mi_88, ml_88, fl_88, up_88, fl_87_1, mi_89, ml_89, fl_89, up_89, fl_87_4, mi_92, ml_92, fl_92, up_92, fl_87_2, mi_90, ml_90, fl_90, up_90, es, hm3, true_and, and_true, true_or, or_true, implies_true, b10_0, b10_1]
        repeat' (first | refine And.intro ?_ ?_ | intro _)
        all_goals (try (first | omega | (unfold r32; omega) | exact hQ | exact qe hQ (by omega) | exact qe hQ (by (repeat' split) <;> omega) | exact b01 | exact n01 | exact n21 | exact n31 | exact absurd trivial (by assumption)))
        apply s_149_60
        try simp only [mi_87, fl_87_0, mi_88, ml_88, fl_88, up_88, fl_87_1, mi_89, ml_89, fl_89, up_89, fl_87_4, mi_92, ml_92, fl_92, up_92, fl_87_2, mi_90, ml_90, fl_90, up_90, true_and, and_true, true_or, or_true, implies_true, b10_0, b10_1]
        repeat' (first | refine And.intro ?_ ?_ | intro _)
        all_goals (try (first | omega | (unfold r32; omega) | exact hQ | exact qe hQ (by omega) | exact qe hQ (by (repeat' split) <;> omega) | exact b01 | exact n01 | exact n21 | exact n31 | exact absurd trivial (by assumption)))
        all_goals (try exact l0)
      · intro m hm h89
        have hall : ∀ o k, ¬ ((o = 87 ∨ o = 88 ∨ o = 91) ∧ k = s ∨ o = 89 ∧ 36 * s ≤ k ∧ k < 36 * s + 36) → m o k = g1 o k := fun o k ho => by rw [hm _ _ (by omega), F3 _ _ (by omega)]
        have hnew : Iseal m s := by
          have a0 : m (56 + 5 * s) 0 = w := by rw [hall _ _ (by omega)]; exact v0
          have a1 : m (56 + 5 * s) 1 = h := by rw [hall _ _ (by omega)]; exact v1
          have a2 : m (56 + 5 * s) 2 = 0 := by rw [hall _ _ (by omega)]; exact v2
          have a3 : ∀ q, q < 36 → m (58 + 5 * s) q = -1 ∧ m (59 + 5 * s) q = 0 := fun q hq => by rw [hall _ _ (by omega), hall _ _ (by omega)]; exact v3 q hq
          unfold Iseal Ipath
          rw [a0, a1, a2, hm 87 _ (by omega), hm 88 _ (by omega), hm 91 _ (by omega), u87, u88, u91]
          refine ⟨⟨⟨rfl, hw⟩, ⟨rfl, hh⟩, ⟨rfl, by omega, by omega⟩, fun i hi => absurd hi (by omega)⟩, fun q hq => ?_, fun q hq _ => (a3 q hq).2, fun q hq => Or.inl (a3 q hq).1, fun i hi => absurd hi (by omega), fun q hq side hsd => by rw [hall _ _ (by omega)]; exact v4 q hq side hsd, fun i hi => absurd hi (by omega)⟩
          rw [h89 q hq, (a3 q hq).2]
          exact ⟨rfl, Or.inl rfl⟩
        have hq := hQ (some (0, w * h)) m ⟨rfl, fun s' hs' => by
          by_cases hss : s' = s
          · subst hss; exact hnew
          · exact Iseal_fr hs' (fun o k ho => by rw [hall _ _ (by omega), hF _ _ (by omega)]) (hI s' hs'), fun o k ho => by rw [hall _ _ (by omega), hF _ _ (by omega)]⟩
        clear hnew
        apply s_149_63
        try simp only [mi_87, fl_87_0, mi_88, ml_88, fl_88, up_88, fl_87_1, mi_89, ml_89, fl_89, up_89, fl_87_4, mi_92, ml_92, fl_92, up_92, fl_87_2, mi_90, ml_90, fl_90, up_90, true_and, and_true, true_or, or_true, implies_true, b10_0, b10_1]
        repeat' (first | refine And.intro ?_ ?_ | intro _)
        all_goals (try (first | omega | (unfold r32; omega) | exact hQ | exact qe hQ (by omega) | exact qe hQ (by (repeat' split) <;> omega) | exact b01 | exact n01 | exact n21 | exact n31 | exact absurd trivial (by assumption)))
        all_goals (try exact hq)
      · intro k hk ih m hm h89
        have e10 : ((k + 1 : Nat) : Int) = (k : Int) + 1 := by omega
        have esk : (36 * (s : Int) + (k : Int)).toNat = 36 * s + k := by omega
        rw [e10] at ih
        have nx := ih (mup m 89 (36 * s + k) 0) (fun o i ho => by rw [mup_n (by omega)]; exact hm o i (by omega)) (fun i hi => by
          by_cases hik : i = k
          · subst hik; rw [mup_e]
          · rw [mup_n (by omega)]; exact h89 i (by omega))
        apply s_149_63
        try simp only [mi_87, fl_87_0, mi_88, ml_88, fl_88, up_88, fl_87_1, mi_89, ml_89, fl_89, up_89, fl_87_4, mi_92, ml_92, fl_92, up_92, fl_87_2, mi_90, ml_90, fl_90, up_90, esk, true_and, and_true, true_or, or_true, implies_true, b10_0, b10_1]
        repeat' (first | refine And.intro ?_ ?_ | intro _)
        all_goals (try (first | omega | (unfold r32; omega) | exact hQ | exact qe hQ (by omega) | exact qe hQ (by (repeat' split) <;> omega) | exact b01 | exact n01 | exact n21 | exact n31 | exact absurd trivial (by assumption)))
        apply s_149_83
        try simp only [mi_87, fl_87_0, mi_88, ml_88, fl_88, up_88, fl_87_1, mi_89, ml_89, fl_89, up_89, fl_87_4, mi_92, ml_92, fl_92, up_92, fl_87_2, mi_90, ml_90, fl_90, up_90, true_and, and_true, true_or, or_true, implies_true, b10_0, b10_1]
        repeat' (first | refine And.intro ?_ ?_ | intro _)
        all_goals (try (first | omega | (unfold r32; omega) | exact hQ | exact qe hQ (by omega) | exact qe hQ (by (repeat' split) <;> omega) | exact b01 | exact n01 | exact n21 | exact n31 | exact absurd trivial (by assumption)))
        all_goals (try exact nx)
    · have q1 : Ret X 60 85 [(2, 1), (0, (s : Int)), (0, w), (0, h), (3, 0)] g (some (0, -1002)) g := by
        intro d Q hd hQ
        apply s_85_0
        try simp only [mi_1, sm_o, hs, true_and, and_true, true_or, or_true, implies_true, b10_0, b10_1]
        repeat' (first | refine And.intro ?_ ?_ | intro _)
        all_goals (try (first | omega | (unfold r32; omega) | exact hQ | exact qe hQ (by omega) | exact qe hQ (by (repeat' split) <;> omega) | exact b01 | exact n01 | exact n21 | exact n31 | exact absurd trivial (by assumption)))
        refine c135 X g hs _ _ (by omega) ?_
        apply s_85_5
        try simp only [mi_1, sm_o, true_and, and_true, true_or, or_true, implies_true, b10_0, b10_1]
        repeat' (first | refine And.intro ?_ ?_ | intro _)
        all_goals (try (first | omega | (unfold r32; omega) | exact hQ | exact qe hQ (by omega) | exact qe hQ (by (repeat' split) <;> omega) | exact b01 | exact n01 | exact n21 | exact n31 | exact absurd trivial (by assumption)))
        refine c130 X _ _ _ _ _ _ (by omega) ?_
        apply s_85_23
        try simp only [mi_1, sm_o, true_and, and_true, true_or, or_true, implies_true, b10_0, b10_1]
        repeat' (first | refine And.intro ?_ ?_ | intro _)
        all_goals (try (first | omega | (unfold r32; omega) | exact hQ | exact qe hQ (by omega) | exact qe hQ (by (repeat' split) <;> omega) | exact b01 | exact n01 | exact n21 | exact n31 | exact absurd trivial (by assumption)))
        refine c130 X _ _ _ _ _ _ (by omega) ?_
        apply s_85_33
        try simp only [mi_1, sm_o, true_and, and_true, true_or, or_true, implies_true, b10_0, b10_1]
        repeat' (first | refine And.intro ?_ ?_ | intro _)
        all_goals (try (first | omega | (unfold r32; omega) | exact hQ | exact qe hQ (by omega) | exact qe hQ (by (repeat' split) <;> omega) | exact b01 | exact n01 | exact n21 | exact n31 | exact absurd trivial (by assumption)))
      have q2 : Ret X 60 149 [(2, 87), (0, (s : Int)), (0, w), (0, h), (3, 0)] g (some (0, -1002)) g := by
        intro d Q hd hQ
        apply s_149_0
        try simp only [mi_87, fl_87_0, mi_88, ml_88, fl_88, up_88, fl_87_1, mi_89, ml_89, fl_89, up_89, fl_87_4, mi_92, ml_92, fl_92, up_92, fl_87_2, mi_90, ml_90, fl_90, up_90, true_and, and_true, true_or, or_true, implies_true, b10_0, b10_1]
        repeat' (first | refine And.intro ?_ ?_ | intro _)
        all_goals (try (first | omega | (unfold r32; omega) | exact hQ | exact qe hQ (by omega) | exact qe hQ (by (repeat' split) <;> omega) | exact b01 | exact n01 | exact n21 | exact n31 | exact absurd trivial (by assumption)))
        refine c147 X _ _ _ _ (by omega) ?_
        apply s_149_4
        try simp only [mi_87, fl_87_0, mi_88, ml_88, fl_88, up_88, fl_87_1, mi_89, ml_89, fl_89, up_89, fl_87_4, mi_92, ml_92, fl_92, up_92, fl_87_2, mi_90, ml_90, fl_90, up_90, true_and, and_true, true_or, or_true, implies_true, b10_0, b10_1]
        repeat' (first | refine And.intro ?_ ?_ | intro _)
        all_goals (try (first | omega | (unfold r32; omega) | exact hQ | exact qe hQ (by omega) | exact qe hQ (by (repeat' split) <;> omega) | exact b01 | exact n01 | exact n21 | exact n31 | exact absurd trivial (by assumption)))
        refine c144 X _ _ _ _ _ _ (by omega) ?_
        apply s_149_20
        try simp only [mi_87, fl_87_0, mi_88, ml_88, fl_88, up_88, fl_87_1, mi_89, ml_89, fl_89, up_89, fl_87_4, mi_92, ml_92, fl_92, up_92, fl_87_2, mi_90, ml_90, fl_90, up_90, true_and, and_true, true_or, or_true, implies_true, b10_0, b10_1]
        repeat' (first | refine And.intro ?_ ?_ | intro _)
        all_goals (try (first | omega | (unfold r32; omega) | exact hQ | exact qe hQ (by omega) | exact qe hQ (by (repeat' split) <;> omega) | exact b01 | exact n01 | exact n21 | exact n31 | exact absurd trivial (by assumption)))
        refine c144 X _ _ _ _ _ _ (by omega) ?_
        apply s_149_32
        try simp only [mi_87, fl_87_0, mi_88, ml_88, fl_88, up_88, fl_87_1, mi_89, ml_89, fl_89, up_89, fl_87_4, mi_92, ml_92, fl_92, up_92, fl_87_2, mi_90, ml_90, fl_90, up_90, true_and, and_true, true_or, or_true, implies_true, b10_0, b10_1]
        repeat' (first | refine And.intro ?_ ?_ | intro _)
        all_goals (try (first | omega | (unfold r32; omega) | exact hQ | exact qe hQ (by omega) | exact qe hQ (by (repeat' split) <;> omega) | exact b01 | exact n01 | exact n21 | exact n31 | exact absurd trivial (by assumption)))
      exact PR_of q1 q2 rr d Q hd hQ
  · have q1 : Ret X 60 85 [(2, 1), (0, a), (0, w), (0, h), (3, 0)] g (some (0, -1001)) g := by
      intro d Q hd hQ
      apply s_85_0
      try simp only [mi_1, sm_o, true_and, and_true, true_or, or_true, implies_true, b10_0, b10_1]
      repeat' (first | refine And.intro ?_ ?_ | intro _)
      all_goals (try (first | omega | (unfold r32; omega) | exact hQ | exact qe hQ (by omega) | exact qe hQ (by (repeat' split) <;> omega) | exact b01 | exact n01 | exact n21 | exact n31 | exact absurd trivial (by assumption)))
      refine c135n X g _ ha _ _ (by omega) ?_
      apply s_85_5
      try simp only [mi_1, sm_o, true_and, and_true, true_or, or_true, implies_true, b10_0, b10_1]
      repeat' (first | refine And.intro ?_ ?_ | intro _)
      all_goals (try (first | omega | (unfold r32; omega) | exact hQ | exact qe hQ (by omega) | exact qe hQ (by (repeat' split) <;> omega) | exact b01 | exact n01 | exact n21 | exact n31 | exact absurd trivial (by assumption)))
    have q2 : Ret X 60 149 [(2, 87), (0, a), (0, w), (0, h), (3, 0)] g (some (0, -1001)) g := by
      intro d Q hd hQ
      apply s_149_0
      try simp only [mi_87, fl_87_0, mi_88, ml_88, fl_88, up_88, fl_87_1, mi_89, ml_89, fl_89, up_89, fl_87_4, mi_92, ml_92, fl_92, up_92, fl_87_2, mi_90, ml_90, fl_90, up_90, true_and, and_true, true_or, or_true, implies_true, b10_0, b10_1]
      repeat' (first | refine And.intro ?_ ?_ | intro _)
      all_goals (try (first | omega | (unfold r32; omega) | exact hQ | exact qe hQ (by omega) | exact qe hQ (by (repeat' split) <;> omega) | exact b01 | exact n01 | exact n21 | exact n31 | exact absurd trivial (by assumption)))
      refine c147 X _ _ _ _ (by omega) ?_
      apply s_149_4
      try simp only [mi_87, fl_87_0, mi_88, ml_88, fl_88, up_88, fl_87_1, mi_89, ml_89, fl_89, up_89, fl_87_4, mi_92, ml_92, fl_92, up_92, fl_87_2, mi_90, ml_90, fl_90, up_90, true_and, and_true, true_or, or_true, implies_true, b10_0, b10_1]
      repeat' (first | refine And.intro ?_ ?_ | intro _)
      all_goals (try (first | omega | (unfold r32; omega) | exact hQ | exact qe hQ (by omega) | exact qe hQ (by (repeat' split) <;> omega) | exact b01 | exact n01 | exact n21 | exact n31 | exact absurd trivial (by assumption)))
    exact PR_of q1 q2 rr d Q hd hQ
