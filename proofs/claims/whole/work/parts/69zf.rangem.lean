/-! draw: the reference behind the ranges -/
theorem c159r (X : mX) (g : mF) {s : Nat} (hs : s < 6) (hP : Ipath g s) {a b n kind z : Int} (ha : 0 ≤ a ∧ a < g (56 + 5 * s) 0 * g (56 + 5 * s) 1) (hb : 0 ≤ b ∧ b < g (56 + 5 * s) 0 * g (56 + 5 * s) 1) (hn : 1 ≤ n ∧ n ≤ g (56 + 5 * s) 0 * g (56 + 5 * s) 1) (hk : 0 ≤ kind ∧ kind ≤ 3) {d : Nat} {Q : mQ} (hd : 8 ≤ d) (h : Wp X d SH 159 75 [(2, 87), (0, (s : Int)), (0, a), (0, b), (0, n), (0, z), (0, kind), (3, 0), (3, 0)] [] SH (fl (mup g 86 6 0)) Q) : Wp X d SH 159 0 [(2, 87), (0, (s : Int)), (0, a), (0, b), (0, n), (0, z), (0, kind), (3, 0), (3, 0)] [] SH (fl g) Q := by
  have hwb := mul_b hP.1.2 hP.2.1.2
  have es : ((s : Int)).toNat = s := by omega
  have q87 := hP.1.1
  have q88 := hP.2.1.1
  have c0 := c147 X g (s : Int)
  have c1 := c148 X g hs a hP
  have c2 := c148 X g hs b hP
  have c3 := c144 X g n 1 (g (56 + 5 * s) 0 * g (56 + 5 * s) 1)
  have c4 := c144 X g kind 0 3
  rw [if_pos ⟨by omega, by omega⟩] at c0
  rw [if_pos ha] at c1
  rw [if_pos hb] at c2
  rw [if_pos hn] at c3
  rw [if_pos hk] at c4
  apply s_159_0
  refine ⟨by omega, ?_⟩
  refine c0 _ _ (by omega) ?_
  apply s_159_4
  refine ⟨fun _ => ⟨by omega, mi_87, ?_⟩, fun y => absurd (by decide) y⟩
  refine c1 _ _ (by omega) ?_
  apply s_159_17
  refine ⟨fun y => absurd y (by decide), fun _ => ⟨by omega, mi_87, ?_⟩⟩
  refine c2 _ _ (by omega) ?_
  apply s_159_26
  rw [fl_87_0, fl_87_1, es, ml_88, ml_89, fl_88, fl_89, q87, q88]
  refine ⟨fun y => absurd y (by decide), fun _ => ⟨mi_87, mi_88, by omega, by omega, mi_87, mi_89, by omega, by omega, by unfold r32; omega, by omega, ?_⟩⟩
  refine c3 _ _ (by omega) ?_
  apply s_159_50
  refine ⟨fun y => absurd y (by decide), fun _ => ⟨by omega, ?_⟩⟩
  refine c4 _ _ (by omega) ?_
  apply s_159_63
  rw [up_87_6]
  exact ⟨fun _ => ⟨mi_87, h⟩, fun y => absurd (by decide) y⟩
