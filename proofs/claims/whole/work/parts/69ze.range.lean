/-! draw: behind the ranges -/
theorem c89 (X : mX) (g : mF) {s : Nat} (hs : s < 6) (hI : Iseal g s) {a b n kind z : Int} (ha : 0 ≤ a ∧ a < g (56 + 5 * s) 0 * g (56 + 5 * s) 1) (hb : 0 ≤ b ∧ b < g (56 + 5 * s) 0 * g (56 + 5 * s) 1) (hn : 1 ≤ n ∧ n ≤ g (56 + 5 * s) 0 * g (56 + 5 * s) 1) (hk : 0 ≤ kind ∧ kind ≤ 3) {P : Option mV → mF → Prop} (hr : ∀ r g', P r g' → ∃ v : Int, r = some (0, v)) (h : Rel X 55 73 [(2, 3), (2, 57 + 5 * (s : Int)), (0, a), (0, b), (0, n), (0, z), (0, kind), (3, 0)] g P) : Rel X 60 89 [(2, 1), (0, (s : Int)), (0, a), (0, b), (0, n), (0, z), (0, kind), (3, 0)] g P := by
  intro d Q hd hQ
  have hP := hI.1
  have hwb := mul_b hP.1.2 hP.2.1.2
  have c1 := c60 X g hs a hP
  have c2 := c60 X g hs b hP
  have c3 := c130 X g n 1 (g (56 + 5 * s) 0 * g (56 + 5 * s) 1)
  have c4 := c130 X g kind 0 3
  rw [if_pos ha] at c1
  rw [if_pos hb] at c2
  rw [if_pos hn] at c3
  rw [if_pos hk] at c4
  have fin : ∀ r g', P r g' → Wp X d SH 89 85 [(2, 1), (0, (s : Int)), (0, a), (0, b), (0, n), (0, z), (0, kind), (2, 57 + 5 * (s : Int))] (r.toList ++ []) SH (fl g') Q := by
    intro r g' hp
    obtain ⟨v, rfl⟩ := hr r g' hp
    apply s_89_85
    exact hQ _ g' hp
  clear hQ
  apply s_89_0
  refine ⟨by omega, mi_1, ?_⟩
  refine c135 X g hs _ _ (by omega) ?_
  apply s_89_5
  refine ⟨fun _ => ⟨by omega, sm_o hs, ?_⟩, fun y => absurd y (by omega)⟩
  refine c1 _ _ (by omega) ?_
  apply s_89_22
  refine ⟨fun y => absurd y (by decide), fun _ => ⟨by omega, sm_o hs, ?_⟩⟩
  refine c2 _ _ (by omega) ?_
  apply s_89_31
  rw [sl_0 g hs, sl_1 g hs]
  refine ⟨fun y => absurd y (by decide), fun _ => ⟨sm_o hs, sm_o hs, by unfold r32; omega, by omega, ?_⟩⟩
  refine c3 _ _ (by omega) ?_
  apply s_89_51
  refine ⟨fun y => absurd y (by decide), fun _ => ⟨by omega, ?_⟩⟩
  refine c4 _ _ (by omega) ?_
  apply s_89_61
  refine ⟨fun _ => ⟨mi_1, by omega, by rw [fl_1_1]; exact mi_3, ?_⟩, fun y => absurd (by decide) y⟩
  rw [fl_1_1]
  exact h _ _ (by omega) fin
