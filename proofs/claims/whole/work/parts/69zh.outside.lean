/-! draw: outside the ranges -/
def RNG (w h a b n kind : Int) : Prop := (0 ≤ a ∧ a < w * h) ∧ (0 ≤ b ∧ b < w * h) ∧ (1 ≤ n ∧ n ≤ w * h) ∧ (0 ≤ kind ∧ kind ≤ 3)
theorem c89x (X : mX) (g : mF) {s : Nat} (hs : s < 6) (hP : Ipath g s) {a b n kind z : Int} (hno : ¬ RNG (g (56 + 5 * s) 0) (g (56 + 5 * s) 1) a b n kind) : Ret X 60 89 [(2, 1), (0, (s : Int)), (0, a), (0, b), (0, n), (0, z), (0, kind), (3, 0)] g (some (0, -1002)) g := by
  intro d Q hd hQ
  have hwb := mul_b hP.1.2 hP.2.1.2
  have c1 := c60 X g hs a hP
  have c2 := c60 X g hs b hP
  have c3 := c130 X g n 1 (g (56 + 5 * s) 0 * g (56 + 5 * s) 1)
  have c4 := c130 X g kind 0 3
  apply s_89_0
  refine ⟨by omega, mi_1, ?_⟩
  refine c135 X g hs _ _ (by omega) ?_
  apply s_89_5
  refine ⟨fun _ => ⟨by omega, sm_o hs, ?_⟩, fun y => absurd y (by omega)⟩
  by_cases ha : 0 ≤ a ∧ a < g (56 + 5 * s) 0 * g (56 + 5 * s) 1
  · rw [if_pos ha] at c1
    refine c1 _ _ (by omega) ?_
    apply s_89_22
    refine ⟨fun y => absurd y (by decide), fun _ => ⟨by omega, sm_o hs, ?_⟩⟩
    by_cases hb : 0 ≤ b ∧ b < g (56 + 5 * s) 0 * g (56 + 5 * s) 1
    · rw [if_pos hb] at c2
      refine c2 _ _ (by omega) ?_
      apply s_89_31
      rw [sl_0 g hs, sl_1 g hs]
      refine ⟨fun y => absurd y (by decide), fun _ => ⟨sm_o hs, sm_o hs, by unfold r32; omega, by omega, ?_⟩⟩
      by_cases hn : 1 ≤ n ∧ n ≤ g (56 + 5 * s) 0 * g (56 + 5 * s) 1
      · rw [if_pos hn] at c3
        refine c3 _ _ (by omega) ?_
        apply s_89_51
        refine ⟨fun y => absurd y (by decide), fun _ => ⟨by omega, ?_⟩⟩
        rw [if_neg (fun hk => hno ⟨ha, hb, hn, hk⟩)] at c4
        refine c4 _ _ (by omega) ?_
        apply s_89_61
        exact ⟨fun y => absurd rfl y, fun _ => hQ⟩
      · rw [if_neg hn] at c3
        refine c3 _ _ (by omega) ?_
        apply s_89_51
        exact ⟨fun _ => hQ, fun y => absurd rfl y⟩
    · rw [if_neg hb] at c2
      refine c2 _ _ (by omega) ?_
      apply s_89_31
      exact ⟨fun _ => hQ, fun y => absurd rfl y⟩
  · rw [if_neg ha] at c1
    refine c1 _ _ (by omega) ?_
    apply s_89_22
    exact ⟨fun _ => hQ, fun y => absurd rfl y⟩
theorem c148w (X : mX) (g : mF) {s : Nat} (hs : s < 6) {w h : Int} (hw : 1 ≤ w ∧ w ≤ 6) (hh : 1 ≤ h ∧ h ≤ 6) (h87 : g 87 s = w) (h88 : g 88 s = h) (i : Int) : Ret X 1 148 [(2, 87), (0, (s : Int)), (0, i)] g (some (0, if 0 ≤ i ∧ i < w * h then 1 else 0)) g := by
  intro d Q hd hQ
  have hb := mul_b hw hh
  have e : ((s : Int)).toNat = s := by omega
  repeat' (first
    | (exfalso; omega)
    | (exact absurd trivial (by assumption))
    | (apply s_148_0; try simp only [mi_87, fl_87_0, mi_88, ml_88, fl_88, up_88, fl_87_1, mi_89, ml_89, fl_89, up_89, e, h87, h88, true_and, and_true, true_or, or_true, implies_true, b10_0, b10_1])
    | (apply s_148_22; try simp only [mi_87, fl_87_0, mi_88, ml_88, fl_88, up_88, fl_87_1, mi_89, ml_89, fl_89, up_89, e, h87, h88, true_and, and_true, true_or, or_true, implies_true, b10_0, b10_1])
    | (refine c144 X _ _ _ _ _ _ (by omega) ?_)
    | (refine And.intro ?_ ?_)
    | (intro _)
    | omega
    | (unfold r32; omega)
    | (exact hQ)
    | (exact qe hQ (by omega))
    | (exact qe hQ (by (repeat' split) <;> omega))
    | (exact b01)
    | (exact n01)
    | (exact n21)
    | (exact n31))
theorem c159x (X : mX) (g : mF) {s : Nat} (hs : s < 6) {w h : Int} (hw : 1 ≤ w ∧ w ≤ 6) (hh : 1 ≤ h ∧ h ≤ 6) (h87 : g 87 s = w) (h88 : g 88 s = h) {a b n kind z : Int} {d : Nat} {Q : mQ} (hd : 8 ≤ d) (hno : ¬ RNG w h a b n kind → Q (some (0, -1002)) (fl g)) (hyes : RNG w h a b n kind → Wp X d SH 159 75 [(2, 87), (0, (s : Int)), (0, a), (0, b), (0, n), (0, z), (0, kind), (3, 0), (3, 0)] [] SH (fl (mup g 86 6 0)) Q) : Wp X d SH 159 0 [(2, 87), (0, (s : Int)), (0, a), (0, b), (0, n), (0, z), (0, kind), (3, 0), (3, 0)] [] SH (fl g) Q := by
  have hwb := mul_b hw hh
  have es : ((s : Int)).toNat = s := by omega
  have c0 := c147 X g (s : Int)
  have c1 := c148w X g hs hw hh h87 h88 a
  have c2 := c148w X g hs hw hh h87 h88 b
  have c3 := c144 X g n 1 (w * h)
  have c4 := c144 X g kind 0 3
  rw [if_pos ⟨by omega, by omega⟩] at c0
  apply s_159_0
  refine ⟨by omega, ?_⟩
  refine c0 _ _ (by omega) ?_
  apply s_159_4
  refine ⟨fun _ => ⟨by omega, mi_87, ?_⟩, fun y => absurd (by decide) y⟩
  by_cases ha : 0 ≤ a ∧ a < w * h
  · rw [if_pos ha] at c1
    refine c1 _ _ (by omega) ?_
    apply s_159_17
    refine ⟨fun y => absurd y (by decide), fun _ => ⟨by omega, mi_87, ?_⟩⟩
    by_cases hb : 0 ≤ b ∧ b < w * h
    · rw [if_pos hb] at c2
      refine c2 _ _ (by omega) ?_
      apply s_159_26
      rw [fl_87_0, fl_87_1, es, ml_88, ml_89, fl_88, fl_89, h87, h88]
      refine ⟨fun y => absurd y (by decide), fun _ => ⟨mi_87, mi_88, by omega, by omega, mi_87, mi_89, by omega, by omega, by unfold r32; omega, by omega, ?_⟩⟩
      by_cases hn : 1 ≤ n ∧ n ≤ w * h
      · rw [if_pos hn] at c3
        refine c3 _ _ (by omega) ?_
        apply s_159_50
        refine ⟨fun y => absurd y (by decide), fun _ => ⟨by omega, ?_⟩⟩
        by_cases hk : 0 ≤ kind ∧ kind ≤ 3
        · have q := hyes ⟨ha, hb, hn, hk⟩
          rw [if_pos hk] at c4
          refine c4 _ _ (by omega) ?_
          apply s_159_63
          rw [up_87_6]
          exact ⟨fun _ => ⟨mi_87, q⟩, fun y => absurd (by decide) y⟩
        · have q := hno (fun hr => hk hr.2.2.2)
          rw [if_neg hk] at c4
          refine c4 _ _ (by omega) ?_
          apply s_159_63
          exact ⟨fun y => absurd rfl y, fun _ => q⟩
      · have q := hno (fun hr => hn hr.2.2.1)
        rw [if_neg hn] at c3
        refine c3 _ _ (by omega) ?_
        apply s_159_50
        exact ⟨fun _ => q, fun y => absurd rfl y⟩
    · have q := hno (fun hr => hb hr.2.1)
      rw [if_neg hb] at c2
      refine c2 _ _ (by omega) ?_
      apply s_159_26
      exact ⟨fun _ => q, fun y => absurd rfl y⟩
  · have q := hno (fun hr => ha hr.1)
    rw [if_neg ha] at c1
    refine c1 _ _ (by omega) ?_
    apply s_159_17
    exact ⟨fun _ => q, fun y => absurd rfl y⟩
