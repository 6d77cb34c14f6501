/-! the reference reads a text -/
theorem mup_id {g : mF} {o k : Nat} {v : Int} (h : g o k = v) : mup g o k v = g := by
  funext a b
  unfold mup
  by_cases x : a = o ∧ b = k
  · rw [if_pos x, x.1, x.2, h]
  · rw [if_neg x]
theorem mup_mup {g : mF} {o k : Nat} {u v : Int} : mup (mup g o k u) o k v = mup g o k v := by
  funext a b
  unfold mup
  by_cases x : a = o ∧ b = k
  · rw [if_pos x, if_pos x]
  · rw [if_neg x, if_neg x, if_neg x]
theorem lcmp_le {a b : Int} : (if a < b then (1 : Int) else if b = a then 0 else -1) ≤ 0 ↔ ¬ a < b := by
  by_cases h : a < b
  · rw [if_pos h]
    exact ⟨fun x => absurd x (by decide), fun x => absurd h x⟩
  · rw [if_neg h]
    by_cases h2 : b = a
    · rw [if_pos h2]
      exact ⟨fun _ => h, fun _ => by decide⟩
    · rw [if_neg h2]
      exact ⟨fun _ => h, fun _ => by decide⟩
theorem c218 (X : mX) (g : mF) {tx : Nat → Int} {n p : Nat} (ht : ∀ k, k < n → g 120 k = tx k) (hn : g 86 44 = (n : Int)) (hn160 : n ≤ 160) (hp : p ≤ n) (h48 : g 86 48 = (p : Int)) : Ret X 0 218 [(2, 87)] g (some (0, if bend tx n p < n then tx (bend tx n p) else -1)) (mup g 86 48 ((bend tx n p : Nat) : Int)) := by
  intro d Q hd hQ
  obtain ⟨e1, e2, e3, e4⟩ := bend_s (tx := tx) hp
  have key := lup (P := fun i => Wp X d SH 218 0 [(2, 87)] [] SH (fl (mup g 86 48 ((p + i : Nat) : Int))) Q) (bend tx n p - p) ?_ ?_ 0 (by omega)
  · rw [Nat.add_zero, mup_id h48] at key
    exact key
  · rw [show p + (bend tx n p - p) = bend tx n p by omega]
    generalize hg1 : mup g 86 48 ((bend tx n p : Nat) : Int) = g1 at hQ ⊢
    have q48 : g1 86 48 = ((bend tx n p : Nat) : Int) := by rw [← hg1, mup_e]
    have q44 : g1 86 44 = (n : Int) := by rw [← hg1, mup_n (by omega)]; exact hn
    have eb : (((bend tx n p : Nat) : Int)).toNat = bend tx n p := by omega
    have out : Wp X d SH 218 38 [(2, 87)] [] SH (fl g1) Q := by
      apply s_218_38
      rw [fl_87_44, fl_87_48, q44, q48, fl_87_43, ml_121, fl_121, eb]
      refine ⟨mi_87, mi_87, fun z => ?_, fun z => ⟨mi_87, mi_87, mi_121, by omega, by omega, ?_⟩⟩
      · rw [if_neg (by omega)] at hQ
        exact hQ
      · rw [if_pos (by omega)] at hQ
        have qt : g1 120 (bend tx n p) = tx (bend tx n p) := by rw [← hg1, mup_n (by omega)]; exact ht _ (by omega)
        rw [qt]
        exact hQ
    apply s_218_0
    rw [fl_87_44, fl_87_48, q44, q48, fl_87_43, ml_121, fl_121, eb]
    refine ⟨mi_87, mi_87, fun _ => out, fun z => ⟨mi_87, mi_87, mi_121, by omega, by omega, fun _ => out, fun y => ?_⟩⟩
    have qt : g1 120 (bend tx n p) = tx (bend tx n p) := by rw [← hg1, mup_n (by omega)]; exact ht _ (by omega)
    rw [qt] at y
    exact absurd (Classical.not_not.1 y) (e4 (by omega))
  · intro i hi ih
    have z := e3 (p + i) (by omega) (by omega)
    have ei : (((p + i : Nat) : Int)).toNat = p + i := by omega
    have qt : mup g 86 48 ((p + i : Nat) : Int) 120 (p + i) = 32 := by rw [mup_n (by omega), ht _ (by omega)]; exact z
    have q44 : mup g 86 48 ((p + i : Nat) : Int) 86 44 = (n : Int) := by rw [mup_n (by omega)]; exact hn
    apply s_218_0
    rw [fl_87_44, fl_87_48, q44, mup_e, fl_87_43, ml_121, fl_121, ei, qt, up_87_48, mup_mup]
    refine ⟨mi_87, mi_87, fun y => absurd y (by omega), fun _ => ⟨mi_87, mi_87, mi_121, by omega, by omega, fun y => absurd rfl y, fun _ => ⟨mi_87, by unfold r32; omega, mi_87, ?_⟩⟩⟩
    apply s_218_35
    rw [show ((p + i : Nat) : Int) + 1 = ((p + (i + 1) : Nat) : Int) by omega]
    exact ih
theorem c219 (X : mX) (g : mF) (k s : Int) : Ret X 0 219 [(2, 87), (0, k), (0, s)] g (some (0, k)) (mup g 86 45 s) := by
  intro d Q hd hQ
  apply s_219_0
  rw [up_87_45]
  exact ⟨mi_87, hQ⟩
theorem c221 (X : mX) (g : mF) {a b c m e v4 v : Int} (ha : 0 ≤ a ∧ a ≤ 200) (hb : 0 ≤ b ∧ b ≤ 200) (hc : 0 ≤ c ∧ c ≤ 200) (hm : 0 ≤ m ∧ m ≤ 200) (he : 0 ≤ e ∧ e ≤ 200) (h4 : 27 * (27 * (27 * (a - 96) + b - 96) + c - 96) + m - 96 = v4) (h5 : e ≠ 0 → 27 * v4 + e - 96 = v) (h6 : ¬ e ≠ 0 → v4 = v) : Ret X 0 221 [(0, a), (0, b), (0, c), (0, m), (0, e), (3, 0), (3, 0)] g (some (1, v)) g := by
  intro d Q hd hQ
  apply s_221_0
  refine ⟨by unfold r64; omega, by unfold r64; omega, by unfold r64; omega, by unfold r64; omega, by unfold r64; omega, by unfold r64; omega, by unfold r64; omega, by unfold r64; omega, by unfold r64; omega, by unfold r64; omega, ?_⟩
  rw [h4]
  apply s_221_41
  refine ⟨fun z => ⟨by unfold r64; omega, by unfold r64; omega, by unfold r64; omega, ?_⟩, fun z => ?_⟩
  · rw [h5 z]
    exact hQ
  · rw [h6 z]
    exact hQ
theorem c222 (X : mX) (g : mF) {W : Int} (hW : g 86 49 = W) : Ret X 1 222 [(2, 87)] g (some (0, rof W)) g := by
  intro d Q hd hQ
  unfold rof at hQ
  apply s_222_0
  rw [fl_87_49, hW]
  refine ⟨mi_87, by omega, ?_⟩
  refine c221 X g (v4 := 43347) (v := 43347) (by decide) (by decide) (by decide) (by decide) (by decide) (by decide) (fun z => absurd rfl z) (fun _ => rfl) _ _ (by omega) ?_
  apply s_222_16
  refine ⟨fun z => ?_, fun z => ?_⟩
  · rw [if_neg (fun y => z (lcmp.2 y.symm))] at hQ
    rw [fl_87_49, hW]
    refine ⟨mi_87, by omega, ?_⟩
    refine c221 X g (v4 := 242954) (v := 6559778) (by decide) (by decide) (by decide) (by decide) (by decide) (by decide) (fun _ => by decide) (fun y => absurd (by decide) y) _ _ (by omega) ?_
    apply s_222_41
    refine ⟨fun z => ?_, fun z => ?_⟩
    · rw [if_neg (fun y => z (lcmp.2 y.symm))] at hQ
      rw [fl_87_49, hW]
      refine ⟨mi_87, by omega, ?_⟩
      refine c221 X g (v4 := 390884) (v := 10553884) (by decide) (by decide) (by decide) (by decide) (by decide) (by decide) (fun _ => by decide) (fun y => absurd (by decide) y) _ _ (by omega) ?_
      apply s_222_66
      refine ⟨fun z => ?_, fun z => ?_⟩
      · rw [if_neg (fun y => z (lcmp.2 y.symm))] at hQ
        rw [fl_87_49, hW]
        refine ⟨mi_87, by omega, ?_⟩
        refine c221 X g (v4 := 382865) (v := 10337371) (by decide) (by decide) (by decide) (by decide) (by decide) (by decide) (fun _ => by decide) (fun y => absurd (by decide) y) _ _ (by omega) ?_
        apply s_222_91
        refine ⟨fun z => ?_, fun z => ?_⟩
        · rw [if_neg (fun y => z (lcmp.2 y.symm))] at hQ
          rw [fl_87_49, hW]
          refine ⟨mi_87, by omega, ?_⟩
          refine c221 X g (v4 := 92434) (v := 92434) (by decide) (by decide) (by decide) (by decide) (by decide) (by decide) (fun z => absurd rfl z) (fun _ => rfl) _ _ (by omega) ?_
          apply s_222_115
          refine ⟨fun z => ?_, fun z => ?_⟩
          · rw [if_neg (fun y => z (lcmp.2 y.symm))] at hQ
            exact hQ
          · rw [if_pos (lcmp.1 (Classical.not_not.1 z)).symm] at hQ
            exact hQ
        · rw [if_pos (lcmp.1 (Classical.not_not.1 z)).symm] at hQ
          exact hQ
      · rw [if_pos (lcmp.1 (Classical.not_not.1 z)).symm] at hQ
        exact hQ
    · rw [if_pos (lcmp.1 (Classical.not_not.1 z)).symm] at hQ
      exact hQ
  · rw [if_pos (lcmp.1 (Classical.not_not.1 z)).symm] at hQ
    exact hQ
/-! the state of its reading -/
def Rfr (g0 g : mF) : Prop := ∀ o k, ¬ (o = 86 ∧ (k = 45 ∨ 48 ≤ k ∧ k ≤ 51) ∨ o = 122) → g o k = g0 o k
def RM (g0 g : mF) (p : Nat) (fr : Nat → Int) : Prop := Rfr g0 g ∧ g 86 45 = -1 ∧ g 86 48 = (p : Int) ∧ (∃ x : Int32, g 86 51 = x.toInt ∧ ∀ k, k < 12 → x.toBitVec.getLsbD k = decide (fr k ≠ -1)) ∧ ∀ k, k < 12 → g 122 k = if fr k = -1 then 0 else fr k
theorem RM_mv {g0 g g' : mF} {p p' : Nat} {fr : Nat → Int} (h : RM g0 g p fr) (hf : ∀ o k, ¬ (o = 86 ∧ 48 ≤ k ∧ k ≤ 50) → g' o k = g o k) (hp : g' 86 48 = (p' : Int)) : RM g0 g' p' fr := by
  obtain ⟨h1, h2, h3, h4, h5⟩ := h
  refine ⟨fun o k ho => ?_, ?_, hp, ?_, fun k hk => ?_⟩
  · rw [hf _ _ (by omega)]
    exact h1 o k ho
  · rw [hf _ _ (by omega)]
    exact h2
  · rw [hf 86 51 (by omega)]
    exact h4
  · rw [hf _ _ (by omega)]
    exact h5 k hk
theorem c220 (X : mX) (g : mF) {tx : Nat → Int} {n p : Nat} (ht : ∀ k, k < n → g 120 k = tx k) (hn : g 86 44 = (n : Int)) (hn160 : n ≤ 160) (hp : p ≤ n) (h48 : g 86 48 = (p : Int)) : Rel X 1 220 [(2, 87), (3, 0)] g (fun r g' => r = none ∧ (∀ o k, ¬ (o = 86 ∧ 48 ≤ k ∧ k ≤ 50) → g' o k = g o k) ∧ g' 86 48 = ((bend tx n p : Nat) : Int) ∧ g' 86 49 = rc (fun i => tx (bend tx n p + i)) (lend tx n (bend tx n p) - bend tx n p) ∧ g' 86 50 = ((lend tx n (bend tx n p) : Nat) : Int)) := by
  intro d Q hd hQ
  obtain ⟨b1, b2, b3, b4⟩ := bend_s (tx := tx) hp
  have c := c218 X g ht hn hn160 hp h48
  generalize bend tx n p = b at *
  obtain ⟨e1, e2, e3, e4⟩ := lend_s (tx := tx) b2
  have key := lup (P := fun m => ∀ (y : mV) (g' : mF), (∀ o k, ¬ (o = 86 ∧ 48 ≤ k ∧ k ≤ 50) → g' o k = g o k) → g' 86 48 = (b : Int) → g' 86 49 = rc (fun i => tx (b + i)) m → g' 86 50 = ((b + m : Nat) : Int) → Wp X d SH 220 18 [(2, 87), y] [] SH (fl g') Q) (lend tx n b - b) ?_ ?_ 0 (by omega)
  · generalize hg1 : mup g 86 48 (b : Int) = g1 at c
    generalize hg2 : mup g1 86 49 0 = g2
    generalize hg3 : mup g2 86 50 (b : Int) = g3
    have q2 : g2 86 48 = (b : Int) := by rw [← hg2, mup_n (by omega), ← hg1, mup_e]
    have k0 := fun y => key y g3 (fun o k ho => by rw [← hg3, mup_n (by omega), ← hg2, mup_n (by omega), ← hg1, mup_n (by omega)]) (by rw [← hg3, mup_n (by omega)]; exact q2) (by rw [← hg3, mup_n (by omega), ← hg2, mup_e] <;> rfl) (by rw [← hg3, mup_e] <;> rfl)
    apply s_220_0
    refine ⟨by omega, mi_87, ?_⟩
    refine c _ _ (by omega) ?_
    apply s_220_4
    rw [up_87_49, hg2]
    refine ⟨mi_87, ?_⟩
    apply s_220_10
    rw [fl_87_48, q2, up_87_50, hg3]
    exact ⟨mi_87, mi_87, k0 _⟩
  · intro y g' f1 f2 f3 f4
    rw [show b + (lend tx n b - b) = lend tx n b by omega] at f4
    have q0 := hQ none g' ⟨rfl, f1, f2, f3, f4⟩
    have eb : (((lend tx n b : Nat) : Int)).toNat = lend tx n b := by omega
    have q44 : g' 86 44 = (n : Int) := by rw [f1 _ _ (by omega)]; exact hn
    apply s_220_18
    rw [fl_87_44, q44, fl_87_50, f4, fl_87_43, ml_121, fl_121, eb]
    refine ⟨mi_87, mi_87, fun _ => q0, fun z => ⟨mi_87, mi_87, mi_121, by omega, by omega, by omega, ?_⟩⟩
    have qt : g' 120 (lend tx n b) = tx (lend tx n b) := by rw [f1 _ _ (by omega)]; exact ht _ (by omega)
    have c := c144 X g' (tx (lend tx n b)) 97 122
    rw [if_neg (e4 (by omega))] at c
    rw [qt]
    refine c _ _ (by omega) ?_
    apply s_220_48
    exact ⟨fun _ => q0, fun z => absurd rfl z⟩
  · intro m hm ih y g' f1 f2 f3 f4
    have z := e3 (b + m) (by omega) (by omega)
    have rb := rc_b (l := fun i => tx (b + i)) m (fun i hi => e3 (b + i) (by omega) (by omega))
    have eb : (((b + m : Nat) : Int)).toNat = b + m := by omega
    have q44 : g' 86 44 = (n : Int) := by rw [f1 _ _ (by omega)]; exact hn
    have qt : g' 120 (b + m) = tx (b + m) := by rw [f1 _ _ (by omega)]; exact ht _ (by omega)
    have c := c144 X g' (tx (b + m)) 97 122
    rw [if_pos z] at c
    have nx : ∀ v : Int, v = rc (fun i => tx (b + i)) (m + 1) → Wp X d SH 220 92 [(2, 87), y] [(1, v), (2, 87)] SH (fl g') Q := by
      intro v hv
      generalize hg1 : mup g' 86 49 v = g1
      have f50 : g1 86 50 = ((b + m : Nat) : Int) := by rw [← hg1, mup_n (by omega)]; exact f4
      have i0 := ih y (mup g1 86 50 (((b + m : Nat) : Int) + 1)) (fun o k ho => by rw [mup_n (by omega), ← hg1, mup_n (by omega)]; exact f1 o k ho) (by rw [mup_n (by omega), ← hg1, mup_n (by omega)]; exact f2) (by rw [mup_n (by omega), ← hg1, mup_e]; exact hv) (by rw [mup_e]; omega)
      apply s_220_92
      rw [up_87_49, hg1]
      refine ⟨mi_87, ?_⟩
      apply s_220_95
      rw [fl_87_50, f50, up_87_50]
      refine ⟨mi_87, by unfold r32; omega, mi_87, ?_⟩
      apply s_220_105
      exact i0
    have rs : rc (fun i => tx (b + i)) (m + 1) = if 100000000 < rc (fun i => tx (b + i)) m then 1000000000 else 27 * rc (fun i => tx (b + i)) m + tx (b + m) - 96 := rfl
    apply s_220_18
    rw [fl_87_44, q44, fl_87_50, f4, fl_87_43, ml_121, fl_121, eb, qt]
    refine ⟨mi_87, mi_87, fun y => absurd y (by omega), fun _ => ⟨mi_87, mi_87, mi_121, by omega, by omega, by omega, ?_⟩⟩
    refine c _ _ (by omega) ?_
    apply s_220_48
    rw [fl_87_49, f3, fl_87_50, f4, fl_87_43, ml_121, fl_121, eb, qt]
    refine ⟨fun y => absurd y (by decide), fun _ => ⟨mi_87, fun y => ?_, fun y => ?_⟩⟩
    · have hc := lcmp_le.1 y
      rw [if_neg hc] at rs
      refine ⟨mi_87, by unfold r64; omega, mi_87, mi_87, mi_121, by omega, by omega, by unfold r64; omega, by unfold r64; omega, ?_⟩
      exact nx _ rs.symm
    · have hc : 100000000 < rc (fun i => tx (b + i)) m := Classical.not_not.1 (fun x => y (lcmp_le.2 x))
      rw [if_pos hc] at rs
      exact nx _ rs.symm
