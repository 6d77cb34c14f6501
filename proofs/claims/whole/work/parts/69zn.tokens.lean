/-! the class reads a text -/
theorem lcmp {a b : Int} : (if a < b then (1 : Int) else if b = a then 0 else -1) = 0 ↔ a = b := by
  by_cases h : a < b
  · rw [if_pos h]
    constructor
    · intro x; exact absurd x (by decide)
    · intro x; omega
  · rw [if_neg h]
    by_cases h2 : b = a
    · rw [if_pos h2]
      exact ⟨fun _ => h2.symm, fun _ => rfl⟩
    · rw [if_neg h2]
      constructor
      · intro x; exact absurd x (by decide)
      · intro x; omega
theorem c49 (X : mX) (g : mF) (v : Int) : Ret X 0 49 [(0, v)] g (some (0, if 97 ≤ v ∧ v ≤ 122 then 1 else 0)) g := by
  intro d Q hd hQ
  apply s_49_0
  try simp only [true_and, and_true, true_or, or_true, implies_true, b10_0, b10_1]
  repeat' (first | refine And.intro ?_ ?_ | intro _)
  all_goals (try (first | omega | (unfold r32; omega) | exact hQ | exact qe hQ (by omega) | exact qe hQ (by (repeat' split) <;> omega) | exact b01 | exact n01 | exact n21 | exact n31 | exact absurd trivial (by assumption)))
theorem c50 (X : mX) (g : mF) (v : Int) : Ret X 0 50 [(0, v)] g (some (0, if 48 ≤ v ∧ v ≤ 57 then 1 else 0)) g := by
  intro d Q hd hQ
  apply s_50_0
  try simp only [true_and, and_true, true_or, or_true, implies_true, b10_0, b10_1]
  repeat' (first | refine And.intro ?_ ?_ | intro _)
  all_goals (try (first | omega | (unfold r32; omega) | exact hQ | exact qe hQ (by omega) | exact qe hQ (by (repeat' split) <;> omega) | exact b01 | exact n01 | exact n21 | exact n31 | exact absurd trivial (by assumption)))
theorem c52 (X : mX) (g : mF) (k s : Int) : Ret X 0 52 [(2, 50), (0, k), (0, s)] g none (mup (mup g 49 5 k) 49 2 s) := by
  intro d Q hd hQ
  apply s_52_0
  rw [up_50_5]
  refine ⟨mi_50, ?_⟩
  apply s_52_5
  rw [up_50_2]
  exact ⟨mi_50, hQ⟩
theorem c54 (X : mX) (g : mF) (x : Int) : Ret X 0 54 [(1, x), (3, 0), (3, 0)] g (some (0, wof x)) g := by
  intro d Q hd hQ
  have st : ∀ (i : Nat) (w : Int), i < 5 → mwl i = w → (x = w → Q (some (0, (i : Int))) (fl g)) → (x ≠ w → Wp X d SH 54 2 [(1, x), (3, 0), (0, ((i + 1 : Nat) : Int))] [] SH (fl g) Q) → Wp X d SH 54 2 [(1, x), (3, 0), (0, (i : Int))] [] SH (fl g) Q := by
    intro i w hi hw h1 h2
    have ei : ((i : Int)).toNat = i := by omega
    have e1 : (i : Int) + 1 = ((i + 1 : Nat) : Int) := by omega
    refine s_54_2 n31 ⟨rfl, fun z => absurd z (by omega), fun _ => ⟨rfl, by omega, by omega, fun z => ⟨by unfold r32; omega, ?_⟩, fun z => ?_⟩⟩
    · rw [ei, hw] at z
      rw [e1]
      exact h2 (fun y => z (lcmp.2 y))
    · rw [ei, hw] at z
      exact h1 (lcmp.1 (Classical.not_not.1 z))
  unfold wof at hQ
  refine s_54_0 n31 ?_
  refine st 0 1650814060 (by decide) rfl (fun y => by rw [if_pos y] at hQ; exact hQ) (fun y0 => ?_)
  rw [if_neg y0] at hQ
  refine st 1 465624852596 (by decide) rfl (fun y => by rw [if_pos y] at hQ; exact hQ) (fun y1 => ?_)
  rw [if_neg y1] at hQ
  refine st 2 495924372848 (by decide) rfl (fun y => by rw [if_pos y] at hQ; exact hQ) (fun y2 => ?_)
  rw [if_neg y2] at hQ
  refine st 3 495739823472 (by decide) rfl (fun y => by rw [if_pos y] at hQ; exact hQ) (fun y3 => ?_)
  rw [if_neg y3] at hQ
  refine st 4 1685222765 (by decide) rfl (fun y => by rw [if_pos y] at hQ; exact hQ) (fun y4 => ?_)
  rw [if_neg y4] at hQ
  exact s_54_2 n31 ⟨rfl, fun _ => hQ, fun z => absurd (by decide) z⟩
/-- where a token ends -/
def tke (tx : Nat → Int) (n p : Nat) : Nat := if 97 ≤ tx p ∧ tx p ≤ 122 then lend tx n p else if 48 ≤ tx p ∧ tx p ≤ 57 then fend tx n p else p + 1
theorem c51 (X : mX) (g : mF) {tx : Nat → Int} {n p : Nat} (ht : ∀ k, g 51 k = tx k) (hn : g 49 1 = (n : Int)) (hn160 : n ≤ 160) (hp : p < n) : Ret X 1 51 [(2, 50), (0, (p : Int)), (3, 0)] g (some (0, ((tke tx n p : Nat) : Int))) g := by
  intro d Q hd hQ
  unfold tke at hQ
  have ep : ((p : Int)).toNat = p := by omega
  have cl := c49 X g (tx p)
  have cf := c50 X g (tx p)
  apply s_51_0
  rw [fl_50_3, ml_52, fl_52, ep, ht]
  refine ⟨by unfold r32; omega, mi_50, mi_52, by omega, by omega, by omega, ?_⟩
  by_cases hl : 97 ≤ tx p ∧ tx p ≤ 122
  · rw [if_pos hl] at cl hQ
    have h1 := lend_1 hp hl
    obtain ⟨e1, e2, e3, e4⟩ := lend_s (tx := tx) (Nat.le_of_lt hp)
    have key := lup (P := fun i => Wp X d SH 51 16 [(2, 50), (0, (p : Int)), (0, ((p + 1 + i : Nat) : Int))] [] SH (fl g) Q) (lend tx n p - (p + 1)) ?_ ?_ 0 (by omega)
    · have k0 := key
      rw [show ((p + 1 + 0 : Nat) : Int) = (p : Int) + 1 by omega] at k0
      refine cl _ _ (by omega) ?_
      apply s_51_13
      exact ⟨fun z => absurd z (by decide), fun _ => k0⟩
    · rw [show p + 1 + (lend tx n p - (p + 1)) = lend tx n p by omega]
      apply s_51_16
      rw [fl_50_1, hn, fl_50_3, ml_52, fl_52, show (((lend tx n p : Nat) : Int)).toNat = lend tx n p by omega, ht]
      refine ⟨mi_50, fun _ => hQ, fun z => ⟨mi_50, mi_52, by omega, by omega, by omega, ?_⟩⟩
      have c := c49 X g (tx (lend tx n p))
      rw [if_neg (e4 (by omega))] at c
      refine c _ _ (by omega) ?_
      refine s_51_33 n01 ?_
      exact ⟨fun _ => hQ, fun z => absurd rfl z⟩
    · intro i hi ih
      have z := e3 (p + 1 + i) (by omega) (by omega)
      have c := c49 X g (tx (p + 1 + i))
      rw [if_pos z] at c
      apply s_51_16
      rw [fl_50_1, hn, fl_50_3, ml_52, fl_52, show (((p + 1 + i : Nat) : Int)).toNat = p + 1 + i by omega, ht]
      refine ⟨mi_50, fun z => absurd z (by omega), fun _ => ⟨mi_50, mi_52, by omega, by omega, by omega, ?_⟩⟩
      refine c _ _ (by omega) ?_
      refine s_51_33 n01 ?_
      refine ⟨fun z => absurd z (by decide), fun _ => ⟨by unfold r32; omega, ?_⟩⟩
      rw [show ((p + 1 + i : Nat) : Int) + 1 = ((p + 1 + (i + 1) : Nat) : Int) by omega]
      exact ih
  · rw [if_neg hl] at cl hQ
    refine cl _ _ (by omega) ?_
    apply s_51_13
    rw [fl_50_3, ml_52, fl_52, ep, ht]
    refine ⟨fun _ => ⟨mi_50, mi_52, by omega, by omega, by omega, ?_⟩, fun z => absurd rfl z⟩
    by_cases hf : 48 ≤ tx p ∧ tx p ≤ 57
    · rw [if_pos hf] at cf hQ
      have h1 := fend_1 hp hf
      obtain ⟨e1, e2, e3, e4⟩ := fend_s (tx := tx) (Nat.le_of_lt hp)
      have key := lup (P := fun i => Wp X d SH 51 54 [(2, 50), (0, (p : Int)), (0, ((p + 1 + i : Nat) : Int))] [] SH (fl g) Q) (fend tx n p - (p + 1)) ?_ ?_ 0 (by omega)
      · have k0 := key
        rw [show ((p + 1 + 0 : Nat) : Int) = (p : Int) + 1 by omega] at k0
        refine cf _ _ (by omega) ?_
        apply s_51_51
        exact ⟨fun z => absurd z (by decide), fun _ => k0⟩
      · rw [show p + 1 + (fend tx n p - (p + 1)) = fend tx n p by omega]
        apply s_51_54
        rw [fl_50_1, hn, fl_50_3, ml_52, fl_52, show (((fend tx n p : Nat) : Int)).toNat = fend tx n p by omega, ht]
        refine ⟨mi_50, fun _ => hQ, fun z => ⟨mi_50, mi_52, by omega, by omega, by omega, ?_⟩⟩
        have c := c50 X g (tx (fend tx n p))
        rw [if_neg (e4 (by omega))] at c
        refine c _ _ (by omega) ?_
        refine s_51_71 n01 ?_
        exact ⟨fun _ => hQ, fun z => absurd rfl z⟩
      · intro i hi ih
        have z := e3 (p + 1 + i) (by omega) (by omega)
        have c := c50 X g (tx (p + 1 + i))
        rw [if_pos z] at c
        apply s_51_54
        rw [fl_50_1, hn, fl_50_3, ml_52, fl_52, show (((p + 1 + i : Nat) : Int)).toNat = p + 1 + i by omega, ht]
        refine ⟨mi_50, fun z => absurd z (by omega), fun _ => ⟨mi_50, mi_52, by omega, by omega, by omega, ?_⟩⟩
        refine c _ _ (by omega) ?_
        refine s_51_71 n01 ?_
        refine ⟨fun z => absurd z (by decide), fun _ => ⟨by unfold r32; omega, ?_⟩⟩
        rw [show ((p + 1 + i : Nat) : Int) + 1 = ((p + 1 + (i + 1) : Nat) : Int) by omega]
        exact ih
    · rw [if_neg hf] at cf hQ
      refine cf _ _ (by omega) ?_
      apply s_51_51
      exact ⟨fun _ => hQ, fun z => absurd rfl z⟩
/-! the state of the reading -/
def Cfr (g0 g : mF) : Prop := ∀ o k, ¬ (o = 49 ∧ (k = 2 ∨ 5 ≤ k ∧ k ≤ 8) ∨ o = 52) → g o k = g0 o k
def CM (g0 g : mF) (st : Int) (fr : Nat → Int) (cw : Nat) (cl : Int) : Prop := Cfr g0 g ∧ g 49 2 = -1 ∧ g 49 5 = 0 ∧ g 49 6 = st ∧ g 49 7 = cl ∧ (st = 2 ∨ st = 3 → g 49 8 = (cw : Int)) ∧ ∀ k, k < 12 → g 52 k = fr k
def OKS (p : Nat) (st : Int) (fr : Nat → Int) (cw : Nat) (cl : Int) : Prop := (0 ≤ st ∧ st ≤ 3) ∧ cw < 12 ∧ (∀ k, k < 12 → -1 ≤ fr k ∧ fr k ≤ 31) ∧ (st = 2 ∨ st = 3 → 0 ≤ fr cw) ∧ 0 ≤ cl ∧ cl ≤ (p : Int)
def TK (tx : Nat → Int) (n t : Nat) (R : Int × Int × Int × (Nat → Int)) (e : Nat) (g0 g : mF) : Prop := ((1 ≤ R.1 ∧ R.1 ≤ 4) ∧ g 49 5 = R.1 ∧ g 49 2 = R.2.1 ∧ Cfr g0 g ∧ 0 ≤ R.2.1 ∧ R.2.1 ≤ 160) ∨ ∃ st fr cw cl, CM g0 g st fr cw cl ∧ OKS e st fr cw cl ∧ RD tx n t e st fr cw cl = R
theorem TK_bad {tx : Nat → Int} {n t e : Nat} {R : Int × Int × Int × (Nat → Int)} {g0 g : mF} (hf : Cfr g0 g) {k s : Int} (hk : 1 ≤ k ∧ k ≤ 4) (hs : 0 ≤ s ∧ s ≤ 160) {c : Int} {f : Nat → Int} (hR : (k, s, c, f) = R) : TK tx n t R e g0 (mup (mup g 49 5 k) 49 2 s) := by
  subst hR
  refine Or.inl ⟨hk, ?_, mup_e, fun o j ho => ?_, hs⟩
  · rw [mup_n (by omega), mup_e]
  · rw [mup_n (by omega), mup_n (by omega)]
    exact hf o j ho
theorem c53 (X : mX) {g0 g : mF} {tx : Nat → Int} {n t p cw : Nat} {st cl : Int} {fr : Nat → Int} {R : Int × Int × Int × (Nat → Int)} (ht : ∀ k, g0 51 k = tx k) (hn160 : n ≤ 160) (hM : CM g0 g st fr cw cl) (hO : OKS p st fr cw cl) (hp : p < n) (hl : 97 ≤ tx p ∧ tx p ≤ 122) (hR : RD tx n (t + 1) p st fr cw cl = R) : Rel X 2 53 [(2, 50), (0, (p : Int)), (0, ((lend tx n p : Nat) : Int)), (3, 0), (3, 0), (3, 0)] g (fun r g' => r = none ∧ TK tx n t R (lend tx n p) g0 g') := by
  intro d Q hd hQ
  obtain ⟨f0, m2, m5, m6, m7, m8, m52⟩ := hM
  obtain ⟨o1, o2, o3, o4, o5, o6⟩ := hO
  obtain ⟨e1, e2, e3, e4⟩ := lend_s (tx := tx) (Nat.le_of_lt hp)
  have h1 := lend_1 hp hl
  have tq : ∀ k, g 51 k = tx k := fun k => by rw [f0 _ _ (by omega)]; exact ht k
  have hw : ∀ m, m ≤ lend tx n p - p → ∀ i, i < m → 97 ≤ tx (p + i) ∧ tx (p + i) ≤ 122 := fun m hm i hi => e3 (p + i) (by omega) (by omega)
  -- the word's end
  have bad : ∀ v5 : mV, (1, (p : Int), cl, fr) = R → Wp X d SH 53 68 [(2, 50), (0, (p : Int)), (0, ((lend tx n p : Nat) : Int)), (1, WC tx p (lend tx n p)), (3, 0), v5] [(0, -1)] SH (fl g) Q := by
    intro v5 hb
    refine s_53_68 n31 ⟨fun z => absurd rfl z, fun _ => ⟨by omega, mi_50, ?_⟩⟩
    refine c52 X g _ _ _ _ (by omega) ?_
    apply s_53_82
    exact hQ none _ ⟨rfl, TK_bad f0 (by decide) (by omega) hb⟩
  have no : ∀ v5 : mV, ¬ (st = 0 ∧ WC tx p (lend tx n p) = 512736125800) → Wp X d SH 53 52 [(2, 50), (0, (p : Int)), (0, ((lend tx n p : Nat) : Int)), (1, WC tx p (lend tx n p)), (3, 0), v5] [] SH (fl g) Q := by
    intro v5 hno
    apply s_53_52
    rw [fl_50_6, m6]
    refine ⟨mi_50, fun z => ?_, fun z => ⟨by omega, ?_⟩⟩
    · exact bad v5 (by rw [← hR, rd_wx hp hl hno (fun x => z x.1)])
    · have s2 : st = 2 := Classical.not_not.1 z
      refine c54 X g _ _ _ (by omega) ?_
      apply s_53_64
      by_cases hx : wof (WC tx p (lend tx n p)) = -1
      · rw [hx]
        exact bad v5 (by rw [← hR, rd_wx hp hl hno (fun x => x.2 hx)])
      · have wb := (wof_b (x := WC tx p (lend tx n p))).resolve_left hx
        have ecw : ((cw : Int)).toNat = cw := by omega
        have hfr := o3 cw o2
        have hfc := o4 (Or.inl s2)
        have g8 := m8 (Or.inl s2)
        have gf := m52 cw o2
        have bb := wo_b (x := fr cw) (w := wof (WC tx p (lend tx n p))) (by omega) wb
        refine s_53_68 n31 ⟨fun _ => ?_, fun z => absurd hx z⟩
        rw [fl_50_4, fl_50_8, g8, ecw, fl_53, gf, ml_53, up_53]
        refine ⟨mi_50, mi_50, mi_53, by omega, by omega, fun hb => ⟨mi_50, mi_50, mi_53, by omega, by omega, mi_53, by omega, by omega, ?_⟩, fun hb => ⟨by omega, mi_50, ?_⟩⟩
        · have hb0 : bitO (fr cw) (wof (WC tx p (lend tx n p))) = 0 := hb
          have rr := rd_w2 (t := t) (cl := cl) hp hl ⟨s2, hx⟩ hb0
          apply s_53_127
          rw [up_50_6]
          refine ⟨mi_50, hQ none _ ⟨rfl, Or.inr ⟨3, rfr fr cw (orO (fr cw) (wof (WC tx p (lend tx n p)))), cw, cl, ⟨fun o k ho => ?_, ?_, ?_, mup_e, ?_, fun _ => ?_, fun k hk => ?_⟩, ⟨by decide, o2, fun k hk => ?_, fun _ => ?_, o5, by omega⟩, ?_⟩⟩⟩
          · rw [mup_n (by omega), mup_n (by omega)]
            exact f0 o k ho
          · rw [mup_n (by omega), mup_n (by omega)]
            exact m2
          · rw [mup_n (by omega), mup_n (by omega)]
            exact m5
          · rw [mup_n (by omega), mup_n (by omega)]
            exact m7
          · rw [mup_n (by omega), mup_n (by omega)]
            exact g8
          · rw [mup_n (by omega)]
            by_cases hkc : k = cw
            · rw [hkc, mup_e, rfr_e] <;> rfl
            · rw [mup_n (by omega), rfr_n hkc]
              exact m52 k hk
          · by_cases hkc : k = cw
            · rw [hkc, rfr_e]
              omega
            · rw [rfr_n hkc]
              exact o3 k hk
          · rw [rfr_e]
            omega
          · rw [← rr]
            exact hR
        · have hb0 : ¬ bitO (fr cw) (wof (WC tx p (lend tx n p))) = 0 := hb
          refine c52 X g _ _ _ _ (by omega) ?_
          apply s_53_108
          exact hQ none _ ⟨rfl, TK_bad f0 (by decide) (by omega) (show ((4 : Int), (p : Int), cl, fr) = R by rw [← hR, rd_w4 hp hl ⟨s2, hx⟩ hb0])⟩
  have key := lup (P := fun m => Wp X d SH 53 5 [(2, 50), (0, (p : Int)), (0, ((lend tx n p : Nat) : Int)), (1, wc (fun i => tx (p + i)) m), (3, 0), (0, ((p + m : Nat) : Int))] [] SH (fl g) Q) (lend tx n p - p) ?_ ?_ 0 (by omega)
  · have k0 := key
    rw [Nat.add_zero] at k0
    apply s_53_0
    exact k0
  · rw [show p + (lend tx n p - p) = lend tx n p by omega]
    show Wp X d SH 53 5 [(2, 50), (0, (p : Int)), (0, ((lend tx n p : Nat) : Int)), (1, WC tx p (lend tx n p)), (3, 0), (0, ((lend tx n p : Nat) : Int))] [] SH (fl g) Q
    apply s_53_5
    rw [fl_50_6, m6, up_50_6]
    refine ⟨fun _ => ⟨mi_50, fun z => no _ (fun x => z x.1), fun z => ⟨fun y => no _ (fun x => y (lcmp.2 x.2.symm)), fun y => ⟨mi_50, ?_⟩⟩⟩, fun z => absurd (Int.le_refl _) z⟩
    have s0 : st = 0 := Classical.not_not.1 z
    have w0 : WC tx p (lend tx n p) = 512736125800 := (lcmp.1 (Classical.not_not.1 y)).symm
    have rr := rd_w0 (t := t) (fr := fr) (cw := cw) (cl := cl) hp hl ⟨s0, w0⟩
    refine hQ none _ ⟨rfl, Or.inr ⟨1, fr, cw, cl, ⟨fun o k ho => ?_, ?_, ?_, mup_e, ?_, fun x => absurd x (by decide), fun k hk => ?_⟩, ⟨by decide, o2, o3, fun x => absurd x (by decide), o5, by omega⟩, ?_⟩⟩
    · rw [mup_n (by omega)]
      exact f0 o k ho
    · rw [mup_n (by omega)]
      exact m2
    · rw [mup_n (by omega)]
      exact m5
    · rw [mup_n (by omega)]
      exact m7
    · rw [mup_n (by omega)]
      exact m52 k hk
    · rw [← rr]
      exact hR
  · intro m hm ih
    have wb := wc_b (l := fun i => tx (p + i)) m (hw m (by omega))
    have lb := hw (m + 1) (by omega) m (by omega)
    have s8 := shl8 (w := wc (fun i => tx (p + i)) m) (b := tx (p + m)) (by omega) (by omega) (by omega)
    have nx : Wp X d SH 53 25 [(2, 50), (0, (p : Int)), (0, ((lend tx n p : Nat) : Int)), (1, wc (fun i => tx (p + i)) (m + 1)), (3, 0), (0, ((p + m : Nat) : Int))] [] SH (fl g) Q := by
      refine s_53_25 n31 ⟨by unfold r32; omega, ?_⟩
      rw [show ((p + m : Nat) : Int) + 1 = ((p + (m + 1) : Nat) : Int) by omega]
      exact ih
    apply s_53_5
    rw [fl_50_3, ml_52, fl_52, show (((p + m : Nat) : Int)).toNat = p + m by omega, tq, s8]
    exact ⟨fun z => absurd z (by omega), fun _ => ⟨mi_50, mi_52, by omega, by omega, nx⟩⟩
theorem c55 (X : mX) {g0 g : mF} {tx : Nat → Int} {n t p cw : Nat} {st cl : Int} {fr : Nat → Int} {R : Int × Int × Int × (Nat → Int)} (ht : ∀ k, g0 51 k = tx k) (hn160 : n ≤ 160) (hM : CM g0 g st fr cw cl) (hO : OKS p st fr cw cl) (hp : p < n) (hf : 48 ≤ tx p ∧ tx p ≤ 57) (hR : RD tx n (t + 1) p st fr cw cl = R) : Rel X 2 55 [(2, 50), (0, (p : Int)), (0, ((fend tx n p : Nat) : Int)), (3, 0)] g (fun r g' => r = none ∧ TK tx n t R (fend tx n p) g0 g') := by
  intro d Q hd hQ
  obtain ⟨f0, m2, m5, m6, m7, m8, m52⟩ := hM
  obtain ⟨o1, o2, o3, o4, o5, o6⟩ := hO
  obtain ⟨e1, e2, e3, e4⟩ := fend_s (tx := tx) (Nat.le_of_lt hp)
  have h1 := fend_1 hp hf
  have tq : ∀ k, g 51 k = tx k := fun k => by rw [f0 _ _ (by omega)]; exact ht k
  have ep : ((p : Int)).toNat = p := by omega
  have ep1 : ((p : Int) + 1).toNat = p + 1 := by omega
  -- the number is read
  have val : ∀ v : Int, st = 1 → v = num tx p (fend tx n p - p) → Wp X d SH 55 49 [(2, 50), (0, (p : Int)), (0, ((fend tx n p : Nat) : Int)), (0, v)] [] SH (fl g) Q := by
    intro v s1 hv
    subst s1
    have n0 : 0 ≤ num tx p (fend tx n p - p) := by
      unfold num
      by_cases h2 : fend tx n p - p = 2
      · rw [if_pos h2]
        have := e3 (p + 1) (by omega) (by omega)
        omega
      · rw [if_neg h2]
        omega
    rw [← hv] at n0
    have big : (2 < fend tx n p - p ∨ 12 ≤ num tx p (fend tx n p - p)) → Wp X d SH 55 62 [(2, 50), (0, (p : Int)), (0, ((fend tx n p : Nat) : Int)), (0, v)] [] SH (fl g) Q := by
      intro hb
      apply s_55_62
      refine ⟨by omega, mi_50, ?_⟩
      refine c52 X g _ _ _ _ (by omega) ?_
      apply s_55_68
      exact hQ none _ ⟨rfl, TK_bad f0 (by decide) (by omega) (show ((2 : Int), (p : Int), cl, fr) = R by rw [← hR, rd_n2 hp hf hb])⟩
    apply s_55_49
    refine ⟨by unfold r32; omega, fun z => big (Or.inl (by omega)), fun z => ⟨fun y => ?_, fun y => big (Or.inr (by omega))⟩⟩
    obtain ⟨u, rfl⟩ : ∃ u : Nat, v = (u : Int) := ⟨v.toNat, by omega⟩
    have eu : ((u : Int)).toNat = u := by omega
    have hg : ¬ (2 < fend tx n p - p ∨ 12 ≤ num tx p (fend tx n p - p)) := by omega
    rw [fl_50_4, ml_53, fl_53, eu, m52 u (by omega), up_53]
    refine ⟨mi_50, mi_53, by omega, by omega, fun x => ⟨mi_50, mi_53, by omega, by omega, ?_⟩, fun x => ⟨by omega, mi_50, ?_⟩⟩
    · have rr := rd_n0 (t := t) (fr := fr) (cw := cw) (cl := cl) hp hf hg (by rw [← hv, eu]; exact x)
      rw [← hv, eu] at rr
      apply s_55_97
      rw [up_50_8]
      refine ⟨mi_50, ?_⟩
      apply s_55_102
      rw [up_50_6]
      refine ⟨mi_50, hQ none _ ⟨rfl, Or.inr ⟨2, rfr fr u 0, u, cl, ⟨fun o k ho => ?_, ?_, ?_, mup_e, ?_, fun _ => ?_, fun k hk => ?_⟩, ⟨by decide, by omega, fun k hk => ?_, fun _ => ?_, o5, by omega⟩, ?_⟩⟩⟩
      · rw [mup_n (by omega), mup_n (by omega), mup_n (by omega)]
        exact f0 o k ho
      · rw [mup_n (by omega), mup_n (by omega), mup_n (by omega)]
        exact m2
      · rw [mup_n (by omega), mup_n (by omega), mup_n (by omega)]
        exact m5
      · rw [mup_n (by omega), mup_n (by omega), mup_n (by omega)]
        exact m7
      · rw [mup_n (by omega), mup_e]
      · rw [mup_n (by omega), mup_n (by omega)]
        by_cases hku : k = u
        · rw [hku, mup_e, rfr_e]
        · rw [mup_n (by omega), rfr_n hku]
          exact m52 k hk
      · by_cases hku : k = u
        · rw [hku, rfr_e]
          decide
        · rw [rfr_n hku]
          exact o3 k hk
      · rw [rfr_e]
        decide
      · rw [← rr]
        exact hR
    · have rr := rd_n3 (t := t) (fr := fr) (cw := cw) (cl := cl) hp hf hg (by rw [← hv, eu]; exact x)
      refine c52 X g _ _ _ _ (by omega) ?_
      apply s_55_87
      exact hQ none _ ⟨rfl, TK_bad f0 (by decide) (by omega) (show ((3 : Int), (p : Int), cl, fr) = R by rw [← hR, rr])⟩
  apply s_55_0
  rw [fl_50_6, m6, fl_50_3, ml_52, fl_52, fl_52, ep, ep1, tq, tq]
  refine ⟨mi_50, fun s1 => ⟨mi_50, mi_52, by omega, by omega, by unfold r32; omega, by unfold r32; omega, fun z => ?_, fun z => ?_⟩, fun s1 => ⟨by omega, mi_50, ?_⟩⟩
  · exact val _ s1 (by unfold num; rw [if_neg (by omega)])
  · have hd2 := e3 (p + 1) (by omega) (by omega)
    refine ⟨by unfold r32; omega, mi_50, by unfold r32; omega, mi_52, by omega, by omega, by unfold r32; omega, by unfold r32; omega, ?_⟩
    exact val _ s1 (by unfold num; rw [if_pos (by omega)])
  · refine c52 X g _ _ _ _ (by omega) ?_
    apply s_55_14
    exact hQ none _ ⟨rfl, TK_bad f0 (by decide) (by omega) (show ((1 : Int), (p : Int), cl, fr) = R by rw [← hR, rd_n1 hp hf s1])⟩
theorem c56 (X : mX) {g0 g : mF} {tx : Nat → Int} {n t p cw : Nat} {st cl : Int} {fr : Nat → Int} {R : Int × Int × Int × (Nat → Int)} (ht : ∀ k, g0 51 k = tx k) (hn160 : n ≤ 160) (hM : CM g0 g st fr cw cl) (hO : OKS p st fr cw cl) (hp : p < n) (hl : ¬ (97 ≤ tx p ∧ tx p ≤ 122)) (hf : ¬ (48 ≤ tx p ∧ tx p ≤ 57)) (hbl : ¬ tx p = 32) (hR : RD tx n (t + 1) p st fr cw cl = R) : Rel X 1 56 [(2, 50), (0, (p : Int))] g (fun r g' => r = none ∧ TK tx n t R (p + 1) g0 g') := by
  intro d Q hd hQ
  obtain ⟨f0, m2, m5, m6, m7, m8, m52⟩ := hM
  obtain ⟨o1, o2, o3, o4, o5, o6⟩ := hO
  have tq : ∀ k, g 51 k = tx k := fun k => by rw [f0 _ _ (by omega)]; exact ht k
  have ep : ((p : Int)).toNat = p := by omega
  have bad : ¬ (st = 3 ∧ tx p = 44) → ¬ (st = 3 ∧ tx p = 59) → Wp X d SH 56 64 [(2, 50), (0, (p : Int))] [] SH (fl g) Q := by
    intro h1 h2
    apply s_56_64
    refine ⟨by omega, mi_50, ?_⟩
    refine c52 X g _ _ _ _ (by omega) ?_
    apply s_56_70
    exact hQ none _ ⟨rfl, TK_bad f0 (by decide) (by omega) (show ((1 : Int), (p : Int), cl, fr) = R by rw [← hR, rd_x hp hl hf hbl h1 h2])⟩
  have semi : ¬ (st = 3 ∧ tx p = 44) → Wp X d SH 56 27 [(2, 50), (0, (p : Int))] [] SH (fl g) Q := by
    intro h1
    apply s_56_27
    rw [fl_50_6, m6, fl_50_3, ml_52, fl_52, ep, tq, up_50_6]
    refine ⟨mi_50, fun z => bad h1 (fun x => z x.1), fun z => ⟨mi_50, mi_52, by omega, by omega, fun y => bad h1 (fun x => y x.2), fun y => ⟨mi_50, ?_⟩⟩⟩
    have rr := rd_s (t := t) (fr := fr) (cw := cw) (cl := cl) hp ⟨Classical.not_not.1 z, Classical.not_not.1 y⟩
    have q7 : mup g 49 6 0 49 7 = cl := by rw [mup_n (by omega)]; exact m7
    apply s_56_51
    rw [fl_50_7, q7, up_50_7]
    refine ⟨mi_50, by unfold r32; omega, mi_50, ?_⟩
    apply s_56_61
    apply s_56_70
    refine hQ none _ ⟨rfl, Or.inr ⟨0, fr, cw, cl + 1, ⟨fun o k ho => ?_, ?_, ?_, ?_, mup_e, fun x => absurd x (by decide), fun k hk => ?_⟩, ⟨by decide, o2, o3, fun x => absurd x (by decide), by omega, by omega⟩, ?_⟩⟩
    · rw [mup_n (by omega), mup_n (by omega)]
      exact f0 o k ho
    · rw [mup_n (by omega), mup_n (by omega)]
      exact m2
    · rw [mup_n (by omega), mup_n (by omega)]
      exact m5
    · rw [mup_n (by omega), mup_e]
    · rw [mup_n (by omega), mup_n (by omega)]
      exact m52 k hk
    · rw [← rr]
      exact hR
  apply s_56_0
  rw [fl_50_6, m6, fl_50_3, ml_52, fl_52, ep, tq, up_50_6]
  refine ⟨mi_50, fun z => semi (fun x => z x.1), fun z => ⟨mi_50, mi_52, by omega, by omega, fun y => semi (fun x => y x.2), fun y => ⟨mi_50, ?_⟩⟩⟩
  have s3 : st = 3 := Classical.not_not.1 z
  have rr := rd_c (t := t) (fr := fr) (cw := cw) (cl := cl) hp ⟨s3, Classical.not_not.1 y⟩
  apply s_56_24
  apply s_56_70
  refine hQ none _ ⟨rfl, Or.inr ⟨2, fr, cw, cl, ⟨fun o k ho => ?_, ?_, ?_, mup_e, ?_, fun _ => ?_, fun k hk => ?_⟩, ⟨by decide, o2, o3, fun _ => o4 (Or.inr s3), o5, by omega⟩, ?_⟩⟩
  · rw [mup_n (by omega)]
    exact f0 o k ho
  · rw [mup_n (by omega)]
    exact m2
  · rw [mup_n (by omega)]
    exact m5
  · rw [mup_n (by omega)]
    exact m7
  · rw [mup_n (by omega)]
    exact m8 (Or.inr s3)
  · rw [mup_n (by omega)]
    exact m52 k hk
  · rw [← rr]
    exact hR
/-- what the class has when it is through -/
def CE (R : Int × Int × Int × (Nat → Int)) (g0 g : mF) : Prop := Cfr g0 g ∧ g 49 5 = R.1 ∧ g 49 2 = R.2.1 ∧ (0 ≤ R.1 ∧ R.1 ≤ 4) ∧ (-1 ≤ R.2.1 ∧ R.2.1 ≤ 160) ∧ (R.1 = 0 → g 49 7 = R.2.2.1 ∧ ∀ k, k < 12 → g 52 k = R.2.2.2 k ∧ -1 ≤ R.2.2.2 k ∧ R.2.2.2 k ≤ 31)
theorem c48l (X : mX) {g0 : mF} {tx : Nat → Int} {n : Nat} {R : Int × Int × Int × (Nat → Int)} (ht : ∀ k, g0 51 k = tx k) (hn : g0 49 1 = (n : Int)) (hn160 : n ≤ 160) {d : Nat} {Q : mQ} (hd : 3 ≤ d) (hQ : ∀ g, CE R g0 g → Q none (fl g)) : ∀ (t p : Nat) (st : Int) (fr : Nat → Int) (cw : Nat) (cl tok : Int) (v3 : mV) (g : mF), n < t + p → p ≤ n → 0 ≤ tok → tok ≤ (p : Int) → CM g0 g st fr cw cl → OKS p st fr cw cl → RD tx n t p st fr cw cl = R → Wp X d SH 48 4 [(2, 50), (0, (p : Int)), (0, tok), v3] [] SH (fl g) Q := by
  intro t
  induction t with
  | zero => intro p st fr cw cl tok v3 g h1 h2; exact absurd h2 (by omega)
  | succ t ih =>
    intro p st fr cw cl tok v3 g h1 h2 k0 k1 hM hO hR
    obtain ⟨f0, m2, m5, m6, m7, m8, m52⟩ := id hM
    obtain ⟨o1, o2, o3, o4, o5, o6⟩ := id hO
    have tq : ∀ k, g 51 k = tx k := fun k => by rw [f0 _ _ (by omega)]; exact ht k
    have nq : g 49 1 = (n : Int) := by rw [f0 _ _ (by omega)]; exact hn
    have ep : ((p : Int)).toNat = p := by omega
    have ends : ∀ v3 : mV, n ≤ p → Wp X d SH 48 99 [(2, 50), (0, (p : Int)), (0, tok), v3] [] SH (fl g) Q := by
      intro v3 hnp
      apply s_48_99
      rw [fl_50_6, m6, fl_50_1, nq]
      refine ⟨mi_50, fun z => ?_, fun z => ⟨mi_50, by omega, mi_50, ?_⟩⟩
      · subst z
        apply s_48_115
        rw [rd_e0 hnp] at hR
        subst hR
        exact hQ g ⟨f0, m5, m2, ⟨by show (0 : Int) ≤ 0; decide, by show (0 : Int) ≤ 4; decide⟩, ⟨by show (-1 : Int) ≤ -1; decide, by show (-1 : Int) ≤ 160; decide⟩, fun _ => ⟨m7, fun k hk => ⟨m52 k hk, o3 k hk⟩⟩⟩
      · rw [rd_e1 hnp z] at hR
        subst hR
        refine c52 X g _ _ _ _ (by omega) ?_
        apply s_48_115
        refine hQ _ ⟨fun o k ho => ?_, ?_, mup_e, ⟨by show (0 : Int) ≤ 1; decide, by show (1 : Int) ≤ 4; decide⟩, ⟨by show (-1 : Int) ≤ (n : Int); omega, by show (n : Int) ≤ 160; omega⟩, fun x => absurd (show (1 : Int) = 0 from x) (by decide)⟩
        · rw [mup_n (by omega), mup_n (by omega)]
          exact f0 o k ho
        · rw [mup_n (by omega), mup_e]
    apply s_48_4
    rw [fl_50_1, nq]
    refine ⟨fun z => ends _ (by omega), fun z => ⟨mi_50, fun y => ends _ (by omega), fun y => ⟨by omega, mi_50, ?_⟩⟩⟩
    have hp : p < n := by omega
    -- behind a token
    have more : ∀ (e : Nat) (v1 : mV) (g' : mF), p < e → e ≤ n → TK tx n t R e g0 g' → Wp X d SH 48 83 [(2, 50), v1, (0, tok), (0, (e : Int))] [] SH (fl g') Q := by
      intro e v1 g' he hen hT
      apply s_48_83
      rw [fl_50_5]
      rcases hT with ⟨a1, a2, a3, a4, a5⟩ | ⟨st', fr', cw', cl', b1, b2, b3⟩
      · rw [a2]
        exact ⟨mi_50, fun x => absurd x (by omega), fun _ => hQ g' ⟨a4, a2, a3, by omega, by omega, fun x => absurd x (by omega)⟩⟩
      · rw [b1.2.2.1]
        refine ⟨mi_50, fun _ => ⟨by unfold r32; omega, ?_⟩, fun x => absurd rfl x⟩
        exact ih e st' fr' cw' cl' (tok + 1) _ g' (by omega) hen (by omega) (by omega) b1 b2 b3
    refine c51 X g tq nq hn160 hp _ _ (by omega) ?_
    apply s_48_24
    rw [fl_50_3, ml_52, fl_52, ep, tq]
    refine ⟨mi_50, mi_52, by omega, by omega, by omega, ?_⟩
    have cl49 := c49 X g (tx p)
    have cl50 := c50 X g (tx p)
    unfold tke
    by_cases hl : 97 ≤ tx p ∧ tx p ≤ 122
    · rw [if_pos hl] at cl49 ⊢
      refine cl49 _ _ (by omega) ?_
      apply s_48_34
      refine ⟨fun x => absurd x (by decide), fun _ => ⟨by omega, mi_50, ?_⟩⟩
      refine c53 X ht hn160 hM hO hp hl hR _ _ (by omega) ?_
      rintro _ g' ⟨rfl, hT⟩
      apply s_48_43
      exact more _ _ g' (lend_1 hp hl) (lend_s (Nat.le_of_lt hp)).2.1 hT
    · rw [if_neg hl] at cl49 ⊢
      refine cl49 _ _ (by omega) ?_
      apply s_48_34
      rw [fl_50_3, ml_52, fl_52, ep, tq]
      refine ⟨fun _ => ⟨mi_50, mi_52, by omega, by omega, by omega, ?_⟩, fun x => absurd rfl x⟩
      by_cases hf : 48 ≤ tx p ∧ tx p ≤ 57
      · rw [if_pos hf] at cl50 ⊢
        refine cl50 _ _ (by omega) ?_
        apply s_48_55
        refine ⟨fun x => absurd x (by decide), fun _ => ⟨by omega, mi_50, ?_⟩⟩
        refine c55 X ht hn160 hM hO hp hf hR _ _ (by omega) ?_
        rintro _ g' ⟨rfl, hT⟩
        apply s_48_64
        exact more _ _ g' (fend_1 hp hf) (fend_s (Nat.le_of_lt hp)).2.1 hT
      · rw [if_neg hf] at cl50 ⊢
        refine cl50 _ _ (by omega) ?_
        apply s_48_55
        rw [fl_50_3, ml_52, fl_52, ep, tq]
        refine ⟨fun _ => ⟨mi_50, mi_52, by omega, by omega, fun x => ?_, fun x => ⟨by omega, mi_50, ?_⟩⟩, fun x => absurd rfl x⟩
        · refine more (p + 1) _ g (by omega) (by omega) (Or.inr ⟨st, fr, cw, cl, hM, ⟨o1, o2, o3, o4, o5, by omega⟩, ?_⟩)
          rw [← rd_b hp x]
          exact hR
        · refine c56 X ht hn160 hM hO hp hl hf x hR _ _ (by omega) ?_
          rintro _ g' ⟨rfl, hT⟩
          exact more (p + 1) _ g' (by omega) (by omega) hT
