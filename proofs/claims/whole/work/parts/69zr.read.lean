/-! read -/
def rdv (R : Int × Int × Int × (Nat → Int)) : Int := if R.1 = 0 then R.2.2.1 else -10 - R.1
theorem c47 (X : mX) (g : mF) {n : Nat} {R : Int × Int × Int × (Nat → Int)} (hn : g 49 1 = (n : Int)) (hn160 : n ≤ 160) (hR : RD (g 51) n (n + 1) 0 0 (fun _ => -1) 0 0 = R) : Rel X 5 47 [(2, 50), (3, 0)] g (fun r g' => r = some (0, rdv R) ∧ (∀ o k, ¬ (o = 49 ∨ o = 50 ∨ o = 52) → g' o k = g o k) ∧ g' 49 1 = 0 ∧ g' 49 2 = R.2.1 ∧ (0 ≤ R.1 ∧ R.1 ≤ 4) ∧ (-1 ≤ R.2.1 ∧ R.2.1 ≤ 160) ∧ (R.1 = 0 → ∀ k, k < 12 → g' 50 k = max (R.2.2.2 k) 0 ∧ -1 ≤ R.2.2.2 k ∧ R.2.2.2 k ≤ 31) ∧ (R.1 ≠ 0 → ∀ k, g' 50 k = g 50 k)) := by
  intro d Q hd hQ
  generalize hm1 : mup g 49 2 (-1) = m1
  generalize hm2 : mup m1 49 5 0 = m2
  generalize hm3 : mup m2 49 6 0 = m3
  generalize hm4 : mup m3 49 7 0 = m4
  have cf := c232 X m4 (R := 53) (o := 52) (N := 12) mi_53 ml_53 (fun g i x => up_53 g i x) (by omega) (-1)
  generalize hm5 : mfl m4 52 0 12 (-1) = m5 at cf
  have f4 : ∀ o k, ¬ (o = 49 ∧ (k = 2 ∨ 5 ≤ k ∧ k ≤ 8)) → m4 o k = g o k := fun o k ho => by rw [← hm4, mup_n (by omega), ← hm3, mup_n (by omega), ← hm2, mup_n (by omega), ← hm1, mup_n (by omega)]
  have M : CM g m5 0 (fun _ => -1) 0 0 := by
    refine ⟨fun o k ho => ?_, ?_, ?_, ?_, ?_, fun x => absurd x (by decide), fun k hk => ?_⟩
    · rw [← hm5, mfl_n (by omega)]
      exact f4 o k (by omega)
    · rw [← hm5, mfl_n (by omega), ← hm4, mup_n (by omega), ← hm3, mup_n (by omega), ← hm2, mup_n (by omega), ← hm1, mup_e]
    · rw [← hm5, mfl_n (by omega), ← hm4, mup_n (by omega), ← hm3, mup_n (by omega), ← hm2, mup_e]
    · rw [← hm5, mfl_n (by omega), ← hm4, mup_n (by omega), ← hm3, mup_e]
    · rw [← hm5, mfl_n (by omega), ← hm4, mup_e]
    · rw [← hm5, mfl_e (by omega)]
  -- behind the reading
  have rest : ∀ g5, CE R g g5 → Wp X d SH 47 32 [(2, 50), (3, 0)] [] SH (fl g5) Q := by
    intro g5 hC
    obtain ⟨c1, c2, c3, c4, c5, c6⟩ := hC
    generalize hg6 : mup g5 49 1 0 = g6
    have f6 : ∀ o k, ¬ (o = 49 ∧ k = 1) → g6 o k = g5 o k := fun o k ho => by rw [← hg6, mup_n (by omega)]
    have q1 : g6 49 1 = 0 := by rw [← hg6, mup_e]
    have q5 : g6 49 5 = R.1 := by rw [f6 _ _ (by omega)]; exact c2
    apply s_47_32
    rw [up_50_1, hg6]
    refine ⟨mi_50, ?_⟩
    apply s_47_37
    rw [fl_50_5, q5]
    refine ⟨mi_50, fun z => ?_, fun z => ⟨mi_50, by unfold r32; omega, ?_⟩⟩
    · obtain ⟨c7, c8⟩ := c6 z
      have key := lup (P := fun i => ∀ g' : mF, (∀ o k, ¬ (o = 50 ∧ k < i) → g' o k = g6 o k) → (∀ k, k < i → g' 50 k = max (R.2.2.2 k) 0) → Wp X d SH 47 54 [(2, 50), (0, (i : Int))] [] SH (fl g') Q) 12 ?_ ?_ 0 (by omega)
      · exact key g6 (fun _ _ _ => rfl) (fun k hk => absurd hk (by omega))
      · intro g' w1 w2
        have q7 : g' 49 7 = R.2.2.1 := by rw [w1 _ _ (by omega), f6 _ _ (by omega)]; exact c7
        have q0 := hQ (some (0, rdv R)) g' ⟨rfl, fun o k ho => by rw [w1 _ _ (by omega), f6 _ _ (by omega)]; exact c1 o k (by omega), by rw [w1 _ _ (by omega)]; exact q1, by rw [w1 _ _ (by omega), f6 _ _ (by omega)]; exact c3, c4, c5, fun _ k hk => ⟨w2 k hk, (c8 k hk).2⟩, fun y => absurd z y⟩
        unfold rdv at q0
        rw [if_pos z] at q0
        apply s_47_54
        rw [fl_50_7, q7]
        exact ⟨fun _ => ⟨mi_50, q0⟩, fun y => absurd (by decide) y⟩
      · intro i hi ih g' w1 w2
        have ei : ((i : Int)).toNat = i := by omega
        have q52 : g' 52 i = R.2.2.2 i := by rw [w1 _ _ (by omega), f6 _ _ (by omega)]; exact (c8 i hi).1
        have nx := ih (mup g' 50 i (max (R.2.2.2 i) 0)) (fun o k ho => by rw [mup_n (by omega)]; exact w1 o k (by omega)) (fun k hk => by
          by_cases hki : k = i
          · rw [hki, mup_e]
          · rw [mup_n (by omega)]
            exact w2 k (by omega))
        rw [show ((i + 1 : Nat) : Int) = (i : Int) + 1 by omega] at nx
        apply s_47_54
        rw [fl_50_4, fl_50_0, ml_53, ml_51, fl_53, ei, q52, up_51]
        refine ⟨fun y => absurd y (by omega), fun _ => ⟨mi_50, mi_50, mi_53, by omega, by omega, by omega, mi_51, by omega, by omega, ?_⟩⟩
        apply s_47_76
        exact ⟨by unfold r32; omega, nx⟩
    · have q0 := hQ (some (0, rdv R)) g6 ⟨rfl, fun o k ho => by rw [f6 _ _ (by omega)]; exact c1 o k (by omega), q1, by rw [f6 _ _ (by omega)]; exact c3, c4, c5, fun y => absurd y z, fun _ k => by rw [f6 _ _ (by omega)]; exact c1 50 k (by omega)⟩
      unfold rdv at q0
      rw [if_neg z] at q0
      exact q0
  apply s_47_0
  rw [up_50_2, hm1]
  refine ⟨mi_50, ?_⟩
  apply s_47_5
  rw [up_50_5, hm2]
  refine ⟨mi_50, ?_⟩
  apply s_47_10
  rw [up_50_6, hm3]
  refine ⟨mi_50, ?_⟩
  apply s_47_15
  rw [up_50_7, hm4]
  refine ⟨mi_50, ?_⟩
  apply s_47_20
  rw [fl_50_4]
  refine ⟨mi_50, by omega, ?_⟩
  refine cf _ _ (by omega) ?_
  apply s_47_28
  refine ⟨by omega, mi_50, ?_⟩
  apply s_48_0
  exact c48l X (g0 := g) (tx := g 51) (fun _ => rfl) hn hn160 (by omega) rest (n + 1) 0 0 (fun _ => -1) 0 0 0 _ m5 (by omega) (by omega) (by decide) (by decide) M ⟨by decide, by decide, fun _ _ => ⟨by show (-1 : Int) ≤ -1; decide, by show (-1 : Int) ≤ 31; decide⟩, fun x => absurd x (by decide), by decide, by decide⟩ hR
/-- what the reference has behind its clauses -/
def ME (R : Int × Int × Int × (Nat → Int)) (g0 g : mF) (x1 x2 : Int) : Prop := Rfr g0 g ∧ g 86 45 = R.2.1 ∧ R.1 = x2 ∧ (R.1 = 0 → x1 = R.2.2.1 ∧ ∀ k, k < 12 → g 122 k = if R.2.2.2 k = -1 then 0 else R.2.2.2 k)
theorem c224l (X : mX) {g0 : mF} {tx : Nat → Int} {n : Nat} {R : Int × Int × Int × (Nat → Int)} (ht : ∀ k, k < n → g0 120 k = tx k) (htb : ∀ k, k < n → 0 ≤ tx k) (hn : g0 86 44 = (n : Int)) (hn160 : n ≤ 160) {d : Nat} {Q : mQ} (hd : 7 ≤ d) (hQ : ∀ g x1 x2, ME R g0 g x1 x2 → Wp X d SH 224 62 [(2, 87), (0, x1), (0, x2), (3, 0)] [] SH (fl g) Q) : ∀ (N t p : Nat) (fr : Nat → Int) (cw : Nat) (cl : Int) (g : mF), n - p < N → n < t + p → p ≤ n → RM g0 g p fr → OKS p 0 fr cw cl → RD tx n t p 0 fr cw cl = R → Wp X d SH 224 40 [(2, 87), (0, cl), (0, 0), (3, 0)] [] SH (fl g) Q := by
  intro N
  induction N with
  | zero => intro t p fr cw cl g h; exact absurd h (by omega)
  | succ N ih =>
    intro t p fr cw cl g hN h1 h2 hM hO hR
    obtain ⟨o1, o2, o3, o4, o5, o6⟩ := id hO
    have gt : ∀ {g' : mF} {p' : Nat} {fr' : Nat → Int}, RM g0 g' p' fr' → (∀ k, k < n → g' 120 k = tx k) ∧ g' 86 44 = (n : Int) := fun h => ⟨fun k hk => by rw [h.1 _ _ (by omega)]; exact ht k hk, by rw [h.1 _ _ (by omega)]; exact hn⟩
    obtain ⟨t1, hR1, hf1⟩ := rd_go (tx := tx) (st := 0) (fr := fr) (cw := cw) (cl := cl) h2 h1
    rw [hR] at hR1
    obtain ⟨b1, b2, b3, b4⟩ := bend_s (tx := tx) h2
    have cb := c218 X g (gt hM).1 (gt hM).2 hn160 h2 hM.2.2.1
    generalize bend tx n p = b at *
    have M1 : RM g0 (mup g 86 48 (b : Int)) b fr := RM_mv hM (fun o k ho => mup_n (by omega)) mup_e
    generalize mup g 86 48 (b : Int) = g1 at cb M1
    apply s_224_40
    refine ⟨fun z => absurd rfl z, fun _ => ⟨by omega, mi_87, ?_⟩⟩
    refine cb _ _ (by omega) ?_
    apply s_224_48
    by_cases hbn : b < n
    · have tb := htb b hbn
      rw [if_pos hbn]
      refine ⟨fun z => absurd z (by omega), fun _ => ⟨by omega, mi_87, ?_⟩⟩
      refine c223 X ht hn hn160 M1 (p := b) (cw := cw) (cl := cl) ⟨o1, o2, o3, o4, o5, by omega⟩ hR1 (by omega) hbn (b4 hbn) _ _ (by omega) ?_
      rintro _ g2 ⟨v, rfl, hv⟩
      apply s_224_55
      refine ⟨by unfold r32; omega, ?_⟩
      rcases hv with ⟨v1, v2, v3, v4, v5⟩ | ⟨rfl, t', p', fr', cw', w1, w2, w3, w4, w5, w6⟩
      · apply s_224_40
        refine ⟨fun _ => ?_, fun z => absurd z (fun x => x (by omega))⟩
        exact hQ g2 _ _ ⟨v5, v4, v3, fun x => absurd x (by omega)⟩
      · exact ih t' p' fr' cw' (cl + 1) g2 (by omega) w4 w5 w1 w2 w3
    · rw [if_neg hbn]
      refine ⟨fun _ => ?_, fun z => absurd (by decide) z⟩
      rw [rd_e0 (by omega)] at hR1
      subst hR1
      exact hQ g1 _ _ ⟨M1.1, M1.2.1, rfl, fun _ => ⟨rfl, M1.2.2.2.2⟩⟩
theorem c224 (X : mX) (g : mF) {tx : Nat → Int} {n : Nat} {R : Int × Int × Int × (Nat → Int)} (ht : ∀ k, k < n → g 120 k = tx k) (htb : ∀ k, k < n → 0 ≤ tx k) (hn : g 86 44 = (n : Int)) (hn160 : n ≤ 160) (hR : RD tx n (n + 1) 0 0 (fun _ => -1) 0 0 = R) (hR4 : 0 ≤ R.1 ∧ R.1 ≤ 4) : Rel X 7 224 [(2, 87), (3, 0), (3, 0), (3, 0)] g (fun r g' => r = some (0, rdv R) ∧ (∀ o k, ¬ (o = 86 ∧ (k = 44 ∨ k = 45 ∨ 48 ≤ k ∧ k ≤ 51) ∨ o = 121 ∨ o = 122) → g' o k = g o k) ∧ g' 86 44 = 0 ∧ g' 86 45 = R.2.1 ∧ (R.1 = 0 → ∀ k, k < 12 → g' 121 k = if R.2.2.2 k = -1 then 0 else R.2.2.2 k) ∧ (R.1 ≠ 0 → ∀ k, g' 121 k = g 121 k)) := by
  intro d Q hd hQ
  generalize hm1 : mup g 86 45 (-1) = m1
  generalize hm2 : mup m1 86 48 0 = m2
  generalize hm3 : mup m2 86 51 0 = m3
  generalize hm4 : mfl m3 122 0 12 0 = m4
  have f3 : ∀ o k, ¬ (o = 86 ∧ (k = 45 ∨ k = 48 ∨ k = 51)) → m3 o k = g o k := fun o k ho => by rw [← hm3, mup_n (by omega), ← hm2, mup_n (by omega), ← hm1, mup_n (by omega)]
  have M : RM g m4 0 (fun _ => -1) := by
    refine ⟨fun o k ho => ?_, ?_, ?_, ⟨Int32.ofInt 0, ?_, fun k hk => ?_⟩, fun k hk => ?_⟩
    · rw [← hm4, mfl_n (by omega)]
      exact f3 o k (by omega)
    · rw [← hm4, mfl_n (by omega), ← hm3, mup_n (by omega), ← hm2, mup_n (by omega), ← hm1, mup_e]
    · rw [← hm4, mfl_n (by omega), ← hm3, mup_n (by omega), ← hm2, mup_e]
      rfl
    · rw [← hm4, mfl_n (by omega), ← hm3, mup_e]
      rfl
    · rw [nil_bk (by omega)]
      rfl
    · rw [← hm4, mfl_e (by omega)]
      rfl
  -- behind the clauses
  have rest : ∀ g5 x1 x2, ME R g g5 x1 x2 → Wp X d SH 224 62 [(2, 87), (0, x1), (0, x2), (3, 0)] [] SH (fl g5) Q := by
    intro g5 x1 x2 hC
    obtain ⟨c1, c2, c3, c4⟩ := hC
    generalize hg6 : mup g5 86 44 0 = g6
    have f6 : ∀ o k, ¬ (o = 86 ∧ k = 44) → g6 o k = g5 o k := fun o k ho => by rw [← hg6, mup_n (by omega)]
    have q1 : g6 86 44 = 0 := by rw [← hg6, mup_e]
    apply s_224_62
    rw [up_87_44, hg6]
    refine ⟨mi_87, ?_⟩
    apply s_224_67
    refine ⟨fun z => ?_, fun z => ⟨by unfold r32; omega, ?_⟩⟩
    · have z0 : R.1 = 0 := by omega
      obtain ⟨c5, c6⟩ := c4 z0
      have key := lup (P := fun i => ∀ g' : mF, (∀ o k, ¬ (o = 121 ∧ k < i) → g' o k = g6 o k) → (∀ k, k < i → g' 121 k = if R.2.2.2 k = -1 then 0 else R.2.2.2 k) → Wp X d SH 224 78 [(2, 87), (0, x1), (0, x2), (0, (i : Int))] [] SH (fl g') Q) 12 ?_ ?_ 0 (by omega)
      · exact key g6 (fun _ _ _ => rfl) (fun k hk => absurd hk (by omega))
      · intro g' w1 w2
        have q0 := hQ (some (0, rdv R)) g' ⟨rfl, fun o k ho => by rw [w1 _ _ (by omega), f6 _ _ (by omega)]; exact c1 o k (by omega), by rw [w1 _ _ (by omega)]; exact q1, by rw [w1 _ _ (by omega), f6 _ _ (by omega)]; exact c2, fun _ k hk => w2 k hk, fun y => absurd z0 y⟩
        unfold rdv at q0
        rw [if_pos z0, ← c5] at q0
        apply s_224_78
        exact ⟨fun _ => q0, fun y => absurd (by decide) y⟩
      · intro i hi ih g' w1 w2
        have ei : ((i : Int)).toNat = i := by omega
        have q122 : g' 122 i = if R.2.2.2 i = -1 then 0 else R.2.2.2 i := by rw [w1 _ _ (by omega), f6 _ _ (by omega)]; exact c6 i hi
        have nx := ih (mup g' 121 i (if R.2.2.2 i = -1 then 0 else R.2.2.2 i)) (fun o k ho => by rw [mup_n (by omega)]; exact w1 o k (by omega)) (fun k hk => by
          by_cases hki : k = i
          · rw [hki, mup_e]
          · rw [mup_n (by omega)]
            exact w2 k (by omega))
        rw [show ((i + 1 : Nat) : Int) = (i : Int) + 1 by omega] at nx
        apply s_224_78
        rw [fl_87_47, fl_87_46, ml_123, ml_122, fl_123, ei, q122, up_122]
        refine ⟨fun y => absurd y (by omega), fun _ => ⟨mi_87, mi_87, mi_123, by omega, by omega, mi_122, by omega, by omega, ?_⟩⟩
        refine s_224_96 n01 ?_
        exact ⟨by unfold r32; omega, nx⟩
    · have z0 : ¬ R.1 = 0 := by omega
      have q0 := hQ (some (0, rdv R)) g6 ⟨rfl, fun o k ho => by rw [f6 _ _ (by omega)]; exact c1 o k (by omega), q1, by rw [f6 _ _ (by omega)]; exact c2, fun y => absurd y z0, fun _ k => by rw [f6 _ _ (by omega)]; exact c1 121 k (by omega)⟩
      unfold rdv at q0
      rw [if_neg z0, c3] at q0
      exact q0
  have lp := c224l X ht htb hn hn160 (by omega) rest (n + 1) (n + 1) 0 (fun _ => -1) 0 0 m4 (by omega) (by omega) (by omega) M ⟨by decide, by decide, fun _ _ => ⟨by show (-1 : Int) ≤ -1; decide, by show (-1 : Int) ≤ 31; decide⟩, fun x => absurd x (by decide), by decide, by decide⟩ hR
  have key := lup (P := fun i => Wp X d SH 224 17 [(2, 87), (0, (i : Int)), (3, 0), (3, 0)] [] SH (fl (mfl m3 122 0 i 0)) Q) 12 ?_ ?_ 0 (by omega)
  · rw [mfl_0] at key
    apply s_224_0
    rw [up_87_45, hm1]
    refine ⟨mi_87, ?_⟩
    apply s_224_5
    rw [up_87_48, hm2]
    refine ⟨mi_87, ?_⟩
    apply s_224_10
    rw [up_87_51, hm3]
    refine ⟨mi_87, ?_⟩
    apply s_224_15
    exact key
  · rw [hm4]
    apply s_224_17
    exact ⟨fun _ => lp, fun y => absurd (by decide) y⟩
  · intro i hi ih
    apply s_224_17
    rw [fl_87_47, ml_123, up_123, show ((i : Int)).toNat = 0 + i by omega, mfl_s]
    refine ⟨fun y => absurd y (by omega), fun _ => ⟨mi_87, mi_123, by omega, by omega, ?_⟩⟩
    rw [show ((i + 1 : Nat) : Int) = (i : Int) + 1 by omega] at ih
    apply s_224_30
    exact ⟨by unfold r32; omega, ih⟩
/-- read -/
theorem T_read (X : mX) (g : mF) (hI : Irule g) : PR X 125 224 [(2, 1)] [(2, 87), (3, 0), (3, 0), (3, 0)] g (fun g2 => Irule g2 ∧ Chg (fun o k => o = 49 ∨ o = 50 ∨ o = 52 ∨ o = 86 ∧ (k = 44 ∨ k = 45 ∨ 48 ≤ k ∧ k ≤ 51) ∨ o = 121 ∨ o = 122) g g2) := by
  obtain ⟨hr, h44, hL0, hL1, htx, h45, hp0, hp1⟩ := id hI
  obtain ⟨n, hL⟩ : ∃ n : Nat, g 49 1 = (n : Int) := ⟨(g 49 1).toNat, by omega⟩
  intro d Q hd hQ
  generalize hR : RD (g 51) n (n + 1) 0 0 (fun _ => -1) 0 0 = R
  apply s_125_0
  rw [fl_1_6]
  refine ⟨mi_1, by omega, mi_50, ?_⟩
  refine c47 X g hL (by omega) hR _ _ (by omega) ?_
  rintro _ g1 ⟨rfl, a1, a2, a3, a4, a5, a6, a7⟩
  apply s_125_7
  refine hQ _ g1 ⟨rdv R, rfl, ?_⟩
  clear hQ
  intro d Q hd hQ
  refine c224 X g1 (tx := g 51) (n := n) (R := R) (fun k hk => ?_) (fun k hk => ?_) ?_ (by omega) hR a4 _ _ (by omega) ?_
  · rw [a1 _ _ (by omega)]
    exact (htx k (by omega)).1
  · exact (htx k (by omega)).2.1
  · rw [a1 _ _ (by omega), h44, hL]
  · rintro _ g2 ⟨rfl, b1, b2, b3, b4, b5⟩
    have fo : ∀ o k, ¬ (o = 49 ∨ o = 50 ∨ o = 52 ∨ o = 86 ∧ (k = 44 ∨ k = 45 ∨ 48 ≤ k ∧ k ≤ 51) ∨ o = 121 ∨ o = 122) → g2 o k = g o k := fun o k ho => by rw [b1 _ _ (by omega), a1 _ _ (by omega)]
    have l2 : g2 49 1 = 0 := by rw [b1 _ _ (by omega)]; exact a2
    have p2 : g2 49 2 = R.2.1 := by rw [b1 _ _ (by omega)]; exact a3
    refine hQ _ g2 ⟨rfl, ⟨fun k hk => ?_, by rw [b2, l2], by omega, by omega, fun j hj => absurd hj (by omega), by rw [b3, p2], by omega, by omega⟩, fo⟩
    rw [b1 50 k (by omega)]
    by_cases hz : R.1 = 0
    · obtain ⟨z1, z2, z3⟩ := a6 hz k hk
      rw [z1, b4 hz k hk]
      by_cases hm : R.2.2.2 k = -1
      · rw [hm, if_pos rfl]
        decide
      · rw [if_neg hm, Int.max_eq_left (by omega)]
        exact ⟨rfl, by omega, by omega⟩
    · rw [b5 hz k, a7 hz k, a1 121 k (by omega)]
      exact hr k hk
