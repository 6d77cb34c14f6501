/-! the reference reads a clause -/
theorem rd_y2 {tx : Nat → Int} {n t p : Nat} {fr : Nat → Int} {cw : Nat} {cl : Int} (hp : p ≤ n) (hb : n ≤ p ∨ ¬ tx p = 32) (hx : wof (WC tx p (lend tx n p)) = -1) : RD tx n (t + 1) p 2 fr cw cl = (1, (p : Int), cl, fr) := by
  by_cases h : n ≤ p
  · rw [rd_e1 h (by decide), show n = p by omega]
  · have hlt : p < n := by omega
    by_cases hl : 97 ≤ tx p ∧ tx p ≤ 122
    · exact rd_wx hlt hl (fun x => absurd x.1 (by decide)) (fun x => x.2 hx)
    · by_cases hf : 48 ≤ tx p ∧ tx p ≤ 57
      · exact rd_n1 hlt hf (by decide)
      · exact rd_x hlt hl hf (hb.resolve_left h) (fun x => absurd x.1 (by decide)) (fun x => absurd x.1 (by decide))
theorem rd_y3 {tx : Nat → Int} {n t p : Nat} {fr : Nat → Int} {cw : Nat} {cl : Int} (hp : p ≤ n) (hb : n ≤ p ∨ ¬ tx p = 32) (hc : n ≤ p ∨ ¬ tx p = 44) (hs : n ≤ p ∨ ¬ tx p = 59) : RD tx n (t + 1) p 3 fr cw cl = (1, (p : Int), cl, fr) := by
  by_cases h : n ≤ p
  · rw [rd_e1 h (by decide), show n = p by omega]
  · have hlt : p < n := by omega
    by_cases hl : 97 ≤ tx p ∧ tx p ≤ 122
    · exact rd_wx hlt hl (fun x => absurd x.1 (by decide)) (fun x => absurd x.1 (by decide))
    · by_cases hf : 48 ≤ tx p ∧ tx p ≤ 57
      · exact rd_n1 hlt hf (by decide)
      · exact rd_x hlt hl hf (hb.resolve_left h) (fun x => (hc.resolve_left h) x.2) (fun x => (hs.resolve_left h) x.2)
theorem rd_y0 {tx : Nat → Int} {n t p : Nat} {fr : Nat → Int} {cw : Nat} {cl : Int} (hp : p < n) (hb : ¬ tx p = 32) (hx : ¬ WC tx p (lend tx n p) = 512736125800) : RD tx n (t + 1) p 0 fr cw cl = (1, (p : Int), cl, fr) := by
  by_cases hl : 97 ≤ tx p ∧ tx p ≤ 122
  · exact rd_wx hp hl (fun x => hx x.2) (fun x => absurd x.1 (by decide))
  · by_cases hf : 48 ≤ tx p ∧ tx p ≤ 57
    · exact rd_n1 hp hf (by decide)
    · exact rd_x hp hl hf hb (fun x => absurd x.1 (by decide)) (fun x => absurd x.1 (by decide))
theorem rd_y1 {tx : Nat → Int} {n t p : Nat} {fr : Nat → Int} {cw : Nat} {cl : Int} (hp : p ≤ n) (hb : n ≤ p ∨ ¬ tx p = 32) (hf : n ≤ p ∨ ¬ (48 ≤ tx p ∧ tx p ≤ 57)) : RD tx n (t + 1) p 1 fr cw cl = (1, (p : Int), cl, fr) := by
  by_cases h : n ≤ p
  · rw [rd_e1 h (by decide), show n = p by omega]
  · have hlt : p < n := by omega
    by_cases hl : 97 ≤ tx p ∧ tx p ≤ 122
    · exact rd_wx hlt hl (fun x => absurd x.1 (by decide)) (fun x => absurd x.1 (by decide))
    · exact rd_x hlt hl (hf.resolve_left h) (hb.resolve_left h) (fun x => absurd x.1 (by decide)) (fun x => absurd x.1 (by decide))
/-- a word's number is none of a word's if it is empty -/
theorem WC_pos {tx : Nat → Int} {n p : Nat} (hp : p ≤ n) (h : ¬ wof (WC tx p (lend tx n p)) = -1 ∨ WC tx p (lend tx n p) = 512736125800) : p < n ∧ (97 ≤ tx p ∧ tx p ≤ 122) := by
  obtain ⟨e1, e2, e3, e4⟩ := lend_s (tx := tx) hp
  by_cases e : lend tx n p = p
  · have z : WC tx p (lend tx n p) = 0 := by
      unfold WC
      rw [e, Nat.sub_self]
      rfl
    rw [z] at h
    rcases h with h | h
    · exact absurd (by decide) h
    · exact absurd h (by decide)
  · exact ⟨by omega, e3 p (by omega) (by omega)⟩
theorem wr_p {tx : Nat → Int} {n p : Nat} (hp : p ≤ n) : rof (rc (fun i => tx (p + i)) (lend tx n p - p)) = wof (WC tx p (lend tx n p)) ∧ (rc (fun i => tx (p + i)) (lend tx n p - p) = 12257495 ↔ WC tx p (lend tx n p) = 512736125800) := by
  obtain ⟨e1, e2, e3, e4⟩ := lend_s (tx := tx) hp
  exact wr (l := fun i => tx (p + i)) (lend tx n p - p) (fun i hi => e3 (p + i) (by omega) (by omega))
theorem bend_i {tx : Nat → Int} {n p : Nat} (hp : p ≤ n) : n ≤ bend tx n p ∨ ¬ tx (bend tx n p) = 32 := by
  obtain ⟨b1, b2, b3, b4⟩ := bend_s (tx := tx) hp
  by_cases h : bend tx n p < n
  · exact Or.inr (b4 h)
  · exact Or.inl (by omega)
/-- what a clause leaves -/
def RK (tx : Nat → Int) (n p0 : Nat) (R : Int × Int × Int × (Nat → Int)) (cl : Int) (g0 : mF) (r : Option mV) (g : mF) : Prop := ∃ v : Int, r = some (0, v) ∧ (1 ≤ v ∧ v ≤ 4 ∧ R.1 = v ∧ g 86 45 = R.2.1 ∧ Rfr g0 g ∨ v = 0 ∧ ∃ t p fr cw, RM g0 g p fr ∧ OKS p 0 fr cw (cl + 1) ∧ RD tx n t p 0 fr cw (cl + 1) = R ∧ n < t + p ∧ p ≤ n ∧ p0 < p)
theorem RK_bad {tx : Nat → Int} {n p0 p : Nat} {R : Int × Int × Int × (Nat → Int)} {cl : Int} {g0 g : mF} {fr : Nat → Int} (hM : RM g0 g p fr) {k s c : Int} {f : Nat → Int} (hk : 1 ≤ k ∧ k ≤ 4) (hR : (k, s, c, f) = R) : RK tx n p0 R cl g0 (some (0, k)) (mup g 86 45 s) := by
  subst hR
  refine ⟨k, rfl, Or.inl ⟨hk.1, hk.2, rfl, mup_e, fun o j ho => ?_⟩⟩
  rw [mup_n (by omega)]
  exact hM.1 o j ho
theorem c223l (X : mX) {g0 : mF} {tx : Nat → Int} {n p0 : Nat} {R : Int × Int × Int × (Nat → Int)} {cl : Int} (ht : ∀ k, k < n → g0 120 k = tx k) (hn : g0 86 44 = (n : Int)) (hn160 : n ≤ 160) {d : Nat} {Q : mQ} (hd : 4 ≤ d) (hQ : ∀ r g, RK tx n p0 R cl g0 r g → Q r (fl g)) : ∀ (N t p : Nat) (fr : Nat → Int) (cw : Nat) (v1 v4 : mV) (x3 : Int) (g : mF), n - p < N → n < t + p → p ≤ n → p0 < p → x3 ≠ 0 → RM g0 g p fr → OKS p 2 fr cw cl → RD tx n t p 2 fr cw cl = R → Wp X d SH 223 203 [(2, 87), v1, (0, (cw : Int)), (0, x3), v4] [] SH (fl g) Q := by
  intro N
  induction N with
  | zero => intro t p fr cw v1 v4 x3 g h; exact absurd h (by omega)
  | succ N ih =>
    intro t p fr cw v1 v4 x3 g hN h1 h2 hp0 h3 hM hO hR
    obtain ⟨o1, o2, o3, o4, o5, o6⟩ := id hO
    have hfc := o4 (Or.inl rfl)
    have hfb := o3 cw o2
    have ecw : ((cw : Int)).toNat = cw := by omega
    have gt : ∀ {g' : mF} {p' : Nat} {fr' : Nat → Int}, RM g0 g' p' fr' → (∀ k, k < n → g' 120 k = tx k) ∧ g' 86 44 = (n : Int) := fun h => ⟨fun k hk => by rw [h.1 _ _ (by omega)]; exact ht k hk, by rw [h.1 _ _ (by omega)]; exact hn⟩
    obtain ⟨t1, hR1, hf1⟩ := rd_go (tx := tx) (st := 2) (fr := fr) (cw := cw) (cl := cl) h2 h1
    rw [hR] at hR1
    obtain ⟨b1, b2, b3, b4⟩ := bend_s (tx := tx) h2
    have bi := bend_i (tx := tx) h2
    have cw0 := c220 X g (gt hM).1 (gt hM).2 hn160 h2 hM.2.2.1
    generalize bend tx n p = b at *
    have wp := wr_p (tx := tx) b2
    apply s_223_203
    refine ⟨fun z => absurd z h3, fun _ => ⟨by omega, mi_87, ?_⟩⟩
    refine cw0 _ _ (by omega) ?_
    rintro _ g1 ⟨rfl, f1, f2, f3, f4⟩
    have M1 : RM g0 g1 b fr := RM_mv hM f1 f2
    apply s_223_211
    refine ⟨by omega, mi_87, ?_⟩
    refine c222 X g1 f3 _ _ (by omega) ?_
    rw [wp.1]
    refine s_223_215 n01 ?_
    rw [fl_87_47, fl_87_48, f2, ecw, ml_123, fl_123, up_123]
    by_cases hx : wof (WC tx b (lend tx n b)) = -1
    · rw [hx]
      refine ⟨fun z => absurd z (by decide), fun _ => ⟨mi_87, by omega, mi_87, ?_⟩⟩
      refine c219 X g1 _ _ _ _ (by omega) ?_
      apply s_223_231
      exact hQ _ _ (RK_bad M1 (by decide) (show ((1 : Int), (b : Int), cl, fr) = R by rw [← hR1, rd_y2 b2 bi hx]))
    · have wb := (wof_b (x := WC tx b (lend tx n b))).resolve_left hx
      obtain ⟨hbn, hbl⟩ := WC_pos b2 (Or.inl hx)
      have bb := wo_b (x := fr cw) (w := wof (WC tx b (lend tx n b))) (by omega) wb
      have gf : g1 122 cw = fr cw := by rw [M1.2.2.2.2 cw o2, if_neg (by omega)]
      have h1l := lend_1 hbn hbl
      obtain ⟨e1, e2, e3, e4⟩ := lend_s (tx := tx) b2
      rw [gf]
      refine ⟨fun _ => ⟨mi_87, mi_123, by omega, by omega, fun hb => ⟨mi_87, mi_123, by omega, by omega, mi_123, by omega, by omega, ?_⟩, fun hb => ⟨mi_87, by omega, mi_87, ?_⟩⟩, fun z => absurd wb.1 z⟩
      · have hb1 : ¬ bitO (fr cw) (wof (WC tx b (lend tx n b))) = 1 := hb
        have hb0 : bitO (fr cw) (wof (WC tx b (lend tx n b))) = 0 := by omega
        rw [rd_w2 hbn hbl ⟨rfl, hx⟩ hb0] at hR1
        generalize hfr2 : rfr fr cw (orO (fr cw) (wof (WC tx b (lend tx n b)))) = fr2 at hR1
        have v2 : fr2 cw = orO (fr cw) (wof (WC tx b (lend tx n b))) := by rw [← hfr2, rfr_e]
        have n2 : ∀ k, k ≠ cw → fr2 k = fr k := fun k hk => by rw [← hfr2, rfr_n hk]
        show Wp X d SH 223 270 [(2, 87), v1, (0, (cw : Int)), (0, x3), (0, wof (WC tx b (lend tx n b)))] [] SH (fl (mup g1 122 cw (orO (fr cw) (wof (WC tx b (lend tx n b)))))) Q
        rw [← v2]
        have M2 : RM g0 (mup g1 122 cw (fr2 cw)) b fr2 := by
          obtain ⟨q1, q2, q3, ⟨x, q4, q5⟩, q6⟩ := M1
          refine ⟨fun o k ho => ?_, ?_, ?_, ⟨x, ?_, fun k hk => ?_⟩, fun k hk => ?_⟩
          · rw [mup_n (by omega)]
            exact q1 o k ho
          · rw [mup_n (by omega)]
            exact q2
          · rw [mup_n (by omega)]
            exact q3
          · rw [mup_n (by omega)]
            exact q4
          · rw [q5 k hk]
            by_cases hkc : k = cw
            · subst hkc
              rw [decide_eq_true (show fr k ≠ -1 by omega), decide_eq_true (show fr2 k ≠ -1 by omega)]
            · rw [n2 k hkc]
          · by_cases hkc : k = cw
            · subst hkc
              rw [mup_e, if_neg (by omega)]
            · rw [mup_n (by omega), n2 k hkc]
              exact q6 k hk
        have f4' : mup g1 122 cw (fr2 cw) 86 50 = ((lend tx n b : Nat) : Int) := by rw [mup_n (by omega)]; exact f4
        generalize mup g1 122 cw (fr2 cw) = g2 at M2 f4' ⊢
        generalize lend tx n b = E at *
        apply s_223_270
        rw [fl_87_50, f4', up_87_48]
        refine ⟨mi_87, mi_87, ?_⟩
        have M3 : RM g0 (mup g2 86 48 (E : Int)) E fr2 := RM_mv M2 (fun o k ho => mup_n (by omega)) mup_e
        generalize mup g2 86 48 (E : Int) = g3 at M3 ⊢
        obtain ⟨t2, hR2, hf2⟩ := rd_go (tx := tx) (t := t1) (st := 3) (fr := fr2) (cw := cw) (cl := cl) e2 (by omega)
        rw [hR1] at hR2
        obtain ⟨d1, d2, d3, d4⟩ := bend_s (tx := tx) e2
        have di := bend_i (tx := tx) e2
        have cb := c218 X g3 (gt M3).1 (gt M3).2 hn160 e2 M3.2.2.1
        generalize bend tx n E = c at *
        have M4 : RM g0 (mup g3 86 48 (c : Int)) c fr2 := RM_mv M3 (fun o k ho => mup_n (by omega)) mup_e
        generalize mup g3 86 48 (c : Int) = g4 at cb M4
        apply s_223_278
        refine ⟨by omega, mi_87, ?_⟩
        refine cb _ _ (by omega) ?_
        apply s_223_282
        have O2 : ∀ k, k < 12 → -1 ≤ fr2 k ∧ fr2 k ≤ 31 := fun k hk => by
          by_cases hkc : k = cw
          · subst hkc
            omega
          · rw [n2 k hkc]
            exact o3 k hk
        by_cases hcm : c < n ∧ tx c = 44
        · rw [if_pos hcm.1, hcm.2]
          refine ⟨fun z => absurd rfl z, fun _ => ?_⟩
          rw [rd_c hcm.1 ⟨rfl, hcm.2⟩] at hR2
          have M5 : RM g0 (mup g4 86 48 ((c : Int) + 1)) (c + 1) fr2 := RM_mv M4 (fun o k ho => mup_n (by omega)) (by rw [mup_e]; omega)
          have nx := fun v1 v4 => ih t2 (c + 1) fr2 cw v1 v4 1 _ (by omega) (by omega) (by omega) (by omega) (by decide) M5 ⟨by decide, o2, O2, fun _ => by omega, o5, by omega⟩ hR2
          apply s_223_292
          rw [fl_87_48, M4.2.2.1]
          refine ⟨mi_87, fun z => absurd z (by decide), fun _ => ?_⟩
          apply s_223_307
          rw [up_87_48]
          refine ⟨by unfold r32; omega, mi_87, ?_⟩
          apply s_223_311
          exact nx _ _
        · have y44 : (if c < n then tx c else -1) ≠ 44 := by
            by_cases hcn : c < n
            · rw [if_pos hcn]
              exact fun z => hcm ⟨hcn, z⟩
            · rw [if_neg hcn]
              decide
          refine ⟨fun _ => ?_, fun z => absurd y44 z⟩
          have ca := bend_at (tx := tx) (n := n) (p := c) di
          have M5 : RM g0 (mup g4 86 48 (c : Int)) c fr2 := RM_mv M4 (fun o k ho => mup_n (by omega)) mup_e
          rw [mup_id M4.2.2.1] at M5
          have cb2 := c218 X g4 (gt M4).1 (gt M4).2 hn160 d2 M4.2.2.1
          rw [ca, mup_id M4.2.2.1] at cb2
          apply s_223_292
          rw [fl_87_48, M4.2.2.1]
          refine ⟨mi_87, fun _ => ?_, fun z => absurd rfl z⟩
          apply s_223_307
          rw [up_87_48, Int.add_zero, mup_id M4.2.2.1]
          refine ⟨by unfold r32; omega, mi_87, ?_⟩
          apply s_223_311
          apply s_223_203
          refine ⟨fun _ => ⟨by omega, mi_87, ?_⟩, fun z => absurd rfl z⟩
          refine cb2 _ _ (by omega) ?_
          apply s_223_318
          rw [fl_87_48, M4.2.2.1, up_87_48]
          by_cases hsm : c < n ∧ tx c = 59
          · rw [if_pos hsm.1, hsm.2]
            rw [rd_s hsm.1 ⟨rfl, hsm.2⟩] at hR2
            refine ⟨fun _ => ⟨mi_87, by unfold r32; omega, mi_87, ?_⟩, fun z => absurd rfl z⟩
            refine hQ _ _ ⟨0, rfl, Or.inr ⟨rfl, t2, c + 1, fr2, cw, RM_mv M4 (fun o k ho => mup_n (by omega)) (by rw [mup_e]; omega), ⟨by decide, o2, O2, fun x => absurd x (by decide), by omega, by omega⟩, hR2, by omega, by omega, by omega⟩⟩
          · have y59 : (if c < n then tx c else -1) ≠ 59 := by
              by_cases hcn : c < n
              · rw [if_pos hcn]
                exact fun z => hsm ⟨hcn, z⟩
              · rw [if_neg hcn]
                decide
            refine ⟨fun z => absurd z y59, fun _ => ⟨mi_87, by omega, mi_87, ?_⟩⟩
            refine c219 X g4 _ _ _ _ (by omega) ?_
            apply s_223_332
            have no : ∀ v : Int, ¬ (c < n ∧ tx c = v) → n ≤ c ∨ ¬ tx c = v := fun v hv => by
              by_cases hcn : c < n
              · exact Or.inr (fun z => hv ⟨hcn, z⟩)
              · exact Or.inl (by omega)
            exact hQ _ _ (RK_bad M4 (by decide) (show ((1 : Int), (c : Int), cl, fr2) = R by rw [← hR2, rd_y3 d2 di (no 44 hcm) (no 59 hsm)]))
      · have hb1 : ¬ ¬ bitO (fr cw) (wof (WC tx b (lend tx n b))) = 1 := hb
        have hb0 : ¬ bitO (fr cw) (wof (WC tx b (lend tx n b))) = 0 := by
          have z := Classical.not_not.1 hb1
          rw [z]
          decide
        refine c219 X g1 _ _ _ _ (by omega) ?_
        apply s_223_256
        exact hQ _ _ (RK_bad M1 (by decide) (show ((4 : Int), (b : Int), cl, fr) = R by rw [← hR1, rd_w4 hbn hbl ⟨rfl, hx⟩ hb0]))
