/-! the reference reads a clause: from its first word on -/
def kv (tx : Nat → Int) (b : Nat) : Nat → Int
  | 0 => 0
  | i + 1 => if 1000 < 10 * kv tx b i + tx (b + i) - 48 then 1000 else 10 * kv tx b i + tx (b + i) - 48
theorem kv_b {tx : Nat → Int} {b : Nat} : ∀ i, (∀ k, k < i → 48 ≤ tx (b + k) ∧ tx (b + k) ≤ 57) → 0 ≤ kv tx b i ∧ kv tx b i ≤ 1000 := by
  intro i
  induction i with
  | zero =>
    intro _
    rw [show kv tx b 0 = 0 from rfl]
    exact ⟨by decide, by decide⟩
  | succ i ih =>
    intro h
    have y := ih (fun k hk => h k (by omega))
    have z := h i (by omega)
    unfold kv
    by_cases c : 1000 < 10 * kv tx b i + tx (b + i) - 48
    · rw [if_pos c]; exact ⟨by decide, by decide⟩
    · rw [if_neg c]; exact ⟨by omega, by omega⟩
theorem kv_n {tx : Nat → Int} {b m : Nat} (hm : m = 1 ∨ m = 2) (h : ∀ k, k < m → 48 ≤ tx (b + k) ∧ tx (b + k) ≤ 57) : kv tx b m = num tx b m := by
  have h0 := h 0 (by omega)
  rw [Nat.add_zero] at h0
  have k1 : kv tx b 1 = tx b - 48 := by
    show (if 1000 < 10 * 0 + tx (b + 0) - 48 then 1000 else 10 * 0 + tx (b + 0) - 48) = _
    rw [Nat.add_zero, if_neg (by omega)]
    omega
  rcases hm with rfl | rfl
  · rw [k1]
    unfold num
    rw [if_neg (by decide)]
  · have h1 := h 1 (by omega)
    show (if 1000 < 10 * kv tx b 1 + tx (b + 1) - 48 then 1000 else 10 * kv tx b 1 + tx (b + 1) - 48) = _
    rw [k1, if_neg (by omega)]
    unfold num
    rw [if_pos rfl]
    omega
theorem c223 (X : mX) {g0 g : mF} {tx : Nat → Int} {n p t cw : Nat} {cl : Int} {fr : Nat → Int} {R : Int × Int × Int × (Nat → Int)} (ht : ∀ k, k < n → g0 120 k = tx k) (hn : g0 86 44 = (n : Int)) (hn160 : n ≤ 160) (hM : RM g0 g p fr) (hO : OKS p 0 fr cw cl) (hR : RD tx n t p 0 fr cw cl = R) (h1 : n < t + p) (hp : p < n) (hb : ¬ tx p = 32) : Rel X 5 223 [(2, 87), (3, 0), (3, 0), (3, 0), (3, 0)] g (RK tx n p R cl g0) := by
  intro d Q hd hQ
  obtain ⟨o1, o2, o3, o4, o5, o6⟩ := id hO
  obtain ⟨t1, rfl⟩ : ∃ t1, t = t1 + 1 := ⟨t - 1, by omega⟩
  have hpn := Nat.le_of_lt hp
  have gt : ∀ {g' : mF} {p' : Nat} {fr' : Nat → Int}, RM g0 g' p' fr' → (∀ k, k < n → g' 120 k = tx k) ∧ g' 86 44 = (n : Int) := fun h => ⟨fun k hk => by rw [h.1 _ _ (by omega)]; exact ht k hk, by rw [h.1 _ _ (by omega)]; exact hn⟩
  have cw0 := c220 X g (gt hM).1 (gt hM).2 hn160 hpn hM.2.2.1
  rw [bend_at (Or.inr hb)] at cw0
  have wp := wr_p (tx := tx) hpn
  apply s_223_0
  refine ⟨by omega, mi_87, ?_⟩
  refine cw0 _ _ (by omega) ?_
  rintro _ g1 ⟨rfl, f1, f2, f3, f4⟩
  have M1 : RM g0 g1 p fr := RM_mv hM f1 f2
  apply s_223_4
  rw [fl_87_49, f3]
  refine ⟨mi_87, by omega, ?_⟩
  refine c221 X g1 (v4 := 453981) (v := 12257495) (by decide) (by decide) (by decide) (by decide) (by decide) (by decide) (fun _ => by decide) (fun y => absurd (by decide) y) _ _ (by omega) ?_
  apply s_223_21
  by_cases hx : WC tx p (lend tx n p) = 512736125800
  · refine ⟨fun _ => ⟨mi_87, mi_87, ?_⟩, fun z => absurd (lcmp.2 (wp.2.2 hx).symm) z⟩
    obtain ⟨-, hbl⟩ := WC_pos hpn (Or.inr hx)
    rw [rd_w0 hp hbl ⟨rfl, hx⟩] at hR
    have h1l := lend_1 hp hbl
    obtain ⟨e1, e2, e3, e4⟩ := lend_s (tx := tx) hpn
    clear cw0 wp hx e3 e4 f3
    generalize lend tx n p = E at *
    rw [fl_87_50, f4, up_87_48]
    have M2 : RM g0 (mup g1 86 48 (E : Int)) E fr := RM_mv M1 (fun o k ho => mup_n (by omega)) mup_e
    generalize mup g1 86 48 (E : Int) = g2 at M2 ⊢
    obtain ⟨t2, hR2, hf2⟩ := rd_go (tx := tx) (t := t1) (st := 1) (fr := fr) (cw := cw) (cl := cl) e2 (by omega)
    rw [hR] at hR2
    obtain ⟨b1, b2, b3, b4⟩ := bend_s (tx := tx) e2
    have bi := bend_i (tx := tx) e2
    have cb := c218 X g2 (gt M2).1 (gt M2).2 hn160 e2 M2.2.2.1
    generalize bend tx n E = b at *
    have M3 : RM g0 (mup g2 86 48 (b : Int)) b fr := RM_mv M2 (fun o k ho => mup_n (by omega)) mup_e
    generalize mup g2 86 48 (b : Int) = g3 at cb M3
    apply s_223_43
    refine ⟨by omega, mi_87, ?_⟩
    refine cb _ _ (by omega) ?_
    apply s_223_47
    refine ⟨by omega, ?_⟩
    by_cases hf : b < n ∧ (48 ≤ tx b ∧ tx b ≤ 57)
    · obtain ⟨hbn, hf⟩ := hf
      have c := c144 X g3 (tx b) 48 57
      rw [if_pos hf] at c
      rw [if_pos hbn]
      refine c _ _ (by omega) ?_
      apply s_223_57
      rw [fl_87_48, M3.2.2.1]
      refine ⟨fun _ => ⟨mi_87, ?_⟩, fun z => absurd (by decide) z⟩
      apply s_223_75
      have h1f := fend_1 hbn hf
      obtain ⟨u1, u2, u3, u4⟩ := fend_s (tx := tx) b2
      have dg : ∀ m, m ≤ fend tx n b - b → ∀ k, k < m → 48 ≤ tx (b + k) ∧ tx (b + k) ≤ 57 := fun m hm k hk => u3 (b + k) (by omega) (by omega)
      -- behind the number
      have at147 : ∀ g' : mF, (∀ o k, ¬ (o = 86 ∧ k = 48) → g' o k = g3 o k) → g' 86 48 = ((fend tx n b : Nat) : Int) → Wp X d SH 223 147 [(2, 87), (0, (b : Int)), (0, kv tx b (fend tx n b - b)), (3, 0), (3, 0)] [] SH (fl g') Q := by
        intro g' w1 w2
        have M4 : RM g0 g' (fend tx n b) fr := RM_mv M3 (fun o k ho => w1 o k (by omega)) w2
        have kb := kv_b (tx := tx) (b := b) _ (dg _ (Nat.le_refl _))
        have big : (2 < fend tx n b - b ∨ 12 ≤ num tx b (fend tx n b - b)) → Wp X d SH 223 163 [(2, 87), (0, (b : Int)), (0, kv tx b (fend tx n b - b)), (3, 0), (3, 0)] [] SH (fl g') Q := by
          intro hb2
          apply s_223_163
          refine ⟨by omega, mi_87, ?_⟩
          refine c219 X g' _ _ _ _ (by omega) ?_
          apply s_223_169
          exact hQ _ _ (RK_bad M4 (by decide) (show ((2 : Int), (b : Int), cl, fr) = R by rw [← hR2, rd_n2 hbn hf hb2]))
        apply s_223_147
        rw [fl_87_48, w2]
        refine ⟨mi_87, by unfold r32; omega, fun z => big (Or.inl (by omega)), fun z => ?_⟩
        have kn := kv_n (tx := tx) (b := b) (m := fend tx n b - b) (by omega) (dg _ (Nat.le_refl _))
        refine ⟨fun y => ?_, fun y => big (Or.inr (by omega))⟩
        have hg : ¬ (2 < fend tx n b - b ∨ 12 ≤ num tx b (fend tx n b - b)) := by omega
        obtain ⟨u, hu⟩ : ∃ u : Nat, num tx b (fend tx n b - b) = (u : Int) := ⟨(num tx b (fend tx n b - b)).toNat, by omega⟩
        have hu12 : u < 12 := by omega
        have eu : ((u : Int)).toNat = u := by omega
        rw [kn, hu]
        obtain ⟨m1, m2, m3, ⟨x, x1, x2⟩, m5⟩ := id M4
        rw [fl_87_51, x1, bt1 x hu12, x2 u hu12, up_87_51]
        by_cases hfu : fr u = -1
        · have hdf : decide (fr u ≠ -1) = false := decide_eq_false (fun z => z hfu)
          rw [hdf, if_neg (by decide)]
          refine ⟨mi_87, fun _ => ⟨mi_87, mi_87, ?_⟩, fun z => absurd (by decide) z⟩
          rw [rd_n0 hbn hf hg (by rw [hu, eu]; exact hfu), hu, eu] at hR2
          have M5 : RM g0 (mup g' 86 51 ((Int32.ofInt x.toInt ||| Int32.ofInt ((Int32.ofInt 1 <<< (Int32.ofInt (u : Int) &&& 31)).toInt)).toInt)) (fend tx n b) (rfr fr u 0) := by
            refine ⟨fun o k ho => ?_, ?_, ?_, ⟨_, mup_e, fun k hk => ?_⟩, fun k hk => ?_⟩
            · rw [mup_n (by omega)]
              exact m1 o k ho
            · rw [mup_n (by omega)]
              exact m2
            · rw [mup_n (by omega)]
              exact m3
            · rw [bto x hk hu12, x2 k hk]
              by_cases hku : k = u
              · subst hku
                rw [rfr_e, decide_eq_true (show k = k from rfl), Bool.or_true]
                rfl
              · rw [rfr_n hku, decide_eq_false hku, Bool.or_false]
            · rw [mup_n (by omega), m5 k hk]
              by_cases hku : k = u
              · subst hku
                rw [if_pos hfu, rfr_e] <;> rfl
              · rw [rfr_n hku]
          apply s_223_201
          exact c223l X ht hn hn160 (by omega) hQ (n + 1) t2 (fend tx n b) (rfr fr u 0) u _ _ 1 _ (by omega) (by omega) u2 (by omega) (by decide) M5 ⟨by decide, hu12, fun k hk => by
            by_cases hku : k = u
            · rw [hku, rfr_e]
              decide
            · rw [rfr_n hku]
              exact o3 k hk, fun _ => by rw [rfr_e]; decide, o5, by omega⟩ hR2
        · have hdt : decide (fr u ≠ -1) = true := decide_eq_true hfu
          rw [hdt, if_pos rfl]
          refine ⟨mi_87, fun z => absurd rfl z, fun _ => ⟨by omega, mi_87, ?_⟩⟩
          refine c219 X g' _ _ _ _ (by omega) ?_
          apply s_223_188
          exact hQ _ _ (RK_bad M4 (by decide) (show ((3 : Int), (b : Int), cl, fr) = R by rw [← hR2, rd_n3 hbn hf hg (by rw [hu, eu]; exact hfu)]))
      have key := lup (P := fun i => ∀ g' : mF, (∀ o k, ¬ (o = 86 ∧ k = 48) → g' o k = g3 o k) → g' 86 48 = ((b + i : Nat) : Int) → Wp X d SH 223 77 [(2, 87), (0, (b : Int)), (0, kv tx b i), (3, 0), (3, 0)] [] SH (fl g') Q) (fend tx n b - b) ?_ ?_ 0 (by omega)
      · exact key g3 (fun _ _ _ => rfl) (by rw [Nat.add_zero]; exact M3.2.2.1)
      · intro g' w1 w2
        rw [show b + (fend tx n b - b) = fend tx n b by omega] at w2
        have q44 : g' 86 44 = (n : Int) := by rw [w1 _ _ (by omega)]; exact (gt M3).2
        have ef : (((fend tx n b : Nat) : Int)).toNat = fend tx n b := by omega
        have fin := at147 g' w1 w2
        apply s_223_77
        rw [fl_87_44, q44, fl_87_48, w2, fl_87_43, ml_121, fl_121, ef]
        refine ⟨mi_87, mi_87, fun _ => fin, fun z => ⟨mi_87, mi_87, mi_121, by omega, by omega, by omega, ?_⟩⟩
        have qt : g' 120 (fend tx n b) = tx (fend tx n b) := by rw [w1 _ _ (by omega)]; exact (gt M3).1 _ (by omega)
        have c := c144 X g' (tx (fend tx n b)) 48 57
        rw [if_neg (u4 (by omega))] at c
        rw [qt]
        refine c _ _ (by omega) ?_
        apply s_223_107
        exact ⟨fun _ => fin, fun z => absurd rfl z⟩
      · intro i hi ih g' w1 w2
        have z := u3 (b + i) (by omega) (by omega)
        have q44 : g' 86 44 = (n : Int) := by rw [w1 _ _ (by omega)]; exact (gt M3).2
        have qt : g' 120 (b + i) = tx (b + i) := by rw [w1 _ _ (by omega)]; exact (gt M3).1 _ (by omega)
        have ei : (((b + i : Nat) : Int)).toNat = b + i := by omega
        have kb := kv_b (tx := tx) (b := b) i (dg i (by omega))
        have c := c144 X g' (tx (b + i)) 48 57
        rw [if_pos z] at c
        have nx := ih (mup g' 86 48 (((b + i : Nat) : Int) + 1)) (fun o k ho => by rw [mup_n (by omega)]; exact w1 o k ho) (by rw [mup_e]; omega)
        apply s_223_77
        rw [fl_87_44, q44, fl_87_48, w2, fl_87_43, ml_121, fl_121, ei, qt]
        refine ⟨mi_87, mi_87, fun y => absurd y (by omega), fun _ => ⟨mi_87, mi_87, mi_121, by omega, by omega, by omega, ?_⟩⟩
        refine c _ _ (by omega) ?_
        apply s_223_107
        rw [fl_87_48, w2, fl_87_43, ml_121, fl_121, ei, qt]
        refine ⟨fun y => absurd y (by decide), fun _ => ⟨by unfold r32; omega, mi_87, mi_87, mi_121, by omega, by omega, by unfold r32; omega, by unfold r32; omega, by omega, ?_⟩⟩
        refine c146 X g' _ _ _ _ (by omega) ?_
        apply s_223_133
        rw [fl_87_48, w2, up_87_48]
        refine ⟨mi_87, by unfold r32; omega, mi_87, ?_⟩
        apply s_223_144
        exact nx
    · have y0 : ¬ (48 ≤ (if b < n then tx b else -1) ∧ (if b < n then tx b else -1) ≤ 57) := by
        by_cases hbn : b < n
        · rw [if_pos hbn]
          exact fun z => hf ⟨hbn, z⟩
        · rw [if_neg hbn]
          decide
      have c := c144 X g3 (if b < n then tx b else -1) 48 57
      rw [if_neg y0] at c
      refine c _ _ (by omega) ?_
      apply s_223_57
      rw [fl_87_48, M3.2.2.1]
      refine ⟨fun z => absurd rfl z, fun _ => ⟨mi_87, by omega, mi_87, ?_⟩⟩
      refine c219 X g3 _ _ _ _ (by omega) ?_
      apply s_223_69
      have no : n ≤ b ∨ ¬ (48 ≤ tx b ∧ tx b ≤ 57) := by
        by_cases hbn : b < n
        · exact Or.inr (fun z => hf ⟨hbn, z⟩)
        · exact Or.inl (by omega)
      exact hQ _ _ (RK_bad M3 (by decide) (show ((1 : Int), (b : Int), cl, fr) = R by rw [← hR2, rd_y1 b2 bi no]))
  · refine ⟨fun z => absurd (wp.2.1 (lcmp.1 z).symm) hx, fun _ => ⟨mi_87, by omega, mi_87, ?_⟩⟩
    rw [fl_87_48, f2]
    refine c219 X g1 _ _ _ _ (by omega) ?_
    apply s_223_34
    exact hQ _ _ (RK_bad M1 (by decide) (show ((1 : Int), (p : Int), cl, fr) = R by rw [← hR, rd_y0 hp hb hx]))
