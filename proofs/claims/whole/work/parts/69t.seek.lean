/-! draw: the class's recursion -/
def CFr (g0 g : mF) : Prop := ∀ o k, ¬ (o = 3 ∨ o = 4 ∨ o = 2 ∧ k = 1 ∨ o = 2 ∧ k = 8) → g o k = g0 o k
def CLS (X : mX) (s : Nat) (w h B b : Int) (n wh : Nat) (may : (Nat → Int) → Nat → Nat → Bool) (al : (Nat → Int) → Bool) (g0 : mF) (f : Nat) : Prop := ∀ (m : Nat) (ρ : Nat → Int) (L : Int) (g : mF) (d : Nat) (Q : mQ), f + 5 ≤ d → 1 ≤ m → m + f = n → CFr g0 g → (∀ k, k < m → g 3 k = ρ k) → TP w h (g 4) ρ m → g 2 1 = L → 0 ≤ L → L ≤ B → g 2 8 = 0 →
  ((srch B b n wh may al f ρ m L).1 = 0 → ∀ g', CFr g0 g' → (∀ k, k < m → g' 3 k = ρ k) → (∀ k, g' 4 k = g 4 k) → g' 2 1 = (srch B b n wh may al f ρ m L).2.1 → 0 ≤ g' 2 1 → g' 2 1 ≤ B → g' 2 8 = 0 → Q (some (0, 0)) (fl g')) →
  ((srch B b n wh may al f ρ m L).1 = 1 → ∀ g', CFr g0 g' → (∀ k, k < n → g' 3 k = (srch B b n wh may al f ρ m L).2.2 k) → g' 2 1 = (srch B b n wh may al f ρ m L).2.1 → g' 2 8 = 0 → Q (some (0, 1)) (fl g')) →
  ((srch B b n wh may al f ρ m L).1 = 2 → ∀ g', CFr g0 g' → g' 2 1 = (srch B b n wh may al f ρ m L).2.1 → g' 2 8 = 1 → Q (some (0, 0)) (fl g')) →
  Wp X d SH 74 0 [(2, 3), (2, 57 + 5 * (s : Int)), (0, (m : Int)), (3, 0), (3, 0), (3, 0)] [] SH (fl g) Q
set_option maxHeartbeats 4000000 in
theorem cls_in (X : mX) {s : Nat} (hs : s < 6) {w h B b : Int} {n wh : Nat} {may : (Nat → Int) → Nat → Nat → Bool} {al : (Nat → Int) → Bool} {g0 : mF} (hI : Iseal g0 s) (ew : g0 (56 + 5 * s) 0 = w) (eh : g0 (56 + 5 * s) 1 = h) (hwh : w * h = (wh : Int)) (hB : g0 2 0 = B) (hBb : B ≤ 20000) (hb : g0 2 4 = b) (hn5 : g0 2 5 = (n : Int)) (hn : n ≤ 36) (hkind : 0 ≤ g0 2 6 ∧ g0 2 6 ≤ 3) (hmay : ∀ ρ m q, may ρ m q = true ↔ nrC w (ρ (m - 1)) (q : Int) ∧ MF w (g0 (59 + 5 * s)) ρ m (g0 2 7) (q : Int)) (hal : ∀ ρ, al ρ = true ↔ g0 2 6 = 0 ∨ ALM w h (g0 2 6) n ρ) (f : Nat) (ih : CLS X s w h B b n wh may al g0 f) : CLS X s w h B b n wh may al g0 (f + 1) := by
  subst ew
  subst eh
  intro m ρ L0 gs d Q hd hm hmf frs rows0 hTs hL0 hL0a hL0b h80 k0 k1 k2
  obtain ⟨⟨p1, p2, -, -⟩, -, -, -, -, s6, -⟩ := id hI
  have hwb := mul_b p1.2 p2.2
  have ha := hTs.1 (m - 1) (by omega)
  obtain ⟨A, hA⟩ : ∃ A : Nat, ρ (m - 1) = (A : Int) := ⟨(ρ (m - 1)).toNat, by omega⟩
  rw [hA] at ha
  have em : ((m : Int) - 1).toNat = m - 1 := by omega
  have ei : ((m : Int)).toNat = m := by omega
  have nI := fun x : Nat => fun hx : (x : Int) < g0 (56 + 5 * s) 0 * g0 (56 + 5 * s) 1 => near_iff p1.2 p2.2 ha (show 0 ≤ (x : Int) ∧ (x : Int) < g0 (56 + 5 * s) 0 * g0 (56 + 5 * s) 1 by omega)
  -- the sides from one on
  have side : ∀ j i L lo (g : mF) v5, i + j = 4 → lo ≤ wh → (∀ x, lo ≤ x → x < wh → nrC (g0 (56 + 5 * s) 0) (A : Int) (x : Int) → ∃ j', i ≤ j' ∧ j' < 4 ∧ nearf (g0 (56 + 5 * s) 0) (g0 (56 + 5 * s) 1) (A : Int) j' = (x : Int)) → (∀ j', i ≤ j' → j' < 4 → nearf (g0 (56 + 5 * s) 0) (g0 (56 + 5 * s) 1) (A : Int) j' = -1 ∨ (lo : Int) ≤ nearf (g0 (56 + 5 * s) 0) (g0 (56 + 5 * s) 1) (A : Int) j') → CFr g0 g → (∀ k, k < m → g 3 k = ρ k) → (∀ k, g 4 k = gs 4 k) → g 2 1 = L → 0 ≤ L → L ≤ B → g 2 8 = 0 →
      foldQ (stepQ B b n may al (srch B b n wh may al f) ρ m) (wh - lo) lo (0, L, ρ) = srch B b n wh may al (f + 1) ρ m L0 → Wp X d SH 74 30 [(2, 3), (2, 57 + 5 * (s : Int)), (0, (m : Int)), (0, (A : Int) * 4), (0, (i : Int)), v5] [] SH (fl g) Q := by
    intro j
    induction j with
    | zero =>
      intro i L lo g v5 hi hlo i1 i2 fr rows pl hL hLa hLb h8 hfo
      rw [show wh - lo = (wh - lo) + 0 by omega, foldQ_skip (wh - lo) 0 lo (fun x x1 x2 x3 => by
        have y := ((hmay _ _ _).1 x3).1
        rw [hA] at y
        obtain ⟨j', z1, z2, -⟩ := i1 x x1 (by omega) y
        omega)] at hfo
      have e : (0, L, ρ) = srch B b n wh may al (f + 1) ρ m L0 := hfo
      rw [← e] at k0
      have q0 := k0 rfl g fr rows pl hL (by omega) (by omega) h8
      apply s_74_30
      exact ⟨fun _ => q0, fun z => absurd (by omega) z⟩
    | succ j ihj =>
      intro i L lo g v5 hi hlo i1 i2 fr rows pl hL hLa hLb h8 hfo
      have e10 : ((i + 1 : Nat) : Int) = (i : Int) + 1 := by omega
      have ri : r32 ((i : Int) + 1) := by unfold r32; omega
      have hIg : Iseal g s := Iseal_fr hs (fun o k ho => fr o k (by omega)) hI
      have w0 : g (56 + 5 * s) 0 = g0 (56 + 5 * s) 0 := fr _ _ (by omega)
      have h0 : g (56 + 5 * s) 1 = g0 (56 + 5 * s) 1 := fr _ _ (by omega)
      have ix : ((A : Int) * 4 + (i : Int)).toNat = 4 * A + i := by omega
      have nv : g (60 + 5 * s) (4 * A + i) = nearf (g0 (56 + 5 * s) 0) (g0 (56 + 5 * s) 1) (A : Int) i := by
        rw [fr _ _ (by omega)]
        exact s6 A ha.2 i (by omega)
      have hv := i2 i (Nat.le_refl _) (by omega)
      have hvr := nearf_r p1.2 p2.2 ha (show i < 4 by omega)
      have to47 : Wp X d SH 74 47 [(2, 3), (2, 57 + 5 * (s : Int)), (0, (m : Int)), (0, (A : Int) * 4), (0, (i : Int)), (0, nearf (g0 (56 + 5 * s) 0) (g0 (56 + 5 * s) 1) (A : Int) i)] [] SH (fl g) Q → Wp X d SH 74 30 [(2, 3), (2, 57 + 5 * (s : Int)), (0, (m : Int)), (0, (A : Int) * 4), (0, (i : Int)), v5] [] SH (fl g) Q := by
        intro hw
        clear k0 k1 k2 hmay hal ih ihj i1 i2 fr rows pl hfo hIg s6 nI rows0 frs hTs hI hv hvr
        apply s_74_30
        try simp only [mi_3, fl_3_5, up_3_5, fl_3_2, mi_4, ml_4, fl_4, up_4, sm_o, sl_6, sm_6, sn_6, sa_6, sz_6, fl_3_1, up_3_1, fl_3_0, up_3_0, fl_3_8, up_3_8, fl_3_3, mi_5, ml_5, fl_5, up_5, fl_3_4, up_3_4, hs, ix, nv, true_and, and_true, true_or, or_true, implies_true, b10_0, b10_1]
        repeat' (first | refine And.intro ?_ ?_ | intro _)
        all_goals (try (first | omega | (unfold r32; omega) | exact hQ | exact qe hQ (by omega) | exact qe hQ (by (repeat' split) <;> omega) | exact b01 | exact n01 | exact n21 | exact n31 | exact absurd trivial (by assumption)))
        all_goals (try exact hw)
      refine to47 ?_
      clear to47
      by_cases hv1 : nearf (g0 (56 + 5 * s) 0) (g0 (56 + 5 * s) 1) (A : Int) i = -1
      · have nx := ihj (i + 1) L lo g (0, -1) (by omega) hlo (fun x x1 x2 x3 => by
          obtain ⟨j', z1, z2, z3⟩ := i1 x x1 x2 x3
          refine ⟨j', ?_, z2, z3⟩
          by_cases hji : j' = i
          · subst hji; omega
          · omega) (fun j' z1 z2 => i2 j' (by omega) z2) fr rows pl hL hLa hLb h8 hfo
        rw [e10] at nx
        rw [hv1]
        apply s_74_47
        refine ⟨fun _ => ?_, fun z => absurd rfl z⟩
        apply s_74_163
        exact ⟨ri, nx⟩
      · obtain ⟨q, hq⟩ : ∃ q : Nat, nearf (g0 (56 + 5 * s) 0) (g0 (56 + 5 * s) 1) (A : Int) i = (q : Int) := ⟨(nearf (g0 (56 + 5 * s) 0) (g0 (56 + 5 * s) 1) (A : Int) i).toNat, by omega⟩
        have hqw : (q : Int) < g0 (56 + 5 * s) 0 * g0 (56 + 5 * s) 1 := by omega
        have hqlo : lo ≤ q := by omega
        have hnr : nrC (g0 (56 + 5 * s) 0) (A : Int) (q : Int) := (nI q hqw).1 ⟨i, by omega, hq⟩
        have hT : TP (g0 (56 + 5 * s) 0) (g0 (56 + 5 * s) 1) (g 4) ρ m := by
          rw [show g 4 = gs 4 from funext pl]; exact hTs
        have cc := c75 X g hs hIg (ρ := ρ) (m := m) (q := q) (by rw [w0, h0]; exact hT) hm (by rw [w0, h0]; exact hqw) (by rw [w0, hA]; exact hnr)
        have e59 : g (59 + 5 * s) = g0 (59 + 5 * s) := funext (fun k => fr _ _ (by omega))
        have e27 : g 2 7 = g0 2 7 := fr _ _ (by omega)
        rw [w0, e59, e27] at cc
        have hmm : may ρ m q = true ↔ MF (g0 (56 + 5 * s) 0) (g0 (59 + 5 * s)) ρ m (g0 2 7) (q : Int) := by
          rw [hmay, hA]
          exact ⟨fun z => z.2, fun z => ⟨hnr, z⟩⟩
        have hfo2 : foldQ (stepQ B b n may al (srch B b n wh may al f) ρ m) (wh - (q + 1)) (q + 1) (stepQ B b n may al (srch B b n wh may al f) ρ m (0, L, ρ) q) = srch B b n wh may al (f + 1) ρ m L0 := by
          rw [← hfo, show wh - lo = (q - lo) + ((wh - (q + 1)) + 1) by omega, foldQ_skip (q - lo) _ lo (fun x x1 x2 x3 => by
            have y := ((hmay _ _ _).1 x3).1
            rw [hA] at y
            obtain ⟨j', z1, z2, z3⟩ := i1 x x1 (by omega) y
            by_cases hji : j' = i
            · subst hji; omega
            · have r := near_rise (w := g0 (56 + 5 * s) 0) (h := g0 (56 + 5 * s) 1) (a := (A : Int)) p1.2 (show i < j' by omega) z2 hv1 (by omega)
              omega), show lo + (q - lo) = q by omega]
          rfl
        have j1 : ∀ x, q + 1 ≤ x → x < wh → nrC (g0 (56 + 5 * s) 0) (A : Int) (x : Int) → ∃ j', i + 1 ≤ j' ∧ j' < 4 ∧ nearf (g0 (56 + 5 * s) 0) (g0 (56 + 5 * s) 1) (A : Int) j' = (x : Int) := fun x x1 x2 x3 => by
          obtain ⟨j', z1, z2, z3⟩ := i1 x (by omega) x2 x3
          refine ⟨j', ?_, z2, z3⟩
          by_cases hji : j' = i
          · subst hji; omega
          · omega
        have j2 : ∀ j', i + 1 ≤ j' → j' < 4 → nearf (g0 (56 + 5 * s) 0) (g0 (56 + 5 * s) 1) (A : Int) j' = -1 ∨ ((q + 1 : Nat) : Int) ≤ nearf (g0 (56 + 5 * s) 0) (g0 (56 + 5 * s) 1) (A : Int) j' := fun j' z1 z2 => by
          by_cases hz : nearf (g0 (56 + 5 * s) 0) (g0 (56 + 5 * s) 1) (A : Int) j' = -1
          · exact Or.inl hz
          · have r := near_rise (w := g0 (56 + 5 * s) 0) (h := g0 (56 + 5 * s) 1) (a := (A : Int)) p1.2 (show i < j' by omega) z2 hv1 hz
            exact Or.inr (by omega)
        -- the next side
        have next : ∀ (L' : Int) (g' : mF), stepQ B b n may al (srch B b n wh may al f) ρ m (0, L, ρ) q = (0, L', ρ) → CFr g0 g' → (∀ k, k < m → g' 3 k = ρ k) → (∀ k, g' 4 k = gs 4 k) → g' 2 1 = L' → 0 ≤ L' → L' ≤ B → g' 2 8 = 0 → Wp X d SH 74 163 [(2, 3), (2, 57 + 5 * (s : Int)), (0, (m : Int)), (0, (A : Int) * 4), (0, (i : Int)), (0, (q : Int))] [] SH (fl g') Q := by
          intro L' g' e a1 a2 a3 a4 a5 a6 a7
          rw [e] at hfo2
          have nx := ihj (i + 1) L' (q + 1) g' (0, (q : Int)) (by omega) (by omega) j1 j2 a1 a2 a3 a4 a5 a6 a7 hfo2
          rw [e10] at nx
          apply s_74_163
          exact ⟨ri, nx⟩
        clear ihj i1 i2 j1 j2 hfo hv hvr nI
        rw [hq]
        apply s_74_47
        refine ⟨fun z => absurd z (by omega), fun _ => ⟨by omega, mi_3, ?_⟩⟩
        by_cases hmq : may ρ m q = true
        · refine (cc.1 (hmm.1 hmq)) _ _ (by omega) ?_
          have b0 : g 2 0 = B := by rw [fr _ _ (by omega)]; exact hB
          apply s_74_60
          rw [fl_3_0, fl_3_1, b0, hL, up_3_8, up_3_1]
          refine ⟨fun _ => ⟨mi_3, mi_3, fun hlt => ⟨mi_3, by unfold r32; omega, mi_3, ?_⟩, fun hlt => ⟨mi_3, ?_⟩⟩, fun z => absurd (by decide) z⟩
          · have hLB : ¬ L = B := by omega
            obtain ⟨mf1, mf2, mf3⟩ := hmm.1 hmq
            have hq4 : gs 4 q = -1 := by
              rcases hTs.2.2 q hqw with z | ⟨i', z1, z2, z3⟩
              · exact z
              · exact absurd z3 (mf2 i' z1)
            generalize hg1 : mup g 2 1 (L + 1) = g1
            generalize hg2 : mup g1 3 m (q : Int) = g2
            generalize hg3 : mup g2 4 q (m : Int) = g3
            have f3 : ∀ o k, ¬ (o = 3 ∧ k = m ∨ o = 4 ∧ k = q ∨ o = 2 ∧ k = 1) → g3 o k = g o k := fun o k ho => by
              rw [← hg3, mup_n (by omega), ← hg2, mup_n (by omega), ← hg1, mup_n (by omega)]
            have l3 : g3 2 1 = L + 1 := by rw [← hg3, mup_n (by omega), ← hg2, mup_n (by omega), ← hg1, mup_e]
            have r3 : g3 3 m = (q : Int) := by rw [← hg3, mup_n (by omega), ← hg2, mup_e]
            have o3 : g3 4 q = (m : Int) := by rw [← hg3, mup_e]
            have fr3 : CFr g0 g3 := fun o k ho => by rw [f3 _ _ (by omega)]; exact fr o k ho
            have row3 : ∀ k, k < m + 1 → g3 3 k = rup ρ m (q : Int) k := fun k hk => by
              by_cases hkm : k = m
              · subst hkm; rw [r3, rup_e]
              · rw [f3 _ _ (by omega), rup_n (by omega)]; exact rows k (by omega)
            have T3 : TP (g0 (56 + 5 * s) 0) (g0 (56 + 5 * s) 1) (g3 4) (rup ρ m (q : Int)) (m + 1) := TP_s p1.2 hT hqw mf2 (fun k => by
              by_cases hkq : k = q
              · subst hkq; rw [if_pos rfl]; exact o3
              · rw [if_neg hkq]; exact f3 _ _ (by omega))
            have h83 : g3 2 8 = 0 := by rw [f3 _ _ (by omega)]; exact h8
            have eq : ((q : Int)).toNat = q := by omega
            have e1m : ((m + 1 : Nat) : Int) = (m : Int) + 1 := by omega
            -- taken back
            have back : ∀ (L' : Int) (g' : mF), stepQ B b n may al (srch B b n wh may al f) ρ m (0, L, ρ) q = (0, L', ρ) → CFr g0 g' → (∀ k, k < m + 1 → g' 3 k = rup ρ m (q : Int) k) → (∀ k, g' 4 k = g3 4 k) → g' 2 1 = L' → 0 ≤ L' → L' ≤ B → g' 2 8 = 0 → Wp X d SH 74 146 [(2, 3), (2, 57 + 5 * (s : Int)), (0, (m : Int)), (0, (A : Int) * 4), (0, (i : Int)), (0, (q : Int))] [] SH (fl g') Q := by
              intro L' g' e a1 a2 a3 a4 a5 a6 a7
              apply s_74_146
              rw [fl_3_3, eq, ml_5, up_5]
              refine ⟨mi_3, mi_5, by omega, by omega, ?_⟩
              generalize hg4 : mup g' 4 q (-1) = g4
              have f4 : ∀ o k, ¬ (o = 4 ∧ k = q) → g4 o k = g' o k := fun o k ho => by rw [← hg4, mup_n (by omega)]
              have nx := next L' g4 e (fun o k ho => by rw [f4 _ _ (by omega)]; exact a1 o k ho) (fun k hk => by rw [f4 _ _ (by omega), a2 k (by omega), rup_n hk]) (fun k => by
                by_cases hkq : k = q
                · subst hkq; rw [← hg4, mup_e, hq4]
                · rw [f4 _ _ (by omega), a3 k, f3 _ _ (by omega)]; exact pl k) (by rw [f4 _ _ (by omega)]; exact a4) a5 a6 (by rw [f4 _ _ (by omega)]; exact a7)
              apply s_74_154
              rw [fl_3_8, f4 2 8 (by omega), a7]
              exact ⟨mi_3, fun _ => nx, fun z => absurd rfl z⟩
            apply s_74_94
            rw [fl_3_2, ei, ml_4, up_4, hg2]
            refine ⟨mi_3, mi_4, by omega, by omega, ?_⟩
            apply s_74_102
            rw [fl_3_3, eq, ml_5, up_5, hg3]
            refine ⟨mi_3, mi_5, by omega, by omega, ?_⟩
            apply s_74_110
            have g4b : g3 2 4 = b := by rw [fr3 _ _ (by omega)]; exact hb
            rw [fl_3_4, g4b]
            refine ⟨mi_3, fun hqb => ⟨by unfold r32; omega, by omega, mi_3, ?_⟩, fun hqb => ⟨by unfold r32; omega, by omega, mi_3, ?_⟩⟩
            · -- deeper
              have st : stepQ B b n may al (srch B b n wh may al f) ρ m (0, L, ρ) q = if (srch B b n wh may al f (rup ρ m (q : Int)) (m + 1) (L + 1)).1 = 0 then (0, (srch B b n wh may al f (rup ρ m (q : Int)) (m + 1) (L + 1)).2.1, ρ) else srch B b n wh may al f (rup ρ m (q : Int)) (m + 1) (L + 1) := by
                by_cases hmn : m + 1 < n
                · exact sQ_d hmq hLB ⟨hmn, hqb⟩
                · rw [sQ_0 hmq hLB (fun z => hmn z.1) (fun z => hqb z.2.1)]
                  have f0 : f = 0 := by omega
                  subst f0
                  exact (if_pos rfl).symm
              have dp := ih (m + 1) (rup ρ m (q : Int)) (L + 1) g3 (d - 1) (fun r f' => Wp X d SH 74 141 [(2, 3), (2, 57 + 5 * (s : Int)), (0, (m : Int)), (0, (A : Int) * 4), (0, (i : Int)), (0, (q : Int))] (r.toList ++ []) SH f' Q) (by omega) (by omega) (by omega) fr3 row3 T3 l3 (by omega) (by omega) h83
              generalize srch B b n wh may al f (rup ρ m (q : Int)) (m + 1) (L + 1) = R at *
              rw [e1m] at dp
              refine dp (fun hR g' a1 a2 a3 a4 a5 a6 a7 => ?_) (fun hR g' a1 a2 a4 a7 => ?_) (fun hR g' a1 a4 a7 => ?_)
              · rw [if_pos hR] at st
                have nx := back R.2.1 g' st a1 a2 a3 a4 (by omega) (by omega) a7
                apply s_74_141
                exact ⟨fun _ => nx, fun z => absurd rfl z⟩
              · rw [if_neg (by omega)] at st
                rw [st, foldQ_stop (by omega)] at hfo2
                rw [← hfo2] at k1
                have q1 := k1 hR g' a1 a2 a4 a7
                apply s_74_141
                exact ⟨fun z => absurd z (by decide), fun _ => q1⟩
              · rw [if_neg (by omega)] at st
                rw [st, foldQ_stop (by omega)] at hfo2
                rw [← hfo2] at k2
                apply s_74_141
                refine ⟨fun _ => ?_, fun z => absurd rfl z⟩
                apply s_74_146
                rw [fl_3_3, eq, ml_5, up_5]
                refine ⟨mi_3, mi_5, by omega, by omega, ?_⟩
                generalize hg4 : mup g' 4 q (-1) = g4
                have f4 : ∀ o k, ¬ (o = 4 ∧ k = q) → g4 o k = g' o k := fun o k ho => by rw [← hg4, mup_n (by omega)]
                have q2 := k2 hR g4 (fun o k ho => by rw [f4 _ _ (by omega)]; exact a1 o k ho) (by rw [f4 _ _ (by omega)]; exact a4) (by rw [f4 _ _ (by omega)]; exact a7)
                apply s_74_154
                rw [fl_3_8, f4 2 8 (by omega), a7]
                exact ⟨mi_3, fun z => absurd z (by decide), fun _ => q2⟩
            · have hqb' : (q : Int) = b := Classical.not_not.1 hqb
              have w3 : g3 (56 + 5 * s) 0 = g0 (56 + 5 * s) 0 := fr3 _ _ (by omega)
              have h3 : g3 (56 + 5 * s) 1 = g0 (56 + 5 * s) 1 := fr3 _ _ (by omega)
              have e6 : g3 2 6 = g0 2 6 := fr3 _ _ (by omega)
              have ck := c76 X g3 hs (Iseal_fr hs (fun o k ho => fr3 o k (by omega)) hI) (n := n) (m := m + 1) (ρ := rup ρ m (q : Int)) (al := al) hn (by rw [fr3 _ _ (by omega)]; exact hn5) (by rw [e6]; exact hkind) (by rw [w3, h3, e6]; exact hal) (by rw [w3, h3]; exact T3)
              rw [e1m] at ck
              by_cases hz : m + 1 = n ∧ al (rup ρ m (q : Int)) = true
              · rw [sQ_1 hmq hLB ⟨hz.1, hqb', hz.2⟩, foldQ_stop (show (1 : Int) ≠ 0 by decide)] at hfo2
                rw [← hfo2] at k1
                have q1 := k1 rfl g3 fr3 (fun k hk => row3 k (by omega)) l3 h83
                refine (ck.1 hz) _ _ (by omega) ?_
                apply s_74_127
                exact ⟨fun z => absurd z (by decide), fun _ => q1⟩
              · have nx := back (L + 1) g3 (sQ_0 hmq hLB (fun z => z.2 hqb') (fun z => hz ⟨z.1, z.2.2⟩)) fr3 row3 (fun _ => rfl) l3 (by omega) (by omega) h83
                refine (ck.2 hz) _ _ (by omega) ?_
                apply s_74_127
                exact ⟨fun _ => nx, fun z => absurd rfl z⟩
          · have hLB : L = B := by omega
            rw [sQ_2 hmq hLB, foldQ_stop (show (2 : Int) ≠ 0 by decide)] at hfo2
            rw [← hfo2] at k2
            exact k2 rfl _ (fun o k ho => by rw [mup_n (by omega)]; exact fr o k ho) (by rw [mup_n (by omega)]; exact hL) mup_e
        · have nx := next L g (sQ_n hmq) fr rows pl hL hLa hLb h8
          refine (cc.2 (fun z => hmq (hmm.2 z))) _ _ (by omega) ?_
          apply s_74_60
          exact ⟨fun z => absurd rfl z, fun _ => nx⟩
  have st := side 4 0 L0 0 gs (3, 0) (by omega) (by omega) (fun x _ x2 x3 => by
    obtain ⟨j', z1, z2⟩ := (nI x (by omega)).2 x3
    exact ⟨j', by omega, z1, z2⟩) (fun j' _ z2 => by
    rcases nearf_r p1.2 p2.2 ha z2 with z | z
    · exact Or.inl z
    · exact Or.inr (by omega)) frs rows0 (fun _ => rfl) hL0 hL0a hL0b h80 rfl
  have t5 : gs 2 5 = (n : Int) := by rw [frs _ _ (by omega)]; exact hn5
  have t3 : gs 3 (m - 1) = (A : Int) := by rw [rows0 _ (by omega), hA]
  apply s_74_0
  rw [fl_3_5, t5, fl_3_2, em, ml_4, fl_4, t3]
  refine ⟨mi_3, fun z => absurd z (by omega), fun _ => ⟨fun _ => ⟨mi_3, by unfold r32; omega, mi_4, by omega, by omega, by unfold r32; omega, ?_⟩, fun z => absurd (by omega) z⟩⟩
  apply s_74_27
  exact st
