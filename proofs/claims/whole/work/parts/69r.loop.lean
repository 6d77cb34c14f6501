/-! draw: the reference's loop -/
set_option maxHeartbeats 4000000 in
theorem clm_in (X : mX) {s : Nat} (hs : s < 6) {w h B b snd kind : Int} {n wh : Nat} {may : (Nat → Int) → Nat → Nat → Bool} {al : (Nat → Int) → Bool} {g0 : mF} {d : Nat} {Q : mQ} {bar : Nat → Int} (hd : 4 ≤ d) (hw : 1 ≤ w ∧ w ≤ 6) (hh : 1 ≤ h ∧ h ≤ 6) (hwh : w * h = (wh : Int)) (h87 : g0 87 s = w) (h88 : g0 88 s = h) (hbar : ∀ q, q < 36 → g0 89 (36 * s + q) = bar q) (hB : g0 86 5 = B) (hBb : B ≤ 20000) (hn : n ≤ 36) (hkind : 0 ≤ kind ∧ kind ≤ 3) (hmay : ∀ ρ m q, may ρ m q = true ↔ nrC w (ρ (m - 1)) (q : Int) ∧ MF w bar ρ m snd (q : Int)) (hal : ∀ ρ, al ρ = true ↔ kind = 0 ∨ ALM w h kind n ρ) (f : Nat) (hf : ∀ f', f = f' + 1 → CLM X s w h B b snd kind n wh may al g0 d Q f') : CLM X s w h B b snd kind n wh may al g0 d Q f := by
  have hwb := mul_b hw hh
  have es : ((s : Int)).toNat = s := by omega
  intro m ρ c
  induction c with
  | zero =>
    intro L q g hm hmf hqc fr hrow hρ hL hL0 hLB k0 k1 k2
    have e87 : g 87 s = w := by rw [fr _ _ (by omega)]; exact h87
    have e88 : g 88 s = h := by rw [fr _ _ (by omega)]; exact h88
    have nx := k0 rfl g fr hrow (fun _ _ => rfl) hL (by omega) (by omega) (0, (q : Int))
    have hq : (q : Int) = (wh : Int) := by omega
    clear k0 k1 k2 hmay hal hf fr hrow hρ hbar
    rw [hq] at nx ⊢
    apply s_158_26
    try simp only [mi_87, fl_87_8, mi_94, ml_94, fl_94, up_94, fl_87_0, mi_88, ml_88, fl_88, up_88, fl_87_1, mi_89, ml_89, fl_89, up_89, fl_87_6, up_87_6, fl_87_5, up_87_5, fl_87_7, mi_93, ml_93, fl_93, up_93, es, e87, e88, hwh, true_and, and_true, true_or, or_true, implies_true, b10_0, b10_1]
    repeat' (first | refine And.intro ?_ ?_ | intro _)
    all_goals (try (first | omega | (unfold r32; omega) | exact hQ | exact qe hQ (by omega) | exact qe hQ (by (repeat' split) <;> omega) | exact b01 | exact n01 | exact n21 | exact n31 | exact absurd trivial (by assumption)))
    all_goals (try contradiction)
    apply s_158_64
    try simp only [mi_87, fl_87_8, mi_94, ml_94, fl_94, up_94, fl_87_0, mi_88, ml_88, fl_88, up_88, fl_87_1, mi_89, ml_89, fl_89, up_89, fl_87_6, up_87_6, fl_87_5, up_87_5, fl_87_7, mi_93, ml_93, fl_93, up_93, es, e87, e88, hwh, true_and, and_true, true_or, or_true, implies_true, b10_0, b10_1]
    repeat' (first | refine And.intro ?_ ?_ | intro _)
    all_goals (try (first | omega | (unfold r32; omega) | exact hQ | exact qe hQ (by omega) | exact qe hQ (by (repeat' split) <;> omega) | exact b01 | exact n01 | exact n21 | exact n31 | exact absurd trivial (by assumption)))
    all_goals (try contradiction)
    all_goals (try (refine s_158_202 ?_; exact nx))
  | succ c ihc =>
    intro L q g hm hmf hqc fr hrow hρ hL hL0 hLB k0 k1 k2
    have e87 : g 87 s = w := by rw [fr _ _ (by omega)]; exact h87
    have e88 : g 88 s = h := by rw [fr _ _ (by omega)]; exact h88
    have e5 : g 86 5 = B := by rw [fr _ _ (by omega)]; exact hB
    have hqw : (q : Int) < w * h := by omega
    have cc := c157 X g hs hw hh e87 (bar := bar) (fun q hq => by rw [fr _ _ (by omega)]; exact hbar q hq) (m := m) (q := q) (fun i hi => by rw [hrow i hi]; exact hρ i hi) ⟨hm, by omega⟩ hqw (snd := snd)
    have mayg : may ρ m q = true ↔ nrC w (g 92 (m - 1)) (q : Int) ∧ MF w bar (g 92) m snd (q : Int) := by
      rw [hmay, hrow (m - 1) (by omega)]
      exact ⟨fun z => ⟨z.1, MF_congr hrow z.2⟩, fun z => ⟨z.1, MF_congr (fun k hk => (hrow k hk).symm) z.2⟩⟩
    have e10 : ((q + 1 : Nat) : Int) = (q : Int) + 1 := by omega
    have nqw : ((wh : Int) ≤ (q : Int)) = False := eq_false (by omega)
    have fold : foldQ (stepQ B b n may al (srch B b n wh may al f) ρ m) (c + 1) q (0, L, ρ) = foldQ (stepQ B b n may al (srch B b n wh may al f) ρ m) c (q + 1) (stepQ B b n may al (srch B b n wh may al f) ρ m (0, L, ρ) q) := rfl
    rw [fold] at k0 k1 k2
    by_cases hmq : may ρ m q = true
    · have c1 := cc.1 (mayg.1 hmq)
      by_cases hLB2 : L = B
      · rw [sQ_2 hmq hLB2, foldQ_stop (show (2 : Int) ≠ 0 by decide)] at k2
        have q2 := k2 rfl g fr hL
        rw [hLB2] at hL
        clear k0 k1 k2 hmay hal hf fr hrow hρ hbar mayg cc ihc fold hmq
        apply s_158_26
        try simp only [mi_87, fl_87_8, mi_94, ml_94, fl_94, up_94, fl_87_0, mi_88, ml_88, fl_88, up_88, fl_87_1, mi_89, ml_89, fl_89, up_89, fl_87_6, up_87_6, fl_87_5, up_87_5, fl_87_7, mi_93, ml_93, fl_93, up_93, es, e87, e88, hwh, true_and, and_true, true_or, or_true, implies_true, b10_0, b10_1]
        repeat' (first | refine And.intro ?_ ?_ | intro _)
        all_goals (try (first | omega | (unfold r32; omega) | exact hQ | exact qe hQ (by omega) | exact qe hQ (by (repeat' split) <;> omega) | exact b01 | exact n01 | exact n21 | exact n31 | exact absurd trivial (by assumption)))
        all_goals (try contradiction)
        refine c1 _ _ (by omega) ?_
        apply s_158_55
        try simp only [mi_87, fl_87_8, mi_94, ml_94, fl_94, up_94, fl_87_0, mi_88, ml_88, fl_88, up_88, fl_87_1, mi_89, ml_89, fl_89, up_89, fl_87_6, up_87_6, fl_87_5, up_87_5, fl_87_7, mi_93, ml_93, fl_93, up_93, true_and, and_true, true_or, or_true, implies_true, b10_0, b10_1]
        repeat' (first | refine And.intro ?_ ?_ | intro _)
        all_goals (try (first | omega | (unfold r32; omega) | exact hQ | exact qe hQ (by omega) | exact qe hQ (by (repeat' split) <;> omega) | exact b01 | exact n01 | exact n21 | exact n31 | exact absurd trivial (by assumption)))
        apply s_158_64
        try simp only [mi_87, fl_87_8, mi_94, ml_94, fl_94, up_94, fl_87_0, mi_88, ml_88, fl_88, up_88, fl_87_1, mi_89, ml_89, fl_89, up_89, fl_87_6, up_87_6, fl_87_5, up_87_5, fl_87_7, mi_93, ml_93, fl_93, up_93, es, e87, e88, hwh, e5, hL, true_and, and_true, true_or, or_true, implies_true, b10_0, b10_1]
        repeat' (first | refine And.intro ?_ ?_ | intro _)
        all_goals (try (first | omega | (unfold r32; omega) | exact hQ | exact qe hQ (by omega) | exact qe hQ (by (repeat' split) <;> omega) | exact b01 | exact n01 | exact n21 | exact n31 | exact absurd trivial (by assumption)))
        all_goals (try contradiction)
        all_goals (try exact q2)
      · -- the look
        generalize hg1 : mup g 86 6 (L + 1) = g1
        generalize hg2 : mup g1 93 (m - 1) ((q : Int) + 1) = g2
        generalize hg3 : mup g2 92 m (q : Int) = g3
        have f3 : ∀ o k, ¬ (o = 92 ∧ k = m ∨ o = 93 ∧ k = m - 1 ∨ o = 86 ∧ k = 6) → g3 o k = g o k := fun o k ho => by
          rw [← hg3, mup_n (by omega), ← hg2, mup_n (by omega), ← hg1, mup_n (by omega)]
        have l3 : g3 86 6 = L + 1 := by rw [← hg3, mup_n (by omega), ← hg2, mup_n (by omega), ← hg1, mup_e]
        have r3 : g3 92 m = (q : Int) := by rw [← hg3, mup_e]
        have o3 : g3 93 (m - 1) = (q : Int) + 1 := by rw [← hg3, mup_n (by omega), ← hg2, mup_e]
        have fr3 : ∀ o k, ¬ (o = 92 ∨ o = 93 ∨ o = 86 ∧ k = 6) → g3 o k = g0 o k := fun o k ho => by rw [f3 _ _ (by omega)]; exact fr o k ho
        have row3 : ∀ k, k < m → g3 92 k = ρ k := fun k hk => by rw [f3 _ _ (by omega)]; exact hrow k hk
        have row3' : ∀ k, k < m + 1 → g3 92 k = rup ρ m (q : Int) k := fun k hk => by
          by_cases hkm : k = m
          · subst hkm; rw [r3, rup_e]
          · rw [row3 k (by omega), rup_n (by omega)]
        have hρ' : ∀ k, k < m + 1 → 0 ≤ rup ρ m (q : Int) k ∧ rup ρ m (q : Int) k < w * h := fun k hk => by
          by_cases hkm : k = m
          · subst hkm; rw [rup_e]; omega
          · rw [rup_n (by omega)]; exact hρ k (by omega)
        have em : ((m : Int) - 1).toNat = m - 1 := by omega
        have ei : ((m : Int)).toNat = m := by omega
        -- back at the head, from the next square
        have head : ∀ g' : mF, g' 93 (m - 1) = (q : Int) + 1 → Wp X d SH 158 26 [(2, 87), (0, (s : Int)), (0, b), (0, (n : Int)), (0, snd), (0, kind), (0, (m : Int)), (0, (q : Int) + 1)] [] SH (fl g') Q → ∀ v7, Wp X d SH 158 10 [(2, 87), (0, (s : Int)), (0, b), (0, (n : Int)), (0, snd), (0, kind), (0, (m : Int)), v7] [] SH (fl g') Q := by
          intro g' h93 hw v7
          clear k0 k1 k2 hmay hal hf fr hrow hρ hbar mayg cc ihc fold hmq row3 row3' hρ' f3 fr3
          apply s_158_10
          try simp only [mi_87, fl_87_8, mi_94, ml_94, fl_94, up_94, fl_87_0, mi_88, ml_88, fl_88, up_88, fl_87_1, mi_89, ml_89, fl_89, up_89, fl_87_6, up_87_6, fl_87_5, up_87_5, fl_87_7, mi_93, ml_93, fl_93, up_93, em, h93, true_and, and_true, true_or, or_true, implies_true, b10_0, b10_1]
          repeat' (first | refine And.intro ?_ ?_ | intro _)
          all_goals (try (first | omega | (unfold r32; omega) | exact hQ | exact qe hQ (by omega) | exact qe hQ (by (repeat' split) <;> omega) | exact b01 | exact n01 | exact n21 | exact n31 | exact absurd trivial (by assumption)))
          all_goals (try exact hw)
        have upto : Wp X d SH 158 135 [(2, 87), (0, (s : Int)), (0, b), (0, (n : Int)), (0, snd), (0, kind), (0, (m : Int)), (0, (q : Int))] [] SH (fl g3) Q → Wp X d SH 158 26 [(2, 87), (0, (s : Int)), (0, b), (0, (n : Int)), (0, snd), (0, kind), (0, (m : Int)), (0, (q : Int))] [] SH (fl g) Q := by
          intro hw
          clear k0 k1 k2 hmay hal hf fr hrow hρ hbar mayg cc ihc fold hmq row3 row3' hρ' f3 fr3 head
          have hLB3 : (L = B) = False := eq_false hLB2
          apply s_158_26
          try simp only [mi_87, fl_87_8, mi_94, ml_94, fl_94, up_94, fl_87_0, mi_88, ml_88, fl_88, up_88, fl_87_1, mi_89, ml_89, fl_89, up_89, fl_87_6, up_87_6, fl_87_5, up_87_5, fl_87_7, mi_93, ml_93, fl_93, up_93, es, e87, e88, hwh, true_and, and_true, true_or, or_true, implies_true, b10_0, b10_1]
          repeat' (first | refine And.intro ?_ ?_ | intro _)
          all_goals (try (first | omega | (unfold r32; omega) | exact hQ | exact qe hQ (by omega) | exact qe hQ (by (repeat' split) <;> omega) | exact b01 | exact n01 | exact n21 | exact n31 | exact absurd trivial (by assumption)))
          all_goals (try contradiction)
          refine c1 _ _ (by omega) ?_
          apply s_158_55
          try simp only [mi_87, fl_87_8, mi_94, ml_94, fl_94, up_94, fl_87_0, mi_88, ml_88, fl_88, up_88, fl_87_1, mi_89, ml_89, fl_89, up_89, fl_87_6, up_87_6, fl_87_5, up_87_5, fl_87_7, mi_93, ml_93, fl_93, up_93, true_and, and_true, true_or, or_true, implies_true, b10_0, b10_1]
          repeat' (first | refine And.intro ?_ ?_ | intro _)
          all_goals (try (first | omega | (unfold r32; omega) | exact hQ | exact qe hQ (by omega) | exact qe hQ (by (repeat' split) <;> omega) | exact b01 | exact n01 | exact n21 | exact n31 | exact absurd trivial (by assumption)))
          apply s_158_64
          try simp only [mi_87, fl_87_8, mi_94, ml_94, fl_94, up_94, fl_87_0, mi_88, ml_88, fl_88, up_88, fl_87_1, mi_89, ml_89, fl_89, up_89, fl_87_6, up_87_6, fl_87_5, up_87_5, fl_87_7, mi_93, ml_93, fl_93, up_93, es, e87, e88, hwh, e5, hL, hg1, true_and, and_true, true_or, or_true, implies_true, b10_0, b10_1]
          repeat' (first | refine And.intro ?_ ?_ | intro _)
          all_goals (try (first | omega | (unfold r32; omega) | exact hQ | exact qe hQ (by omega) | exact qe hQ (by (repeat' split) <;> omega) | exact b01 | exact n01 | exact n21 | exact n31 | exact absurd trivial (by assumption)))
          all_goals (try contradiction)
          apply s_158_113
          try simp only [mi_87, fl_87_8, mi_94, ml_94, fl_94, up_94, fl_87_0, mi_88, ml_88, fl_88, up_88, fl_87_1, mi_89, ml_89, fl_89, up_89, fl_87_6, up_87_6, fl_87_5, up_87_5, fl_87_7, mi_93, ml_93, fl_93, up_93, em, hg2, true_and, and_true, true_or, or_true, implies_true, b10_0, b10_1]
          repeat' (first | refine And.intro ?_ ?_ | intro _)
          all_goals (try (first | omega | (unfold r32; omega) | exact hQ | exact qe hQ (by omega) | exact qe hQ (by (repeat' split) <;> omega) | exact b01 | exact n01 | exact n21 | exact n31 | exact absurd trivial (by assumption)))
          apply s_158_126
          try simp only [mi_87, fl_87_8, mi_94, ml_94, fl_94, up_94, fl_87_0, mi_88, ml_88, fl_88, up_88, fl_87_1, mi_89, ml_89, fl_89, up_89, fl_87_6, up_87_6, fl_87_5, up_87_5, fl_87_7, mi_93, ml_93, fl_93, up_93, ei, hg3, true_and, and_true, true_or, or_true, implies_true, b10_0, b10_1]
          repeat' (first | refine And.intro ?_ ?_ | intro _)
          all_goals (try (first | omega | (unfold r32; omega) | exact hQ | exact qe hQ (by omega) | exact qe hQ (by (repeat' split) <;> omega) | exact b01 | exact n01 | exact n21 | exact n31 | exact absurd trivial (by assumption)))
          all_goals (try exact hw)
        refine upto ?_
        clear upto c1 cc mayg hg1 hg2 hg3
        by_cases hdeep : m + 1 < n ∧ (q : Int) ≠ b
        · -- deeper
          obtain ⟨f', rfl⟩ : ∃ f', f = f' + 1 := ⟨f - 1, by omega⟩
          have deep := hf f' rfl
          rw [sQ_d hmq hLB2 hdeep] at k0 k1 k2
          generalize hg4 : mup g3 93 m 0 = g4
          have f4 : ∀ o k, ¬ (o = 93 ∧ k = m) → g4 o k = g3 o k := fun o k ho => by rw [← hg4, mup_n (by omega)]
          have o4 : g4 93 m = 0 := by rw [← hg4, mup_e]
          have em1 : ((m : Int) + 1 - 1).toNat = m := by omega
          have e1m : ((m + 1 : Nat) : Int) = (m : Int) + 1 := by omega
          have e1n : ((m + 1 : Nat) : Int) + -1 = (m : Int) := by omega
          have sr : srch B b n wh may al (f' + 1) (rup ρ m (q : Int)) (m + 1) (L + 1) = foldQ (stepQ B b n may al (srch B b n wh may al f') (rup ρ m (q : Int)) (m + 1)) wh 0 (0, L + 1, rup ρ m (q : Int)) := rfl
          have dp := deep (m + 1) (rup ρ m (q : Int)) wh (L + 1) 0 g4 (by omega) (by omega) (by omega) (fun o k ho => by rw [f4 _ _ (by omega)]; exact fr3 o k ho) (fun k hk => by rw [f4 _ _ (by omega)]; exact row3' k hk) hρ' (by rw [f4 _ _ (by omega)]; exact l3) (by omega) (by omega)
          rw [← sr] at dp
          generalize srch B b n wh may al (f' + 1) (rup ρ m (q : Int)) (m + 1) (L + 1) = R at *
          have w26 := dp (fun hR g' fr' row' h93' l' lo' hi' v7 => by
            rw [if_pos hR] at k0 k1 k2
            rw [e1n]
            refine head g' (by rw [h93' (m - 1) (by omega), f4 _ _ (by omega)]; exact o3) ?_ v7
            have z := ihc R.2.1 (q + 1) g' hm hmf (by omega) fr' (fun k hk => by rw [row' k (by omega), rup_n hk]) hρ l' (by omega) (by omega) (fun hr g'' a1 a2 a3 a4 a5 a6 => k0 hr g'' a1 a2 (fun k hk => by rw [a3 k hk, h93' k (by omega), f4 _ _ (by omega), f3 _ _ (by omega)]) a4 a5 a6) k1 k2
            rw [e10] at z
            exact z) (fun hR g' fr' row' l' => by
            rw [if_neg (by omega), foldQ_stop (by omega)] at k1
            exact k1 hR g' fr' row' l') (fun hR g' fr' l' => by
            rw [if_neg (by omega), foldQ_stop (by omega)] at k2
            exact k2 hR g' fr' l')
          rw [e1m] at w26
          have hdn : ((n : Int) ≤ (m : Int) + 1) = False := eq_false (by omega)
          have hqb : ((q : Int) = b) = False := eq_false hdeep.2
          clear k0 k1 k2 hmay hal hf fr hrow hρ hbar ihc fold hmq row3 row3' hρ' f3 fr3 head dp deep f4 sr hdeep
          apply s_158_135
          try simp only [mi_87, fl_87_8, mi_94, ml_94, fl_94, up_94, fl_87_0, mi_88, ml_88, fl_88, up_88, fl_87_1, mi_89, ml_89, fl_89, up_89, fl_87_6, up_87_6, fl_87_5, up_87_5, fl_87_7, mi_93, ml_93, fl_93, up_93, em1, hdn, hqb, hg4, true_and, and_true, true_or, or_true, implies_true, b10_0, b10_1]
          repeat' (first | refine And.intro ?_ ?_ | intro _)
          all_goals (try (first | omega | (unfold r32; omega) | exact hQ | exact qe hQ (by omega) | exact qe hQ (by (repeat' split) <;> omega) | exact b01 | exact n01 | exact n21 | exact n31 | exact absurd trivial (by assumption)))
          all_goals (try contradiction)
          refine s_158_162 ?_
          refine s_158_202 ?_
          apply s_158_10
          try simp only [mi_87, fl_87_8, mi_94, ml_94, fl_94, up_94, fl_87_0, mi_88, ml_88, fl_88, up_88, fl_87_1, mi_89, ml_89, fl_89, up_89, fl_87_6, up_87_6, fl_87_5, up_87_5, fl_87_7, mi_93, ml_93, fl_93, up_93, em1, o4, true_and, and_true, true_or, or_true, implies_true, b10_0, b10_1]
          repeat' (first | refine And.intro ?_ ?_ | intro _)
          all_goals (try (first | omega | (unfold r32; omega) | exact hQ | exact qe hQ (by omega) | exact qe hQ (by (repeat' split) <;> omega) | exact b01 | exact n01 | exact n21 | exact n31 | exact absurd trivial (by assumption)))
          all_goals (try exact w26)
        · have lst : Wp X d SH 158 165 [(2, 87), (0, (s : Int)), (0, b), (0, (n : Int)), (0, snd), (0, kind), (0, (m : Int)), (0, (q : Int))] [] SH (fl g3) Q → Wp X d SH 158 135 [(2, 87), (0, (s : Int)), (0, b), (0, (n : Int)), (0, snd), (0, kind), (0, (m : Int)), (0, (q : Int))] [] SH (fl g3) Q := by
            intro hw
            apply s_158_135
            refine ⟨by unfold r32; omega, fun _ => hw, fun z => ⟨fun _ => hw, fun y => absurd ⟨by omega, y⟩ hdeep⟩⟩
          refine lst ?_
          clear lst
          have next : ¬ (m + 1 = n ∧ (q : Int) = b ∧ al (rup ρ m (q : Int)) = true) → Wp X d SH 158 202 [(2, 87), (0, (s : Int)), (0, b), (0, (n : Int)), (0, snd), (0, kind), (0, (m : Int)), (0, (q : Int))] [] SH (fl g3) Q := by
            intro hno
            rw [sQ_0 hmq hLB2 hdeep hno] at k0 k1 k2
            refine s_158_202 ?_
            refine head g3 o3 ?_ _
            have z := ihc (L + 1) (q + 1) g3 hm hmf (by omega) fr3 row3 hρ l3 (by omega) (by omega) (fun hr g'' a1 a2 a3 a4 a5 a6 => k0 hr g'' a1 a2 (fun k hk => by rw [a3 k hk, f3 _ _ (by omega)]) a4 a5 a6) k1 k2
            rw [e10] at z
            exact z
          have found : (m + 1 = n ∧ (q : Int) = b ∧ al (rup ρ m (q : Int)) = true) → Q (some (0, (n : Int))) (fl g3) := by
            intro hz
            rw [sQ_1 hmq hLB2 hz, foldQ_stop (show (1 : Int) ≠ 0 by decide)] at k1
            exact k1 rfl g3 fr3 (fun k hk => row3' k (by omega)) l3
          apply s_158_165
          refine ⟨by unfold r32; omega, fun z => next (fun y => z (by omega)), fun z1 => ⟨fun z => next (fun y => z y.2.1), fun z2 => ⟨fun z => ?_, fun z => ?_⟩⟩⟩
          · exact found ⟨by omega, Classical.not_not.1 z2, (hal _).2 (Or.inl z)⟩
          · have hmn : m + 1 = n := by omega
            have hqb : (q : Int) = b := Classical.not_not.1 z2
            have c2 := c156 X g3 hs hw hh (by rw [fr3 _ _ (by omega)]; exact h87) (by rw [fr3 _ _ (by omega)]; exact h88) (R := 93) mi_93 (L := 36) ml_93 (ρ := g3 92) (fun k => fl_93 g3 k) (F := 0) (M := n) (by omega) (by omega) (fun i hi => by rw [Nat.zero_add, row3' i (by omega)]; exact hρ' i (by omega)) (kind := kind) (by omega)
            have hA : al (rup ρ m (q : Int)) = true ↔ ALM w h kind n (fun i => g3 92 (0 + i)) := by
              rw [hal]
              constructor
              · intro y
                refine ALM_congr (fun k hk => ?_) (y.resolve_left z)
                show g3 92 (0 + k) = _
                rw [Nat.zero_add]
                exact row3' k (by omega)
              · intro y
                refine Or.inr (ALM_congr (fun k hk => ?_) y)
                show _ = g3 92 (0 + k)
                rw [Nat.zero_add]
                exact (row3' k (by omega)).symm
            refine ⟨mi_87, by omega, mi_87, ?_⟩
            rw [fl_87_7]
            by_cases hAA : al (rup ρ m (q : Int)) = true
            · have q1 := found ⟨hmn, hqb, hAA⟩
              refine (c2.1 (hA.1 hAA)) _ _ (by omega) ?_
              apply s_158_197
              exact ⟨fun y => absurd y (by decide), fun _ => q1⟩
            · have nx := next (fun y => hAA y.2.2)
              refine (c2.2 (fun y => hAA (hA.2 y))) _ _ (by omega) ?_
              apply s_158_197
              exact ⟨fun _ => nx, fun y => absurd rfl y⟩
    · have c1 := cc.2 (fun z => hmq (mayg.2 z))
      rw [sQ_n hmq] at k0 k1 k2
      have nx := ihc L (q + 1) g hm hmf (by omega) fr hrow hρ hL hL0 hLB k0 k1 k2
      rw [e10] at nx
      clear k0 k1 k2 hmay hal hf fr hrow hρ hbar mayg cc ihc fold hmq
      apply s_158_26
      try simp only [mi_87, fl_87_8, mi_94, ml_94, fl_94, up_94, fl_87_0, mi_88, ml_88, fl_88, up_88, fl_87_1, mi_89, ml_89, fl_89, up_89, fl_87_6, up_87_6, fl_87_5, up_87_5, fl_87_7, mi_93, ml_93, fl_93, up_93, es, e87, e88, hwh, true_and, and_true, true_or, or_true, implies_true, b10_0, b10_1]
      repeat' (first | refine And.intro ?_ ?_ | intro _)
      all_goals (try (first | omega | (unfold r32; omega) | exact hQ | exact qe hQ (by omega) | exact qe hQ (by (repeat' split) <;> omega) | exact b01 | exact n01 | exact n21 | exact n31 | exact absurd trivial (by assumption)))
      all_goals (try contradiction)
      refine c1 _ _ (by omega) ?_
      apply s_158_55
      try simp only [mi_87, fl_87_8, mi_94, ml_94, fl_94, up_94, fl_87_0, mi_88, ml_88, fl_88, up_88, fl_87_1, mi_89, ml_89, fl_89, up_89, fl_87_6, up_87_6, fl_87_5, up_87_5, fl_87_7, mi_93, ml_93, fl_93, up_93, true_and, and_true, true_or, or_true, implies_true, b10_0, b10_1]
      repeat' (first | refine And.intro ?_ ?_ | intro _)
      all_goals (try (first | omega | (unfold r32; omega) | exact hQ | exact qe hQ (by omega) | exact qe hQ (by (repeat' split) <;> omega) | exact b01 | exact n01 | exact n21 | exact n31 | exact absurd trivial (by assumption)))
      all_goals (try exact nx)
theorem clm (X : mX) {s : Nat} (hs : s < 6) {w h B b snd kind : Int} {n wh : Nat} {may : (Nat → Int) → Nat → Nat → Bool} {al : (Nat → Int) → Bool} {g0 : mF} {d : Nat} {Q : mQ} {bar : Nat → Int} (hd : 4 ≤ d) (hw : 1 ≤ w ∧ w ≤ 6) (hh : 1 ≤ h ∧ h ≤ 6) (hwh : w * h = (wh : Int)) (h87 : g0 87 s = w) (h88 : g0 88 s = h) (hbar : ∀ q, q < 36 → g0 89 (36 * s + q) = bar q) (hB : g0 86 5 = B) (hBb : B ≤ 20000) (hn : n ≤ 36) (hkind : 0 ≤ kind ∧ kind ≤ 3) (hmay : ∀ ρ m q, may ρ m q = true ↔ nrC w (ρ (m - 1)) (q : Int) ∧ MF w bar ρ m snd (q : Int)) (hal : ∀ ρ, al ρ = true ↔ kind = 0 ∨ ALM w h kind n ρ) : ∀ f, CLM X s w h B b snd kind n wh may al g0 d Q f := by
  intro f
  induction f with
  | zero => exact clm_in X hs hd hw hh hwh h87 h88 hbar hB hBb hn hkind hmay hal 0 (fun f' e => absurd e (by omega))
  | succ f ih => exact clm_in X hs hd hw hh hwh h87 h88 hbar hB hBb hn hkind hmay hal (f + 1) (fun f' e => by
      have : f' = f := by omega
      subst this
      exact ih)
