/-! draw: the class's recursion entire; what is found is a path -/
theorem cls (X : mX) {s : Nat} (hs : s < 6) {w h B b : Int} {n wh : Nat} {may : (Nat → Int) → Nat → Nat → Bool} {al : (Nat → Int) → Bool} {g0 : mF} (hI : Iseal g0 s) (ew : g0 (56 + 5 * s) 0 = w) (eh : g0 (56 + 5 * s) 1 = h) (hwh : w * h = (wh : Int)) (hB : g0 2 0 = B) (hBb : B ≤ 20000) (hb : g0 2 4 = b) (hn5 : g0 2 5 = (n : Int)) (hn : n ≤ 36) (hkind : 0 ≤ g0 2 6 ∧ g0 2 6 ≤ 3) (hmay : ∀ ρ m q, may ρ m q = true ↔ nrC w (ρ (m - 1)) (q : Int) ∧ MF w (g0 (59 + 5 * s)) ρ m (g0 2 7) (q : Int)) (hal : ∀ ρ, al ρ = true ↔ g0 2 6 = 0 ∨ ALM w h (g0 2 6) n ρ) : ∀ f, CLS X s w h B b n wh may al g0 f := by
  intro f
  induction f with
  | zero =>
    intro m ρ L gs d Q hd hm hmf fr rows hT hL hL0 hLB h8 k0 _ _
    have q0 := k0 rfl gs fr rows (fun _ => rfl) hL (by omega) (by omega) h8
    have t5 : gs 2 5 = (n : Int) := by rw [fr _ _ (by omega)]; exact hn5
    apply s_74_0
    rw [fl_3_5, t5]
    exact ⟨mi_3, fun _ => q0, fun z => absurd (by omega) z⟩
  | succ f ih => exact cls_in X hs hI ew eh hwh hB hBb hb hn5 hn hkind hmay hal f ih
def Good (w : Int) (wh : Nat) (ρ : Nat → Int) (m : Nat) : Prop := (∀ i, i < m → 0 ≤ ρ i ∧ ρ i < (wh : Int)) ∧ (∀ i j, i < j → j < m → ρ i ≠ ρ j) ∧ ∀ i, i + 1 < m → nrC w (ρ i) (ρ (i + 1))
theorem Good_s {w : Int} {wh : Nat} {bar ρ : Nat → Int} {m q : Nat} {snd : Int} (hG : Good w wh ρ m) (hm : 1 ≤ m) (hq : q < wh) (hn : nrC w (ρ (m - 1)) (q : Int)) (hM : MF w bar ρ m snd (q : Int)) : Good w wh (rup ρ m (q : Int)) (m + 1) := by
  obtain ⟨g1, g2, g3⟩ := hG
  refine ⟨fun i hi => ?_, fun i j hij hj => ?_, fun i hi => ?_⟩
  · by_cases him : i = m
    · subst him; rw [rup_e]; omega
    · rw [rup_n (by omega)]; exact g1 i (by omega)
  · by_cases hjm : j = m
    · subst hjm; rw [rup_e, rup_n hij]; exact hM.2.1 i hij
    · rw [rup_n (show i < m by omega), rup_n (show j < m by omega)]; exact g2 i j hij (by omega)
  · by_cases him : i + 1 = m
    · rw [him, rup_e, rup_n (show i < m by omega), show i = m - 1 by omega]; exact hn
    · rw [rup_n (show i < m by omega), rup_n (show i + 1 < m by omega)]; exact g3 i (by omega)
theorem foldQ_good {w B b : Int} {n wh : Nat} {may : (Nat → Int) → Nat → Nat → Bool} {al : (Nat → Int) → Bool} {rc : (Nat → Int) → Nat → Int → Int × Int × (Nat → Int)} {ρ : Nat → Int} {m : Nat} (hG : ∀ q, q < wh → may ρ m q = true → Good w wh (rup ρ m (q : Int)) (m + 1)) (hrc : ∀ ρ' L, Good w wh ρ' (m + 1) → (rc ρ' (m + 1) L).1 = 1 → Good w wh (rc ρ' (m + 1) L).2.2 n) : ∀ c q (r : Int × Int × (Nat → Int)), q + c = wh → (r.1 = 1 → Good w wh r.2.2 n) → (foldQ (stepQ B b n may al rc ρ m) c q r).1 = 1 → Good w wh (foldQ (stepQ B b n may al rc ρ m) c q r).2.2 n := by
  intro c
  induction c with
  | zero => intro q r _ hr; exact hr
  | succ c ih =>
    intro q r hq hr
    refine ih (q + 1) (stepQ B b n may al rc ρ m r q) (by omega) ?_
    unfold stepQ
    by_cases h0 : r.1 ≠ 0
    · rw [if_pos h0]; exact hr
    · rw [if_neg h0]
      by_cases h1 : may ρ m q = false
      · rw [if_pos h1]; exact hr
      · rw [if_neg h1]
        have hm1 : may ρ m q = true := by
          cases hx : may ρ m q
          · exact absurd hx h1
          · rfl
        have hg := hG q (by omega) hm1
        by_cases h2 : r.2.1 = B
        · rw [if_pos h2]; exact fun z => absurd z (by show ¬ (2 : Int) = 1; decide)
        · rw [if_neg h2]
          by_cases h3 : m + 1 < n ∧ (q : Int) ≠ b
          · rw [if_pos h3]
            by_cases h4 : (rc (rup ρ m (q : Int)) (m + 1) (r.2.1 + 1)).1 = 0
            · rw [if_pos h4]; exact fun z => absurd z (by show ¬ (0 : Int) = 1; decide)
            · rw [if_neg h4]; exact hrc _ _ hg
          · rw [if_neg h3]
            by_cases h4 : m + 1 = n ∧ (q : Int) = b ∧ al (rup ρ m (q : Int)) = true
            · rw [if_pos h4]
              intro _
              show Good w wh (rup ρ m (q : Int)) n
              rw [← h4.1]
              exact hg
            · rw [if_neg h4]; exact fun z => absurd z (by show ¬ (0 : Int) = 1; decide)
theorem srch_good {w B b snd : Int} {n wh : Nat} {may : (Nat → Int) → Nat → Nat → Bool} {al : (Nat → Int) → Bool} {bar : Nat → Int} (hmay : ∀ ρ m q, may ρ m q = true ↔ nrC w (ρ (m - 1)) (q : Int) ∧ MF w bar ρ m snd (q : Int)) : ∀ f ρ m L, 1 ≤ m → Good w wh ρ m → (srch B b n wh may al f ρ m L).1 = 1 → Good w wh (srch B b n wh may al f ρ m L).2.2 n := by
  intro f
  induction f with
  | zero => intro ρ m L _ _ z; exact absurd z (by show ¬ (0 : Int) = 1; decide)
  | succ f ih =>
    intro ρ m L hm hg
    exact foldQ_good (fun q hq hz => Good_s hg hm hq ((hmay _ _ _).1 hz).1 ((hmay _ _ _).1 hz).2) (fun ρ' L' hg' => ih ρ' (m + 1) L' (by omega) hg') wh 0 (0, L, ρ) (by omega) (fun z => absurd z (by show ¬ (0 : Int) = 1; decide))
