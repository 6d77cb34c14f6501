/-! draw: both searches, from one square -/
theorem foldQ_looks {B b : Int} {n : Nat} {may : (Nat → Int) → Nat → Nat → Bool} {al : (Nat → Int) → Bool} {rc : (Nat → Int) → Nat → Int → Int × Int × (Nat → Int)} (hrc : ∀ ρ m L, 0 ≤ L → L ≤ B → 0 ≤ (rc ρ m L).2.1 ∧ (rc ρ m L).2.1 ≤ B) {ρ : Nat → Int} {m : Nat} : ∀ c q (r : Int × Int × (Nat → Int)), 0 ≤ r.2.1 ∧ r.2.1 ≤ B → 0 ≤ (foldQ (stepQ B b n may al rc ρ m) c q r).2.1 ∧ (foldQ (stepQ B b n may al rc ρ m) c q r).2.1 ≤ B := by
  intro c
  induction c with
  | zero => intro q r hr; exact hr
  | succ c ih =>
    intro q r hr
    refine ih (q + 1) (stepQ B b n may al rc ρ m r q) ?_
    unfold stepQ
    by_cases h0 : r.1 ≠ 0
    · rw [if_pos h0]; exact hr
    · rw [if_neg h0]
      by_cases h1 : may ρ m q = false
      · rw [if_pos h1]; exact hr
      · rw [if_neg h1]
        by_cases h2 : r.2.1 = B
        · rw [if_pos h2]; exact hr
        · rw [if_neg h2]
          have hl := hrc (rup ρ m (q : Int)) (m + 1) (r.2.1 + 1) (by omega) (by omega)
          have hr2 : 0 ≤ r.2.1 + 1 ∧ r.2.1 + 1 ≤ B := by omega
          by_cases h3 : m + 1 < n ∧ (q : Int) ≠ b
          · rw [if_pos h3]
            by_cases h4 : (rc (rup ρ m (q : Int)) (m + 1) (r.2.1 + 1)).1 = 0
            · rw [if_pos h4]; exact hl
            · rw [if_neg h4]; exact hl
          · rw [if_neg h3]
            by_cases h4 : m + 1 = n ∧ (q : Int) = b ∧ al (rup ρ m (q : Int)) = true
            · rw [if_pos h4]; exact hr2
            · rw [if_neg h4]; exact hr2
theorem srch_looks {B b : Int} {n wh : Nat} {may : (Nat → Int) → Nat → Nat → Bool} {al : (Nat → Int) → Bool} : ∀ f ρ m L, 0 ≤ L → L ≤ B → 0 ≤ (srch B b n wh may al f ρ m L).2.1 ∧ (srch B b n wh may al f ρ m L).2.1 ≤ B := by
  intro f
  induction f with
  | zero => intro ρ m L h1 h2; exact ⟨h1, h2⟩
  | succ f ih => intro ρ m L h1 h2; exact foldQ_looks ih wh 0 (0, L, ρ) ⟨h1, h2⟩
theorem c158 (X : mX) (g : mF) {s : Nat} (hs : s < 6) {w h B b snd kind a : Int} {n wh : Nat} {may : (Nat → Int) → Nat → Nat → Bool} {al : (Nat → Int) → Bool} {bar : Nat → Int} (hw : 1 ≤ w ∧ w ≤ 6) (hh : 1 ≤ h ∧ h ≤ 6) (hwh : w * h = (wh : Int)) (h87 : g 87 s = w) (h88 : g 88 s = h) (hbar : ∀ q, q < 36 → g 89 (36 * s + q) = bar q) (hB : g 86 5 = B) (hBb : 100 ≤ B ∧ B ≤ 20000) (hn : 2 ≤ n ∧ n ≤ 36) (hkind : 0 ≤ kind ∧ kind ≤ 3) (hmay : ∀ ρ m q, may ρ m q = true ↔ nrC w (ρ (m - 1)) (q : Int) ∧ MF w bar ρ m snd (q : Int)) (hal : ∀ ρ, al ρ = true ↔ kind = 0 ∨ ALM w h kind n ρ) (h92 : g 92 0 = a) (ha : 0 ≤ a ∧ a < w * h) (hL : g 86 6 = 0) : Rel X 6 158 [(2, 87), (0, (s : Int)), (0, b), (0, (n : Int)), (0, snd), (0, kind), (3, 0), (3, 0)] g (fun r g' => (∀ o k, ¬ (o = 92 ∨ o = 93 ∨ o = 86 ∧ k = 6) → g' o k = g o k) ∧ g' 86 6 = (srch B b n wh may al (n - 1) (fun _ => a) 1 0).2.1 ∧ ((srch B b n wh may al (n - 1) (fun _ => a) 1 0).1 = 0 ∧ r = some (0, 0) ∨ (srch B b n wh may al (n - 1) (fun _ => a) 1 0).1 = 1 ∧ r = some (0, (n : Int)) ∧ (∀ k, k < n → g' 92 k = (srch B b n wh may al (n - 1) (fun _ => a) 1 0).2.2 k) ∨ (srch B b n wh may al (n - 1) (fun _ => a) 1 0).1 = 2 ∧ r = some (0, -1005))) := by
  intro d Q hd hQ
  obtain ⟨f, rfl⟩ : ∃ f, n = f + 2 := ⟨n - 2, by omega⟩
  rw [show f + 2 - 1 = f + 1 by omega] at hQ
  have sr : srch B b (f + 2) wh may al (f + 1) (fun _ => a) 1 0 = foldQ (stepQ B b (f + 2) may al (srch B b (f + 2) wh may al f) (fun _ => a) 1) wh 0 (0, 0, fun _ => a) := rfl
  rw [sr] at hQ
  generalize hg1 : mup g 93 0 0 = g1
  have f1 : ∀ o k, ¬ (o = 93 ∧ k = 0) → g1 o k = g o k := fun o k ho => by rw [← hg1, mup_n (by omega)]
  have c := clm X hs (d := d) (Q := Q) (b := b) (by omega) hw hh hwh h87 h88 hbar hB hBb.2 hn.2 hkind hmay hal f 1 (fun _ => a) wh 0 0 g1 (by omega) (by omega) (by omega) (fun o k ho => f1 _ _ (by omega)) (fun k hk => by
    have : k = 0 := by omega
    subst this
    rw [f1 _ _ (by omega)]
    exact h92) (fun k _ => ha) (by rw [f1 _ _ (by omega)]; exact hL) (by omega) (by omega) (fun hR g' a1 a2 a3 a4 a5 a6 v7 => by
    have q0 := hQ (some (0, 0)) g' ⟨a1, a4, Or.inl ⟨hR, rfl⟩⟩
    apply s_158_10
    exact ⟨fun _ => q0, fun z => absurd (by decide) z⟩) (fun hR g' a1 a2 a4 => hQ _ g' ⟨a1, a4, Or.inr (Or.inl ⟨hR, rfl, a2⟩)⟩) (fun hR g' a1 a4 => hQ _ g' ⟨a1, a4, Or.inr (Or.inr ⟨hR, rfl⟩)⟩)
  have o1 : g1 93 0 = 0 := by rw [← hg1, mup_e]
  clear hQ
  apply s_158_0
  rw [fl_87_8, ml_94, up_94, show ((0 : Int)).toNat = 0 from rfl, hg1]
  refine ⟨mi_87, mi_94, by omega, by omega, ?_⟩
  apply s_158_10
  rw [fl_87_8, ml_94, show ((1 : Int) - 1).toNat = 0 from rfl, fl_94, o1]
  exact ⟨fun z => absurd z (by decide), fun _ => ⟨mi_87, by unfold r32; omega, mi_94, by omega, by omega, c⟩⟩
theorem c74 (X : mX) (g : mF) {s : Nat} (hs : s < 6) {w h B b a : Int} {n wh : Nat} {may : (Nat → Int) → Nat → Nat → Bool} {al : (Nat → Int) → Bool} (hI : Iseal g s) (ew : g (56 + 5 * s) 0 = w) (eh : g (56 + 5 * s) 1 = h) (hwh : w * h = (wh : Int)) (hB : g 2 0 = B) (hBb : 100 ≤ B ∧ B ≤ 20000) (hb : g 2 4 = b) (hn5 : g 2 5 = (n : Int)) (hn : 1 ≤ n ∧ n ≤ 36) (hkind : 0 ≤ g 2 6 ∧ g 2 6 ≤ 3) (hmay : ∀ ρ m q, may ρ m q = true ↔ nrC w (ρ (m - 1)) (q : Int) ∧ MF w (g (59 + 5 * s)) ρ m (g 2 7) (q : Int)) (hal : ∀ ρ, al ρ = true ↔ g 2 6 = 0 ∨ ALM w h (g 2 6) n ρ) (h3 : g 3 0 = a) (hT : TP w h (g 4) (fun _ => a) 1) (hL : g 2 1 = 0) (h8 : g 2 8 = 0) : Rel X 45 74 [(2, 3), (2, 57 + 5 * (s : Int)), (0, 1), (3, 0), (3, 0), (3, 0)] g (fun r g' => CFr g g' ∧ g' 2 1 = (srch B b n wh may al (n - 1) (fun _ => a) 1 0).2.1 ∧ ((srch B b n wh may al (n - 1) (fun _ => a) 1 0).1 = 0 ∧ r = some (0, 0) ∧ g' 2 8 = 0 ∨ (srch B b n wh may al (n - 1) (fun _ => a) 1 0).1 = 1 ∧ r = some (0, 1) ∧ (∀ k, k < n → g' 3 k = (srch B b n wh may al (n - 1) (fun _ => a) 1 0).2.2 k) ∧ g' 2 8 = 0 ∨ (srch B b n wh may al (n - 1) (fun _ => a) 1 0).1 = 2 ∧ r = some (0, 0) ∧ g' 2 8 = 1)) := by
  intro d Q hd hQ
  exact cls X hs hI ew eh hwh hB hBb.2 hb hn5 hn.2 hkind hmay hal (n - 1) 1 (fun _ => a) 0 g d Q (by omega) (by omega) (by omega) (fun _ _ _ => rfl) (fun k hk => by
    have : k = 0 := by omega
    subst this
    exact h3) hT hL (by omega) (by omega) h8 (fun hR g' a1 a2 a3 a4 a5 a6 a7 => hQ _ g' ⟨a1, a4, Or.inl ⟨hR, rfl, a7⟩⟩) (fun hR g' a1 a2 a4 a7 => hQ _ g' ⟨a1, a4, Or.inr (Or.inl ⟨hR, rfl, a2, a7⟩)⟩) (fun hR g' a1 a4 a7 => hQ _ g' ⟨a1, a4, Or.inr (Or.inr ⟨hR, rfl, a7⟩)⟩)
