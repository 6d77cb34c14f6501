/-! draw: the tries in their order -/
def rup (ρ : Nat → Int) (m : Nat) (q : Int) : Nat → Int := fun k => if k = m then q else ρ k
def stepQ (B b : Int) (n : Nat) (may : (Nat → Int) → Nat → Nat → Bool) (al : (Nat → Int) → Bool) (rc : (Nat → Int) → Nat → Int → Int × Int × (Nat → Int)) (ρ : Nat → Int) (m : Nat) (r : Int × Int × (Nat → Int)) (q : Nat) : Int × Int × (Nat → Int) :=
  if r.1 ≠ 0 then r else if may ρ m q = false then r else if r.2.1 = B then (2, r.2.1, ρ) else if m + 1 < n ∧ (q : Int) ≠ b then (if (rc (rup ρ m (q : Int)) (m + 1) (r.2.1 + 1)).1 = 0 then (0, (rc (rup ρ m (q : Int)) (m + 1) (r.2.1 + 1)).2.1, ρ) else rc (rup ρ m (q : Int)) (m + 1) (r.2.1 + 1)) else if m + 1 = n ∧ (q : Int) = b ∧ al (rup ρ m (q : Int)) = true then (1, r.2.1 + 1, rup ρ m (q : Int)) else (0, r.2.1 + 1, ρ)
def foldQ (st : Int × Int × (Nat → Int) → Nat → Int × Int × (Nat → Int)) : Nat → Nat → Int × Int × (Nat → Int) → Int × Int × (Nat → Int)
  | 0, _, r => r
  | c + 1, q, r => foldQ st c (q + 1) (st r q)
def srch (B b : Int) (n wh : Nat) (may : (Nat → Int) → Nat → Nat → Bool) (al : (Nat → Int) → Bool) : Nat → (Nat → Int) → Nat → Int → Int × Int × (Nat → Int)
  | 0, ρ, _, L => (0, L, ρ)
  | f + 1, ρ, m, L => foldQ (stepQ B b n may al (srch B b n wh may al f) ρ m) wh 0 (0, L, ρ)
theorem foldQ_stop {B b : Int} {n : Nat} {may : (Nat → Int) → Nat → Nat → Bool} {al : (Nat → Int) → Bool} {rc : (Nat → Int) → Nat → Int → Int × Int × (Nat → Int)} {ρ : Nat → Int} {m : Nat} {r : Int × Int × (Nat → Int)} (h : r.1 ≠ 0) : ∀ c q, foldQ (stepQ B b n may al rc ρ m) c q r = r := by
  intro c
  induction c with
  | zero => intro q; rfl
  | succ c ih =>
    intro q
    show foldQ _ c (q + 1) (stepQ B b n may al rc ρ m r q) = r
    rw [show stepQ B b n may al rc ρ m r q = r from if_pos h]
    exact ih (q + 1)
theorem sQ_n {B b : Int} {n : Nat} {may : (Nat → Int) → Nat → Nat → Bool} {al : (Nat → Int) → Bool} {rc : (Nat → Int) → Nat → Int → Int × Int × (Nat → Int)} {ρ : Nat → Int} {m : Nat} {L : Int} {ρ' : Nat → Int} {q : Nat} (h : ¬ may ρ m q = true) : stepQ B b n may al rc ρ m (0, L, ρ') q = (0, L, ρ') := by
  unfold stepQ
  rw [if_neg (fun z => z rfl), if_pos (by simpa using h)]
theorem sQ_2 {B b : Int} {n : Nat} {may : (Nat → Int) → Nat → Nat → Bool} {al : (Nat → Int) → Bool} {rc : (Nat → Int) → Nat → Int → Int × Int × (Nat → Int)} {ρ : Nat → Int} {m : Nat} {L : Int} {ρ' : Nat → Int} {q : Nat} (h : may ρ m q = true) (h2 : L = B) : stepQ B b n may al rc ρ m (0, L, ρ') q = (2, L, ρ) := by
  unfold stepQ
  rw [if_neg (fun z => z rfl), if_neg (by rw [h]; simp), if_pos h2]
theorem sQ_d {B b : Int} {n : Nat} {may : (Nat → Int) → Nat → Nat → Bool} {al : (Nat → Int) → Bool} {rc : (Nat → Int) → Nat → Int → Int × Int × (Nat → Int)} {ρ : Nat → Int} {m : Nat} {L : Int} {ρ' : Nat → Int} {q : Nat} (h : may ρ m q = true) (h2 : ¬ L = B) (h3 : m + 1 < n ∧ (q : Int) ≠ b) : stepQ B b n may al rc ρ m (0, L, ρ') q = if (rc (rup ρ m (q : Int)) (m + 1) (L + 1)).1 = 0 then (0, (rc (rup ρ m (q : Int)) (m + 1) (L + 1)).2.1, ρ) else rc (rup ρ m (q : Int)) (m + 1) (L + 1) := by
  unfold stepQ
  rw [if_neg (fun z => z rfl), if_neg (by rw [h]; simp), if_neg h2, if_pos h3]
theorem sQ_1 {B b : Int} {n : Nat} {may : (Nat → Int) → Nat → Nat → Bool} {al : (Nat → Int) → Bool} {rc : (Nat → Int) → Nat → Int → Int × Int × (Nat → Int)} {ρ : Nat → Int} {m : Nat} {L : Int} {ρ' : Nat → Int} {q : Nat} (h : may ρ m q = true) (h2 : ¬ L = B) (h3 : m + 1 = n ∧ (q : Int) = b ∧ al (rup ρ m (q : Int)) = true) : stepQ B b n may al rc ρ m (0, L, ρ') q = (1, L + 1, rup ρ m (q : Int)) := by
  unfold stepQ
  rw [if_neg (fun z => z rfl), if_neg (by rw [h]; simp), if_neg h2, if_neg (fun z => z.2 h3.2.1), if_pos h3]
theorem sQ_0 {B b : Int} {n : Nat} {may : (Nat → Int) → Nat → Nat → Bool} {al : (Nat → Int) → Bool} {rc : (Nat → Int) → Nat → Int → Int × Int × (Nat → Int)} {ρ : Nat → Int} {m : Nat} {L : Int} {ρ' : Nat → Int} {q : Nat} (h : may ρ m q = true) (h2 : ¬ L = B) (h3 : ¬ (m + 1 < n ∧ (q : Int) ≠ b)) (h4 : ¬ (m + 1 = n ∧ (q : Int) = b ∧ al (rup ρ m (q : Int)) = true)) : stepQ B b n may al rc ρ m (0, L, ρ') q = (0, L + 1, ρ) := by
  unfold stepQ
  rw [if_neg (fun z => z rfl), if_neg (by rw [h]; simp), if_neg h2, if_neg h3, if_neg h4]
theorem MF_congr {w : Int} {bar ρ ρ' : Nat → Int} {m : Nat} {snd q : Int} (h : ∀ k, k < m → ρ' k = ρ k) (hf : MF w bar ρ m snd q) : MF w bar ρ' m snd q := by
  obtain ⟨f1, f2, f3⟩ := hf
  refine ⟨f1, fun k hk => ?_, fun z k hk => ?_⟩
  · rw [h k hk]; exact f2 k hk
  · rw [h k (by omega)]; exact f3 z k hk
theorem ALM_congr {w h kind : Int} {N : Nat} {ρ ρ' : Nat → Int} (e : ∀ k, k < N → ρ' k = ρ k) (ha : ALM w h kind N ρ) : ALM w h kind N ρ' := by
  intro k hk
  obtain ⟨i, i1, i2⟩ := ha k hk
  exact ⟨i, i1, by rw [e i i1, e k hk]; exact i2⟩
theorem rup_e {ρ : Nat → Int} {m : Nat} {q : Int} : rup ρ m q m = q := if_pos rfl
theorem rup_n {ρ : Nat → Int} {m : Nat} {q : Int} {k : Nat} (h : k < m) : rup ρ m q k = ρ k := if_neg (by omega)
/-- the reference's search from a square on, with what is to hold behind its three ends -/
def CLM (X : mX) (s : Nat) (w h B b snd kind : Int) (n wh : Nat) (may : (Nat → Int) → Nat → Nat → Bool) (al : (Nat → Int) → Bool) (g0 : mF) (d : Nat) (Q : mQ) (f : Nat) : Prop := ∀ (m : Nat) (ρ : Nat → Int) (c : Nat) (L : Int) (q : Nat) (g : mF), 1 ≤ m → m + (f + 1) = n → q + c = wh → (∀ o k, ¬ (o = 92 ∨ o = 93 ∨ o = 86 ∧ k = 6) → g o k = g0 o k) → (∀ k, k < m → g 92 k = ρ k) → (∀ k, k < m → 0 ≤ ρ k ∧ ρ k < w * h) → g 86 6 = L → 0 ≤ L → L ≤ B →
  ((foldQ (stepQ B b n may al (srch B b n wh may al f) ρ m) c q (0, L, ρ)).1 = 0 → ∀ g', (∀ o k, ¬ (o = 92 ∨ o = 93 ∨ o = 86 ∧ k = 6) → g' o k = g0 o k) → (∀ k, k < m → g' 92 k = ρ k) → (∀ k, k + 1 < m → g' 93 k = g 93 k) → g' 86 6 = (foldQ (stepQ B b n may al (srch B b n wh may al f) ρ m) c q (0, L, ρ)).2.1 → 0 ≤ g' 86 6 → g' 86 6 ≤ B → ∀ v7, Wp X d SH 158 10 [(2, 87), (0, (s : Int)), (0, b), (0, (n : Int)), (0, snd), (0, kind), (0, (m : Int) + -1), v7] [] SH (fl g') Q) →
  ((foldQ (stepQ B b n may al (srch B b n wh may al f) ρ m) c q (0, L, ρ)).1 = 1 → ∀ g', (∀ o k, ¬ (o = 92 ∨ o = 93 ∨ o = 86 ∧ k = 6) → g' o k = g0 o k) → (∀ k, k < n → g' 92 k = (foldQ (stepQ B b n may al (srch B b n wh may al f) ρ m) c q (0, L, ρ)).2.2 k) → g' 86 6 = (foldQ (stepQ B b n may al (srch B b n wh may al f) ρ m) c q (0, L, ρ)).2.1 → Q (some (0, (n : Int))) (fl g')) →
  ((foldQ (stepQ B b n may al (srch B b n wh may al f) ρ m) c q (0, L, ρ)).1 = 2 → ∀ g', (∀ o k, ¬ (o = 92 ∨ o = 93 ∨ o = 86 ∧ k = 6) → g' o k = g0 o k) → g' 86 6 = (foldQ (stepQ B b n may al (srch B b n wh may al f) ρ m) c q (0, L, ρ)).2.1 → Q (some (0, -1005)) (fl g')) →
  Wp X d SH 158 26 [(2, 87), (0, (s : Int)), (0, b), (0, (n : Int)), (0, snd), (0, kind), (0, (m : Int)), (0, (q : Int))] [] SH (fl g) Q
theorem foldQ_out {B b : Int} {n : Nat} {may : (Nat → Int) → Nat → Nat → Bool} {al : (Nat → Int) → Bool} {rc : (Nat → Int) → Nat → Int → Int × Int × (Nat → Int)} (hrc : ∀ ρ m L, (rc ρ m L).1 = 0 ∨ (rc ρ m L).1 = 1 ∨ (rc ρ m L).1 = 2) {ρ : Nat → Int} {m : Nat} : ∀ c q (r : Int × Int × (Nat → Int)), (r.1 = 0 ∨ r.1 = 1 ∨ r.1 = 2) → (foldQ (stepQ B b n may al rc ρ m) c q r).1 = 0 ∨ (foldQ (stepQ B b n may al rc ρ m) c q r).1 = 1 ∨ (foldQ (stepQ B b n may al rc ρ m) c q r).1 = 2 := by
  intro c
  induction c with
  | zero => intro q r hr; exact hr
  | succ c ih =>
    intro q r hr
    refine ih (q + 1) (stepQ B b n may al rc ρ m r q) ?_
    unfold stepQ
    split
    · exact hr
    · split
      · exact hr
      · split
        · exact Or.inr (Or.inr rfl)
        · split
          · split
            · exact Or.inl rfl
            · exact hrc _ _ _
          · split
            · exact Or.inr (Or.inl rfl)
            · exact Or.inl rfl
theorem srch_out {B b : Int} {n wh : Nat} {may : (Nat → Int) → Nat → Nat → Bool} {al : (Nat → Int) → Bool} : ∀ f ρ m L, (srch B b n wh may al f ρ m L).1 = 0 ∨ (srch B b n wh may al f ρ m L).1 = 1 ∨ (srch B b n wh may al f ρ m L).1 = 2 := by
  intro f
  induction f with
  | zero => intro ρ m L; exact Or.inl rfl
  | succ f ih => intro ρ m L; exact foldQ_out ih wh 0 (0, L, ρ) (Or.inl rfl)
