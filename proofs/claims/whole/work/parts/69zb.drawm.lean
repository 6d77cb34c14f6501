/-! draw: the reference behind the ranges -/
def FQ (g g' : mF) : Prop := ∀ o k, ¬ (o = 92 ∨ o = 93 ∨ o = 86 ∧ k = 6) → g' o k = g o k
def DM (s n : Nat) (g : mF) (R : Int × Int × (Nat → Int)) (r : Option mV) (g' : mF) : Prop := g' 86 6 = R.2.1 ∧ (R.1 = 0 ∧ r = some (0, -1003) ∧ FQ g g' ∨ R.1 = 1 ∧ r = some (0, (n : Int)) ∧ (∃ g1, FQ g g1 ∧ MT s n R.2.2 g1 g') ∨ R.1 = 2 ∧ r = some (0, -1005) ∧ FQ g g')
theorem c159a (X : mX) (g : mF) {s : Nat} (hs : s < 6) {w h b B z kind a : Int} {n wh : Nat} {may : (Nat → Int) → Nat → Nat → Bool} {al : (Nat → Int) → Bool} {bar : Nat → Int} (hw : 1 ≤ w ∧ w ≤ 6) (hh : 1 ≤ h ∧ h ≤ 6) (hwh : w * h = (wh : Int)) (h87 : g 87 s = w) (h88 : g 88 s = h) (hbar : ∀ q, q < 36 → g 89 (36 * s + q) = bar q) (hB : g 86 5 = B) (hBb : 100 ≤ B ∧ B ≤ 20000) (hn : 2 ≤ n ∧ n ≤ 36) (hkind : 0 ≤ kind ∧ kind ≤ 3) (hmay : ∀ ρ m q, may ρ m q = true ↔ nrC w (ρ (m - 1)) (q : Int) ∧ MF w bar ρ m z (q : Int)) (hal : ∀ ρ, al ρ = true ↔ kind = 0 ∨ ALM w h kind n ρ) (ha : 0 ≤ a ∧ a < w * h) (hL : g 86 6 = 0) {d : Nat} {Q : mQ} (hd : 8 ≤ d) (hQ : ∀ r g', DM s n g (srch B b n wh may al (n - 1) (fun _ => a) 1 0) r g' → Q r (fl g')) : Wp X d SH 159 118 [(2, 87), (0, (s : Int)), (0, a), (0, b), (0, (n : Int)), (0, z), (0, kind), (3, 0), (3, 0)] [] SH (fl g) Q := by
  generalize hg1 : mup g 92 0 a = g1
  have f1 : ∀ o k, ¬ (o = 92 ∧ k = 0) → g1 o k = g o k := fun o k ho => by rw [← hg1, mup_n (by omega)]
  have c := c158 X g1 hs (b := b) (a := a) (n := n) (al := al) hw hh hwh (by rw [f1 _ _ (by omega)]; exact h87) (by rw [f1 _ _ (by omega)]; exact h88) (fun q hq => by rw [f1 _ _ (by omega)]; exact hbar q hq) (by rw [f1 _ _ (by omega)]; exact hB) hBb hn hkind hmay hal (by rw [← hg1, mup_e]) ha (by rw [f1 _ _ (by omega)]; exact hL)
  generalize srch B b n wh may al (n - 1) (fun _ => a) 1 0 = R at *
  apply s_159_118
  rw [fl_87_7, ml_93, up_93, show ((0 : Int)).toNat = 0 from rfl, hg1]
  refine ⟨mi_87, mi_93, by omega, by omega, ?_⟩
  apply s_159_125
  refine ⟨fun _ => ⟨by omega, mi_87, ?_⟩, fun y => absurd (by omega) y⟩
  refine c _ _ (by omega) ?_
  rintro r g2 ⟨fr2, lk2, hc⟩
  have fq2 : FQ g g2 := fun o k ho => by rw [fr2 _ _ (by omega), f1 _ _ (by omega)]
  rcases hc with ⟨hR, rfl⟩ | ⟨hR, rfl, rows⟩ | ⟨hR, rfl⟩
  · have q0 := hQ _ g2 ⟨lk2, Or.inl ⟨hR, rfl, fq2⟩⟩
    refine s_159_182 n01 ?_
    apply s_159_184
    exact ⟨fun y => absurd y (by decide), fun _ => ⟨fun y => absurd rfl y, fun _ => q0⟩⟩
  · refine s_159_182 n01 ?_
    refine c159t X g2 hs hn.2 (ρ := R.2.2) rows (by omega) (fun g3 hM => ?_)
    exact hQ _ g3 ⟨by rw [hM.1 _ _ (by omega)]; exact lk2, Or.inr (Or.inl ⟨hR, rfl, g2, fq2, hM⟩)⟩
  · have q2 := hQ _ g2 ⟨lk2, Or.inr (Or.inr ⟨hR, rfl, fq2⟩)⟩
    refine s_159_182 n01 ?_
    apply s_159_184
    exact ⟨fun y => absurd y (by decide), fun _ => ⟨fun _ => q2, fun y => absurd (by decide) y⟩⟩
