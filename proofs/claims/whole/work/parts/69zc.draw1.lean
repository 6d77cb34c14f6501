/-! draw: the reference, one square -/
theorem c159b (X : mX) (g : mF) {s : Nat} (hs : s < 6) {w h b z kind a : Int} {al : (Nat → Int) → Bool} (hw : 1 ≤ w ∧ w ≤ 6) (hh : 1 ≤ h ∧ h ≤ 6) (h87 : g 87 s = w) (h88 : g 88 s = h) (hkind : 0 ≤ kind ∧ kind ≤ 3) (hal : ∀ ρ, al ρ = true ↔ kind = 0 ∨ ALM w h kind 1 ρ) (ha : 0 ≤ a ∧ a < w * h) (hL : g 86 6 = 0) {d : Nat} {Q : mQ} (hd : 8 ≤ d) (hQ : ∀ r g', DM s 1 g (if a = b ∧ al (fun _ => a) = true then 1 else 0, 0, fun _ => a) r g' → Q r (fl g')) : Wp X d SH 159 118 [(2, 87), (0, (s : Int)), (0, a), (0, b), (0, 1), (0, z), (0, kind), (3, 0), (3, 0)] [] SH (fl g) Q := by
  generalize hg1 : mup g 92 0 a = g1
  have f1 : ∀ o k, ¬ (o = 92 ∧ k = 0) → g1 o k = g o k := fun o k ho => by rw [← hg1, mup_n (by omega)]
  have t0 : g1 92 0 = a := by rw [← hg1, mup_e]
  have lk : g1 86 6 = 0 := by rw [f1 _ _ (by omega)]; exact hL
  have fq : FQ g g1 := fun o k ho => f1 _ _ (by omega)
  have no : ∀ v7, ¬ (a = b ∧ al (fun _ => a) = true) → Wp X d SH 159 164 [(2, 87), (0, (s : Int)), (0, a), (0, b), (0, 1), (0, z), (0, kind), v7, (3, 0)] [] SH (fl g1) Q := by
    intro v7 hno
    rw [if_neg hno] at hQ
    have q0 := hQ _ g1 ⟨lk, Or.inl ⟨rfl, rfl, fq⟩⟩
    apply s_159_164
    refine s_159_165 n01 ?_
    apply s_159_184
    exact ⟨fun y => absurd y (by decide), fun _ => ⟨fun y => absurd rfl y, fun _ => q0⟩⟩
  have yes : ∀ v7, (a = b ∧ al (fun _ => a) = true) → Wp X d SH 159 160 [(2, 87), (0, (s : Int)), (0, a), (0, b), (0, 1), (0, z), (0, kind), v7, (3, 0)] [] SH (fl g1) Q := by
    intro v7 hyes
    rw [if_pos hyes] at hQ
    apply s_159_160
    refine s_159_165 n01 ?_
    refine c159t X g1 hs (n := 1) (by omega) (ρ := fun _ => a) (fun i hi => by
      have : i = 0 := by omega
      subst this
      exact t0) (by decide) (fun g3 hM => ?_)
    exact hQ _ g3 ⟨by rw [hM.1 _ _ (by omega)]; exact lk, Or.inr (Or.inl ⟨rfl, rfl, g1, fq, hM⟩)⟩
  apply s_159_118
  rw [fl_87_7, ml_93, up_93, show ((0 : Int)).toNat = 0 from rfl, hg1]
  refine ⟨mi_87, mi_93, by omega, by omega, ?_⟩
  apply s_159_125
  refine ⟨fun y => absurd rfl y, fun _ => ⟨fun y => no _ (fun x => y x.1), fun y => ⟨fun k0 => ?_, fun k0 => ⟨mi_87, by omega, mi_87, ?_⟩⟩⟩⟩
  · exact yes _ ⟨Classical.not_not.1 y, (hal _).2 (Or.inl k0)⟩
  · have hab : a = b := Classical.not_not.1 y
    have c := c156 X g1 hs hw hh (by rw [f1 _ _ (by omega)]; exact h87) (by rw [f1 _ _ (by omega)]; exact h88) (R := 93) mi_93 (L := 36) ml_93 (ρ := g1 92) (fun k => fl_93 g1 k) (F := 0) (M := 1) (by omega) (by omega) (fun i hi => by
      have : i = 0 := by omega
      subst this
      rw [Nat.zero_add, t0]
      exact ha) (kind := kind) (by omega)
    have hA : al (fun _ => a) = true ↔ ALM w h kind 1 (fun i => g1 92 (0 + i)) := by
      rw [hal]
      have e : ∀ k, k < 1 → g1 92 (0 + k) = a := fun k hk => by
        have : k = 0 := by omega
        subst this
        exact t0
      constructor
      · exact fun x => ALM_congr (fun k hk => e k hk) (x.resolve_left k0)
      · exact fun x => Or.inr (ALM_congr (fun k hk => (e k hk).symm) x)
    rw [fl_87_7]
    by_cases hAA : al (fun _ => a) = true
    · have yy := yes (0, 0) ⟨hab, hAA⟩
      refine (c.1 (hA.1 hAA)) _ _ (by omega) ?_
      apply s_159_157
      exact ⟨fun x => absurd x (by decide), fun _ => yy⟩
    · have nn := no (0, 0) (fun x => hAA x.2)
      refine (c.2 (fun x => hAA (hA.2 x))) _ _ (by omega) ?_
      apply s_159_157
      exact ⟨fun _ => nn, fun x => absurd rfl x⟩
