/-! draw: the seal anew -/
theorem Iseal_new {g ga gb gc gd : mF} {s n wh : Nat} {ρ : Nat → Int} (hs : s < 6) (hI : Iseal g s) (hwh : g (56 + 5 * s) 0 * g (56 + 5 * s) 1 = (wh : Int)) (hn : n ≤ 36) (h1 : FD g ga) (h2 : PTH s n ρ ga gb) (h3 : FQ gb gc) (h4 : MT s n ρ gc gd) (hG : Good (g (56 + 5 * s) 0) wh ρ n) : Iseal gd s ∧ ∀ s', s' < 6 → s' ≠ s → Iseal g s' → Iseal gd s' := by
  obtain ⟨P1, P2, P3, P4, P5⟩ := h2
  obtain ⟨M1, M2, M3⟩ := h4
  obtain ⟨G1, G2, G3⟩ := hG
  have all : ∀ o k, ¬ (o = 2 ∧ k ≠ 0 ∨ o = 3 ∨ o = 4 ∨ o = 56 + 5 * s ∧ k = 2 ∨ o = 57 + 5 * s ∨ o = 58 + 5 * s ∨ o = 92 ∨ o = 93 ∨ o = 86 ∧ k = 6 ∨ o = 91 ∧ k = s ∨ o = 90 ∧ 36 * s ≤ k ∧ k < 36 * s + 36) → gd o k = g o k := fun o k ho => by
    rw [M1 _ _ (by omega), h3 _ _ (by omega), P1 _ _ (by omega), h1 _ _ (by omega)]
  have fromb : ∀ o k, 56 ≤ o → o < 86 → gd o k = gb o k := fun o k o1 o2 => by
    rw [M1 _ _ (by omega), h3 _ _ (by omega)]
  refine ⟨?_, fun s' hs' hne hI' => Iseal_fr hs' (fun o k ho => all o k (by omega)) hI'⟩
  obtain ⟨⟨p1, p2, -, -⟩, s2, s3, -, -, s6, -⟩ := hI
  have hwb := mul_b p1.2 p2.2
  have w0 : gd (56 + 5 * s) 0 = g (56 + 5 * s) 0 := all _ _ (by omega)
  have h0 : gd (56 + 5 * s) 1 = g (56 + 5 * s) 1 := all _ _ (by omega)
  have L : gd (56 + 5 * s) 2 = (n : Int) := by rw [fromb _ _ (by omega) (by omega)]; exact P2
  have pt : ∀ i, i < n → gd (57 + 5 * s) i = ρ i := fun i hi => by rw [fromb _ _ (by omega) (by omega)]; exact P3 i hi
  have e58 : ∀ k, gd (58 + 5 * s) k = gb (58 + 5 * s) k := fun k => fromb _ _ (by omega) (by omega)
  unfold Iseal Ipath
  rw [w0, h0, L, all 87 s (by omega), all 88 s (by omega), M2]
  refine ⟨⟨p1, p2, ⟨rfl, by omega, by omega⟩, fun i hi => ?_⟩, fun k hk => ?_, fun k hk hl => ?_, fun k hk => ?_, fun i hi => ?_, fun k hk side hsd => ?_, fun i hi => ?_⟩
  · have b := G1 i (by omega)
    rw [M3 i (by omega), pt i (by omega)]
    omega
  · rw [all 89 _ (by omega), all (59 + 5 * s) _ (by omega)]; exact s2 k hk
  · rw [all (59 + 5 * s) _ (by omega)]; exact s3 k hk hl
  · rw [e58]
    rcases P5 k hk with z | ⟨i, z1, z2, z3⟩
    · exact Or.inl z
    · exact Or.inr ⟨i, by omega, z2, by rw [pt i z1]; exact z3⟩
  · have b := G1 i (by omega)
    rw [pt i (by omega), e58]
    exact ⟨P4 i (by omega), by omega⟩
  · rw [all (60 + 5 * s) _ (by omega)]; exact s6 k hk side hsd
  · have b1 := G1 i (by omega)
    have b2 := G1 (i + 1) (by omega)
    rw [pt i (by omega), pt (i + 1) (by omega)]
    exact (near_iff p1.2 p2.2 (by omega) (by omega)).2 (G3 i (by omega))
