/-! each part of the invariant looks at few cells -/
theorem Iseason_fr {g g' : mF} (f : ∀ o k, o = 86 ∧ k = 42 ∨ o = 0 ∧ k = 10 → g' o k = g o k) (h : Iseason g) : Iseason g' := by
  unfold Iseason at *
  rw [f 86 42 (by omega), f 0 10 (by omega)]
  exact h
theorem Ibound_fr {g g' : mF} (f : ∀ o k, o = 86 ∧ (k = 5 ∨ k = 6) ∨ o = 2 ∧ (k = 0 ∨ k = 1) → g' o k = g o k) (h : Ibound g) : Ibound g' := by
  unfold Ibound at *
  rw [f 86 5 (by omega), f 86 6 (by omega), f 2 0 (by omega), f 2 1 (by omega)]
  exact h
theorem Iair_fr {g g' : mF} (f : ∀ o k, o = 94 ∨ o = 6 ∨ o = 95 ∨ o = 7 ∨ o = 5 ∧ k = 2 ∨ o = 86 ∧ k = 28 → g' o k = g o k) (h : Iair g) : Iair g' := by
  unfold Iair at *
  have e1 : ∀ k, g' 94 k = g 94 k := fun k => f _ _ (by omega)
  have e2 : ∀ k, g' 6 k = g 6 k := fun k => f _ _ (by omega)
  have e3 : ∀ k, g' 95 k = g 95 k := fun k => f _ _ (by omega)
  have e4 : ∀ k, g' 7 k = g 7 k := fun k => f _ _ (by omega)
  simp only [e1, e2, e3, e4, f 5 2 (by omega), f 86 28 (by omega)]
  exact h
theorem Iscent_fr {g g' : mF} (f : ∀ o k, o = 109 ∨ o = 53 → g' o k = g o k) (h : Iscent g) : Iscent g' := by
  unfold Iscent at *
  have e1 : ∀ k, g' 109 k = g 109 k := fun k => f _ _ (by omega)
  have e2 : ∀ k, g' 53 k = g 53 k := fun k => f _ _ (by omega)
  simp only [e1, e2]
  exact h
theorem Ihear_fr {g g' : mF} (f : ∀ o k, o = 86 ∧ k = 38 ∨ o = 43 ∧ k = 1 ∨ o = 117 ∨ o = 46 → g' o k = g o k) (h : Ihear g) : Ihear g' := by
  unfold Ihear at *
  have e1 : ∀ k, g' 117 k = g 117 k := fun k => f _ _ (by omega)
  have e2 : ∀ k, g' 46 k = g 46 k := fun k => f _ _ (by omega)
  simp only [e1, e2, f 86 38 (by omega), f 43 1 (by omega)]
  exact h
theorem Irule_fr {g g' : mF} (f : ∀ o k, o = 121 ∨ o = 50 ∨ o = 86 ∧ (k = 44 ∨ k = 45) ∨ o = 49 ∧ (k = 1 ∨ k = 2) ∨ o = 120 ∨ o = 51 → g' o k = g o k) (h : Irule g) : Irule g' := by
  unfold Irule at *
  have e1 : ∀ k, g' 121 k = g 121 k := fun k => f _ _ (by omega)
  have e2 : ∀ k, g' 50 k = g 50 k := fun k => f _ _ (by omega)
  have e3 : ∀ k, g' 120 k = g 120 k := fun k => f _ _ (by omega)
  have e4 : ∀ k, g' 51 k = g 51 k := fun k => f _ _ (by omega)
  simp only [e1, e2, e3, e4, f 86 44 (by omega), f 86 45 (by omega), f 49 1 (by omega), f 49 2 (by omega)]
  exact h
theorem Istore_fr {n : Nat} {g g' : mF} (f : ∀ o k, o = 96 ∨ o = 9 ∨ o = 98 ∨ o = 10 ∨ o = 97 ∨ (o = 19 ∨ o = 25 ∨ o = 31 ∨ o = 37) ∧ k = 0 ∨ o = 20 ∨ o = 26 ∨ o = 32 ∨ o = 38 → g' o k = g o k) (h : Istore n g) : Istore n g' := by
  unfold Istore at *
  have e1 : ∀ k, g' 96 k = g 96 k := fun k => f _ _ (by omega)
  have e2 : ∀ k, g' 9 k = g 9 k := fun k => f _ _ (by omega)
  have e3 : ∀ k, g' 98 k = g 98 k := fun k => f _ _ (by omega)
  have e4 : ∀ k, g' 10 k = g 10 k := fun k => f _ _ (by omega)
  have e5 : ∀ k, g' 97 k = g 97 k := fun k => f _ _ (by omega)
  have e6 : ∀ c q, c < 4 → celp g' c q = celp g c q := fun c q hc => celp_congr (f _ _ (by omega)) (fun k => f _ _ (by omega))
  have e7 : ∀ q, celp g' 0 q = celp g 0 q := fun q => e6 0 q (by omega)
  have e8 : ∀ q, celp g' 1 q = celp g 1 q := fun q => e6 1 q (by omega)
  have e9 : ∀ q, celp g' 2 q = celp g 2 q := fun q => e6 2 q (by omega)
  have e10 : ∀ q, celp g' 3 q = celp g 3 q := fun q => e6 3 q (by omega)
  simp only [e1, e2, e3, e4, e5, e7, e8, e9, e10]
  exact h
theorem Ibell_fr {g g' : mF} (f : ∀ o k, o = 86 ∧ k = 24 ∨ o = 43 ∧ k = 0 ∨ o = 107 ∨ o = 108 ∨ o = 44 ∨ o = 45 → g' o k = g o k) (h : Ibell g) : Ibell g' := by
  unfold Ibell at *
  have e1 : ∀ k, g' 107 k = g 107 k := fun k => f _ _ (by omega)
  have e2 : ∀ k, g' 108 k = g 108 k := fun k => f _ _ (by omega)
  have e3 : ∀ k, g' 44 k = g 44 k := fun k => f _ _ (by omega)
  have e4 : ∀ k, g' 45 k = g 45 k := fun k => f _ _ (by omega)
  simp only [e1, e2, e3, e4, f 86 24 (by omega), f 43 0 (by omega)]
  exact h
theorem Ilink_fr {g g' : mF} (f : ∀ o k, o = 86 ∧ k = 20 ∨ o = 11 ∧ k = 1 ∨ o = 105 ∨ o = 13 ∨ o = 14 ∨ o = 15 → g' o k = g o k) (h : Ilink g) : Ilink g' := by
  unfold Ilink at *
  have e1 : ∀ k, g' 105 k = g 105 k := fun k => f _ _ (by omega)
  have e2 : ∀ k, g' 13 k = g 13 k := fun k => f _ _ (by omega)
  have e3 : ∀ k, g' 14 k = g 14 k := fun k => f _ _ (by omega)
  have e4 : ∀ k, g' 15 k = g 15 k := fun k => f _ _ (by omega)
  simp only [e1, e2, e3, e4, f 86 20 (by omega), f 11 1 (by omega)]
  exact h
theorem Iclk_fr {g g' : mF} (f : ∀ o k, o = 99 ∨ o = 102 ∨ o = 103 ∨ o = 104 ∨ (o = 19 ∨ o = 25 ∨ o = 31 ∨ o = 37) ∧ (k = 0 ∨ k = 2 ∨ k = 3) ∨ o = 20 ∨ o = 26 ∨ o = 32 ∨ o = 38 → g' o k = g o k) (h : ∀ c, c < 4 → Iclk g c) : ∀ c, c < 4 → Iclk g' c := fun c hc => Iclk_congr (f _ _ (by omega)) (fun k _ => f _ _ (by omega)) (fun k _ => f _ _ (by omega)) (f _ _ (by omega)) (f _ _ (by omega)) (fun k _ => f _ _ (by omega)) (h c hc)
/-! the parts hold at the start -/
theorem I0_season : Iseason (lf M0) := by unfold Iseason; decide +kernel
theorem I0_bound : Ibound (lf M0) := by unfold Ibound; decide +kernel
theorem I0_scent : Iscent (lf M0) := by unfold Iscent; decide +kernel
theorem I0_air : Iair (lf M0) := by unfold Iair; decide +kernel
theorem I0_hear : Ihear (lf M0) := by
  have e : lf M0 43 1 = 0 := by decide +kernel
  unfold Ihear
  rw [e]
  exact ⟨by decide +kernel, by omega, by omega, fun j hj => absurd hj (by omega)⟩
theorem I0_bell : Ibell (lf M0) := by
  have e : lf M0 43 0 = 0 := by decide +kernel
  unfold Ibell
  rw [e]
  exact ⟨by decide +kernel, by omega, by omega, fun j hj => absurd hj (by omega)⟩
theorem I0_link : Ilink (lf M0) := by
  have e : lf M0 11 1 = 0 := by decide +kernel
  unfold Ilink
  rw [e]
  exact ⟨⟨by decide +kernel, by omega, by omega⟩, fun j hj => absurd hj (by omega)⟩
theorem I0_rule : Irule (lf M0) := by
  have e : lf M0 49 1 = 0 := by decide +kernel
  unfold Irule
  rw [e]
  exact ⟨by decide +kernel, by decide +kernel, by omega, by omega, fun j hj => absurd hj (by omega), by decide +kernel⟩
theorem I0_clk : ∀ c, c < 4 → Iclk (lf M0) c := by
  intro c hc
  have e : ∀ c, c < 4 → lf M0 (19 + 6 * c) 0 = 0 := by decide +kernel
  have e1 : ∀ c, c < 4 → lf M0 99 c = 0 ∧ (∀ i, i < 36 → lf M0 (20 + 6 * c) i = -1) ∧ lf M0 103 c = -1 ∧ lf M0 (19 + 6 * c) 2 = -1 ∧ lf M0 104 c = 0 ∧ lf M0 (19 + 6 * c) 3 = 0 := by decide +kernel
  obtain ⟨a1, a2, a3, a4, a5, a6⟩ := e1 c hc
  unfold Iclk
  rw [e c hc, a1, a3, a4, a5, a6]
  exact ⟨rfl, by omega, by omega, fun i hi => absurd hi (by omega), fun i hi => by rw [a2 i hi]; omega, fun i hi _ => a2 i hi, rfl, by omega, by omega, rfl, by omega, by omega⟩
theorem I0_store : Istore 0 (lf M0) := by
  have e : ∀ c, c < 4 → lf M0 (19 + 6 * c) 0 = 0 := by decide +kernel
  have ec : ∀ c q, c < 4 → celp (lf M0) c q = 0 := by
    intro c q hc
    unfold celp
    rw [e c hc]
    rfl
  have e2 : ∀ p, p < 8 → lf M0 97 p = 0 ∧ lf M0 9 p = 0 ∧ lf M0 9 (8 + p) = 0 ∧ lf M0 9 (16 + p) = 0 ∧ lf M0 9 (24 + p) = 0 ∧ lf M0 10 p = 0 := by decide +kernel
  refine ⟨by decide +kernel, by decide +kernel, fun p hp => ?_⟩
  obtain ⟨b1, b2, b3, b4, b5, b6⟩ := e2 p hp
  rw [b1, b2, b3, b4, b5, b6, ec 0 _ (by omega), ec 1 _ (by omega), ec 2 _ (by omega), ec 3 _ (by omega)]
  omega
