/-! the invariant -/
def INV (n : Nat) (g : mF) : Prop := Iseason g ∧ Ibound g ∧ Iair g ∧ Iscent g ∧ Ihear g ∧ Irule g ∧ Istore n g ∧ (∀ c, c < 4 → Iclk g c) ∧ Ibell g ∧ Ilink g ∧ (∀ s, s < 6 → Iseal g s) ∧ (∀ c, c < 4 → Inear g c) ∧ Iagn g ∧ Iknow g
theorem Istore_up {n : Nat} {g : mF} (h : Istore n g) : Istore (n + 1) g := by
  obtain ⟨h1, h2, h3⟩ := h
  refine ⟨h1, h2, fun p hp => ?_⟩
  obtain ⟨a, b⟩ := h3 p hp
  exact ⟨a, by omega⟩
theorem Iseals_fr {g g' : mF} (f : ∀ o k, o = 87 ∨ o = 88 ∨ o = 89 ∨ o = 90 ∨ o = 91 ∨ 56 ≤ o ∧ o < 86 → g' o k = g o k) (h : ∀ s, s < 6 → Iseal g s) : ∀ s, s < 6 → Iseal g' s := fun s hs => Iseal_fr hs (fun o k ho => f o k (by omega)) (h s hs)
theorem Inear_fr {g g' : mF} (f : ∀ o k, o = 100 ∨ o = 101 ∨ (o = 19 ∨ o = 25 ∨ o = 31 ∨ o = 37) ∧ k = 0 ∨ o = 23 ∨ o = 29 ∨ o = 35 ∨ o = 41 → g' o k = g o k) (hC : ∀ c, c < 4 → Iclk g c) (h : ∀ c, c < 4 → Inear g c) : ∀ c, c < 4 → Inear g' c := fun c hc => Inear_congr (f _ _ (by omega)) (fun k => f _ _ (by omega)) (fun i _ => ⟨f _ _ (by omega), f _ _ (by omega)⟩) (hC c hc).2.2.1 (h c hc)
theorem Iagn_fr {g g' : mF} (f : ∀ o k, o = 16 ∨ o = 17 ∨ o = 18 ∨ o = 106 ∨ o = 11 ∧ k = 2 ∨ o = 86 ∧ k = 22 → g' o k = g o k) (h : Iagn g) : Iagn g' := by
  have e1 : ∀ k, g' 16 k = g 16 k := fun k => f _ _ (by omega)
  have e2 : ∀ k, g' 17 k = g 17 k := fun k => f _ _ (by omega)
  have e3 : ∀ k, g' 18 k = g 18 k := fun k => f _ _ (by omega)
  have e4 : ∀ k, g' 106 k = g 106 k := fun k => f _ _ (by omega)
  have r1 : rdC g' = rdC g := by funext k; unfold rdC; rw [e1, e2, e3]
  have r2 : rdM g' = rdM g := by funext k; unfold rdM; rw [e4, e4, e4]
  unfold Iagn Gag AgR at *
  simp only [e1, e2, e3, e4, r1, r2, f 11 2 (by omega), f 86 22 (by omega)]
  exact h
theorem Iknow_fr {g g' : mF} (f : ∀ o k, o = 11 ∧ k = 3 ∨ InpS o k ∨ (o = 19 ∨ o = 25 ∨ o = 31 ∨ o = 37) ∧ (k = 4 ∨ k = 5 ∨ k = 6) ∨ o = 21 ∨ o = 27 ∨ o = 33 ∨ o = 39 ∨ o = 22 ∨ o = 28 ∨ o = 34 ∨ o = 40 → g' o k = g o k) (h : Iknow g) : Iknow g' := by
  have ei : inp g' = inp g := inp_c (fun o k ho => f o k (Or.inr (Or.inl ho)))
  have en : NN g' = NN g := by unfold NN; rw [ei]
  unfold Iknow
  rw [f 11 3 (Or.inl ⟨rfl, rfl⟩), en, ei]
  rcases h with h | ⟨h1, h2, h3⟩
  · exact Or.inl h
  · refine Or.inr ⟨h1, fun c hc => ?_, h3⟩
    obtain ⟨s1, s2, s3, s4⟩ := h2 c hc
    rw [f (19 + 6 * c) 4 (Or.inr (Or.inr (by omega))), f (19 + 6 * c) 5 (Or.inr (Or.inr (by omega))), f (19 + 6 * c) 6 (Or.inr (Or.inr (by omega)))]
    refine ⟨s1, s2, s3, fun i hi => ?_⟩
    rw [f (21 + 6 * c) i (Or.inr (Or.inr (by omega))), f (22 + 6 * c) i (Or.inr (Or.inr (by omega)))]
    exact s4 i hi
theorem Iknow_o {g g' : mF} (h : g' = g ∨ g' 11 3 = 0) (hk : Iknow g) : Iknow g' := by
  rcases h with h | h
  · rw [h]; exact hk
  · exact Or.inl h
theorem byT_nil : ∀ n, byT [] n = [] := by
  intro n
  induction n with
  | zero => rfl
  | succ n ih => rw [byT_s, ih]; rfl
theorem Iagn_0 {g : mF} (h1 : g 11 2 = 0) (h2 : g 86 22 = 0) : Iagn g := by
  unfold Iagn Gag AgR
  rw [h1, h2]
  refine ⟨⟨by decide, fun k hk => absurd hk (by omega)⟩, rfl, fun k hk => absurd hk (by omega), ?_⟩
  show lsO (rdC g) 0 = byT (lsO (rdM g) 0) 6000
  have e : ∀ rd : Nat → Int × Int × Int, lsO rd 0 = [] := fun _ => rfl
  rw [e, e, byT_nil]
theorem Ilink_0 {g : mF} (h1 : g 11 1 = 0) (h2 : g 86 20 = 0) : Ilink g := by
  unfold Ilink
  rw [h1, h2]
  exact ⟨by decide, fun k hk => absurd hk (by omega)⟩
/-! at the start -/
theorem I0_seal : ∀ s, s < 6 → Iseal (lf M0) s := by
  intro s hs
  have e : ∀ s, s < 6 → lf M0 (56 + 5 * s) 0 = 1 ∧ lf M0 (56 + 5 * s) 1 = 1 ∧ lf M0 (56 + 5 * s) 2 = 0 ∧ lf M0 87 s = 1 ∧ lf M0 88 s = 1 ∧ lf M0 91 s = 0 := by decide +kernel
  have e2 : ∀ s, s < 6 → ∀ q, q < 36 → lf M0 89 (36 * s + q) = 0 ∧ lf M0 (59 + 5 * s) q = 0 ∧ lf M0 (58 + 5 * s) q = -1 := by decide +kernel
  have e3 : ∀ s, s < 6 → ∀ side, side < 4 → lf M0 (60 + 5 * s) side = nearf 1 1 0 side := by decide +kernel
  obtain ⟨a1, a2, a3, a4, a5, a6⟩ := e s hs
  unfold Iseal Ipath
  rw [a1, a2, a3, a4, a5, a6]
  refine ⟨⟨by decide, by decide, by decide, fun i hi => absurd hi (by omega)⟩, fun q hq => ?_, fun q hq _ => ?_, fun q hq => ?_, fun i hi => absurd hi (by omega), fun q hq side hsd => ?_, fun i hi => absurd hi (by omega)⟩
  · rw [(e2 s hs q hq).1, (e2 s hs q hq).2.1]
    exact ⟨rfl, Or.inl rfl⟩
  · exact (e2 s hs q hq).2.1
  · exact Or.inl (e2 s hs q hq).2.2
  · obtain rfl : q = 0 := by omega
    rw [show 4 * 0 + side = side by omega]
    exact e3 s hs side hsd
theorem I0_near : ∀ c, c < 4 → Inear (lf M0) c := by
  intro c hc
  have e : ∀ c, c < 4 → lf M0 (19 + 6 * c) 0 = 0 := by decide +kernel
  unfold Inear
  rw [e c hc]
  exact ⟨fun i hi => absurd hi (by omega), fun i hi => absurd hi (by omega), fun i k hi => absurd hi (by omega)⟩
theorem I0_all : INV 0 (lf M0) := ⟨I0_season, I0_bound, I0_air, I0_scent, I0_hear, I0_rule, I0_store, I0_clk, I0_bell, I0_link, I0_seal, I0_near, Iagn_0 (by decide +kernel) (by decide +kernel), Or.inl (by decide +kernel)⟩
