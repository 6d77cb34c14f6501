/-! draw: both sides together -/
def DP (g g2 : mF) : Prop := (∀ s, s < 6 → Iseal g2 s) ∧ Ibound g2 ∧ ∀ o k, ¬ (o = 2 ∧ k ≠ 0 ∨ o = 3 ∨ o = 4 ∨ 56 ≤ o ∧ o < 86 ∨ o = 86 ∧ k = 6 ∨ 90 ≤ o ∧ o ≤ 93) → g2 o k = g o k
theorem draw_join (X : mX) (g : mF) {s n wh : Nat} (hs : s < 6) (hI : ∀ s, s < 6 → Iseal g s) (hbd : Ibound g) (hwh : g (56 + 5 * s) 0 * g (56 + 5 * s) 1 = (wh : Int)) (hn : n ≤ 36) {R : Int × Int × (Nat → Int)} (hG : R.1 = 1 → Good (g (56 + 5 * s) 0) wh R.2.2 n) (hL : 0 ≤ R.2.1 ∧ R.2.1 ≤ 20000) {la lb : List mV} (hc : Rel X 60 89 la g (DR X s n g R)) (hm : ∀ gb, (∀ o k, ¬ (o = 2 ∧ k ≠ 0 ∨ o = 3 ∨ o = 4 ∨ o = 56 + 5 * s ∧ k = 2 ∨ o = 57 + 5 * s ∨ o = 58 + 5 * s) → gb o k = g o k) → Rel X 60 159 lb gb (DM s n (mup gb 86 6 0) R)) : PR X 89 159 la lb g (DP g) := by
  obtain ⟨b1, b2, b3, b4, b5, b6⟩ := hbd
  intro d Q hd hQ
  refine hc d Q hd (fun r g1 hr => ?_)
  obtain ⟨lk, hr⟩ := hr
  have fq : ∀ {g1 g2 : mF}, FQ (mup g1 86 6 0) g2 → FQ g1 g2 := fun hf o k ho => by rw [hf o k ho, mup_n (by omega)]
  have bnd : ∀ g2 : mF, g2 86 6 = R.2.1 → g2 2 1 = R.2.1 → g2 86 5 = g 86 5 → g2 2 0 = g 2 0 → Ibound g2 := fun g2 e1 e2 e3 e4 => by
    unfold Ibound
    rw [e1, e2, e3, e4]
    exact ⟨b1, b2, b3, rfl, hL.1, hL.2⟩
  have plain : FD g g1 → ∀ g2, FQ g1 g2 → g2 86 6 = R.2.1 → DP g g2 := fun fd g2 f2 l2 => by
    have all : ∀ o k, ¬ (o = 2 ∧ k ≠ 0 ∨ o = 3 ∨ o = 4 ∨ o = 92 ∨ o = 93 ∨ o = 86 ∧ k = 6) → g2 o k = g o k := fun o k ho => by rw [f2 _ _ (by omega), fd _ _ (by omega)]
    exact ⟨fun s' hs' => Iseal_fr hs' (fun o k ho => all o k (by omega)) (hI s' hs'), bnd g2 l2 (by rw [f2 _ _ (by omega)]; exact lk) (all _ _ (by omega)) (all _ _ (by omega)), fun o k ho => all o k (by omega)⟩
  rcases hr with ⟨hR, rfl, fd⟩ | ⟨hR, rfl, ga, fd, hP⟩ | ⟨hR, rfl, fd⟩
  · refine hQ _ g1 ⟨_, rfl, fun d Q hd hQ => ?_⟩
    refine hm g1 (fun o k ho => fd o k (by omega)) d Q hd (fun r2 g2 hr2 => ?_)
    obtain ⟨l2, hr2⟩ := hr2
    rcases hr2 with ⟨_, rfl, f2⟩ | ⟨z, _⟩ | ⟨z, _⟩
    · exact hQ _ g2 ⟨rfl, plain fd g2 (fq f2) l2⟩
    · omega
    · omega
  · refine hQ _ g1 ⟨_, rfl, fun d Q hd hQ => ?_⟩
    refine hm g1 (fun o k ho => by rw [hP.1 _ _ (by omega)]; exact fd o k (by omega)) d Q hd (fun r2 g2 hr2 => ?_)
    obtain ⟨l2, hr2⟩ := hr2
    rcases hr2 with ⟨z, _⟩ | ⟨_, rfl, gc, f2, hM⟩ | ⟨z, _⟩
    · omega
    · have f3 := fq f2
      have nw := Iseal_new hs (hI s hs) hwh hn fd hP f3 hM (hG hR)
      have all : ∀ o k, ¬ (o = 2 ∧ k ≠ 0 ∨ o = 3 ∨ o = 4 ∨ 56 ≤ o ∧ o < 86 ∨ o = 86 ∧ k = 6 ∨ 90 ≤ o ∧ o ≤ 93) → g2 o k = g o k := fun o k ho => by
        rw [hM.1 _ _ (by omega), f3 _ _ (by omega), hP.1 _ _ (by omega), fd _ _ (by omega)]
      refine hQ _ g2 ⟨rfl, fun s' hs' => ?_, bnd g2 l2 ?_ (all _ _ (by omega)) (all _ _ (by omega)), all⟩
      · by_cases hss : s' = s
        · subst hss; exact nw.1
        · exact nw.2 s' hs' hss (hI s' hs')
      · rw [hM.1 _ _ (by omega), f3 _ _ (by omega)]; exact lk
    · omega
  · refine hQ _ g1 ⟨_, rfl, fun d Q hd hQ => ?_⟩
    refine hm g1 (fun o k ho => fd o k (by omega)) d Q hd (fun r2 g2 hr2 => ?_)
    obtain ⟨l2, hr2⟩ := hr2
    rcases hr2 with ⟨z, _⟩ | ⟨z, _⟩ | ⟨_, rfl, f2⟩
    · omega
    · omega
    · exact hQ _ g2 ⟨rfl, plain fd g2 (fq f2) l2⟩
