/-! draw: the class's sides -/
theorem near_rise {w h a : Int} (hw : 1 ≤ w ∧ w ≤ 6) {i j : Nat} (hij : i < j) (hj : j < 4) (h1 : nearf w h a i ≠ -1) (h2 : nearf w h a j ≠ -1) : nearf w h a i < nearf w h a j := by
  have m1 := Int.emod_lt_of_pos a (show 0 < w by omega)
  have m0 := Int.emod_nonneg a (show w ≠ 0 by omega)
  have ci : i = 0 ∨ i = 1 ∨ i = 2 ∨ i = 3 := by omega
  have cj : j = 0 ∨ j = 1 ∨ j = 2 ∨ j = 3 := by omega
  rcases ci with rfl | rfl | rfl | rfl <;> rcases cj with rfl | rfl | rfl | rfl <;> first | (exfalso; omega) | skip
  all_goals
    revert h1 h2
    simp only [nearf0, nearf1, nearf2, nearf3]
    split <;> split <;> omega
theorem foldQ_skip {B b : Int} {n : Nat} {may : (Nat → Int) → Nat → Nat → Bool} {al : (Nat → Int) → Bool} {rc : (Nat → Int) → Nat → Int → Int × Int × (Nat → Int)} {ρ : Nat → Int} {m : Nat} {L : Int} {ρ' : Nat → Int} : ∀ j c lo, (∀ x, lo ≤ x → x < lo + j → ¬ may ρ m x = true) → foldQ (stepQ B b n may al rc ρ m) (j + c) lo (0, L, ρ') = foldQ (stepQ B b n may al rc ρ m) c (lo + j) (0, L, ρ') := by
  intro j
  induction j with
  | zero => intro c lo _; rw [Nat.zero_add, Nat.add_zero]
  | succ j ih =>
    intro c lo hx
    rw [show j + 1 + c = (j + c) + 1 by omega]
    show foldQ _ (j + c) (lo + 1) (stepQ B b n may al rc ρ m (0, L, ρ') lo) = _
    rw [sQ_n (hx lo (by omega) (by omega)), ih c (lo + 1) (fun x h1 h2 => hx x (by omega) (by omega)), show lo + 1 + j = lo + (j + 1) by omega]
theorem ALC_0 {w h : Int} {p : Nat → Int} : ALC w h 0 p := by
  intro y x _ _
  unfold okq tq
  rw [if_neg (by decide), if_neg (by decide)]
theorem TP_s {w h : Int} {p ρ : Nat → Int} {m q : Nat} (hw : 1 ≤ w ∧ w ≤ 6) (hT : TP w h p ρ m) (hq : (q : Int) < w * h) (hn : ∀ k, k < m → ρ k ≠ (q : Int)) {p' : Nat → Int} (hp : ∀ k, p' k = if k = q then (m : Int) else p k) : TP w h p' (rup ρ m (q : Int)) (m + 1) := by
  obtain ⟨t1, t2, t3⟩ := hT
  refine ⟨fun i hi => ?_, fun i hi => ?_, fun k hk => ?_⟩
  · by_cases him : i = m
    · subst him; rw [rup_e]; omega
    · rw [rup_n (by omega)]; exact t1 i (by omega)
  · by_cases him : i = m
    · subst him; rw [rup_e, hp, if_pos (by omega)]
    · have y := hn i (by omega)
      have z := t1 i (by omega)
      rw [rup_n (by omega), hp, if_neg (by omega)]
      exact t2 i (by omega)
  · rw [hp]
    by_cases hkq : k = q
    · subst hkq
      rw [if_pos rfl]
      exact Or.inr ⟨m, by omega, rfl, rup_e⟩
    · rw [if_neg hkq]
      rcases t3 k hk with z | ⟨i, z1, z2, z3⟩
      · exact Or.inl z
      · exact Or.inr ⟨i, by omega, z2, by rw [rup_n z1]; exact z3⟩
theorem c76 (X : mX) (g : mF) {s : Nat} (hs : s < 6) (hI : Iseal g s) {n m : Nat} {ρ : Nat → Int} {al : (Nat → Int) → Bool} (hn : n ≤ 36) (h5 : g 2 5 = (n : Int)) (hk : 0 ≤ g 2 6 ∧ g 2 6 ≤ 3) (hal : ∀ ρ, al ρ = true ↔ g 2 6 = 0 ∨ ALM (g (56 + 5 * s) 0) (g (56 + 5 * s) 1) (g 2 6) n ρ) (hT : TP (g (56 + 5 * s) 0) (g (56 + 5 * s) 1) (g 4) ρ m) : (m = n ∧ al ρ = true → Ret X 2 76 [(2, 3), (2, 57 + 5 * (s : Int)), (0, (m : Int))] g (some (0, 1)) g) ∧ (¬ (m = n ∧ al ρ = true) → Ret X 2 76 [(2, 3), (2, 57 + 5 * (s : Int)), (0, (m : Int))] g (some (0, 0)) g) := by
  obtain ⟨⟨p1, p2, -, -⟩, -⟩ := id hI
  have c := c70 X g hs p1.2 p2.2 (R := 5) mi_5 ml_5 (p := g 4) (fun k => fl_5 g k) hk
  have run : ∀ d Q, 2 ≤ d → (m = n ∧ al ρ = true → Q (some (0, 1)) (fl g)) → (¬ (m = n ∧ al ρ = true) → Q (some (0, 0)) (fl g)) → Wp X d SH 76 0 [(2, 3), (2, 57 + 5 * (s : Int)), (0, (m : Int))] [] SH (fl g) Q := by
    intro d Q hd hy hno
    apply s_76_0
    rw [fl_3_5, h5, fl_3_3, fl_3_6]
    refine ⟨mi_3, fun z => hno (fun y => z (by omega)), fun z => ⟨mi_3, mi_3, by omega, sm_o hs, ?_⟩⟩
    have hmn : m = n := by omega
    subst hmn
    have e : al ρ = true ↔ ALC (g (56 + 5 * s) 0) (g (56 + 5 * s) 1) (g 2 6) (g 4) := by
      rw [hal, AL_iff p1.2 hT.1 hT.2.1 hT.2.2]
      constructor
      · rintro (y | y)
        · rw [← AL_iff p1.2 hT.1 hT.2.1 hT.2.2, y]
          exact ALC_0
        · exact y
      · exact fun y => Or.inr y
    by_cases ha : al ρ = true
    · have q1 := hy ⟨rfl, ha⟩
      refine (c.1 (e.1 ha)) _ _ (by omega) ?_
      apply s_76_20
      exact ⟨fun y => absurd y (by decide), fun _ => q1⟩
    · have q0 := hno (fun y => ha y.2)
      refine (c.2 (fun y => ha (e.2 y))) _ _ (by omega) ?_
      apply s_76_20
      exact ⟨fun _ => q0, fun y => absurd rfl y⟩
  exact ⟨fun hz d Q hd hQ => run d Q hd (fun _ => hQ) (fun hn => absurd hz hn), fun hz d Q hd hQ => run d Q hd (fun hy => absurd hy hz) (fun _ => hQ)⟩
