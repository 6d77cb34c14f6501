/-! draw: the class's search, where the ends differ -/
def FD (g g' : mF) : Prop := ∀ o k, ¬ (o = 2 ∧ k ≠ 0 ∨ o = 3 ∨ o = 4) → g' o k = g o k
def DR (X : mX) (s n : Nat) (g : mF) (R : Int × Int × (Nat → Int)) (r : Option mV) (g' : mF) : Prop := g' 2 1 = R.2.1 ∧ (R.1 = 0 ∧ r = some (0, -1003) ∧ FD g g' ∨ R.1 = 1 ∧ r = some (0, (n : Int)) ∧ (∃ g1, FD g g1 ∧ PTH s n R.2.2 g1 g') ∨ R.1 = 2 ∧ r = some (0, -1005) ∧ FD g g')
theorem Good_1 {w : Int} {wh a : Nat} (ha : a < wh) : Good w wh (fun _ => (a : Int)) 1 := ⟨fun _ _ => by show 0 ≤ (a : Int) ∧ (a : Int) < (wh : Int); omega, fun i j hij hj => absurd hij (by omega), fun i hi => absurd hi (by omega)⟩
theorem TP_1 {w h : Int} {wh a : Nat} {p : Nat → Int} (hwh : w * h = (wh : Int)) (h36 : wh ≤ 36) (ha : a < wh) (hp : ∀ k, k < 36 → p k = if k = a then 0 else -1) : TP w h p (fun _ => (a : Int)) 1 := by
  refine ⟨fun _ _ => by show 0 ≤ (a : Int) ∧ (a : Int) < w * h; omega, fun i hi => ?_, fun k hk => ?_⟩
  · have : i = 0 := by omega
    subst this
    show p ((a : Int)).toNat = _
    rw [show ((a : Int)).toNat = a by omega, hp a (by omega), if_pos rfl]
    rfl
  · rw [hp k (by omega)]
    by_cases hka : k = a
    · subst hka
      rw [if_pos rfl]
      exact Or.inr ⟨0, by omega, rfl, rfl⟩
    · rw [if_neg hka]
      exact Or.inl rfl
theorem c73n (X : mX) (g : mF) {s a b n wh : Nat} (hs : s < 6) {w h B z kind : Int} {may : (Nat → Int) → Nat → Nat → Bool} {al : (Nat → Int) → Bool} (hI : Iseal g s) (ew : g (56 + 5 * s) 0 = w) (eh : g (56 + 5 * s) 1 = h) (hwh : w * h = (wh : Int)) (h36 : wh ≤ 36) (hB : g 2 0 = B) (hBb : 100 ≤ B ∧ B ≤ 20000) (hn : 1 ≤ n ∧ n ≤ 36) (hkind : 0 ≤ kind ∧ kind ≤ 3) (hz : z = 0 ∨ z = 1) (ha : a < wh) (hb : b < wh) (hab : a ≠ b) (ba : g (59 + 5 * s) a = 0) (bb : g (59 + 5 * s) b = 0) (hmay : ∀ ρ m q, may ρ m q = true ↔ nrC w (ρ (m - 1)) (q : Int) ∧ MF w (g (59 + 5 * s)) ρ m z (q : Int)) (hal : ∀ ρ, al ρ = true ↔ kind = 0 ∨ ALM w h kind n ρ) : Rel X 55 73 [(2, 3), (2, 57 + 5 * (s : Int)), (0, (a : Int)), (0, (b : Int)), (0, (n : Int)), (0, z), (0, kind), (3, 0)] g (DR X s n g (srch B (b : Int) n wh may al (n - 1) (fun _ => (a : Int)) 1 0)) := by
  intro d Q hd hQ
  refine c73s X g hs (by omega) (by omega) hz ba bb (by omega) (fun g1 fr l1 l4 l5 l6 l7 l8 t0 pl => ?_)
  have e59 : g1 (59 + 5 * s) = g (59 + 5 * s) := funext (fun k => fr _ _ (by omega))
  have c := c74 X g1 hs (w := w) (h := h) (B := B) (b := (b : Int)) (a := (a : Int)) (n := n) (wh := wh) (may := may) (al := al) (Iseal_fr hs (fun o k ho => fr o k (by omega)) hI) (by rw [fr _ _ (by omega)]; exact ew) (by rw [fr _ _ (by omega)]; exact eh) hwh (by rw [fr _ _ (by omega)]; exact hB) hBb l4 l5 hn (by rw [l6]; exact hkind) (by rw [e59, l7]; exact hmay) (by rw [l6]; exact hal) t0 (TP_1 hwh h36 ha pl) l1 l8
  have gd := srch_good (B := B) (b := (b : Int)) (n := n) (wh := wh) (al := al) hmay (n - 1) (fun _ => (a : Int)) 1 0 (by omega) (Good_1 ha)
  generalize srch B (b : Int) n wh may al (n - 1) (fun _ => (a : Int)) 1 0 = R at *
  apply s_73_77
  refine ⟨fun _ => ⟨by omega, mi_3, ?_⟩, fun y => absurd (by omega) y⟩
  refine c _ _ (by omega) ?_
  rintro r g2 ⟨fr2, lk2, hc⟩
  have fd2 : FD g g2 := fun o k ho => by rw [fr2 _ _ (by omega), fr _ _ (by omega)]
  rcases hc with ⟨hR, rfl, h8⟩ | ⟨hR, rfl, rows, h8⟩ | ⟨hR, rfl, h8⟩
  · have q0 := hQ _ g2 ⟨lk2, Or.inl ⟨hR, rfl, fd2⟩⟩
    refine s_73_117 n01 ?_
    rw [fl_3_8, h8]
    exact ⟨mi_3, fun _ => ⟨fun y => absurd rfl y, fun _ => q0⟩, fun y => absurd rfl y⟩
  · refine s_73_117 n01 ?_
    rw [fl_3_8, h8, fl_3_2]
    refine ⟨mi_3, fun _ => ⟨fun _ => ⟨mi_3, by omega, sm_o hs, ?_⟩, fun y => absurd (by decide) y⟩, fun y => absurd rfl y⟩
    refine c65 X g2 hs (n := n) (wh := wh) (w := w) (ρ := R.2.2) hn.2 rows (gd hR) h36 _ _ (by omega) ?_
    rintro r g3 ⟨rfl, hP⟩
    have q1 := hQ (some (0, (n : Int))) g3 ⟨by rw [hP.1 _ _ (by omega)]; exact lk2, Or.inr (Or.inl ⟨hR, rfl, g2, fd2, hP⟩)⟩
    apply s_73_149
    exact q1
  · have q2 := hQ (some (0, -1005)) g2 ⟨lk2, Or.inr (Or.inr ⟨hR, rfl, fd2⟩)⟩
    refine s_73_117 n01 ?_
    rw [fl_3_8, h8]
    exact ⟨mi_3, fun y => absurd y (by decide), fun _ => q2⟩
