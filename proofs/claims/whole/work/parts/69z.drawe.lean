/-! draw: the class, one end -/
theorem c73e (X : mX) (g : mF) {s a n wh : Nat} (hs : s < 6) {w h z kind : Int} {al : (Nat → Int) → Bool} (hI : Iseal g s) (ew : g (56 + 5 * s) 0 = w) (eh : g (56 + 5 * s) 1 = h) (hwh : w * h = (wh : Int)) (h36 : wh ≤ 36) (hn : 1 ≤ n ∧ n ≤ 36) (hkind : 0 ≤ kind ∧ kind ≤ 3) (hz : z = 0 ∨ z = 1) (ha : a < wh) (ba : g (59 + 5 * s) a = 0) (hal : ∀ ρ, al ρ = true ↔ kind = 0 ∨ ALM w h kind n ρ) : Rel X 55 73 [(2, 3), (2, 57 + 5 * (s : Int)), (0, (a : Int)), (0, (a : Int)), (0, (n : Int)), (0, z), (0, kind), (3, 0)] g (DR X s n g (if n = 1 ∧ al (fun _ => (a : Int)) = true then 1 else 0, 0, fun _ => (a : Int))) := by
  intro d Q hd hQ
  obtain ⟨⟨p1, p2, -, -⟩, -⟩ := id hI
  refine c73s X g hs (by omega) (by omega) hz ba ba (by omega) (fun g1 fr l1 l4 l5 l6 l7 l8 t0 pl => ?_)
  have fd1 : FD g g1 := fr
  have no : ¬ (n = 1 ∧ al (fun _ => (a : Int)) = true) → Wp X d SH 73 117 [(2, 3), (2, 57 + 5 * (s : Int)), (0, (a : Int)), (0, (a : Int)), (0, (n : Int)), (0, z), (0, kind), (3, 0)] [(0, 0)] SH (fl g1) Q := by
    intro hno
    rw [if_neg hno] at hQ
    have q0 := hQ _ g1 ⟨l1, Or.inl ⟨rfl, rfl, fd1⟩⟩
    refine s_73_117 n01 ?_
    rw [fl_3_8, l8]
    exact ⟨mi_3, fun _ => ⟨fun y => absurd rfl y, fun _ => q0⟩, fun y => absurd rfl y⟩
  apply s_73_77
  refine ⟨fun y => absurd rfl y, fun _ => ⟨fun y => ?_, fun y => ⟨mi_3, mi_3, by omega, sm_o hs, ?_⟩⟩⟩
  · apply s_73_107
    exact no (fun x => y (by omega))
  · have hn1 : n = 1 := by omega
    subst hn1
    have w1 : g1 (56 + 5 * s) 0 = g (56 + 5 * s) 0 := fr _ _ (by omega)
    have h1 : g1 (56 + 5 * s) 1 = g (56 + 5 * s) 1 := fr _ _ (by omega)
    have hT : TP w h (g1 4) (fun _ => (a : Int)) 1 := TP_1 hwh h36 ha pl
    have c := c70 X g1 hs (by rw [w1]; exact p1.2) (by rw [h1]; exact p2.2) (R := 5) mi_5 ml_5 (p := g1 4) (fun k => fl_5 g1 k) hkind
    rw [w1, h1, ew, eh] at c
    have hw : 1 ≤ w ∧ w ≤ 6 := by rw [← ew]; exact p1.2
    have e : al (fun _ => (a : Int)) = true ↔ ALC w h kind (g1 4) := by
      rw [hal]
      constructor
      · rintro (x | x)
        · rw [x]; exact ALC_0
        · exact (AL_iff hw hT.1 hT.2.1 hT.2.2).2 x
      · exact fun x => Or.inr ((AL_iff hw hT.1 hT.2.1 hT.2.2).1 x)
    rw [fl_3_3, fl_3_6, l6]
    by_cases hA : al (fun _ => (a : Int)) = true
    · refine (c.1 (e.1 hA)) _ _ (by omega) ?_
      rw [if_pos ⟨rfl, hA⟩] at hQ
      apply s_73_100
      refine ⟨fun x => absurd x (by decide), fun _ => ?_⟩
      refine s_73_117 n01 ?_
      rw [fl_3_8, l8, fl_3_2]
      refine ⟨mi_3, fun _ => ⟨fun _ => ⟨mi_3, by omega, sm_o hs, ?_⟩, fun x => absurd (by decide) x⟩, fun x => absurd rfl x⟩
      refine c65 X g1 hs (n := 1) (wh := wh) (w := w) (ρ := fun _ => (a : Int)) (by omega) (fun i hi => by
        have : i = 0 := by omega
        subst this
        exact t0) (Good_1 ha) h36 _ _ (by omega) ?_
      rintro r g3 ⟨rfl, hP⟩
      have q1 := hQ (some (0, ((1 : Nat) : Int))) g3 ⟨by rw [hP.1 _ _ (by omega)]; exact l1, Or.inr (Or.inl ⟨rfl, rfl, g1, fd1, hP⟩)⟩
      apply s_73_149
      exact q1
    · refine (c.2 (fun x => hA (e.2 x))) _ _ (by omega) ?_
      apply s_73_100
      refine ⟨fun _ => ?_, fun x => absurd rfl x⟩
      apply s_73_107
      exact no (fun x => hA x.2)
theorem c73b (X : mX) (g : mF) {s a b : Nat} (hs : s < 6) {n z kind : Int} (ha : a < 36) (hb : b < 36) (hab : g (59 + 5 * s) a ≠ 0 ∨ g (59 + 5 * s) b ≠ 0) : Ret X 3 73 [(2, 3), (2, 57 + 5 * (s : Int)), (0, (a : Int)), (0, (b : Int)), (0, n), (0, z), (0, kind), (3, 0)] g (some (0, -1003)) (mup g 2 1 0) := by
  intro d Q hd hQ
  have ea : ((a : Int)).toNat = a := by omega
  have eb : ((b : Int)).toNat = b := by omega
  apply s_73_0
  rw [up_3_1]
  refine ⟨mi_3, ?_⟩
  generalize h1 : mup g 2 1 0 = m1 at *
  have ba1 : m1 (59 + 5 * s) a = g (59 + 5 * s) a := by rw [← h1, mup_n (by omega)]
  have bb1 : m1 (59 + 5 * s) b = g (59 + 5 * s) b := by rw [← h1, mup_n (by omega)]
  apply s_73_5
  rw [sl_5 m1 hs, ea, eb, sa_5 m1 hs, sa_5 m1 hs, ba1, bb1, sn_5 hs]
  exact ⟨sm_o hs, sm_5 hs, by omega, by omega, fun _ => hQ, fun y => ⟨sm_o hs, sm_5 hs, by omega, by omega, fun x => absurd x (hab.resolve_left (fun v => y v)), fun _ => hQ⟩⟩
