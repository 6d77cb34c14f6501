/-! the first stretch of law -/
/-- both objects made: then the loop -/
theorem law_init (X : mX) (Q : mQ) (h : Wp X 100 SH 233 18 [(2, -2), (2, 1), (2, 87), (0, 0)] [] SH (fl (lf M0)) Q) : Wp X 100 SH 233 0 [(2, -2), (3, 0), (3, 0), (3, 0)] [] [] (fun _ _ => 0) Q := by
  have hb := big_ok
  unfold big at hb
  cases h1 : runC 3000 99 84 0 [(2, 1), (3, 0)] [] [(8, 11)] [List.replicate 11 0] with
  | none => rw [h1] at hb; cases hb
  | some r =>
    obtain ⟨sh1, m1⟩ := r
    rw [h1] at hb
    simp only at hb
    split at hb
    case isFalse => cases hb
    rename_i hl
    obtain ⟨a1, a2, a3, a4⟩ := runC_ok _ _ _ _ _ _ _ _ _ _ h1 rfl
    obtain ⟨b1, b2, b3, b4⟩ := runC_ok _ _ _ _ _ _ _ _ _ _ hb (by simp [a1])
    have e0 : (fun _ _ => 0 : mF) = lf [] := by funext o k; simp [lf]
    have e1 : mze (fun _ _ => 0 : mF) 0 = lf [List.replicate 11 0] := by
      rw [e0]
      exact (lf_push (m := []) (n := 11) (L := 0) rfl).symm
    have e2 : mze (lf m1) sh1.length = lf (m1 ++ [List.replicate 52 0]) := (lf_push a1).symm
    simp only [List.length_append, List.length_cons, List.length_nil, mtot_push] at b2 b3
    apply s_233_0
    refine ⟨by decide, by decide +kernel, by omega, by decide, sh1, a2, a3, by omega, by omega, ?_⟩
    show Wp X 99 sh1 84 0 [(2, 1), (3, 0)] [] [(8, 11)] (mze (fun _ _ => 0) 0) _
    rw [e1]
    refine a4 X _ ?_
    apply s_233_7
    refine ⟨b2, b3, by omega, by omega, SH, by simp; omega, by rw [mtot_push]; omega, Nat.le_refl _, Nat.le_refl _, ?_⟩
    rw [e2]
    refine b4 X _ ?_
    show Wp X 100 SH 233 15 [(2, -2), (2, 1), (3, 0), (3, 0)] [(2, (sh1.length : Int) + 1)] SH (lf M0) Q
    rw [show (sh1.length : Int) + 1 = 87 by omega]
    apply s_233_15
    rw [← fl_M0]
    exact h
