/-! the memory as the constructors leave it -/
def M0 : List (List Int) := [([2, 3, 6, 9, 12, 44, 50, 54, 55, 56, 60]),
  ([57, 62, 67, 72, 77, 82]),
  ([5000, 0, 4, 5] ++ List.replicate 5 0),
  (List.replicate 36 0),
  (List.replicate 36 0),
  ([7, 8, -1]),
  (List.replicate 8 10),
  (List.replicate 100 0),
  ([10, 11]),
  (List.replicate 32 0),
  (List.replicate 8 0),
  ([13, 0, 0, 0, 14, 15, 16, 17, 18, 19]),
  ([20, 26, 32, 38]),
  (List.replicate 12 0),
  (List.replicate 12 0),
  (List.replicate 12 0),
  (List.replicate 12 0),
  (List.replicate 12 0),
  (List.replicate 12 0),
  ([0, 21, -1, 0, -1, -1, -1, 22, 23, 24, 25, 0]),
  (List.replicate 36 (-1)),
  (List.replicate 36 (-1)),
  (List.replicate 36 (-1)),
  (List.replicate 144 0),
  (List.replicate 36 0),
  ([0, 27, -1, 0, -1, -1, -1, 28, 29, 30, 31, 0]),
  (List.replicate 36 (-1)),
  (List.replicate 36 (-1)),
  (List.replicate 36 (-1)),
  (List.replicate 144 0),
  (List.replicate 36 0),
  ([0, 33, -1, 0, -1, -1, -1, 34, 35, 36, 37, 0]),
  (List.replicate 36 (-1)),
  (List.replicate 36 (-1)),
  (List.replicate 36 (-1)),
  (List.replicate 144 0),
  (List.replicate 36 0),
  ([0, 39, -1, 0, -1, -1, -1, 40, 41, 42, 43, 0]),
  (List.replicate 36 (-1)),
  (List.replicate 36 (-1)),
  (List.replicate 36 (-1)),
  (List.replicate 144 0),
  (List.replicate 36 0),
  ([0, 0, 45, 46, 47, 48, 49]),
  (List.replicate 12 0),
  (List.replicate 12 0),
  (List.replicate 24 0),
  (List.replicate 12 0),
  (List.replicate 25 0),
  ([51, 0, -1, 52, 53] ++ List.replicate 4 0),
  (List.replicate 12 0),
  (List.replicate 160 0),
  (List.replicate 12 0),
  (List.replicate 12 0),
  (List.replicate 36 0),
  (List.replicate 36 0),
  ([1, 1, 0, 58, 59, 60, 61]),
  (List.replicate 36 0),
  (List.replicate 36 (-1)),
  (List.replicate 36 0),
  (List.replicate 4 (-1) ++ List.replicate 140 0),
  ([1, 1, 0, 63, 64, 65, 66]),
  (List.replicate 36 0),
  (List.replicate 36 (-1)),
  (List.replicate 36 0),
  (List.replicate 4 (-1) ++ List.replicate 140 0),
  ([1, 1, 0, 68, 69, 70, 71]),
  (List.replicate 36 0),
  (List.replicate 36 (-1)),
  (List.replicate 36 0),
  (List.replicate 4 (-1) ++ List.replicate 140 0),
  ([1, 1, 0, 73, 74, 75, 76]),
  (List.replicate 36 0),
  (List.replicate 36 (-1)),
  (List.replicate 36 0),
  (List.replicate 4 (-1) ++ List.replicate 140 0),
  ([1, 1, 0, 78, 79, 80, 81]),
  (List.replicate 36 0),
  (List.replicate 36 (-1)),
  (List.replicate 36 0),
  (List.replicate 4 (-1) ++ List.replicate 140 0),
  ([1, 1, 0, 83, 84, 85, 86]),
  (List.replicate 36 0),
  (List.replicate 36 (-1)),
  (List.replicate 36 0),
  (List.replicate 4 (-1) ++ List.replicate 140 0),
  ([88, 89, 90, 91, 92, 5000, 0, 93, 94, 95, 96, 97, 98, 99, 100, 101, 102, 103, 104, 105, 0, 106, 0, 107, 0, 108, 109, 110, -1, 111, 112, 113, 114, 115, 116, 117, 0, 0, 0, 118, 119, 120, 60, 121, 0, -1, 122, 123] ++ List.replicate 4 0),
  (List.replicate 6 1),
  (List.replicate 6 1),
  (List.replicate 216 0),
  (List.replicate 216 0),
  (List.replicate 6 0),
  (List.replicate 36 0),
  (List.replicate 36 0),
  (List.replicate 8 10),
  (List.replicate 100 0),
  (List.replicate 32 0),
  (List.replicate 8 0),
  (List.replicate 8 0),
  (List.replicate 4 0),
  (List.replicate 144 0),
  (List.replicate 144 0),
  (List.replicate 144 0),
  (List.replicate 4 (-1)),
  (List.replicate 4 0),
  (List.replicate 36 0),
  (List.replicate 36 0),
  (List.replicate 12 0),
  (List.replicate 12 0),
  (List.replicate 12 0),
  (List.replicate 8 0),
  (List.replicate 4 0),
  (List.replicate 4 0),
  (List.replicate 4 0),
  (List.replicate 144 0),
  (List.replicate 144 0),
  (List.replicate 36 0),
  (List.replicate 24 0),
  (List.replicate 12 0),
  (List.replicate 325 0),
  (List.replicate 160 0),
  (List.replicate 12 0),
  (List.replicate 12 0)]
noncomputable def big : Option (mSh × List (List Int)) := match runC 3000 99 84 0 [(2, 1), (3, 0)] [] [(8, 11)] [List.replicate 11 0] with
  | none => none
  | some (sh, m) => if sh.length = 86 then runC 3000 99 143 0 [(2, (sh.length : Int) + 1), (3, 0)] [] (sh ++ [(9, 52)]) (m ++ [List.replicate 52 0]) else none
set_option maxRecDepth 100000 in
theorem big_ok : big = some (SH, M0) := by decide +kernel
theorem M0_len : M0.length = 123 := by decide +kernel
theorem M0_in : ∀ o, o < 123 → (M0.getD o []).length = (SH.getD o (99, 0)).2 := by decide +kernel
theorem M0_ref : ∀ o, o < 123 → ∀ k, k < (SH.getD o (99, 0)).2 → isr o k = true → lf M0 o k = f0r o k := by decide +kernel
theorem fl_M0 : fl (lf M0) = lf M0 := by
  funext o k
  by_cases h : isr o k = true
  · rw [fl_r h]
    by_cases ho : o < 123
    · by_cases hk : k < (SH.getD o (99, 0)).2
      · exact (M0_ref o ho k hk h).symm
      · unfold f0r lf
        rw [if_pos (by omega), List.getD_eq_getElem?_getD (l := M0.getD o []), List.getElem?_eq_none (by rw [M0_in o ho]; omega)]
        rfl
    · have e : SH.getD o (99, 0) = (99, 0) := by
        rw [List.getD_eq_getElem?_getD, List.getElem?_eq_none (by show 123 ≤ o; omega)]
        rfl
      unfold f0r lf
      rw [e, if_pos (Nat.zero_le _), List.getD_eq_getElem?_getD (l := M0), List.getElem?_eq_none (by rw [M0_len]; omega)]
      rfl
  · rw [fl_d (by simpa using h)]
/-- both objects made: then the loop -/
theorem law_init (X : mX) (Q : mQ) (h : Wp X 100 SH 233 18 [(2, -2), (2, 1), (2, 87), (0, 0)] [] SH (fl (lf M0)) Q) : Wp X 100 SH 233 0 [(2, -2), (3, 0), (3, 0), (3, 0)] [] [] (fun _ _ => 0) Q := by
  have hb := big_ok
  unfold big at hb
  cases h1 : runC 3000 99 84 0 [(2, 1), (3, 0)] [] [(8, 11)] [List.replicate 11 0] with
  | none => rw [h1] at hb; cases hb
  | some r =>
    obtain ⟨sh1, m1⟩ := r
    rw [h1] at hb
    simp only at hb
    split at hb
    case isFalse => cases hb
    rename_i hl
    obtain ⟨a1, a2, a3, a4⟩ := runC_ok _ _ _ _ _ _ _ _ _ _ h1 rfl
    obtain ⟨b1, b2, b3, b4⟩ := runC_ok _ _ _ _ _ _ _ _ _ _ hb (by simp [a1])
    have e0 : (fun _ _ => 0 : mF) = lf [] := by funext o k; simp [lf]
    have e1 : mze (fun _ _ => 0 : mF) 0 = lf [List.replicate 11 0] := by rw [e0, ← lf_push (m := []) rfl]; rfl
    have e2 : mze (lf m1) sh1.length = lf (m1 ++ [List.replicate 52 0]) := (lf_push a1).symm
    simp only [List.length_append, List.length_cons, List.length_nil, mtot_push] at b2 b3
    apply s_233_0
    refine ⟨by decide, by decide +kernel, by omega, by decide, sh1, a2, a3, by omega, by omega, ?_⟩
    show Wp X 99 sh1 84 0 [(2, 1), (3, 0)] [] [(8, 11)] (mze (fun _ _ => 0) 0) _
    rw [e1]
    refine a4 X _ ?_
    apply s_233_7
    refine ⟨b2, b3, by omega, by omega, SH, by simp; omega, by rw [mtot_push]; omega, Nat.le_refl _, Nat.le_refl _, ?_⟩
    rw [e2]
    refine b4 X _ ?_
    show Wp X 100 SH 233 15 [(2, -2), (2, 1), (3, 0), (3, 0)] [(2, (sh1.length : Int) + 1)] SH (lf M0) Q
    rw [show (sh1.length : Int) + 1 = 87 by omega]
    apply s_233_15
    rw [← fl_M0]
    exact h
