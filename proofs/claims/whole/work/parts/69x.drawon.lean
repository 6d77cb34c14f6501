/-! draw: what the class lays down first -/
theorem c73s (X : mX) (g : mF) {s a b : Nat} (hs : s < 6) {n z kind : Int} (ha : a < 36) (hb : b < 36) (hz : z = 0 ∨ z = 1) (ba : g (59 + 5 * s) a = 0) (bb : g (59 + 5 * s) b = 0) {d : Nat} {Q : mQ} (hd : 3 ≤ d) (hk : ∀ g1 : mF, (∀ o k, ¬ (o = 2 ∧ k ≠ 0 ∨ o = 3 ∨ o = 4) → g1 o k = g o k) → g1 2 1 = 0 → g1 2 4 = (b : Int) → g1 2 5 = n → g1 2 6 = kind → g1 2 7 = z → g1 2 8 = 0 → g1 3 0 = (a : Int) → (∀ k, k < 36 → g1 4 k = if k = a then 0 else -1) → Wp X d SH 73 77 [(2, 3), (2, 57 + 5 * (s : Int)), (0, (a : Int)), (0, (b : Int)), (0, n), (0, z), (0, kind), (3, 0)] [] SH (fl g1) Q) : Wp X d SH 73 0 [(2, 3), (2, 57 + 5 * (s : Int)), (0, (a : Int)), (0, (b : Int)), (0, n), (0, z), (0, kind), (3, 0)] [] SH (fl g) Q := by
  have ea : ((a : Int)).toNat = a := by omega
  have eb : ((b : Int)).toNat = b := by omega
  apply s_73_0
  rw [up_3_1]
  refine ⟨mi_3, ?_⟩
  generalize h1 : mup g 2 1 0 = m1
  have ba1 : m1 (59 + 5 * s) a = 0 := by rw [← h1, mup_n (by omega)]; exact ba
  have bb1 : m1 (59 + 5 * s) b = 0 := by rw [← h1, mup_n (by omega)]; exact bb
  apply s_73_5
  rw [sl_5 m1 hs, ea, eb, sa_5 m1 hs, sa_5 m1 hs, ba1, bb1, up_3_4, sn_5 hs]
  refine ⟨sm_o hs, sm_5 hs, by omega, by omega, fun y => absurd rfl y, fun _ => ⟨sm_o hs, sm_5 hs, by omega, by omega, fun _ => ⟨mi_3, ?_⟩, fun y => absurd rfl y⟩⟩
  generalize h2 : mup m1 2 4 (b : Int) = m2
  apply s_73_32
  rw [up_3_5]
  refine ⟨mi_3, ?_⟩
  generalize h3 : mup m2 2 5 n = m3
  apply s_73_38
  rw [up_3_6]
  refine ⟨mi_3, ?_⟩
  generalize h4 : mup m3 2 6 kind = m4
  apply s_73_44
  rw [up_3_7]
  refine ⟨mi_3, hz, ?_⟩
  generalize h5 : mup m4 2 7 z = m5
  apply s_73_50
  rw [up_3_8]
  refine ⟨mi_3, ?_⟩
  generalize h6 : mup m5 2 8 0 = m6
  apply s_73_55
  rw [fl_3_3]
  refine ⟨mi_3, by omega, ?_⟩
  refine c232 X m6 (R := 5) (o := 4) (N := 36) mi_5 ml_5 (fun g i x => up_5 g i x) (by omega) (-1) _ _ (by omega) ?_
  generalize h7 : mfl m6 4 0 36 (-1) = m7
  apply s_73_63
  rw [fl_3_2, ml_4, show ((0 : Int)).toNat = 0 from rfl, up_4]
  refine ⟨mi_3, mi_4, by omega, by omega, ?_⟩
  generalize h8 : mup m7 3 0 (a : Int) = m8
  apply s_73_70
  rw [fl_3_3, ml_5, ea, up_5]
  refine ⟨mi_3, mi_5, by omega, by omega, ?_⟩
  generalize h9 : mup m8 4 a 0 = m9
  have x9 : ∀ o k, ¬ (o = 4 ∧ k = a) → m9 o k = m8 o k := fun o k ho => by rw [← h9, mup_n (by omega)]
  have x8 : ∀ o k, ¬ (o = 3 ∧ k = 0) → m8 o k = m7 o k := fun o k ho => by rw [← h8, mup_n (by omega)]
  have x7 : ∀ o k, ¬ o = 4 → m7 o k = m6 o k := fun o k ho => by rw [← h7, mfl_n (by omega)]
  have x6 : ∀ o k, ¬ (o = 2 ∧ k = 8) → m6 o k = m5 o k := fun o k ho => by rw [← h6, mup_n (by omega)]
  have x5 : ∀ o k, ¬ (o = 2 ∧ k = 7) → m5 o k = m4 o k := fun o k ho => by rw [← h5, mup_n (by omega)]
  have x4 : ∀ o k, ¬ (o = 2 ∧ k = 6) → m4 o k = m3 o k := fun o k ho => by rw [← h4, mup_n (by omega)]
  have x3 : ∀ o k, ¬ (o = 2 ∧ k = 5) → m3 o k = m2 o k := fun o k ho => by rw [← h3, mup_n (by omega)]
  have x2 : ∀ o k, ¬ (o = 2 ∧ k = 4) → m2 o k = m1 o k := fun o k ho => by rw [← h2, mup_n (by omega)]
  have x1 : ∀ o k, ¬ (o = 2 ∧ k = 1) → m1 o k = g o k := fun o k ho => by rw [← h1, mup_n (by omega)]
  refine hk m9 (fun o k ho => ?_) ?_ ?_ ?_ ?_ ?_ ?_ ?_ (fun k hk => ?_)
  · rw [x9 _ _ (by omega), x8 _ _ (by omega), x7 _ _ (by omega), x6 _ _ (by omega), x5 _ _ (by omega), x4 _ _ (by omega), x3 _ _ (by omega), x2 _ _ (by omega), x1 _ _ (by omega)]
  · rw [x9 _ _ (by omega), x8 _ _ (by omega), x7 _ _ (by omega), x6 _ _ (by omega), x5 _ _ (by omega), x4 _ _ (by omega), x3 _ _ (by omega), x2 _ _ (by omega), ← h1, mup_e]
  · rw [x9 _ _ (by omega), x8 _ _ (by omega), x7 _ _ (by omega), x6 _ _ (by omega), x5 _ _ (by omega), x4 _ _ (by omega), x3 _ _ (by omega), ← h2, mup_e]
  · rw [x9 _ _ (by omega), x8 _ _ (by omega), x7 _ _ (by omega), x6 _ _ (by omega), x5 _ _ (by omega), x4 _ _ (by omega), ← h3, mup_e]
  · rw [x9 _ _ (by omega), x8 _ _ (by omega), x7 _ _ (by omega), x6 _ _ (by omega), x5 _ _ (by omega), ← h4, mup_e]
  · rw [x9 _ _ (by omega), x8 _ _ (by omega), x7 _ _ (by omega), x6 _ _ (by omega), ← h5, mup_e]
  · rw [x9 _ _ (by omega), x8 _ _ (by omega), x7 _ _ (by omega), ← h6, mup_e]
  · rw [x9 _ _ (by omega), ← h8, mup_e]
  · by_cases hka : k = a
    · subst hka; rw [if_pos rfl, ← h9, mup_e]
    · rw [if_neg hka, x9 _ _ (by omega), x8 _ _ (by omega), ← h7, mfl_e (by omega)]
