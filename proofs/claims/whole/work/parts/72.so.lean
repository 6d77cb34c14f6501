/-! what is owed for each call -/
theorem Iknow_g {g g2 : mF} (fo : ∀ o k, ¬ (o = 11 ∧ k = 3 ∨ o = 9 ∨ o = 10 ∨ o = 54 ∨ o = 96 ∨ o = 98 ∨ o = 102 ∨ o = 110 ∨ o = 20 ∨ o = 26 ∨ o = 32 ∨ o = 38) → g2 o k = g o k) (h : g2 11 3 = 0 ∨ g2 11 3 = g 11 3 ∧ ∀ c k, c < 4 → g2 (20 + 6 * c) k = g (20 + 6 * c) k) (hk : Iknow g) : Iknow g2 := by
  rcases h with h | ⟨h1, h2⟩
  · exact Or.inl h
  · refine Iknow_fr (fun o k ho => ?_) hk
    by_cases e0 : o = 11 ∧ k = 3
    · rw [e0.1, e0.2]; exact h1
    · by_cases e1 : o = 20 ∨ o = 26 ∨ o = 32 ∨ o = 38
      · obtain ⟨c, hc, rfl⟩ : ∃ c, c < 4 ∧ o = 20 + 6 * c := ⟨(o - 20) / 6, by omega, by omega⟩
        exact h2 c k hc
      · exact fo o k (by unfold InpS at ho; omega)
theorem so_0 (X : mX) : SO_0 X INV := by
  intro n g hn hI a1 a2 a3 h1 h2 h3
  obtain ⟨iSe, iBo, iAi, iSc, iHe, iRu, iSt, iCl, iBe, iLi, iSl, iNe, iAg, iKn⟩ := hI
  refine PR_mono (T_board X g a1 a2 a3 iSl) (fun g2 hr => ?_)
  obtain ⟨nSl, fo0⟩ := hr
  have fo : ∀ o k, ¬ (56 ≤ o ∧ o < 86 ∨ o = 87 ∨ o = 88 ∨ o = 89 ∨ o = 91) → g2 o k = g o k := fo0
  clear fo0
  exact ⟨(Iseason_fr (fun o k ho => fo o k (by omega)) iSe), (Ibound_fr (fun o k ho => fo o k (by omega)) iBo), (Iair_fr (fun o k ho => fo o k (by omega)) iAi), (Iscent_fr (fun o k ho => fo o k (by omega)) iSc), (Ihear_fr (fun o k ho => fo o k (by omega)) iHe), (Irule_fr (fun o k ho => fo o k (by omega)) iRu), (Istore_fr (fun o k ho => fo o k (by omega)) (Istore_up iSt)), (Iclk_fr (fun o k ho => fo o k (by omega)) iCl), (Ibell_fr (fun o k ho => fo o k (by omega)) iBe), (Ilink_fr (fun o k ho => fo o k (by omega)) iLi), nSl, (Inear_fr (fun o k ho => fo o k (by omega)) iCl iNe), (Iagn_fr (fun o k ho => fo o k (by omega)) iAg), (Iknow_fr (fun o k ho => fo o k (by unfold InpS at ho; omega)) iKn)⟩
theorem so_1 (X : mX) : SO_1 X INV := by
  intro n g hn hI a1 a2 a3 h1 h2 h3
  obtain ⟨iSe, iBo, iAi, iSc, iHe, iRu, iSt, iCl, iBe, iLi, iSl, iNe, iAg, iKn⟩ := hI
  obtain ⟨r, g1, g2, q1, q2, nSl, ch⟩ := T_bar X g a1 a2 a3 h3 iSl
  have fo : ∀ o k, ¬ (56 ≤ o ∧ o < 86 ∨ o = 89) → g2 o k = g o k := ch
  clear ch
  exact PR_of q1 q2 ⟨(Iseason_fr (fun o k ho => fo o k (by omega)) iSe), (Ibound_fr (fun o k ho => fo o k (by omega)) iBo), (Iair_fr (fun o k ho => fo o k (by omega)) iAi), (Iscent_fr (fun o k ho => fo o k (by omega)) iSc), (Ihear_fr (fun o k ho => fo o k (by omega)) iHe), (Irule_fr (fun o k ho => fo o k (by omega)) iRu), (Istore_fr (fun o k ho => fo o k (by omega)) (Istore_up iSt)), (Iclk_fr (fun o k ho => fo o k (by omega)) iCl), (Ibell_fr (fun o k ho => fo o k (by omega)) iBe), (Ilink_fr (fun o k ho => fo o k (by omega)) iLi), nSl, (Inear_fr (fun o k ho => fo o k (by omega)) iCl iNe), (Iagn_fr (fun o k ho => fo o k (by omega)) iAg), (Iknow_fr (fun o k ho => fo o k (by unfold InpS at ho; omega)) iKn)⟩
theorem so_2 (X : mX) : SO_2 X INV := by
  intro n g hn hI a1 a2 h1 h2
  obtain ⟨iSe, iBo, iAi, iSc, iHe, iRu, iSt, iCl, iBe, iLi, iSl, iNe, iAg, iKn⟩ := hI
  refine PR_mono (T_go X g a1 a2 iSl) (fun g2 hr => ?_)
  obtain ⟨nSl, fo0⟩ := hr
  have fo : ∀ o k, ¬ (56 ≤ o ∧ o < 86 ∨ o = 90 ∨ o = 91) → g2 o k = g o k := fo0
  clear fo0
  exact ⟨(Iseason_fr (fun o k ho => fo o k (by omega)) iSe), (Ibound_fr (fun o k ho => fo o k (by omega)) iBo), (Iair_fr (fun o k ho => fo o k (by omega)) iAi), (Iscent_fr (fun o k ho => fo o k (by omega)) iSc), (Ihear_fr (fun o k ho => fo o k (by omega)) iHe), (Irule_fr (fun o k ho => fo o k (by omega)) iRu), (Istore_fr (fun o k ho => fo o k (by omega)) (Istore_up iSt)), (Iclk_fr (fun o k ho => fo o k (by omega)) iCl), (Ibell_fr (fun o k ho => fo o k (by omega)) iBe), (Ilink_fr (fun o k ho => fo o k (by omega)) iLi), nSl, (Inear_fr (fun o k ho => fo o k (by omega)) iCl iNe), (Iagn_fr (fun o k ho => fo o k (by omega)) iAg), (Iknow_fr (fun o k ho => fo o k (by unfold InpS at ho; omega)) iKn)⟩
theorem so_3 (X : mX) : SO_3 X INV := by
  intro n g hn hI a1 h1
  obtain ⟨iSe, iBo, iAi, iSc, iHe, iRu, iSt, iCl, iBe, iLi, iSl, iNe, iAg, iKn⟩ := hI
  obtain ⟨r, g1, g2, q1, q2, nSl, ch⟩ := T_wipe X g a1 iSl
  have fo : ∀ o k, ¬ (56 ≤ o ∧ o < 86 ∨ o = 91) → g2 o k = g o k := ch
  clear ch
  exact PR_of q1 q2 ⟨(Iseason_fr (fun o k ho => fo o k (by omega)) iSe), (Ibound_fr (fun o k ho => fo o k (by omega)) iBo), (Iair_fr (fun o k ho => fo o k (by omega)) iAi), (Iscent_fr (fun o k ho => fo o k (by omega)) iSc), (Ihear_fr (fun o k ho => fo o k (by omega)) iHe), (Irule_fr (fun o k ho => fo o k (by omega)) iRu), (Istore_fr (fun o k ho => fo o k (by omega)) (Istore_up iSt)), (Iclk_fr (fun o k ho => fo o k (by omega)) iCl), (Ibell_fr (fun o k ho => fo o k (by omega)) iBe), (Ilink_fr (fun o k ho => fo o k (by omega)) iLi), nSl, (Inear_fr (fun o k ho => fo o k (by omega)) iCl iNe), (Iagn_fr (fun o k ho => fo o k (by omega)) iAg), (Iknow_fr (fun o k ho => fo o k (by unfold InpS at ho; omega)) iKn)⟩
theorem so_4 (X : mX) : SO_4 X INV := by
  intro n g hn hI a1 a2 a3 a4 a5 a6 h1 h2 h3 h4 h5 h6
  obtain ⟨iSe, iBo, iAi, iSc, iHe, iRu, iSt, iCl, iBe, iLi, iSl, iNe, iAg, iKn⟩ := hI
  refine PR_mono (T_draw X g a1 a2 a3 a4 a5 a6 h5 iSl iBo) (fun g2 hr => ?_)
  obtain ⟨nSl, nBo, fo0⟩ := hr
  have fo : ∀ o k, ¬ (o = 2 ∧ k ≠ 0 ∨ o = 3 ∨ o = 4 ∨ 56 ≤ o ∧ o < 86 ∨ o = 86 ∧ k = 6 ∨ 90 ≤ o ∧ o ≤ 93) → g2 o k = g o k := fo0
  clear fo0
  exact ⟨(Iseason_fr (fun o k ho => fo o k (by omega)) iSe), nBo, (Iair_fr (fun o k ho => fo o k (by omega)) iAi), (Iscent_fr (fun o k ho => fo o k (by omega)) iSc), (Ihear_fr (fun o k ho => fo o k (by omega)) iHe), (Irule_fr (fun o k ho => fo o k (by omega)) iRu), (Istore_fr (fun o k ho => fo o k (by omega)) (Istore_up iSt)), (Iclk_fr (fun o k ho => fo o k (by omega)) iCl), (Ibell_fr (fun o k ho => fo o k (by omega)) iBe), (Ilink_fr (fun o k ho => fo o k (by omega)) iLi), nSl, (Inear_fr (fun o k ho => fo o k (by omega)) iCl iNe), (Iagn_fr (fun o k ho => fo o k (by omega)) iAg), (Iknow_fr (fun o k ho => fo o k (by unfold InpS at ho; omega)) iKn)⟩
theorem so_5 (X : mX) : SO_5 X INV := by
  intro n g hn hI 
  obtain ⟨iSe, iBo, iAi, iSc, iHe, iRu, iSt, iCl, iBe, iLi, iSl, iNe, iAg, iKn⟩ := hI
  obtain ⟨r, q1, q2⟩ := T_looks X g  iBo
  exact PR_of q1 q2 ⟨iSe, iBo, iAi, iSc, iHe, iRu, Istore_up iSt, iCl, iBe, iLi, iSl, iNe, iAg, iKn⟩
theorem so_6 (X : mX) : SO_6 X INV := by
  intro n g hn hI a1 h1
  obtain ⟨iSe, iBo, iAi, iSc, iHe, iRu, iSt, iCl, iBe, iLi, iSl, iNe, iAg, iKn⟩ := hI
  obtain ⟨r, g1, g2, q1, q2, nBo, ch⟩ := T_bound X g a1 iBo
  have fo : ∀ o k, ¬ (o = 2 ∧ k = 0 ∨ o = 86 ∧ k = 5) → g2 o k = g o k := ch
  clear ch
  exact PR_of q1 q2 ⟨(Iseason_fr (fun o k ho => fo o k (by omega)) iSe), nBo, (Iair_fr (fun o k ho => fo o k (by omega)) iAi), (Iscent_fr (fun o k ho => fo o k (by omega)) iSc), (Ihear_fr (fun o k ho => fo o k (by omega)) iHe), (Irule_fr (fun o k ho => fo o k (by omega)) iRu), (Istore_fr (fun o k ho => fo o k (by omega)) (Istore_up iSt)), (Iclk_fr (fun o k ho => fo o k (by omega)) iCl), (Ibell_fr (fun o k ho => fo o k (by omega)) iBe), (Ilink_fr (fun o k ho => fo o k (by omega)) iLi), (Iseals_fr (fun o k ho => fo o k (by omega)) iSl), (Inear_fr (fun o k ho => fo o k (by omega)) iCl iNe), (Iagn_fr (fun o k ho => fo o k (by omega)) iAg), (Iknow_fr (fun o k ho => fo o k (by unfold InpS at ho; omega)) iKn)⟩
theorem so_7 (X : mX) : SO_7 X INV := by
  intro n g hn hI a1 a2 h1 h2
  obtain ⟨iSe, iBo, iAi, iSc, iHe, iRu, iSt, iCl, iBe, iLi, iSl, iNe, iAg, iKn⟩ := hI
  refine PR_mono (T_told X g a1 a2 iSl) (fun g2 hr => ?_)
  rw [hr]
  exact ⟨iSe, iBo, iAi, iSc, iHe, iRu, Istore_up iSt, iCl, iBe, iLi, iSl, iNe, iAg, iKn⟩
theorem so_8 (X : mX) : SO_8 X INV := by
  intro n g hn hI a1 a2 h1 h2
  obtain ⟨iSe, iBo, iAi, iSc, iHe, iRu, iSt, iCl, iBe, iLi, iSl, iNe, iAg, iKn⟩ := hI
  obtain ⟨r, q1, q2⟩ := T_at X g a1 a2 (fun s hs => (iSl s hs).1)
  exact PR_of q1 q2 ⟨iSe, iBo, iAi, iSc, iHe, iRu, Istore_up iSt, iCl, iBe, iLi, iSl, iNe, iAg, iKn⟩
theorem so_9 (X : mX) : SO_9 X INV := by
  intro n g hn hI a1 a2 h1 h2
  obtain ⟨iSe, iBo, iAi, iSc, iHe, iRu, iSt, iCl, iBe, iLi, iSl, iNe, iAg, iKn⟩ := hI
  obtain ⟨r, g1, g2, q1, q2, nAi, ch, hk⟩ := T_rate X g a1 a2 iAi
  have fo : ∀ o k, ¬ (o = 6 ∨ o = 94 ∨ o = 11 ∧ k = 3) → g2 o k = g o k := ch
  clear ch
  exact PR_of q1 q2 ⟨(Iseason_fr (fun o k ho => fo o k (by omega)) iSe), (Ibound_fr (fun o k ho => fo o k (by omega)) iBo), nAi, (Iscent_fr (fun o k ho => fo o k (by omega)) iSc), (Ihear_fr (fun o k ho => fo o k (by omega)) iHe), (Irule_fr (fun o k ho => fo o k (by omega)) iRu), (Istore_fr (fun o k ho => fo o k (by omega)) (Istore_up iSt)), (Iclk_fr (fun o k ho => fo o k (by omega)) iCl), (Ibell_fr (fun o k ho => fo o k (by omega)) iBe), (Ilink_fr (fun o k ho => fo o k (by omega)) iLi), (Iseals_fr (fun o k ho => fo o k (by omega)) iSl), (Inear_fr (fun o k ho => fo o k (by omega)) iCl iNe), (Iagn_fr (fun o k ho => fo o k (by omega)) iAg), Iknow_o hk iKn⟩
theorem so_10 (X : mX) : SO_10 X INV := by
  intro n g hn hI a1 a2 a3 h1 h2 h3
  obtain ⟨iSe, iBo, iAi, iSc, iHe, iRu, iSt, iCl, iBe, iLi, iSl, iNe, iAg, iKn⟩ := hI
  obtain ⟨r, g1, g2, q1, q2, nAi, ch, hk⟩ := T_damp X g a1 a2 a3 iAi
  have fo : ∀ o k, ¬ (o = 7 ∨ o = 95 ∨ o = 11 ∧ k = 3) → g2 o k = g o k := ch
  clear ch
  exact PR_of q1 q2 ⟨(Iseason_fr (fun o k ho => fo o k (by omega)) iSe), (Ibound_fr (fun o k ho => fo o k (by omega)) iBo), nAi, (Iscent_fr (fun o k ho => fo o k (by omega)) iSc), (Ihear_fr (fun o k ho => fo o k (by omega)) iHe), (Irule_fr (fun o k ho => fo o k (by omega)) iRu), (Istore_fr (fun o k ho => fo o k (by omega)) (Istore_up iSt)), (Iclk_fr (fun o k ho => fo o k (by omega)) iCl), (Ibell_fr (fun o k ho => fo o k (by omega)) iBe), (Ilink_fr (fun o k ho => fo o k (by omega)) iLi), (Iseals_fr (fun o k ho => fo o k (by omega)) iSl), (Inear_fr (fun o k ho => fo o k (by omega)) iCl iNe), (Iagn_fr (fun o k ho => fo o k (by omega)) iAg), Iknow_o hk iKn⟩
theorem so_11 (X : mX) : SO_11 X INV := by
  intro n g hn hI a1 a2 a3 h1 h2 h3
  obtain ⟨iSe, iBo, iAi, iSc, iHe, iRu, iSt, iCl, iBe, iLi, iSl, iNe, iAg, iKn⟩ := hI
  obtain ⟨r, g1, g2, q1, q2, nSt, ch⟩ := T_bring X g a1 a2 a3 hn iSt
  have fo : ∀ o k, ¬ (o = 9 ∨ o = 96 ∨ o = 97) → g2 o k = g o k := ch
  clear ch
  exact PR_of q1 q2 ⟨(Iseason_fr (fun o k ho => fo o k (by omega)) iSe), (Ibound_fr (fun o k ho => fo o k (by omega)) iBo), (Iair_fr (fun o k ho => fo o k (by omega)) iAi), (Iscent_fr (fun o k ho => fo o k (by omega)) iSc), (Ihear_fr (fun o k ho => fo o k (by omega)) iHe), (Irule_fr (fun o k ho => fo o k (by omega)) iRu), nSt, (Iclk_fr (fun o k ho => fo o k (by omega)) iCl), (Ibell_fr (fun o k ho => fo o k (by omega)) iBe), (Ilink_fr (fun o k ho => fo o k (by omega)) iLi), (Iseals_fr (fun o k ho => fo o k (by omega)) iSl), (Inear_fr (fun o k ho => fo o k (by omega)) iCl iNe), (Iagn_fr (fun o k ho => fo o k (by omega)) iAg), (Iknow_fr (fun o k ho => fo o k (by unfold InpS at ho; omega)) iKn)⟩
theorem so_12 (X : mX) : SO_12 X INV := by
  intro n g hn hI a1 a2 h1 h2
  obtain ⟨iSe, iBo, iAi, iSc, iHe, iRu, iSt, iCl, iBe, iLi, iSl, iNe, iAg, iKn⟩ := hI
  obtain ⟨r, q1, q2⟩ := T_jar X g a1 a2 iSt
  exact PR_of q1 q2 ⟨iSe, iBo, iAi, iSc, iHe, iRu, Istore_up iSt, iCl, iBe, iLi, iSl, iNe, iAg, iKn⟩
theorem so_13 (X : mX) : SO_13 X INV := by
  intro n g hn hI a1 a2 a3 a4 h1 h2 h3 h4
  obtain ⟨iSe, iBo, iAi, iSc, iHe, iRu, iSt, iCl, iBe, iLi, iSl, iNe, iAg, iKn⟩ := hI
  obtain ⟨r, g1, g2, q1, q2, nSt, ch⟩ := T_pour X g a1 a2 a3 a4 iSt
  have fo : ∀ o k, ¬ (o = 9 ∨ o = 96) → g2 o k = g o k := ch
  clear ch
  exact PR_of q1 q2 ⟨(Iseason_fr (fun o k ho => fo o k (by omega)) iSe), (Ibound_fr (fun o k ho => fo o k (by omega)) iBo), (Iair_fr (fun o k ho => fo o k (by omega)) iAi), (Iscent_fr (fun o k ho => fo o k (by omega)) iSc), (Ihear_fr (fun o k ho => fo o k (by omega)) iHe), (Irule_fr (fun o k ho => fo o k (by omega)) iRu), nSt, (Iclk_fr (fun o k ho => fo o k (by omega)) iCl), (Ibell_fr (fun o k ho => fo o k (by omega)) iBe), (Ilink_fr (fun o k ho => fo o k (by omega)) iLi), (Iseals_fr (fun o k ho => fo o k (by omega)) iSl), (Inear_fr (fun o k ho => fo o k (by omega)) iCl iNe), (Iagn_fr (fun o k ho => fo o k (by omega)) iAg), (Iknow_fr (fun o k ho => fo o k (by unfold InpS at ho; omega)) iKn)⟩
theorem so_14 (X : mX) : SO_14 X INV := by
  intro n g hn hI a1 a2 h1 h2
  obtain ⟨iSe, iBo, iAi, iSc, iHe, iRu, iSt, iCl, iBe, iLi, iSl, iNe, iAg, iKn⟩ := hI
  obtain ⟨r, q1, q2⟩ := T_weighed X g a1 a2 hn iCl iSt
  exact PR_of q1 q2 ⟨iSe, iBo, iAi, iSc, iHe, iRu, Istore_up iSt, iCl, iBe, iLi, iSl, iNe, iAg, iKn⟩
theorem so_15 (X : mX) : SO_15 X INV := by
  intro n g hn hI a1 a2 h1 h2
  obtain ⟨iSe, iBo, iAi, iSc, iHe, iRu, iSt, iCl, iBe, iLi, iSl, iNe, iAg, iKn⟩ := hI
  refine PR_mono (T_mount X g a1 a2 ⟨iAi, iCl, iLi, iNe, iAg, iKn⟩ iBe iSl iSt) (fun g2 hr => ?_)
  obtain ⟨nCl, nNe, nLi, nAg, nBe, nSt, fo0, hk⟩ := hr
  have fo : ∀ o k, ¬ ((o = 19 ∨ o = 25 ∨ o = 31 ∨ o = 37) ∧ (k = 0 ∨ k = 2) ∨ o = 23 ∨ o = 29 ∨ o = 35 ∨ o = 41 ∨ 13 ≤ o ∧ o ≤ 18 ∨ o = 11 ∧ (k = 1 ∨ k = 2 ∨ k = 3) ∨ o = 44 ∨ o = 45 ∨ o = 43 ∧ k = 0 ∨ 99 ≤ o ∧ o ≤ 103 ∨ 105 ≤ o ∧ o ≤ 108 ∨ o = 86 ∧ (k = 20 ∨ k = 22 ∨ k = 24)) → g2 o k = g o k := fo0
  clear fo0
  exact ⟨(Iseason_fr (fun o k ho => fo o k (by omega)) iSe), (Ibound_fr (fun o k ho => fo o k (by omega)) iBo), (Iair_fr (fun o k ho => fo o k (by omega)) iAi), (Iscent_fr (fun o k ho => fo o k (by omega)) iSc), (Ihear_fr (fun o k ho => fo o k (by omega)) iHe), (Irule_fr (fun o k ho => fo o k (by omega)) iRu), nSt, nCl, nBe, nLi, (Iseals_fr (fun o k ho => fo o k (by omega)) iSl), nNe, nAg, Iknow_o hk iKn⟩
theorem so_16 (X : mX) : SO_16 X INV := by
  intro n g hn hI a1 a2 a3 a4 h1 h2 h3 h4
  obtain ⟨iSe, iBo, iAi, iSc, iHe, iRu, iSt, iCl, iBe, iLi, iSl, iNe, iAg, iKn⟩ := hI
  obtain ⟨r, g1, g2, q1, q2, nCl, nSt, ch, hk⟩ := T_lay X g a1 a2 a3 a4 iCl iSt
  have fo : ∀ o k, ¬ (o = 11 ∧ k = 3 ∨ o = 9 ∨ o = 96 ∨ o = 102 ∨ o = 20 ∨ o = 26 ∨ o = 32 ∨ o = 38) → g2 o k = g o k := ch
  clear ch
  exact PR_of q1 q2 ⟨(Iseason_fr (fun o k ho => fo o k (by omega)) iSe), (Ibound_fr (fun o k ho => fo o k (by omega)) iBo), (Iair_fr (fun o k ho => fo o k (by omega)) iAi), (Iscent_fr (fun o k ho => fo o k (by omega)) iSc), (Ihear_fr (fun o k ho => fo o k (by omega)) iHe), (Irule_fr (fun o k ho => fo o k (by omega)) iRu), nSt, nCl, (Ibell_fr (fun o k ho => fo o k (by omega)) iBe), (Ilink_fr (fun o k ho => fo o k (by omega)) iLi), (Iseals_fr (fun o k ho => fo o k (by omega)) iSl), (Inear_fr (fun o k ho => fo o k (by omega)) iCl iNe), (Iagn_fr (fun o k ho => fo o k (by omega)) iAg), Iknow_o hk iKn⟩
theorem so_17 (X : mX) : SO_17 X INV := by
  intro n g hn hI a1 a2 h1 h2
  obtain ⟨iSe, iBo, iAi, iSc, iHe, iRu, iSt, iCl, iBe, iLi, iSl, iNe, iAg, iKn⟩ := hI
  obtain ⟨r, q1, q2⟩ := T_grain X g a1 a2 iCl
  exact PR_of q1 q2 ⟨iSe, iBo, iAi, iSc, iHe, iRu, Istore_up iSt, iCl, iBe, iLi, iSl, iNe, iAg, iKn⟩
theorem so_18 (X : mX) : SO_18 X INV := by
  intro n g hn hI a1 a2 h1 h2
  obtain ⟨iSe, iBo, iAi, iSc, iHe, iRu, iSt, iCl, iBe, iLi, iSl, iNe, iAg, iKn⟩ := hI
  refine PR_mono (T_sweep X g a1 a2 iCl iSt) (fun g2 hr => ?_)
  obtain ⟨nCl, nSt, fo0, hk⟩ := hr
  have fo : ∀ o k, ¬ (o = 11 ∧ k = 3 ∨ o = 9 ∨ o = 10 ∨ o = 54 ∨ o = 96 ∨ o = 98 ∨ o = 102 ∨ o = 110 ∨ o = 20 ∨ o = 26 ∨ o = 32 ∨ o = 38) → g2 o k = g o k := fo0
  clear fo0
  exact ⟨(Iseason_fr (fun o k ho => fo o k (by omega)) iSe), (Ibound_fr (fun o k ho => fo o k (by omega)) iBo), (Iair_fr (fun o k ho => fo o k (by omega)) iAi), (Iscent_fr (fun o k ho => fo o k (by omega)) iSc), (Ihear_fr (fun o k ho => fo o k (by omega)) iHe), (Irule_fr (fun o k ho => fo o k (by omega)) iRu), nSt, nCl, (Ibell_fr (fun o k ho => fo o k (by omega)) iBe), (Ilink_fr (fun o k ho => fo o k (by omega)) iLi), (Iseals_fr (fun o k ho => fo o k (by omega)) iSl), (Inear_fr (fun o k ho => fo o k (by omega)) iCl iNe), (Iagn_fr (fun o k ho => fo o k (by omega)) iAg), Iknow_o hk iKn⟩
theorem so_19 (X : mX) : SO_19 X INV := by
  intro n g hn hI a1 a2 h1 h2
  obtain ⟨iSe, iBo, iAi, iSc, iHe, iRu, iSt, iCl, iBe, iLi, iSl, iNe, iAg, iKn⟩ := hI
  obtain ⟨r, g1, g2, q1, q2, nSc, ch⟩ := T_row X g a1 a2 iSc
  have fo : ∀ o k, ¬ (o = 53 ∨ o = 109) → g2 o k = g o k := ch
  clear ch
  exact PR_of q1 q2 ⟨(Iseason_fr (fun o k ho => fo o k (by omega)) iSe), (Ibound_fr (fun o k ho => fo o k (by omega)) iBo), (Iair_fr (fun o k ho => fo o k (by omega)) iAi), nSc, (Ihear_fr (fun o k ho => fo o k (by omega)) iHe), (Irule_fr (fun o k ho => fo o k (by omega)) iRu), (Istore_fr (fun o k ho => fo o k (by omega)) (Istore_up iSt)), (Iclk_fr (fun o k ho => fo o k (by omega)) iCl), (Ibell_fr (fun o k ho => fo o k (by omega)) iBe), (Ilink_fr (fun o k ho => fo o k (by omega)) iLi), (Iseals_fr (fun o k ho => fo o k (by omega)) iSl), (Inear_fr (fun o k ho => fo o k (by omega)) iCl iNe), (Iagn_fr (fun o k ho => fo o k (by omega)) iAg), (Iknow_fr (fun o k ho => fo o k (by unfold InpS at ho; omega)) iKn)⟩
theorem so_20 (X : mX) : SO_20 X INV := by
  intro n g hn hI a1 a2 a3 h1 h2 h3
  obtain ⟨iSe, iBo, iAi, iSc, iHe, iRu, iSt, iCl, iBe, iLi, iSl, iNe, iAg, iKn⟩ := hI
  refine PR_mono (T_fill X g a1 a2 a3 h3 ⟨iAi, iCl, iLi, iNe, iAg, iKn⟩ iSc iSt) (fun g2 hr => ?_)
  obtain ⟨nCl, nSt, fo0, hk⟩ := hr
  have fo : ∀ o k, ¬ (o = 11 ∧ k = 3 ∨ o = 9 ∨ o = 10 ∨ o = 54 ∨ o = 96 ∨ o = 98 ∨ o = 102 ∨ o = 110 ∨ o = 20 ∨ o = 26 ∨ o = 32 ∨ o = 38) → g2 o k = g o k := fo0
  clear fo0
  exact ⟨(Iseason_fr (fun o k ho => fo o k (by omega)) iSe), (Ibound_fr (fun o k ho => fo o k (by omega)) iBo), (Iair_fr (fun o k ho => fo o k (by omega)) iAi), (Iscent_fr (fun o k ho => fo o k (by omega)) iSc), (Ihear_fr (fun o k ho => fo o k (by omega)) iHe), (Irule_fr (fun o k ho => fo o k (by omega)) iRu), nSt, nCl, (Ibell_fr (fun o k ho => fo o k (by omega)) iBe), (Ilink_fr (fun o k ho => fo o k (by omega)) iLi), (Iseals_fr (fun o k ho => fo o k (by omega)) iSl), (Inear_fr (fun o k ho => fo o k (by omega)) iCl iNe), (Iagn_fr (fun o k ho => fo o k (by omega)) iAg), Iknow_g fo hk iKn⟩
theorem so_21 (X : mX) : SO_21 X INV := by
  intro n g hn hI a1 a2 a3 h1 h2 h3
  obtain ⟨iSe, iBo, iAi, iSc, iHe, iRu, iSt, iCl, iBe, iLi, iSl, iNe, iAg, iKn⟩ := hI
  refine PR_mono (T_spills X g a1 a2 a3 h3 ⟨iAi, iCl, iLi, iNe, iAg, iKn⟩ iSc) (fun g2 hr => ?_)
  obtain ⟨fo0, nKn⟩ := hr
  have fo : ∀ o k, ¬ (o = 11 ∧ k = 3 ∨ ((o = 19 ∨ o = 25 ∨ o = 31 ∨ o = 37) ∧ (k = 4 ∨ k = 5 ∨ k = 6 ∨ k = 11) ∨ o = 21 ∨ o = 27 ∨ o = 33 ∨ o = 39 ∨ o = 22 ∨ o = 28 ∨ o = 34 ∨ o = 40 ∨ o = 24 ∨ o = 30 ∨ o = 36 ∨ o = 42) ∨ 111 ≤ o ∧ o ≤ 116 ∨ o = 86 ∧ (k = 36 ∨ k = 37)) → g2 o k = g o k := fo0
  clear fo0
  exact ⟨(Iseason_fr (fun o k ho => fo o k (by omega)) iSe), (Ibound_fr (fun o k ho => fo o k (by omega)) iBo), (Iair_fr (fun o k ho => fo o k (by omega)) iAi), (Iscent_fr (fun o k ho => fo o k (by omega)) iSc), (Ihear_fr (fun o k ho => fo o k (by omega)) iHe), (Irule_fr (fun o k ho => fo o k (by omega)) iRu), (Istore_fr (fun o k ho => fo o k (by omega)) (Istore_up iSt)), (Iclk_fr (fun o k ho => fo o k (by omega)) iCl), (Ibell_fr (fun o k ho => fo o k (by omega)) iBe), (Ilink_fr (fun o k ho => fo o k (by omega)) iLi), (Iseals_fr (fun o k ho => fo o k (by omega)) iSl), (Inear_fr (fun o k ho => fo o k (by omega)) iCl iNe), (Iagn_fr (fun o k ho => fo o k (by omega)) iAg), nKn⟩
theorem so_22 (X : mX) : SO_22 X INV := by
  intro n g hn hI a1 a2 a3 h1 h2 h3
  obtain ⟨iSe, iBo, iAi, iSc, iHe, iRu, iSt, iCl, iBe, iLi, iSl, iNe, iAg, iKn⟩ := hI
  obtain ⟨r, g1, g2, q1, q2, nCl, ch, hk⟩ := T_light X g a1 a2 a3 iCl
  have fo : ∀ o k, ¬ (o = 11 ∧ k = 3 ∨ o = 103 ∨ o = 104 ∨ (o = 19 ∨ o = 25 ∨ o = 31 ∨ o = 37) ∧ (k = 2 ∨ k = 3)) → g2 o k = g o k := ch
  clear ch
  exact PR_of q1 q2 ⟨(Iseason_fr (fun o k ho => fo o k (by omega)) iSe), (Ibound_fr (fun o k ho => fo o k (by omega)) iBo), (Iair_fr (fun o k ho => fo o k (by omega)) iAi), (Iscent_fr (fun o k ho => fo o k (by omega)) iSc), (Ihear_fr (fun o k ho => fo o k (by omega)) iHe), (Irule_fr (fun o k ho => fo o k (by omega)) iRu), (Istore_fr (fun o k ho => fo o k (by omega)) (Istore_up iSt)), nCl, (Ibell_fr (fun o k ho => fo o k (by omega)) iBe), (Ilink_fr (fun o k ho => fo o k (by omega)) iLi), (Iseals_fr (fun o k ho => fo o k (by omega)) iSl), (Inear_fr (fun o k ho => fo o k (by omega)) iCl iNe), (Iagn_fr (fun o k ho => fo o k (by omega)) iAg), Iknow_o hk iKn⟩
theorem so_23 (X : mX) : SO_23 X INV := by
  intro n g hn hI a1 a2 a3 h1 h2 h3
  obtain ⟨iSe, iBo, iAi, iSc, iHe, iRu, iSt, iCl, iBe, iLi, iSl, iNe, iAg, iKn⟩ := hI
  obtain ⟨r, g1, g2, q1, q2, nLi, ch, hk⟩ := T_link X g a1 a2 a3 iCl iLi
  have fo : ∀ o k, ¬ (o = 11 ∧ (k = 1 ∨ k = 3) ∨ o = 13 ∨ o = 14 ∨ o = 15 ∨ o = 105 ∨ o = 86 ∧ k = 20) → g2 o k = g o k := ch
  clear ch
  exact PR_of q1 q2 ⟨(Iseason_fr (fun o k ho => fo o k (by omega)) iSe), (Ibound_fr (fun o k ho => fo o k (by omega)) iBo), (Iair_fr (fun o k ho => fo o k (by omega)) iAi), (Iscent_fr (fun o k ho => fo o k (by omega)) iSc), (Ihear_fr (fun o k ho => fo o k (by omega)) iHe), (Irule_fr (fun o k ho => fo o k (by omega)) iRu), (Istore_fr (fun o k ho => fo o k (by omega)) (Istore_up iSt)), (Iclk_fr (fun o k ho => fo o k (by omega)) iCl), (Ibell_fr (fun o k ho => fo o k (by omega)) iBe), nLi, (Iseals_fr (fun o k ho => fo o k (by omega)) iSl), (Inear_fr (fun o k ho => fo o k (by omega)) iCl iNe), (Iagn_fr (fun o k ho => fo o k (by omega)) iAg), Iknow_o hk iKn⟩
theorem so_24 (X : mX) : SO_24 X INV := by
  intro n g hn hI a1 a2 a3 h1 h2 h3
  obtain ⟨iSe, iBo, iAi, iSc, iHe, iRu, iSt, iCl, iBe, iLi, iSl, iNe, iAg, iKn⟩ := hI
  refine PR_mono (T_again X g a1 a2 a3 iCl iAg) (fun g2 hr => ?_)
  obtain ⟨nAg, fo0, hk⟩ := hr
  have fo : ∀ o k, ¬ (o = 16 ∨ o = 17 ∨ o = 18 ∨ o = 11 ∧ (k = 2 ∨ k = 3) ∨ o = 106 ∨ o = 86 ∧ k = 22) → g2 o k = g o k := fo0
  clear fo0
  exact ⟨(Iseason_fr (fun o k ho => fo o k (by omega)) iSe), (Ibound_fr (fun o k ho => fo o k (by omega)) iBo), (Iair_fr (fun o k ho => fo o k (by omega)) iAi), (Iscent_fr (fun o k ho => fo o k (by omega)) iSc), (Ihear_fr (fun o k ho => fo o k (by omega)) iHe), (Irule_fr (fun o k ho => fo o k (by omega)) iRu), (Istore_fr (fun o k ho => fo o k (by omega)) (Istore_up iSt)), (Iclk_fr (fun o k ho => fo o k (by omega)) iCl), (Ibell_fr (fun o k ho => fo o k (by omega)) iBe), (Ilink_fr (fun o k ho => fo o k (by omega)) iLi), (Iseals_fr (fun o k ho => fo o k (by omega)) iSl), (Inear_fr (fun o k ho => fo o k (by omega)) iCl iNe), nAg, Iknow_o hk iKn⟩
theorem so_25 (X : mX) : SO_25 X INV := by
  intro n g hn hI 
  obtain ⟨iSe, iBo, iAi, iSc, iHe, iRu, iSt, iCl, iBe, iLi, iSl, iNe, iAg, iKn⟩ := hI
  obtain ⟨r, g1, g2, q1, q2, nCl, nC, z1, z2, z3, ch⟩ := T_calm X g  iCl ⟨iLi.1, iAg.2.1, iAg.1.1⟩
  have fo : ∀ o k, ¬ (o = 11 ∧ (k = 1 ∨ k = 2 ∨ k = 3) ∨ o = 103 ∨ o = 86 ∧ (k = 20 ∨ k = 22) ∨ (o = 19 ∨ o = 25 ∨ o = 31 ∨ o = 37) ∧ k = 2) → g2 o k = g o k := ch
  clear ch
  exact PR_of q1 q2 ⟨(Iseason_fr (fun o k ho => fo o k (by omega)) iSe), (Ibound_fr (fun o k ho => fo o k (by omega)) iBo), (Iair_fr (fun o k ho => fo o k (by omega)) iAi), (Iscent_fr (fun o k ho => fo o k (by omega)) iSc), (Ihear_fr (fun o k ho => fo o k (by omega)) iHe), (Irule_fr (fun o k ho => fo o k (by omega)) iRu), (Istore_fr (fun o k ho => fo o k (by omega)) (Istore_up iSt)), nCl, (Ibell_fr (fun o k ho => fo o k (by omega)) iBe), Ilink_0 z1 (by rw [nC.1.1]; exact z1), (Iseals_fr (fun o k ho => fo o k (by omega)) iSl), (Inear_fr (fun o k ho => fo o k (by omega)) iCl iNe), Iagn_0 z2 (by rw [nC.2.1]; exact z2), Or.inl z3⟩
theorem so_26 (X : mX) : SO_26 X INV := by
  intro n g hn hI a1 a2 h1 h2
  obtain ⟨iSe, iBo, iAi, iSc, iHe, iRu, iSt, iCl, iBe, iLi, iSl, iNe, iAg, iKn⟩ := hI
  refine PR_mono (T_night X g a1 a2 ⟨iAi, iCl, iLi, iNe, iAg, iKn⟩) (fun g2 hr => ?_)
  obtain ⟨fo0, nKn⟩ := hr
  have fo : ∀ o k, ¬ (o = 11 ∧ k = 3 ∨ ((o = 19 ∨ o = 25 ∨ o = 31 ∨ o = 37) ∧ (k = 4 ∨ k = 5 ∨ k = 6 ∨ k = 11) ∨ o = 21 ∨ o = 27 ∨ o = 33 ∨ o = 39 ∨ o = 22 ∨ o = 28 ∨ o = 34 ∨ o = 40 ∨ o = 24 ∨ o = 30 ∨ o = 36 ∨ o = 42) ∨ 111 ≤ o ∧ o ≤ 116 ∨ o = 86 ∧ (k = 36 ∨ k = 37)) → g2 o k = g o k := fo0
  clear fo0
  exact ⟨(Iseason_fr (fun o k ho => fo o k (by omega)) iSe), (Ibound_fr (fun o k ho => fo o k (by omega)) iBo), (Iair_fr (fun o k ho => fo o k (by omega)) iAi), (Iscent_fr (fun o k ho => fo o k (by omega)) iSc), (Ihear_fr (fun o k ho => fo o k (by omega)) iHe), (Irule_fr (fun o k ho => fo o k (by omega)) iRu), (Istore_fr (fun o k ho => fo o k (by omega)) (Istore_up iSt)), (Iclk_fr (fun o k ho => fo o k (by omega)) iCl), (Ibell_fr (fun o k ho => fo o k (by omega)) iBe), (Ilink_fr (fun o k ho => fo o k (by omega)) iLi), (Iseals_fr (fun o k ho => fo o k (by omega)) iSl), (Inear_fr (fun o k ho => fo o k (by omega)) iCl iNe), (Iagn_fr (fun o k ho => fo o k (by omega)) iAg), nKn⟩
theorem so_27 (X : mX) : SO_27 X INV := by
  intro n g hn hI a1 a2 a3 h1 h2 h3
  obtain ⟨iSe, iBo, iAi, iSc, iHe, iRu, iSt, iCl, iBe, iLi, iSl, iNe, iAg, iKn⟩ := hI
  refine PR_mono (T_burns X g a1 a2 a3 ⟨iAi, iCl, iLi, iNe, iAg, iKn⟩) (fun g2 hr => ?_)
  obtain ⟨fo0, nKn⟩ := hr
  have fo : ∀ o k, ¬ (o = 11 ∧ k = 3 ∨ ((o = 19 ∨ o = 25 ∨ o = 31 ∨ o = 37) ∧ (k = 4 ∨ k = 5 ∨ k = 6 ∨ k = 11) ∨ o = 21 ∨ o = 27 ∨ o = 33 ∨ o = 39 ∨ o = 22 ∨ o = 28 ∨ o = 34 ∨ o = 40 ∨ o = 24 ∨ o = 30 ∨ o = 36 ∨ o = 42) ∨ 111 ≤ o ∧ o ≤ 116 ∨ o = 86 ∧ (k = 36 ∨ k = 37)) → g2 o k = g o k := fo0
  clear fo0
  exact ⟨(Iseason_fr (fun o k ho => fo o k (by omega)) iSe), (Ibound_fr (fun o k ho => fo o k (by omega)) iBo), (Iair_fr (fun o k ho => fo o k (by omega)) iAi), (Iscent_fr (fun o k ho => fo o k (by omega)) iSc), (Ihear_fr (fun o k ho => fo o k (by omega)) iHe), (Irule_fr (fun o k ho => fo o k (by omega)) iRu), (Istore_fr (fun o k ho => fo o k (by omega)) (Istore_up iSt)), (Iclk_fr (fun o k ho => fo o k (by omega)) iCl), (Ibell_fr (fun o k ho => fo o k (by omega)) iBe), (Ilink_fr (fun o k ho => fo o k (by omega)) iLi), (Iseals_fr (fun o k ho => fo o k (by omega)) iSl), (Inear_fr (fun o k ho => fo o k (by omega)) iCl iNe), (Iagn_fr (fun o k ho => fo o k (by omega)) iAg), nKn⟩
theorem so_28 (X : mX) : SO_28 X INV := by
  intro n g hn hI a1 a2 h1 h2
  obtain ⟨iSe, iBo, iAi, iSc, iHe, iRu, iSt, iCl, iBe, iLi, iSl, iNe, iAg, iKn⟩ := hI
  refine PR_mono (T_scent X g a1 a2 ⟨iAi, iCl, iLi, iNe, iAg, iKn⟩) (fun g2 hr => ?_)
  obtain ⟨fo0, nKn⟩ := hr
  have fo : ∀ o k, ¬ (o = 11 ∧ k = 3 ∨ ((o = 19 ∨ o = 25 ∨ o = 31 ∨ o = 37) ∧ (k = 4 ∨ k = 5 ∨ k = 6 ∨ k = 11) ∨ o = 21 ∨ o = 27 ∨ o = 33 ∨ o = 39 ∨ o = 22 ∨ o = 28 ∨ o = 34 ∨ o = 40 ∨ o = 24 ∨ o = 30 ∨ o = 36 ∨ o = 42) ∨ 111 ≤ o ∧ o ≤ 116 ∨ o = 86 ∧ (k = 36 ∨ k = 37)) → g2 o k = g o k := fo0
  clear fo0
  exact ⟨(Iseason_fr (fun o k ho => fo o k (by omega)) iSe), (Ibound_fr (fun o k ho => fo o k (by omega)) iBo), (Iair_fr (fun o k ho => fo o k (by omega)) iAi), (Iscent_fr (fun o k ho => fo o k (by omega)) iSc), (Ihear_fr (fun o k ho => fo o k (by omega)) iHe), (Irule_fr (fun o k ho => fo o k (by omega)) iRu), (Istore_fr (fun o k ho => fo o k (by omega)) (Istore_up iSt)), (Iclk_fr (fun o k ho => fo o k (by omega)) iCl), (Ibell_fr (fun o k ho => fo o k (by omega)) iBe), (Ilink_fr (fun o k ho => fo o k (by omega)) iLi), (Iseals_fr (fun o k ho => fo o k (by omega)) iSl), (Inear_fr (fun o k ho => fo o k (by omega)) iCl iNe), (Iagn_fr (fun o k ho => fo o k (by omega)) iAg), nKn⟩
theorem so_29 (X : mX) : SO_29 X INV := by
  intro n g hn hI 
  obtain ⟨iSe, iBo, iAi, iSc, iHe, iRu, iSt, iCl, iBe, iLi, iSl, iNe, iAg, iKn⟩ := hI
  refine PR_mono (T_dawn X g  hn ⟨iAi, iCl, iLi, iNe, iAg, iKn⟩ iSt) (fun g2 hr => ?_)
  obtain ⟨nCl, nSt, fo0, z1, z2, z3, z4, z5⟩ := hr
  have fo : ∀ o k, ¬ (o = 11 ∧ (k = 1 ∨ k = 2 ∨ k = 3) ∨ ((o = 19 ∨ o = 25 ∨ o = 31 ∨ o = 37) ∧ (k = 2 ∨ k = 4 ∨ k = 5 ∨ k = 6 ∨ k = 11) ∨ o = 21 ∨ o = 27 ∨ o = 33 ∨ o = 39 ∨ o = 22 ∨ o = 28 ∨ o = 34 ∨ o = 40 ∨ o = 24 ∨ o = 30 ∨ o = 36 ∨ o = 42 ∨ o = 20 ∨ o = 26 ∨ o = 32 ∨ o = 38) ∨ 111 ≤ o ∧ o ≤ 116 ∨ o = 86 ∧ (k = 36 ∨ k = 37 ∨ k = 20 ∨ k = 22) ∨ o = 10 ∨ o = 98 ∨ o = 102 ∨ o = 103) → g2 o k = g o k := fo0
  clear fo0
  exact ⟨(Iseason_fr (fun o k ho => fo o k (by omega)) iSe), (Ibound_fr (fun o k ho => fo o k (by omega)) iBo), (Iair_fr (fun o k ho => fo o k (by omega)) iAi), (Iscent_fr (fun o k ho => fo o k (by omega)) iSc), (Ihear_fr (fun o k ho => fo o k (by omega)) iHe), (Irule_fr (fun o k ho => fo o k (by omega)) iRu), nSt, nCl, (Ibell_fr (fun o k ho => fo o k (by omega)) iBe), Ilink_0 z1 z2, (Iseals_fr (fun o k ho => fo o k (by omega)) iSl), (Inear_fr (fun o k ho => fo o k (by omega)) iCl iNe), Iagn_0 z3 z4, Or.inl z5⟩
theorem so_30 (X : mX) : SO_30 X INV := by
  intro n g hn hI a1 a2 h1 h2
  obtain ⟨iSe, iBo, iAi, iSc, iHe, iRu, iSt, iCl, iBe, iLi, iSl, iNe, iAg, iKn⟩ := hI
  obtain ⟨r, g1, g2, q1, q2, nBe, ch⟩ := T_hang X g a1 a2 iCl iBe
  have fo : ∀ o k, ¬ (o = 44 ∨ o = 45 ∨ o = 43 ∧ k = 0 ∨ o = 107 ∨ o = 108 ∨ o = 86 ∧ k = 24) → g2 o k = g o k := ch
  clear ch
  exact PR_of q1 q2 ⟨(Iseason_fr (fun o k ho => fo o k (by omega)) iSe), (Ibound_fr (fun o k ho => fo o k (by omega)) iBo), (Iair_fr (fun o k ho => fo o k (by omega)) iAi), (Iscent_fr (fun o k ho => fo o k (by omega)) iSc), (Ihear_fr (fun o k ho => fo o k (by omega)) iHe), (Irule_fr (fun o k ho => fo o k (by omega)) iRu), (Istore_fr (fun o k ho => fo o k (by omega)) (Istore_up iSt)), (Iclk_fr (fun o k ho => fo o k (by omega)) iCl), nBe, (Ilink_fr (fun o k ho => fo o k (by omega)) iLi), (Iseals_fr (fun o k ho => fo o k (by omega)) iSl), (Inear_fr (fun o k ho => fo o k (by omega)) iCl iNe), (Iagn_fr (fun o k ho => fo o k (by omega)) iAg), (Iknow_fr (fun o k ho => fo o k (by unfold InpS at ho; omega)) iKn)⟩
theorem so_31 (X : mX) : SO_31 X INV := by
  intro n g hn hI a1 h1
  obtain ⟨iSe, iBo, iAi, iSc, iHe, iRu, iSt, iCl, iBe, iLi, iSl, iNe, iAg, iKn⟩ := hI
  refine PR_mono (T_drops X g a1 ⟨iAi, iCl, iLi, iNe, iAg, iKn⟩ iBe) (fun g2 hr => ?_)
  obtain ⟨fo0, nKn⟩ := hr
  have fo : ∀ o k, ¬ (o = 11 ∧ k = 3 ∨ ((o = 19 ∨ o = 25 ∨ o = 31 ∨ o = 37) ∧ (k = 4 ∨ k = 5 ∨ k = 6 ∨ k = 11) ∨ o = 21 ∨ o = 27 ∨ o = 33 ∨ o = 39 ∨ o = 22 ∨ o = 28 ∨ o = 34 ∨ o = 40 ∨ o = 24 ∨ o = 30 ∨ o = 36 ∨ o = 42) ∨ 111 ≤ o ∧ o ≤ 116 ∨ o = 86 ∧ (k = 36 ∨ k = 37)) → g2 o k = g o k := fo0
  clear fo0
  exact ⟨(Iseason_fr (fun o k ho => fo o k (by omega)) iSe), (Ibound_fr (fun o k ho => fo o k (by omega)) iBo), (Iair_fr (fun o k ho => fo o k (by omega)) iAi), (Iscent_fr (fun o k ho => fo o k (by omega)) iSc), (Ihear_fr (fun o k ho => fo o k (by omega)) iHe), (Irule_fr (fun o k ho => fo o k (by omega)) iRu), (Istore_fr (fun o k ho => fo o k (by omega)) (Istore_up iSt)), (Iclk_fr (fun o k ho => fo o k (by omega)) iCl), (Ibell_fr (fun o k ho => fo o k (by omega)) iBe), (Ilink_fr (fun o k ho => fo o k (by omega)) iLi), (Iseals_fr (fun o k ho => fo o k (by omega)) iSl), (Inear_fr (fun o k ho => fo o k (by omega)) iCl iNe), (Iagn_fr (fun o k ho => fo o k (by omega)) iAg), nKn⟩
theorem so_32 (X : mX) : SO_32 X INV := by
  intro n g hn hI a1 h1
  obtain ⟨iSe, iBo, iAi, iSc, iHe, iRu, iSt, iCl, iBe, iLi, iSl, iNe, iAg, iKn⟩ := hI
  obtain ⟨r, g1, g2, q1, q2, nHe, ch⟩ := T_hear X g a1 iHe
  have fo : ∀ o k, ¬ (o = 46 ∨ o = 117 ∨ o = 43 ∧ k = 1 ∨ o = 86 ∧ k = 38) → g2 o k = g o k := ch
  clear ch
  exact PR_of q1 q2 ⟨(Iseason_fr (fun o k ho => fo o k (by omega)) iSe), (Ibound_fr (fun o k ho => fo o k (by omega)) iBo), (Iair_fr (fun o k ho => fo o k (by omega)) iAi), (Iscent_fr (fun o k ho => fo o k (by omega)) iSc), nHe, (Irule_fr (fun o k ho => fo o k (by omega)) iRu), (Istore_fr (fun o k ho => fo o k (by omega)) (Istore_up iSt)), (Iclk_fr (fun o k ho => fo o k (by omega)) iCl), (Ibell_fr (fun o k ho => fo o k (by omega)) iBe), (Ilink_fr (fun o k ho => fo o k (by omega)) iLi), (Iseals_fr (fun o k ho => fo o k (by omega)) iSl), (Inear_fr (fun o k ho => fo o k (by omega)) iCl iNe), (Iagn_fr (fun o k ho => fo o k (by omega)) iAg), (Iknow_fr (fun o k ho => fo o k (by unfold InpS at ho; omega)) iKn)⟩
theorem so_33 (X : mX) : SO_33 X INV := by
  intro n g hn hI 
  obtain ⟨iSe, iBo, iAi, iSc, iHe, iRu, iSt, iCl, iBe, iLi, iSl, iNe, iAg, iKn⟩ := hI
  obtain ⟨r, g1, g2, q1, q2, nHe, ch⟩ := T_hush X g  iHe
  have fo : ∀ o k, ¬ (o = 43 ∧ k = 1 ∨ o = 86 ∧ k = 38) → g2 o k = g o k := ch
  clear ch
  exact PR_of q1 q2 ⟨(Iseason_fr (fun o k ho => fo o k (by omega)) iSe), (Ibound_fr (fun o k ho => fo o k (by omega)) iBo), (Iair_fr (fun o k ho => fo o k (by omega)) iAi), (Iscent_fr (fun o k ho => fo o k (by omega)) iSc), nHe, (Irule_fr (fun o k ho => fo o k (by omega)) iRu), (Istore_fr (fun o k ho => fo o k (by omega)) (Istore_up iSt)), (Iclk_fr (fun o k ho => fo o k (by omega)) iCl), (Ibell_fr (fun o k ho => fo o k (by omega)) iBe), (Ilink_fr (fun o k ho => fo o k (by omega)) iLi), (Iseals_fr (fun o k ho => fo o k (by omega)) iSl), (Inear_fr (fun o k ho => fo o k (by omega)) iCl iNe), (Iagn_fr (fun o k ho => fo o k (by omega)) iAg), (Iknow_fr (fun o k ho => fo o k (by unfold InpS at ho; omega)) iKn)⟩
theorem so_34 (X : mX) : SO_34 X INV := by
  intro n g hn hI a1 h1
  obtain ⟨iSe, iBo, iAi, iSc, iHe, iRu, iSt, iCl, iBe, iLi, iSl, iNe, iAg, iKn⟩ := hI
  refine PR_mono (T_cost X g a1 ⟨iAi, iCl, iLi, iNe, iAg, iKn⟩ iBe iHe) (fun g2 hr => ?_)
  obtain ⟨fo0, nKn⟩ := hr
  have fo : ∀ o k, ¬ (o = 11 ∧ k = 3 ∨ ((o = 19 ∨ o = 25 ∨ o = 31 ∨ o = 37) ∧ (k = 4 ∨ k = 5 ∨ k = 6 ∨ k = 11) ∨ o = 21 ∨ o = 27 ∨ o = 33 ∨ o = 39 ∨ o = 22 ∨ o = 28 ∨ o = 34 ∨ o = 40 ∨ o = 24 ∨ o = 30 ∨ o = 36 ∨ o = 42) ∨ 111 ≤ o ∧ o ≤ 116 ∨ o = 86 ∧ (k = 36 ∨ k = 37) ∨ o = 47 ∨ o = 48 ∨ o = 118 ∨ o = 119) → g2 o k = g o k := fo0
  clear fo0
  exact ⟨(Iseason_fr (fun o k ho => fo o k (by omega)) iSe), (Ibound_fr (fun o k ho => fo o k (by omega)) iBo), (Iair_fr (fun o k ho => fo o k (by omega)) iAi), (Iscent_fr (fun o k ho => fo o k (by omega)) iSc), (Ihear_fr (fun o k ho => fo o k (by omega)) iHe), (Irule_fr (fun o k ho => fo o k (by omega)) iRu), (Istore_fr (fun o k ho => fo o k (by omega)) (Istore_up iSt)), (Iclk_fr (fun o k ho => fo o k (by omega)) iCl), (Ibell_fr (fun o k ho => fo o k (by omega)) iBe), (Ilink_fr (fun o k ho => fo o k (by omega)) iLi), (Iseals_fr (fun o k ho => fo o k (by omega)) iSl), (Inear_fr (fun o k ho => fo o k (by omega)) iCl iNe), (Iagn_fr (fun o k ho => fo o k (by omega)) iAg), nKn⟩
theorem so_35 (X : mX) : SO_35 X INV := by
  intro n g hn hI a1 a2 h1 h2
  obtain ⟨iSe, iBo, iAi, iSc, iHe, iRu, iSt, iCl, iBe, iLi, iSl, iNe, iAg, iKn⟩ := hI
  refine PR_mono (T_slow X g a1 a2 ⟨iAi, iCl, iLi, iNe, iAg, iKn⟩ iBe iHe) (fun g2 hr => ?_)
  obtain ⟨fo0, nKn⟩ := hr
  have fo : ∀ o k, ¬ (o = 11 ∧ k = 3 ∨ ((o = 19 ∨ o = 25 ∨ o = 31 ∨ o = 37) ∧ (k = 4 ∨ k = 5 ∨ k = 6 ∨ k = 11) ∨ o = 21 ∨ o = 27 ∨ o = 33 ∨ o = 39 ∨ o = 22 ∨ o = 28 ∨ o = 34 ∨ o = 40 ∨ o = 24 ∨ o = 30 ∨ o = 36 ∨ o = 42) ∨ 111 ≤ o ∧ o ≤ 116 ∨ o = 86 ∧ (k = 36 ∨ k = 37) ∨ o = 47 ∨ o = 48 ∨ o = 118 ∨ o = 119) → g2 o k = g o k := fo0
  clear fo0
  exact ⟨(Iseason_fr (fun o k ho => fo o k (by omega)) iSe), (Ibound_fr (fun o k ho => fo o k (by omega)) iBo), (Iair_fr (fun o k ho => fo o k (by omega)) iAi), (Iscent_fr (fun o k ho => fo o k (by omega)) iSc), (Ihear_fr (fun o k ho => fo o k (by omega)) iHe), (Irule_fr (fun o k ho => fo o k (by omega)) iRu), (Istore_fr (fun o k ho => fo o k (by omega)) (Istore_up iSt)), (Iclk_fr (fun o k ho => fo o k (by omega)) iCl), (Ibell_fr (fun o k ho => fo o k (by omega)) iBe), (Ilink_fr (fun o k ho => fo o k (by omega)) iLi), (Iseals_fr (fun o k ho => fo o k (by omega)) iSl), (Inear_fr (fun o k ho => fo o k (by omega)) iCl iNe), (Iagn_fr (fun o k ho => fo o k (by omega)) iAg), nKn⟩
theorem so_36 (X : mX) : SO_36 X INV := by
  intro n g hn hI a1 a2 a3 a4 a5 a6 a7 h1 h2 h3 h4 h5 h6 h7
  obtain ⟨iSe, iBo, iAi, iSc, iHe, iRu, iSt, iCl, iBe, iLi, iSl, iNe, iAg, iKn⟩ := hI
  refine PR_mono (T_gone X g a1 a2 a3 a4 a5 a6 a7 h5 h4 ⟨iAi, iCl, iLi, iNe, iAg, iKn⟩ iBe iHe) (fun g2 hr => ?_)
  have fo0 := hr
  have fo : ∀ o k, ¬ (o = 55) → g2 o k = g o k := fo0
  clear fo0
  exact ⟨(Iseason_fr (fun o k ho => fo o k (by omega)) iSe), (Ibound_fr (fun o k ho => fo o k (by omega)) iBo), (Iair_fr (fun o k ho => fo o k (by omega)) iAi), (Iscent_fr (fun o k ho => fo o k (by omega)) iSc), (Ihear_fr (fun o k ho => fo o k (by omega)) iHe), (Irule_fr (fun o k ho => fo o k (by omega)) iRu), (Istore_fr (fun o k ho => fo o k (by omega)) (Istore_up iSt)), (Iclk_fr (fun o k ho => fo o k (by omega)) iCl), (Ibell_fr (fun o k ho => fo o k (by omega)) iBe), (Ilink_fr (fun o k ho => fo o k (by omega)) iLi), (Iseals_fr (fun o k ho => fo o k (by omega)) iSl), (Inear_fr (fun o k ho => fo o k (by omega)) iCl iNe), (Iagn_fr (fun o k ho => fo o k (by omega)) iAg), (Iknow_fr (fun o k ho => fo o k (by unfold InpS at ho; omega)) iKn)⟩
theorem so_37 (X : mX) : SO_37 X INV := by
  intro n g hn hI a1 h1
  obtain ⟨iSe, iBo, iAi, iSc, iHe, iRu, iSt, iCl, iBe, iLi, iSl, iNe, iAg, iKn⟩ := hI
  obtain ⟨r, g1, g2, q1, q2, nSe, ch⟩ := T_season X g a1 iSe
  have fo : ∀ o k, ¬ (o = 0 ∧ k = 10 ∨ o = 86 ∧ k = 42) → g2 o k = g o k := ch
  clear ch
  exact PR_of q1 q2 ⟨nSe, (Ibound_fr (fun o k ho => fo o k (by omega)) iBo), (Iair_fr (fun o k ho => fo o k (by omega)) iAi), (Iscent_fr (fun o k ho => fo o k (by omega)) iSc), (Ihear_fr (fun o k ho => fo o k (by omega)) iHe), (Irule_fr (fun o k ho => fo o k (by omega)) iRu), (Istore_fr (fun o k ho => fo o k (by omega)) (Istore_up iSt)), (Iclk_fr (fun o k ho => fo o k (by omega)) iCl), (Ibell_fr (fun o k ho => fo o k (by omega)) iBe), (Ilink_fr (fun o k ho => fo o k (by omega)) iLi), (Iseals_fr (fun o k ho => fo o k (by omega)) iSl), (Inear_fr (fun o k ho => fo o k (by omega)) iCl iNe), (Iagn_fr (fun o k ho => fo o k (by omega)) iAg), (Iknow_fr (fun o k ho => fo o k (by unfold InpS at ho; omega)) iKn)⟩
theorem so_38 (X : mX) : SO_38 X INV := by
  intro n g hn hI a1 a2 h1 h2
  obtain ⟨iSe, iBo, iAi, iSc, iHe, iRu, iSt, iCl, iBe, iLi, iSl, iNe, iAg, iKn⟩ := hI
  obtain ⟨r, q1, q2⟩ := T_watch X g a1 a2 iSe
  exact PR_of q1 q2 ⟨iSe, iBo, iAi, iSc, iHe, iRu, Istore_up iSt, iCl, iBe, iLi, iSl, iNe, iAg, iKn⟩
theorem so_39 (X : mX) : SO_39 X INV := by
  intro n g hn hI a1 a2 h1 h2
  obtain ⟨iSe, iBo, iAi, iSc, iHe, iRu, iSt, iCl, iBe, iLi, iSl, iNe, iAg, iKn⟩ := hI
  refine PR_mono (T_feed X g a1 a2 iRu) (fun g2 hr => ?_)
  obtain ⟨nRu, fo0⟩ := hr
  have fo : ∀ o k, ¬ (o = 51 ∨ o = 49 ∧ k = 1 ∨ o = 120 ∨ o = 86 ∧ k = 44) → g2 o k = g o k := fo0
  clear fo0
  exact ⟨(Iseason_fr (fun o k ho => fo o k (by omega)) iSe), (Ibound_fr (fun o k ho => fo o k (by omega)) iBo), (Iair_fr (fun o k ho => fo o k (by omega)) iAi), (Iscent_fr (fun o k ho => fo o k (by omega)) iSc), (Ihear_fr (fun o k ho => fo o k (by omega)) iHe), nRu, (Istore_fr (fun o k ho => fo o k (by omega)) (Istore_up iSt)), (Iclk_fr (fun o k ho => fo o k (by omega)) iCl), (Ibell_fr (fun o k ho => fo o k (by omega)) iBe), (Ilink_fr (fun o k ho => fo o k (by omega)) iLi), (Iseals_fr (fun o k ho => fo o k (by omega)) iSl), (Inear_fr (fun o k ho => fo o k (by omega)) iCl iNe), (Iagn_fr (fun o k ho => fo o k (by omega)) iAg), (Iknow_fr (fun o k ho => fo o k (by unfold InpS at ho; omega)) iKn)⟩
theorem so_40 (X : mX) : SO_40 X INV := by
  intro n g hn hI 
  obtain ⟨iSe, iBo, iAi, iSc, iHe, iRu, iSt, iCl, iBe, iLi, iSl, iNe, iAg, iKn⟩ := hI
  refine PR_mono (T_read X g  iRu) (fun g2 hr => ?_)
  obtain ⟨nRu, fo0⟩ := hr
  have fo : ∀ o k, ¬ (o = 49 ∨ o = 50 ∨ o = 52 ∨ o = 86 ∧ (k = 44 ∨ k = 45 ∨ 48 ≤ k ∧ k ≤ 51) ∨ o = 121 ∨ o = 122) → g2 o k = g o k := fo0
  clear fo0
  exact ⟨(Iseason_fr (fun o k ho => fo o k (by omega)) iSe), (Ibound_fr (fun o k ho => fo o k (by omega)) iBo), (Iair_fr (fun o k ho => fo o k (by omega)) iAi), (Iscent_fr (fun o k ho => fo o k (by omega)) iSc), (Ihear_fr (fun o k ho => fo o k (by omega)) iHe), nRu, (Istore_fr (fun o k ho => fo o k (by omega)) (Istore_up iSt)), (Iclk_fr (fun o k ho => fo o k (by omega)) iCl), (Ibell_fr (fun o k ho => fo o k (by omega)) iBe), (Ilink_fr (fun o k ho => fo o k (by omega)) iLi), (Iseals_fr (fun o k ho => fo o k (by omega)) iSl), (Inear_fr (fun o k ho => fo o k (by omega)) iCl iNe), (Iagn_fr (fun o k ho => fo o k (by omega)) iAg), (Iknow_fr (fun o k ho => fo o k (by unfold InpS at ho; omega)) iKn)⟩
theorem so_41 (X : mX) : SO_41 X INV := by
  intro n g hn hI 
  obtain ⟨iSe, iBo, iAi, iSc, iHe, iRu, iSt, iCl, iBe, iLi, iSl, iNe, iAg, iKn⟩ := hI
  obtain ⟨r, q1, q2⟩ := T_fault X g  iRu
  exact PR_of q1 q2 ⟨iSe, iBo, iAi, iSc, iHe, iRu, Istore_up iSt, iCl, iBe, iLi, iSl, iNe, iAg, iKn⟩
theorem so_42 (X : mX) : SO_42 X INV := by
  intro n g hn hI a1 h1
  obtain ⟨iSe, iBo, iAi, iSc, iHe, iRu, iSt, iCl, iBe, iLi, iSl, iNe, iAg, iKn⟩ := hI
  obtain ⟨r, q1, q2⟩ := T_words X g a1 iRu
  exact PR_of q1 q2 ⟨iSe, iBo, iAi, iSc, iHe, iRu, Istore_up iSt, iCl, iBe, iLi, iSl, iNe, iAg, iKn⟩
theorem so_43 (X : mX) : SO_43 X INV := by
  intro n g hn hI a1 h1
  obtain ⟨iSe, iBo, iAi, iSc, iHe, iRu, iSt, iCl, iBe, iLi, iSl, iNe, iAg, iKn⟩ := hI
  obtain ⟨r, q1, q2⟩ := T_due X g a1 iRu iSe
  exact PR_of q1 q2 ⟨iSe, iBo, iAi, iSc, iHe, iRu, Istore_up iSt, iCl, iBe, iLi, iSl, iNe, iAg, iKn⟩
theorem so_44 (X : mX) : SO_44 X INV := by
  intro n g hn hI a1 h1
  obtain ⟨iSe, iBo, iAi, iSc, iHe, iRu, iSt, iCl, iBe, iLi, iSl, iNe, iAg, iKn⟩ := hI
  refine PR_mono (T_count X g a1 ⟨iAi, iCl, iLi, iNe, iAg, iKn⟩ iBe iHe iRu iSe) (fun g2 hr => ?_)
  obtain ⟨fo0, nKn⟩ := hr
  have fo : ∀ o k, ¬ (o = 11 ∧ k = 3 ∨ ((o = 19 ∨ o = 25 ∨ o = 31 ∨ o = 37) ∧ (k = 4 ∨ k = 5 ∨ k = 6 ∨ k = 11) ∨ o = 21 ∨ o = 27 ∨ o = 33 ∨ o = 39 ∨ o = 22 ∨ o = 28 ∨ o = 34 ∨ o = 40 ∨ o = 24 ∨ o = 30 ∨ o = 36 ∨ o = 42) ∨ 111 ≤ o ∧ o ≤ 116 ∨ o = 86 ∧ (k = 36 ∨ k = 37)) → g2 o k = g o k := fo0
  clear fo0
  exact ⟨(Iseason_fr (fun o k ho => fo o k (by omega)) iSe), (Ibound_fr (fun o k ho => fo o k (by omega)) iBo), (Iair_fr (fun o k ho => fo o k (by omega)) iAi), (Iscent_fr (fun o k ho => fo o k (by omega)) iSc), (Ihear_fr (fun o k ho => fo o k (by omega)) iHe), (Irule_fr (fun o k ho => fo o k (by omega)) iRu), (Istore_fr (fun o k ho => fo o k (by omega)) (Istore_up iSt)), (Iclk_fr (fun o k ho => fo o k (by omega)) iCl), (Ibell_fr (fun o k ho => fo o k (by omega)) iBe), (Ilink_fr (fun o k ho => fo o k (by omega)) iLi), (Iseals_fr (fun o k ho => fo o k (by omega)) iSl), (Inear_fr (fun o k ho => fo o k (by omega)) iCl iNe), (Iagn_fr (fun o k ho => fo o k (by omega)) iAg), nKn⟩
