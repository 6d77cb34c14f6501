/-! the reference's fire, from its beginning to its end -/
def scF (g : mF) (c : Nat) (t : Int) (n : Nat) : Nat → Int × Int
  | 0 => (-1, 1000000)
  | i + 1 => if (if g 116 i = 0 then litF g c i t n else 1000000) < (scF g c t n i).2 then ((i : Int), (if g 116 i = 0 then litF g c i t n else 1000000)) else scF g c t n i
theorem scF_p (g : mF) (c : Nat) (t : Int) (n : Nat) : ∀ i, ((scF g c t n i).1 = -1 ∧ (scF g c t n i).2 = 1000000 ∧ ∀ j, j < i → g 116 j = 0 → 1000000 ≤ litF g c j t n) ∨ (∃ y, y < i ∧ (scF g c t n i).1 = (y : Int) ∧ g 116 y = 0 ∧ (scF g c t n i).2 = litF g c y t n ∧ litF g c y t n < 1000000 ∧ ∀ j, j < i → g 116 j = 0 → litF g c y t n ≤ litF g c j t n) := by
  intro i
  induction i with
  | zero => exact Or.inl ⟨rfl, rfl, fun j hj => absurd hj (by omega)⟩
  | succ i ih =>
    unfold scF
    by_cases h : g 116 i = 0
    · rw [if_pos h]
      by_cases hl : litF g c i t n < (scF g c t n i).2
      · rw [if_pos hl]
        rcases ih with ⟨a1, a2, a3⟩ | ⟨y, a1, a2, a3, a4, a5, a6⟩
        · refine Or.inr ⟨i, by omega, rfl, h, rfl, by omega, fun j hj hd => ?_⟩
          by_cases hji : j = i
          · subst hji; omega
          · have := a3 j (by omega) hd; omega
        · refine Or.inr ⟨i, by omega, rfl, h, rfl, by omega, fun j hj hd => ?_⟩
          by_cases hji : j = i
          · subst hji; omega
          · have := a6 j (by omega) hd; omega
      · rw [if_neg hl]
        rcases ih with ⟨a1, a2, a3⟩ | ⟨y, a1, a2, a3, a4, a5, a6⟩
        · refine Or.inl ⟨a1, a2, fun j hj hd => ?_⟩
          by_cases hji : j = i
          · subst hji; omega
          · exact a3 j (by omega) hd
        · refine Or.inr ⟨y, by omega, a2, a3, a4, a5, fun j hj hd => ?_⟩
          by_cases hji : j = i
          · subst hji; omega
          · exact a6 j (by omega) hd
    · rw [if_neg h]
      have hn : ¬ (1000000 : Int) < (scF g c t n i).2 := by
        rcases ih with ⟨a1, a2, a3⟩ | ⟨y, a1, a2, a3, a4, a5, a6⟩ <;> omega
      rw [if_neg hn]
      rcases ih with ⟨a1, a2, a3⟩ | ⟨y, a1, a2, a3, a4, a5, a6⟩
      · refine Or.inl ⟨a1, a2, fun j hj hd => ?_⟩
        by_cases hji : j = i
        · subst hji; exact absurd hd h
        · exact a3 j (by omega) hd
      · refine Or.inr ⟨y, by omega, a2, a3, a4, a5, fun j hj hd => ?_⟩
        by_cases hji : j = i
        · subst hji; exact absurd hd h
        · exact a6 j (by omega) hd
/-- what one fire of clock c leaves as it was -/
def fb (c : Nat) (gs g : mF) : Prop := ∀ o k, ¬ ((o = 114 ∨ o = 115) ∧ 36 * c ≤ k ∧ k < 36 * c + 36 ∨ o = 116 ∨ o = 113 ∧ k = c) → g o k = gs o k
theorem fb_FM {c : Nat} {gs g g' : mF} (h : FM gs g) (h' : fb c g g') : FM gs g' := fun o k ho => by
  rw [h' o k (by omega)]
  exact h o k ho
theorem fire_MS {G : mF} {D : Int} {c st : Nat} {t : Int} {s g h : mF} (hG : CG G) (hD : -1 ≤ D ∧ D ≤ 50) (hc : c < 4) (ht : 0 ≤ t) (hF : fb c g h) (hS : MS g s) (hB : CBu G s c st) (hx : fFS G D c st t s (fun i => h 114 (36 * c + i), fun i => h 115 (36 * c + i), h 113 c)) : MS h (fireS G D c st t s) := by
  obtain ⟨u1, u2⟩ := fFS_u hG hD hc ht hx
  rw [fireS_y hB]
  generalize fireX G D c st t s = y at u1 u2 ⊢
  intro c' hc'
  obtain ⟨s1, s2, s3, s4⟩ := hS c' hc'
  by_cases hcc : c' = c
  · subst hcc
    rw [setS_n (by omega), setS_n (by omega), setS_o, ← u2, hF 111 _ (by omega), hF 112 _ (by omega)]
    refine ⟨s1, s2, rfl, fun i hi => ?_⟩
    rw [setS_b, setS_e, ← (u1 i hi).1, ← (u1 i hi).2]
    exact ⟨rfl, rfl⟩
  · rw [setS_n (by omega), setS_n (by omega), setS_n (by omega), hF 111 _ (by omega), hF 112 _ (by omega), hF 113 _ (by omega)]
    refine ⟨s1, s2, s3, fun i hi => ?_⟩
    rw [setS_n (by omega), setS_n (by omega), hF 114 _ (by omega), hF 115 _ (by omega)]
    exact s4 i hi
theorem SI_mono {G s : mF} {M M' : Int} (h : SI G M s) (hM : M ≤ M') : SI G M' s := by
  intro c hc
  obtain ⟨i1, i2, i3, i4⟩ := h c hc
  exact ⟨by omega, i2, by omega, i4⟩
theorem c188 (X : mX) {c st : Nat} (hc : c < 4) (hst : st < 36) {G g s : mF} {D t M M' : Int} (hA : MAg D G g) (hG : CG G) (hDb : -1 ≤ D ∧ D ≤ 50) (hS : MS g s) (hI : SI G M s) (ht : 0 ≤ t ∧ t ≤ 50000) (hM : M ≤ M' ∧ t + 3240 ≤ M') (hl : s 0 c ≠ -1) (hout : s 2 c ≤ t) : Rel X 4 188 [(2, 87), (0, (c : Int)), (0, (st : Int)), (0, t), (3, 0), (3, 0), (3, 0), (3, 0)] g (fun ro g' => ro = none ∧ fb c g g' ∧ MS g' (fireS G D c st t s) ∧ SI G M' (fireS G D c st t s)) := by
  intro d Q hd hQ
  have hGc := hG.2 c hc
  have hn := hGc.1
  have e0 : ((c : Int)).toNat = c := by omega
  have e1 : ((st : Int)).toNat = st := by omega
  have est : (36 * (c : Int) + (st : Int)).toNat = 36 * c + st := by omega
  have hSc := hS c hc
  have hIc := hI c hc
  have hMc := hA.2.2.2.1 c hc
  have hf : ∀ i u, i < 36 → CBu G s c i → 0 ≤ u → 1 ≤ btk G D (G (20 + 6 * c) i) u ∧ btk G D (G (20 + 6 * c) i) u ≤ 90 := fun i u hi hBi hu => btk_b hG.1 ⟨hBi.2.1, (hGc.2.2.2.1 i hi).2.1⟩ hu hDb
  have hBk : ∀ h : mF, (∀ i, i < 36 → ¬ CBu G s c i → h 114 (36 * c + i) = s (3 + c) i) → ∀ k : Nat, (k : Int) < G (19 + 6 * c) 0 → t ≤ h 114 (36 * c + k) → CBu G s c k := by
    intro h hh k hk htk
    by_cases hB : CBu G s c k
    · exact hB
    · exfalso
      rw [hh k (by omega) hB] at htk
      have z := (hIc.2.2.2 k (by omega)).1
      omega
  have step : ∀ m x : Nat, ∀ h : mF, fb c g h → MI (CBu G s c) (CAd G c) (fun i u => btk G D (G (20 + 6 * c) i) u) st t (s (3 + c)) (s (7 + c)) (s 2 c) (fun i => h 114 (36 * c + i)) (fun i => h 115 (36 * c + i)) (h 113 c) (h 116) m x → (∀ m' y : Nat, ∀ h : mF, m = m' + 1 → fb c g h → MI (CBu G s c) (CAd G c) (fun i u => btk G D (G (20 + 6 * c) i) u) st t (s (3 + c)) (s (7 + c)) (s 2 c) (fun i => h 114 (36 * c + i)) (fun i => h 115 (36 * c + i)) (h 113 c) (h 116) m' y → ∀ v5 v6 v7, Wp X d SH 188 130 [(2, 87), (0, (c : Int)), (0, (st : Int)), (0, t), (0, (y : Int)), v5, v6, v7] [] SH (fl h) Q) → ∀ v5 v6 v7, Wp X d SH 188 130 [(2, 87), (0, (c : Int)), (0, (st : Int)), (0, t), (0, (x : Int)), v5, v6, v7] [] SH (fl h) Q := by
    intro m x h hF hI' rec v5 v6 v7
    have hx36 := hI'.1.2.2.2.2.1
    have hBx := hI'.1.2.2.2.2.2.1
    have htx := hI'.1.2.2.2.2.2.2
    have hx2 := hI'.2.2.1 x hx36 hBx
    try simp only [] at htx hx2
    have hfx := hf x (h 114 (36 * c + x)) hx36 hBx (by omega)
    have ex : (36 * (c : Int) + (x : Int)).toNat = 36 * c + x := by omega
    generalize hv : (if h 113 c < h 115 (36 * c + x) then h 115 (36 * c + x) else h 113 c) = v
    generalize hh1 : mup h 113 c v = h1
    have fo1 : ∀ o k, ¬ (o = 113 ∧ k = c) → h1 o k = h o k := by
      intro o k ho
      rw [← hh1, mup_n (by omega)]
    have w1 : h1 113 c = v := by rw [← hh1, mup_e]
    have hF1 : fb c g h1 := fun o k ho => by rw [fo1 o k (by omega)]; exact hF o k ho
    have hA1 := FM_ag hA (fb_FM FM_r hF1)
    have hM1 := hA1.2.2.2.1 c hc
    have r114 : (fun i => h1 114 (36 * c + i)) = (fun i => h 114 (36 * c + i)) := funext (fun i => fo1 _ _ (by omega))
    have r115 : (fun i => h1 115 (36 * c + i)) = (fun i => h 115 (36 * c + i)) := funext (fun i => fo1 _ _ (by omega))
    have r116 : h1 116 = h 116 := funext (fun i => fo1 _ _ (by omega))
    have hnB := hI'.2.1
    have hm7 := hI'.2.2.2.2.2.2.2.1
    have hB1 := hBk h1 (fun i hi hn => by rw [fo1 _ _ (by omega)]; exact (hnB i hi hn).1)
    have hadj := hM1.2.2.2.2
    have hsc := scF_p h1 c t (G (19 + 6 * c) 0).toNat (G (19 + 6 * c) 0).toNat
    have loop2 := lup (P := fun i => ∀ v7, Wp X d SH 188 193 [(2, 87), (0, (c : Int)), (0, (st : Int)), (0, t), (0, (scF h1 c t (G (19 + 6 * c) 0).toNat i).1), (0, (scF h1 c t (G (19 + 6 * c) 0).toNat i).2), (0, (i : Int)), v7] [] SH (fl h1) Q) (G (19 + 6 * c) 0).toNat ?_ ?_ 0 (by omega)
    · have fin : ∀ v4, Wp X d SH 188 183 [(2, 87), (0, (c : Int)), (0, (st : Int)), (0, t), v4, v5, v6, v7] [] SH (fl h1) Q := by
        intro v4
        apply s_188_183
        try simp only [mi_87, fl_87_35, mi_117, ml_117, fl_117, up_117, fl_87_14, mi_100, ml_100, fl_100, up_100, fl_87_17, mi_103, ml_103, fl_103, up_103, fl_87_33, mi_115, ml_115, fl_115, up_115, fl_87_34, mi_116, ml_116, fl_116, up_116, fl_87_32, mi_114, ml_114, fl_114, up_114, true_and, and_true, true_or, or_true, implies_true, b10_0, b10_1]
        repeat' (first | refine And.intro ?_ ?_ | intro _)
        all_goals (try (first | omega | (unfold r32; omega) | exact hQ | exact qe hQ (by omega) | exact qe hQ (by (repeat' split) <;> omega) | exact b01 | exact n01 | exact n21 | exact n31 | exact absurd trivial (by assumption)))
        exact loop2 _
      by_cases ho : h 113 c < h 115 (36 * c + x)
      · rw [if_pos ho] at hv
        subst hv
        apply s_188_130
        try simp only [mi_87, fl_87_35, mi_117, ml_117, fl_117, up_117, fl_87_14, mi_100, ml_100, fl_100, up_100, fl_87_17, mi_103, ml_103, fl_103, up_103, fl_87_33, mi_115, ml_115, fl_115, up_115, fl_87_34, mi_116, ml_116, fl_116, up_116, fl_87_32, mi_114, ml_114, fl_114, up_114, e0, ex, true_and, and_true, true_or, or_true, implies_true, b10_0, b10_1]
        repeat' (first | refine And.intro ?_ ?_ | intro _)
        all_goals (try (first | omega | (unfold r32; omega) | exact hQ | exact qe hQ (by omega) | exact qe hQ (by (repeat' split) <;> omega) | exact b01 | exact n01 | exact n21 | exact n31 | exact absurd trivial (by assumption)))
        apply s_188_182
        try simp only [mi_87, fl_87_35, mi_117, ml_117, fl_117, up_117, fl_87_14, mi_100, ml_100, fl_100, up_100, fl_87_17, mi_103, ml_103, fl_103, up_103, fl_87_33, mi_115, ml_115, fl_115, up_115, fl_87_34, mi_116, ml_116, fl_116, up_116, fl_87_32, mi_114, ml_114, fl_114, up_114, e0, hh1, true_and, and_true, true_or, or_true, implies_true, b10_0, b10_1]
        repeat' (first | refine And.intro ?_ ?_ | intro _)
        all_goals (try (first | omega | (unfold r32; omega) | exact hQ | exact qe hQ (by omega) | exact qe hQ (by (repeat' split) <;> omega) | exact b01 | exact n01 | exact n21 | exact n31 | exact absurd trivial (by assumption)))
        exact fin _
      · rw [if_neg ho] at hv
        subst hv
        apply s_188_130
        try simp only [mi_87, fl_87_35, mi_117, ml_117, fl_117, up_117, fl_87_14, mi_100, ml_100, fl_100, up_100, fl_87_17, mi_103, ml_103, fl_103, up_103, fl_87_33, mi_115, ml_115, fl_115, up_115, fl_87_34, mi_116, ml_116, fl_116, up_116, fl_87_32, mi_114, ml_114, fl_114, up_114, e0, ex, true_and, and_true, true_or, or_true, implies_true, b10_0, b10_1]
        repeat' (first | refine And.intro ?_ ?_ | intro _)
        all_goals (try (first | omega | (unfold r32; omega) | exact hQ | exact qe hQ (by omega) | exact qe hQ (by (repeat' split) <;> omega) | exact b01 | exact n01 | exact n21 | exact n31 | exact absurd trivial (by assumption)))
        apply s_188_182
        try simp only [mi_87, fl_87_35, mi_117, ml_117, fl_117, up_117, fl_87_14, mi_100, ml_100, fl_100, up_100, fl_87_17, mi_103, ml_103, fl_103, up_103, fl_87_33, mi_115, ml_115, fl_115, up_115, fl_87_34, mi_116, ml_116, fl_116, up_116, fl_87_32, mi_114, ml_114, fl_114, up_114, e0, hh1, true_and, and_true, true_or, or_true, implies_true, b10_0, b10_1]
        repeat' (first | refine And.intro ?_ ?_ | intro _)
        all_goals (try (first | omega | (unfold r32; omega) | exact hQ | exact qe hQ (by omega) | exact qe hQ (by (repeat' split) <;> omega) | exact b01 | exact n01 | exact n21 | exact n31 | exact absurd trivial (by assumption)))
        exact fin _
    · intro w7
      rcases hsc with ⟨a1, a2, a3⟩ | ⟨y, a1, a2, a3, a4, a5, a6⟩
      · have hend := MI_end (o' := v) hI' (by
          intro i hi hdi k hk hBk' hAk htk
          have hBi : CBu G s c i := by
            rcases hm7 i hi with z | z
            · exact z.2.1
            · omega
          have b1 := hBi.1
          have b2 := hBk'.1
          have q := a3 i (by omega) (by rw [fo1 _ _ (by omega)]; exact hdi)
          have q2 := (litF_p h1 c i t (G (19 + 6 * c) 0).toNat).2.1 k (by omega) ((hadj i k b1 b2).2 hAk) (by rw [fo1 _ _ (by omega)]; exact htk)
          have q3 := hI'.2.2.1 k hk hBk'
          rw [fo1 _ _ (by omega)] at q2
          try simp only [] at q3 htk
          omega) (by (try simp only []); exact hv.symm)
        have hfs : fFS G D c st t s (fun i => h1 114 (36 * c + i), fun i => h1 115 (36 * c + i), h1 113 c) := by
          rw [r114, r115, w1]
          exact hend.1
        have hq := hQ none h1 ⟨rfl, hF1, fire_MS hG hDb hc ht.1 hF1 hS hI'.1.2.1 hfs, fire_SI hG hDb hc ht.1 hfs (by
          rw [r114, r115]
          exact hend.2) hI hM hl hI'.1.2.1⟩
        rw [a1, a2]
        apply s_188_193
        try simp only [mi_87, fl_87_35, mi_117, ml_117, fl_117, up_117, fl_87_14, mi_100, ml_100, fl_100, up_100, fl_87_17, mi_103, ml_103, fl_103, up_103, fl_87_33, mi_115, ml_115, fl_115, up_115, fl_87_34, mi_116, ml_116, fl_116, up_116, fl_87_32, mi_114, ml_114, fl_114, up_114, e0, hM1.1, true_and, and_true, true_or, or_true, implies_true, b10_0, b10_1]
        repeat' (first | refine And.intro ?_ ?_ | intro _)
        all_goals (try (first | omega | (unfold r32; omega) | exact hQ | exact qe hQ (by omega) | exact qe hQ (by (repeat' split) <;> omega) | exact b01 | exact n01 | exact n21 | exact n31 | exact absurd trivial (by assumption)))
        apply s_188_310
        try simp only [mi_87, fl_87_35, mi_117, ml_117, fl_117, up_117, fl_87_14, mi_100, ml_100, fl_100, up_100, fl_87_17, mi_103, ml_103, fl_103, up_103, fl_87_33, mi_115, ml_115, fl_115, up_115, fl_87_34, mi_116, ml_116, fl_116, up_116, fl_87_32, mi_114, ml_114, fl_114, up_114, true_and, and_true, true_or, or_true, implies_true, b10_0, b10_1]
        repeat' (first | refine And.intro ?_ ?_ | intro _)
        all_goals (try (first | omega | (unfold r32; omega) | exact hQ | exact qe hQ (by omega) | exact qe hQ (by (repeat' split) <;> omega) | exact b01 | exact n01 | exact n21 | exact n31 | exact absurd trivial (by assumption)))
        apply s_188_130
        try simp only [mi_87, fl_87_35, mi_117, ml_117, fl_117, up_117, fl_87_14, mi_100, ml_100, fl_100, up_100, fl_87_17, mi_103, ml_103, fl_103, up_103, fl_87_33, mi_115, ml_115, fl_115, up_115, fl_87_34, mi_116, ml_116, fl_116, up_116, fl_87_32, mi_114, ml_114, fl_114, up_114, true_and, and_true, true_or, or_true, implies_true, b10_0, b10_1]
        repeat' (first | refine And.intro ?_ ?_ | intro _)
        all_goals (try (first | omega | (unfold r32; omega) | exact hQ | exact qe hQ (by omega) | exact qe hQ (by (repeat' split) <;> omega) | exact b01 | exact n01 | exact n21 | exact n31 | exact absurd trivial (by assumption)))
        all_goals (exact hq)
      · have hyd : h 116 y = 0 := by rw [← fo1 _ _ (by omega)]; exact a3
        have hy36 : y < 36 := by omega
        have hBy : CBu G s c y := by
          rcases hm7 y hy36 with z | z
          · exact z.2.1
          · omega
        have hyn := hBy.1
        have ey : (36 * (c : Int) + (y : Int)).toNat = 36 * c + y := by omega
        have ey0 : ((y : Int)).toNat = y := by omega
        have hlp := litF_p h1 c y t (G (19 + 6 * c) 0).toNat
        rw [a4] at *
        generalize hL : litF h1 c y t (G (19 + 6 * c) 0).toNat = L at *
        obtain ⟨k, k1, k2, k3, k4⟩ := hlp.2.2.resolve_left (by omega)
        have hBkk := hB1 k (by omega) k3
        rw [fo1 _ _ (by omega)] at k3 k4
        have hk2 := hI'.2.2.1 k (by omega) hBkk
        try simp only [] at hk2
        have hL0 : t ≤ L ∧ L ≤ 60000 := by
          have hfk := hf k (h 114 (36 * c + k)) (by omega) hBkk (by omega)
          omega
        have hfy := hf y L hy36 hBy (by omega)
        have hMy := hM1.2.2.2.1 y hyn
        generalize hh2 : mup h1 114 (36 * c + y) L = h2
        have fo2 : ∀ o k, ¬ (o = 114 ∧ k = 36 * c + y) → h2 o k = h1 o k := by
          intro o k ho
          rw [← hh2, mup_n (by omega)]
        have u2 : h2 114 (36 * c + y) = L := by rw [← hh2, mup_e]
        have hF2 : fb c g h2 := fun o k ho => by rw [fo2 o k (by omega)]; exact hF1 o k ho
        have hA2 := FM_ag hA (fb_FM FM_r hF2)
        have p2 : h2 102 (36 * c + y) = G (20 + 6 * c) y := by rw [fo2 _ _ (by omega)]; exact hMy.1
        have hpy := (hGc.2.2.2.1 y hy36).2.1
        have c184' := c184 X (p := G (20 + 6 * c) y) (t := L) hA2 hG.1 hDb ⟨hBy.2.1, hpy⟩ (by omega)
        generalize hfv : btk G D (G (20 + 6 * c) y) L = fv at c184' hfy
        generalize hh3 : mup h2 115 (36 * c + y) (L + fv) = h3
        have fo3 : ∀ o k, ¬ (o = 115 ∧ k = 36 * c + y) → h3 o k = h2 o k := by
          intro o k ho
          rw [← hh3, mup_n (by omega)]
        have u3 : h3 115 (36 * c + y) = L + fv := by rw [← hh3, mup_e]
        generalize hh4 : mup h3 116 y 1 = h4
        have fo4 : ∀ o k, ¬ (o = 116 ∧ k = y) → h4 o k = h3 o k := by
          intro o k ho
          rw [← hh4, mup_n (by omega)]
        have u4 : h4 116 y = 1 := by rw [← hh4, mup_e]
        have hF4 : fb c g h4 := fun o k ho => by rw [fo4 o k (by omega), fo3 o k (by omega)]; exact hF2 o k ho
        obtain ⟨m', hm', hst'⟩ := MI_st (b' := fun i => h4 114 (36 * c + i)) (e' := fun i => h4 115 (36 * c + i)) (dn' := h4 116) (o' := h4 113 c) (L := L) (y := y) hI' hy36 hyd ⟨k, by omega, hBkk, (hadj y k hyn hBkk.1).1 k2, k3, k4⟩ (by
          intro i hi hdi k hk hBk' hAk htk
          have hBi : CBu G s c i := by
            rcases hm7 i hi with z | z
            · exact z.2.1
            · omega
          have b1 := hBi.1
          have b2 := hBk'.1
          have q := a6 i (by omega) (by rw [fo1 _ _ (by omega)]; exact hdi)
          have q2 := (litF_p h1 c i t (G (19 + 6 * c) 0).toNat).2.1 k (by omega) ((hadj i k b1 b2).2 hAk) (by rw [fo1 _ _ (by omega)]; exact htk)
          rw [fo1 _ _ (by omega)] at q2
          try simp only []
          omega) (by simp only [hfv]; exact hfy) (by (try simp only []); exact hfx.1) (by
          rw [fo4 _ _ (by omega), fo3 _ _ (by omega), fo2 _ _ (by omega), w1]
          try simp only []
          exact hv.symm) (by
          show h4 114 (36 * c + y) = L
          rw [fo4 _ _ (by omega), fo3 _ _ (by omega), u2]) (by
          intro i hi hiy
          show h4 114 (36 * c + i) = h 114 (36 * c + i)
          rw [fo4 _ _ (by omega), fo3 _ _ (by omega), fo2 _ _ (by omega), fo1 _ _ (by omega)]) (by
          show h4 115 (36 * c + y) = L + btk G D (G (20 + 6 * c) y) L
          rw [fo4 _ _ (by omega), u3, hfv]) (by
          intro i hi hiy
          show h4 115 (36 * c + i) = h 115 (36 * c + i)
          rw [fo4 _ _ (by omega), fo3 _ _ (by omega), fo2 _ _ (by omega), fo1 _ _ (by omega)]) u4 (by
          intro i hiy
          rw [fo4 _ _ (by omega), fo3 _ _ (by omega), fo2 _ _ (by omega), fo1 _ _ (by omega)])
        have fin := rec m' y h4 hm' hF4 hst'
        clear hlp hst' hm7 hk2 hx2
        rw [a2]
        apply s_188_193
        try simp only [mi_87, fl_87_35, mi_117, ml_117, fl_117, up_117, fl_87_14, mi_100, ml_100, fl_100, up_100, fl_87_17, mi_103, ml_103, fl_103, up_103, fl_87_33, mi_115, ml_115, fl_115, up_115, fl_87_34, mi_116, ml_116, fl_116, up_116, fl_87_32, mi_114, ml_114, fl_114, up_114, e0, hM1.1, ey, hh2, true_and, and_true, true_or, or_true, implies_true, b10_0, b10_1]
        repeat' (first | refine And.intro ?_ ?_ | intro _)
        all_goals (try (first | omega | (unfold r32; omega) | exact hQ | exact qe hQ (by omega) | exact qe hQ (by (repeat' split) <;> omega) | exact b01 | exact n01 | exact n21 | exact n31 | exact absurd trivial (by assumption)))
        apply s_188_269
        try simp only [mi_87, fl_87_35, mi_117, ml_117, fl_117, up_117, fl_87_14, mi_100, ml_100, fl_100, up_100, fl_87_17, mi_103, ml_103, fl_103, up_103, fl_87_33, mi_115, ml_115, fl_115, up_115, fl_87_34, mi_116, ml_116, fl_116, up_116, fl_87_32, mi_114, ml_114, fl_114, up_114, e0, ey, p2, true_and, and_true, true_or, or_true, implies_true, b10_0, b10_1]
        repeat' (first | refine And.intro ?_ ?_ | intro _)
        all_goals (try (first | omega | (unfold r32; omega) | exact hQ | exact qe hQ (by omega) | exact qe hQ (by (repeat' split) <;> omega) | exact b01 | exact n01 | exact n21 | exact n31 | exact absurd trivial (by assumption)))
        refine c184' _ _ (by omega) ?_
        apply s_188_300
        try simp only [mi_87, fl_87_35, mi_117, ml_117, fl_117, up_117, fl_87_14, mi_100, ml_100, fl_100, up_100, fl_87_17, mi_103, ml_103, fl_103, up_103, fl_87_33, mi_115, ml_115, fl_115, up_115, fl_87_34, mi_116, ml_116, fl_116, up_116, fl_87_32, mi_114, ml_114, fl_114, up_114, e0, ey, hh3, true_and, and_true, true_or, or_true, implies_true, b10_0, b10_1]
        repeat' (first | refine And.intro ?_ ?_ | intro _)
        all_goals (try (first | omega | (unfold r32; omega) | exact hQ | exact qe hQ (by omega) | exact qe hQ (by (repeat' split) <;> omega) | exact b01 | exact n01 | exact n21 | exact n31 | exact absurd trivial (by assumption)))
        apply s_188_302
        try simp only [mi_87, fl_87_35, mi_117, ml_117, fl_117, up_117, fl_87_14, mi_100, ml_100, fl_100, up_100, fl_87_17, mi_103, ml_103, fl_103, up_103, fl_87_33, mi_115, ml_115, fl_115, up_115, fl_87_34, mi_116, ml_116, fl_116, up_116, fl_87_32, mi_114, ml_114, fl_114, up_114, ey0, hh4, true_and, and_true, true_or, or_true, implies_true, b10_0, b10_1]
        repeat' (first | refine And.intro ?_ ?_ | intro _)
        all_goals (try (first | omega | (unfold r32; omega) | exact hQ | exact qe hQ (by omega) | exact qe hQ (by (repeat' split) <;> omega) | exact b01 | exact n01 | exact n21 | exact n31 | exact absurd trivial (by assumption)))
        apply s_188_310
        try simp only [mi_87, fl_87_35, mi_117, ml_117, fl_117, up_117, fl_87_14, mi_100, ml_100, fl_100, up_100, fl_87_17, mi_103, ml_103, fl_103, up_103, fl_87_33, mi_115, ml_115, fl_115, up_115, fl_87_34, mi_116, ml_116, fl_116, up_116, fl_87_32, mi_114, ml_114, fl_114, up_114, true_and, and_true, true_or, or_true, implies_true, b10_0, b10_1]
        repeat' (first | refine And.intro ?_ ?_ | intro _)
        all_goals (try (first | omega | (unfold r32; omega) | exact hQ | exact qe hQ (by omega) | exact qe hQ (by (repeat' split) <;> omega) | exact b01 | exact n01 | exact n21 | exact n31 | exact absurd trivial (by assumption)))
        exact fin _ _ _
    · intro i hi ih w7
      have e2 : ((i : Int)).toNat = i := by omega
      have e10 : ((i + 1 : Nat) : Int) = (i : Int) + 1 := by omega
      have c189' := c189 X (i := i) hc hA1 hn (by omega) t
      unfold scF at ih
      rw [e10] at ih
      by_cases hd0 : h1 116 i = 0
      · rw [if_pos hd0] at ih
        apply s_188_193
        try simp only [mi_87, fl_87_35, mi_117, ml_117, fl_117, up_117, fl_87_14, mi_100, ml_100, fl_100, up_100, fl_87_17, mi_103, ml_103, fl_103, up_103, fl_87_33, mi_115, ml_115, fl_115, up_115, fl_87_34, mi_116, ml_116, fl_116, up_116, fl_87_32, mi_114, ml_114, fl_114, up_114, e0, hM1.1, e2, hd0, true_and, and_true, true_or, or_true, implies_true, b10_0, b10_1]
        repeat' (first | refine And.intro ?_ ?_ | intro _)
        all_goals (try (first | omega | (unfold r32; omega) | exact hQ | exact qe hQ (by omega) | exact qe hQ (by (repeat' split) <;> omega) | exact b01 | exact n01 | exact n21 | exact n31 | exact absurd trivial (by assumption)))
        refine c189' _ _ (by omega) ?_
        apply s_188_227
        try simp only [mi_87, fl_87_35, mi_117, ml_117, fl_117, up_117, fl_87_14, mi_100, ml_100, fl_100, up_100, fl_87_17, mi_103, ml_103, fl_103, up_103, fl_87_33, mi_115, ml_115, fl_115, up_115, fl_87_34, mi_116, ml_116, fl_116, up_116, fl_87_32, mi_114, ml_114, fl_114, up_114, true_and, and_true, true_or, or_true, implies_true, b10_0, b10_1]
        repeat' (first | refine And.intro ?_ ?_ | intro _)
        all_goals (try (first | omega | (unfold r32; omega) | exact hQ | exact qe hQ (by omega) | exact qe hQ (by (repeat' split) <;> omega) | exact b01 | exact n01 | exact n21 | exact n31 | exact absurd trivial (by assumption)))
        · rw [if_neg (by omega)] at ih
          apply s_188_244
          try simp only [mi_87, fl_87_35, mi_117, ml_117, fl_117, up_117, fl_87_14, mi_100, ml_100, fl_100, up_100, fl_87_17, mi_103, ml_103, fl_103, up_103, fl_87_33, mi_115, ml_115, fl_115, up_115, fl_87_34, mi_116, ml_116, fl_116, up_116, fl_87_32, mi_114, ml_114, fl_114, up_114, true_and, and_true, true_or, or_true, implies_true, b10_0, b10_1]
          repeat' (first | refine And.intro ?_ ?_ | intro _)
          all_goals (try (first | omega | (unfold r32; omega) | exact hQ | exact qe hQ (by omega) | exact qe hQ (by (repeat' split) <;> omega) | exact b01 | exact n01 | exact n21 | exact n31 | exact absurd trivial (by assumption)))
          exact ih _
        · rw [if_pos (by omega)] at ih
          apply s_188_244
          try simp only [mi_87, fl_87_35, mi_117, ml_117, fl_117, up_117, fl_87_14, mi_100, ml_100, fl_100, up_100, fl_87_17, mi_103, ml_103, fl_103, up_103, fl_87_33, mi_115, ml_115, fl_115, up_115, fl_87_34, mi_116, ml_116, fl_116, up_116, fl_87_32, mi_114, ml_114, fl_114, up_114, true_and, and_true, true_or, or_true, implies_true, b10_0, b10_1]
          repeat' (first | refine And.intro ?_ ?_ | intro _)
          all_goals (try (first | omega | (unfold r32; omega) | exact hQ | exact qe hQ (by omega) | exact qe hQ (by (repeat' split) <;> omega) | exact b01 | exact n01 | exact n21 | exact n31 | exact absurd trivial (by assumption)))
          exact ih _
      · rw [if_neg hd0] at ih
        apply s_188_193
        try simp only [mi_87, fl_87_35, mi_117, ml_117, fl_117, up_117, fl_87_14, mi_100, ml_100, fl_100, up_100, fl_87_17, mi_103, ml_103, fl_103, up_103, fl_87_33, mi_115, ml_115, fl_115, up_115, fl_87_34, mi_116, ml_116, fl_116, up_116, fl_87_32, mi_114, ml_114, fl_114, up_114, e0, hM1.1, e2, true_and, and_true, true_or, or_true, implies_true, b10_0, b10_1]
        repeat' (first | refine And.intro ?_ ?_ | intro _)
        all_goals (try (first | omega | (unfold r32; omega) | exact hQ | exact qe hQ (by omega) | exact qe hQ (by (repeat' split) <;> omega) | exact b01 | exact n01 | exact n21 | exact n31 | exact absurd trivial (by assumption)))
        apply s_188_227
        try simp only [mi_87, fl_87_35, mi_117, ml_117, fl_117, up_117, fl_87_14, mi_100, ml_100, fl_100, up_100, fl_87_17, mi_103, ml_103, fl_103, up_103, fl_87_33, mi_115, ml_115, fl_115, up_115, fl_87_34, mi_116, ml_116, fl_116, up_116, fl_87_32, mi_114, ml_114, fl_114, up_114, true_and, and_true, true_or, or_true, implies_true, b10_0, b10_1]
        repeat' (first | refine And.intro ?_ ?_ | intro _)
        all_goals (try (first | omega | (unfold r32; omega) | exact hQ | exact qe hQ (by omega) | exact qe hQ (by (repeat' split) <;> omega) | exact b01 | exact n01 | exact n21 | exact n31 | exact absurd trivial (by assumption)))
        · rw [if_neg (by omega)] at ih
          apply s_188_244
          try simp only [mi_87, fl_87_35, mi_117, ml_117, fl_117, up_117, fl_87_14, mi_100, ml_100, fl_100, up_100, fl_87_17, mi_103, ml_103, fl_103, up_103, fl_87_33, mi_115, ml_115, fl_115, up_115, fl_87_34, mi_116, ml_116, fl_116, up_116, fl_87_32, mi_114, ml_114, fl_114, up_114, true_and, and_true, true_or, or_true, implies_true, b10_0, b10_1]
          repeat' (first | refine And.intro ?_ ?_ | intro _)
          all_goals (try (first | omega | (unfold r32; omega) | exact hQ | exact qe hQ (by omega) | exact qe hQ (by (repeat' split) <;> omega) | exact b01 | exact n01 | exact n21 | exact n31 | exact absurd trivial (by assumption)))
          exact ih _
        · rw [if_pos (by omega)] at ih
          apply s_188_244
          try simp only [mi_87, fl_87_35, mi_117, ml_117, fl_117, up_117, fl_87_14, mi_100, ml_100, fl_100, up_100, fl_87_17, mi_103, ml_103, fl_103, up_103, fl_87_33, mi_115, ml_115, fl_115, up_115, fl_87_34, mi_116, ml_116, fl_116, up_116, fl_87_32, mi_114, ml_114, fl_114, up_114, true_and, and_true, true_or, or_true, implies_true, b10_0, b10_1]
          repeat' (first | refine And.intro ?_ ?_ | intro _)
          all_goals (try (first | omega | (unfold r32; omega) | exact hQ | exact qe hQ (by omega) | exact qe hQ (by (repeat' split) <;> omega) | exact b01 | exact n01 | exact n21 | exact n31 | exact absurd trivial (by assumption)))
          exact ih _
  have key : ∀ m x : Nat, ∀ h : mF, fb c g h → MI (CBu G s c) (CAd G c) (fun i u => btk G D (G (20 + 6 * c) i) u) st t (s (3 + c)) (s (7 + c)) (s 2 c) (fun i => h 114 (36 * c + i)) (fun i => h 115 (36 * c + i)) (h 113 c) (h 116) m x → ∀ v5 v6 v7, Wp X d SH 188 130 [(2, 87), (0, (c : Int)), (0, (st : Int)), (0, t), (0, (x : Int)), v5, v6, v7] [] SH (fl h) Q := by
    intro m
    induction m with
    | zero => intro x h hF hI'; exact step 0 x h hF hI' (fun m' y h' hm' => absurd hm' (by omega))
    | succ m ih => intro x h hF hI'; exact step (m + 1) x h hF hI' (fun m' y h' hm' => by
        have : m' = m := by omega
        subst this
        exact ih y h')
  have loop1 := lup (P := fun i => ∀ h : mF, (∀ o k, o ≠ 116 → h o k = g o k) → (∀ j, j < i → h 116 j = 0 ∧ CBu G s c j ∨ h 116 j = 1 ∧ ¬ CBu G s c j) → Wp X d SH 188 3 [(2, 87), (0, (c : Int)), (0, (st : Int)), (0, t), (0, (i : Int)), (3, 0), (3, 0), (3, 0)] [] SH (fl h) Q) 36 ?_ ?_ 0 (by omega)
  · skip
    apply s_188_0
    try simp only [mi_87, fl_87_35, mi_117, ml_117, fl_117, up_117, fl_87_14, mi_100, ml_100, fl_100, up_100, fl_87_17, mi_103, ml_103, fl_103, up_103, fl_87_33, mi_115, ml_115, fl_115, up_115, fl_87_34, mi_116, ml_116, fl_116, up_116, fl_87_32, mi_114, ml_114, fl_114, up_114, true_and, and_true, true_or, or_true, implies_true, b10_0, b10_1]
    repeat' (first | refine And.intro ?_ ?_ | intro _)
    all_goals (try (first | omega | (unfold r32; omega) | exact hQ | exact qe hQ (by omega) | exact qe hQ (by (repeat' split) <;> omega) | exact b01 | exact n01 | exact n21 | exact n31 | exact absurd trivial (by assumption)))
    exact loop1 g (fun _ _ _ => rfl) (fun j hj => absurd hj (by omega))
  · intro h hF hd1
    have hFb : fb c g h := fun o k ho => hF o k (by omega)
    rcases hd1 st hst with ⟨z1, z2⟩ | ⟨z1, z2⟩
    · have hps := hGc.2.2.2.1 st hst
      have hstn := z2.1
      have hps0 := z2.2.1
      have hMs := hMc.2.2.2.1 st hstn
      have hfs := hf st t hst z2 (by omega)
      generalize hh2 : mup h 114 (36 * c + st) t = h2
      have fo2 : ∀ o k, ¬ (o = 114 ∧ k = 36 * c + st) → h2 o k = h o k := by
        intro o k ho
        rw [← hh2, mup_n (by omega)]
      have u2 : h2 114 (36 * c + st) = t := by rw [← hh2, mup_e]
      have hF2 : fb c g h2 := fun o k ho => by rw [fo2 o k (by omega)]; exact hFb o k ho
      have hA2 := FM_ag hA (fb_FM FM_r hF2)
      have p2 : h2 102 (36 * c + st) = G (20 + 6 * c) st := by rw [fo2 _ _ (by omega), hF _ _ (by omega)]; exact hMs.1
      have c184' := c184 X (p := G (20 + 6 * c) st) (t := t) hA2 hG.1 hDb ⟨hps0, hps.2.1⟩ (by omega)
      generalize hfv : btk G D (G (20 + 6 * c) st) t = fv at c184' hfs
      generalize hh3 : mup h2 115 (36 * c + st) (t + fv) = h3
      have fo3 : ∀ o k, ¬ (o = 115 ∧ k = 36 * c + st) → h3 o k = h2 o k := by
        intro o k ho
        rw [← hh3, mup_n (by omega)]
      have u3 : h3 115 (36 * c + st) = t + fv := by rw [← hh3, mup_e]
      generalize hh4 : mup h3 116 st 1 = h4
      have fo4 : ∀ o k, ¬ (o = 116 ∧ k = st) → h4 o k = h3 o k := by
        intro o k ho
        rw [← hh4, mup_n (by omega)]
      have u4 : h4 116 st = 1 := by rw [← hh4, mup_e]
      have hF4 : fb c g h4 := fun o k ho => by rw [fo4 o k (by omega), fo3 o k (by omega)]; exact hF2 o k ho
      have hdn4 : ∀ i, i < 36 → i ≠ st → h4 116 i = h 116 i := by
        intro i hi his
        rw [fo4 _ _ (by omega), fo3 _ _ (by omega), fo2 _ _ (by omega)]
      have hb4 : ∀ i, i < 36 → i ≠ st → h4 114 (36 * c + i) = s (3 + c) i := by
        intro i hi his
        rw [fo4 _ _ (by omega), fo3 _ _ (by omega), fo2 _ _ (by omega), hF _ _ (by omega)]
        exact (hSc.2.2.2 i hi).1
      have hv4 : h4 114 (36 * c + st) = t := by rw [fo4 _ _ (by omega), fo3 _ _ (by omega), u2]
      have hsb := sumN_b (n := 36) (a := fun i => if h4 116 i = 0 then (1 : Int) else 0) (lo := 0) (hi := 1) (fun i _ => by (try simp only []); split <;> omega)
      have hsu := sumN_upd (n := 36) (i := st) (a := fun i => if h4 116 i = 0 then (1 : Int) else 0) (b := fun i => if i = st then (1 : Int) else if h4 116 i = 0 then (1 : Int) else 0) hst (fun k hk => by simp only [if_neg hk])
      have hsb2 := sumN_b (n := 36) (a := fun i => if i = st then (1 : Int) else if h4 116 i = 0 then (1 : Int) else 0) (lo := 0) (hi := 1) (fun i _ => by (try simp only []); split <;> (try split) <;> omega)
      simp only [u4, if_true] at hsu
      have i0 := MI_0 (B := CBu G s c) (A := CAd G c) (f := fun i u => btk G D (G (20 + 6 * c) i) u) (st := st) (t := t) (b0 := s (3 + c)) (e0 := s (7 + c)) (o0 := s 2 c) (b := fun i => h4 114 (36 * c + i)) (e := fun i => h4 115 (36 * c + i)) (dn := h4 116) (m := (sumN 36 (fun i => if h4 116 i = 0 then (1 : Int) else 0)).toNat) hst z2 ht.1 (by
        simp at hsu
        omega) (by simp only [hfv]; exact hfs) (fun i hi hBi => by
        have z := (hIc.2.2.2 i hi).1
        have y := hBi.2.2
        omega) hv4 hb4 (by
        show h4 115 (36 * c + st) = t + btk G D (G (20 + 6 * c) st) t
        rw [fo4 _ _ (by omega), u3, hfv]) (by
        intro i hi his
        show h4 115 (36 * c + i) = s (7 + c) i
        rw [fo4 _ _ (by omega), fo3 _ _ (by omega), fo2 _ _ (by omega), hF _ _ (by omega)]
        exact (hSc.2.2.2 i hi).2) (by
        intro i hi
        by_cases his : i = st
        · subst his
          exact Or.inr ⟨u4, fun z => by
            have := z.2
            simp only [hv4] at this
            omega⟩
        · show h4 116 i = 0 ∧ CBu G s c i ∧ h4 114 (36 * c + i) = -1 ∨ h4 116 i = 1 ∧ ¬ (CBu G s c i ∧ h4 114 (36 * c + i) = -1)
          rw [hdn4 i hi his, hb4 i hi his]
          rcases hd1 i hi with ⟨y1, y2⟩ | ⟨y1, y2⟩
          · exact Or.inl ⟨y1, y2, y2.2.2⟩
          · exact Or.inr ⟨y1, fun z => y2 z.1⟩) (by omega)
      have fin := key _ st h4 hF4 (by
        rw [show h4 113 c = s 2 c by rw [fo4 _ _ (by omega), fo3 _ _ (by omega), fo2 _ _ (by omega), hF _ _ (by omega)]; exact hSc.2.2.1]
        exact i0)
      apply s_188_3
      try simp only [mi_87, fl_87_35, mi_117, ml_117, fl_117, up_117, fl_87_14, mi_100, ml_100, fl_100, up_100, fl_87_17, mi_103, ml_103, fl_103, up_103, fl_87_33, mi_115, ml_115, fl_115, up_115, fl_87_34, mi_116, ml_116, fl_116, up_116, fl_87_32, mi_114, ml_114, fl_114, up_114, e1, z1, est, hh2, true_and, and_true, true_or, or_true, implies_true, b10_0, b10_1]
      repeat' (first | refine And.intro ?_ ?_ | intro _)
      all_goals (try (first | omega | (unfold r32; omega) | exact hQ | exact qe hQ (by omega) | exact qe hQ (by (repeat' split) <;> omega) | exact b01 | exact n01 | exact n21 | exact n31 | exact absurd trivial (by assumption)))
      apply s_188_91
      try simp only [mi_87, fl_87_35, mi_117, ml_117, fl_117, up_117, fl_87_14, mi_100, ml_100, fl_100, up_100, fl_87_17, mi_103, ml_103, fl_103, up_103, fl_87_33, mi_115, ml_115, fl_115, up_115, fl_87_34, mi_116, ml_116, fl_116, up_116, fl_87_32, mi_114, ml_114, fl_114, up_114, est, p2, true_and, and_true, true_or, or_true, implies_true, b10_0, b10_1]
      repeat' (first | refine And.intro ?_ ?_ | intro _)
      all_goals (try (first | omega | (unfold r32; omega) | exact hQ | exact qe hQ (by omega) | exact qe hQ (by (repeat' split) <;> omega) | exact b01 | exact n01 | exact n21 | exact n31 | exact absurd trivial (by assumption)))
      refine c184' _ _ (by omega) ?_
      apply s_188_118
      try simp only [mi_87, fl_87_35, mi_117, ml_117, fl_117, up_117, fl_87_14, mi_100, ml_100, fl_100, up_100, fl_87_17, mi_103, ml_103, fl_103, up_103, fl_87_33, mi_115, ml_115, fl_115, up_115, fl_87_34, mi_116, ml_116, fl_116, up_116, fl_87_32, mi_114, ml_114, fl_114, up_114, est, hh3, true_and, and_true, true_or, or_true, implies_true, b10_0, b10_1]
      repeat' (first | refine And.intro ?_ ?_ | intro _)
      all_goals (try (first | omega | (unfold r32; omega) | exact hQ | exact qe hQ (by omega) | exact qe hQ (by (repeat' split) <;> omega) | exact b01 | exact n01 | exact n21 | exact n31 | exact absurd trivial (by assumption)))
      apply s_188_120
      try simp only [mi_87, fl_87_35, mi_117, ml_117, fl_117, up_117, fl_87_14, mi_100, ml_100, fl_100, up_100, fl_87_17, mi_103, ml_103, fl_103, up_103, fl_87_33, mi_115, ml_115, fl_115, up_115, fl_87_34, mi_116, ml_116, fl_116, up_116, fl_87_32, mi_114, ml_114, fl_114, up_114, e1, hh4, true_and, and_true, true_or, or_true, implies_true, b10_0, b10_1]
      repeat' (first | refine And.intro ?_ ?_ | intro _)
      all_goals (try (first | omega | (unfold r32; omega) | exact hQ | exact qe hQ (by omega) | exact qe hQ (by (repeat' split) <;> omega) | exact b01 | exact n01 | exact n21 | exact n31 | exact absurd trivial (by assumption)))
      apply s_188_127
      try simp only [mi_87, fl_87_35, mi_117, ml_117, fl_117, up_117, fl_87_14, mi_100, ml_100, fl_100, up_100, fl_87_17, mi_103, ml_103, fl_103, up_103, fl_87_33, mi_115, ml_115, fl_115, up_115, fl_87_34, mi_116, ml_116, fl_116, up_116, fl_87_32, mi_114, ml_114, fl_114, up_114, true_and, and_true, true_or, or_true, implies_true, b10_0, b10_1]
      repeat' (first | refine And.intro ?_ ?_ | intro _)
      all_goals (try (first | omega | (unfold r32; omega) | exact hQ | exact qe hQ (by omega) | exact qe hQ (by (repeat' split) <;> omega) | exact b01 | exact n01 | exact n21 | exact n31 | exact absurd trivial (by assumption)))
      exact fin _ _ _
    · have hq := hQ none h ⟨rfl, hFb, by
        rw [fireS_n z2]
        intro c' hc'
        obtain ⟨s1, s2, s3, s4⟩ := hS c' hc'
        rw [hF _ _ (by omega), hF _ _ (by omega), hF _ _ (by omega)]
        refine ⟨s1, s2, s3, fun i hi => ?_⟩
        rw [hF _ _ (by omega), hF _ _ (by omega)]
        exact s4 i hi, by
        rw [fireS_n z2]
        exact SI_mono hI hM.1⟩
      apply s_188_3
      try simp only [mi_87, fl_87_35, mi_117, ml_117, fl_117, up_117, fl_87_14, mi_100, ml_100, fl_100, up_100, fl_87_17, mi_103, ml_103, fl_103, up_103, fl_87_33, mi_115, ml_115, fl_115, up_115, fl_87_34, mi_116, ml_116, fl_116, up_116, fl_87_32, mi_114, ml_114, fl_114, up_114, e1, z1, true_and, and_true, true_or, or_true, implies_true, b10_0, b10_1]
      repeat' (first | refine And.intro ?_ ?_ | intro _)
      all_goals (try (first | omega | (unfold r32; omega) | exact hQ | exact qe hQ (by omega) | exact qe hQ (by (repeat' split) <;> omega) | exact b01 | exact n01 | exact n21 | exact n31 | exact absurd trivial (by assumption)))
      all_goals (exact hq)
  · intro i hi ih h hF hd1
    have e2 : ((i : Int)).toNat = i := by omega
    have ei : (36 * (c : Int) + (i : Int)).toNat = 36 * c + i := by omega
    have e10 : ((i + 1 : Nat) : Int) = (i : Int) + 1 := by omega
    have f99 : h 99 c = G (19 + 6 * c) 0 := by rw [hF _ _ (by omega)]; exact hMc.1
    have f102 : (i : Int) < G (19 + 6 * c) 0 → h 102 (36 * c + i) = G (20 + 6 * c) i := fun z => by rw [hF _ _ (by omega)]; exact (hMc.2.2.2.1 i z).1
    have f114 : h 114 (36 * c + i) = s (3 + c) i := by rw [hF _ _ (by omega)]; exact (hSc.2.2.2 i hi).1
    have hsi := (hIc.2.2.2 i hi).1
    rw [e10] at ih
    have fin1 : ¬ CBu G s c i → Wp X d SH 188 57 [(2, 87), (0, (c : Int)), (0, (st : Int)), (0, t), (0, (i : Int)), (3, 0), (3, 0), (3, 0)] [(0, (i : Int)), (2, 117)] SH (fl h) Q := by
      intro hnB
      apply s_188_57
      try simp only [mi_87, fl_87_35, mi_117, ml_117, fl_117, up_117, fl_87_14, mi_100, ml_100, fl_100, up_100, fl_87_17, mi_103, ml_103, fl_103, up_103, fl_87_33, mi_115, ml_115, fl_115, up_115, fl_87_34, mi_116, ml_116, fl_116, up_116, fl_87_32, mi_114, ml_114, fl_114, up_114, true_and, and_true, true_or, or_true, implies_true, b10_0, b10_1]
      repeat' (first | refine And.intro ?_ ?_ | intro _)
      all_goals (try (first | omega | (unfold r32; omega) | exact hQ | exact qe hQ (by omega) | exact qe hQ (by (repeat' split) <;> omega) | exact b01 | exact n01 | exact n21 | exact n31 | exact absurd trivial (by assumption)))
      apply s_188_62
      try simp only [mi_87, fl_87_35, mi_117, ml_117, fl_117, up_117, fl_87_14, mi_100, ml_100, fl_100, up_100, fl_87_17, mi_103, ml_103, fl_103, up_103, fl_87_33, mi_115, ml_115, fl_115, up_115, fl_87_34, mi_116, ml_116, fl_116, up_116, fl_87_32, mi_114, ml_114, fl_114, up_114, e2, true_and, and_true, true_or, or_true, implies_true, b10_0, b10_1]
      repeat' (first | refine And.intro ?_ ?_ | intro _)
      all_goals (try (first | omega | (unfold r32; omega) | exact hQ | exact qe hQ (by omega) | exact qe hQ (by (repeat' split) <;> omega) | exact b01 | exact n01 | exact n21 | exact n31 | exact absurd trivial (by assumption)))
      apply s_188_63
      try simp only [mi_87, fl_87_35, mi_117, ml_117, fl_117, up_117, fl_87_14, mi_100, ml_100, fl_100, up_100, fl_87_17, mi_103, ml_103, fl_103, up_103, fl_87_33, mi_115, ml_115, fl_115, up_115, fl_87_34, mi_116, ml_116, fl_116, up_116, fl_87_32, mi_114, ml_114, fl_114, up_114, true_and, and_true, true_or, or_true, implies_true, b10_0, b10_1]
      repeat' (first | refine And.intro ?_ ?_ | intro _)
      all_goals (try (first | omega | (unfold r32; omega) | exact hQ | exact qe hQ (by omega) | exact qe hQ (by (repeat' split) <;> omega) | exact b01 | exact n01 | exact n21 | exact n31 | exact absurd trivial (by assumption)))
      refine ih (mup h 116 i 1) (fun o k ho => by rw [mup_n (by omega)]; exact hF o k ho) (fun j hj => ?_)
      by_cases hji : j = i
      · subst hji
        rw [mup_e]
        exact Or.inr ⟨rfl, hnB⟩
      · rw [mup_n (by omega)]
        exact hd1 j (by omega)
    apply s_188_3
    try simp only [mi_87, fl_87_35, mi_117, ml_117, fl_117, up_117, fl_87_14, mi_100, ml_100, fl_100, up_100, fl_87_17, mi_103, ml_103, fl_103, up_103, fl_87_33, mi_115, ml_115, fl_115, up_115, fl_87_34, mi_116, ml_116, fl_116, up_116, fl_87_32, mi_114, ml_114, fl_114, up_114, e0, f99, ei, f114, true_and, and_true, true_or, or_true, implies_true, b10_0, b10_1]
    repeat' (first | refine And.intro ?_ ?_ | intro _)
    all_goals (try (first | omega | (unfold r32; omega) | exact hQ | exact qe hQ (by omega) | exact qe hQ (by (repeat' split) <;> omega) | exact b01 | exact n01 | exact n21 | exact n31 | exact absurd trivial (by assumption)))
    · exact fin1 (fun z => by have := z.1; omega)
    · have y := f102 (by omega)
      exact fin1 (fun z => by have := z.2.1; omega)
    · have y := f102 (by omega)
      apply s_188_62
      try simp only [mi_87, fl_87_35, mi_117, ml_117, fl_117, up_117, fl_87_14, mi_100, ml_100, fl_100, up_100, fl_87_17, mi_103, ml_103, fl_103, up_103, fl_87_33, mi_115, ml_115, fl_115, up_115, fl_87_34, mi_116, ml_116, fl_116, up_116, fl_87_32, mi_114, ml_114, fl_114, up_114, e2, true_and, and_true, true_or, or_true, implies_true, b10_0, b10_1]
      repeat' (first | refine And.intro ?_ ?_ | intro _)
      all_goals (try (first | omega | (unfold r32; omega) | exact hQ | exact qe hQ (by omega) | exact qe hQ (by (repeat' split) <;> omega) | exact b01 | exact n01 | exact n21 | exact n31 | exact absurd trivial (by assumption)))
      apply s_188_63
      try simp only [mi_87, fl_87_35, mi_117, ml_117, fl_117, up_117, fl_87_14, mi_100, ml_100, fl_100, up_100, fl_87_17, mi_103, ml_103, fl_103, up_103, fl_87_33, mi_115, ml_115, fl_115, up_115, fl_87_34, mi_116, ml_116, fl_116, up_116, fl_87_32, mi_114, ml_114, fl_114, up_114, true_and, and_true, true_or, or_true, implies_true, b10_0, b10_1]
      repeat' (first | refine And.intro ?_ ?_ | intro _)
      all_goals (try (first | omega | (unfold r32; omega) | exact hQ | exact qe hQ (by omega) | exact qe hQ (by (repeat' split) <;> omega) | exact b01 | exact n01 | exact n21 | exact n31 | exact absurd trivial (by assumption)))
      refine ih (mup h 116 i 0) (fun o k ho => by rw [mup_n (by omega)]; exact hF o k ho) (fun j hj => ?_)
      by_cases hji : j = i
      · subst hji
        rw [mup_e]
        exact Or.inl ⟨rfl, by omega, by omega, by omega⟩
      · rw [mup_n (by omega)]
        exact hd1 j (by omega)
    · exact fin1 (fun z => by have := z.2.2; omega)
