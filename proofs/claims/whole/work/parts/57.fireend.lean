/-! the class's fire, from its beginning to its end -/
theorem setS_b {s : mF} {c k : Nat} {x : (Nat → Int) × (Nat → Int) × Int} : setS s c x (3 + c) k = x.1 k := by unfold setS; rw [if_pos rfl]
theorem setS_e {s : mF} {c k : Nat} {x : (Nat → Int) × (Nat → Int) × Int} : setS s c x (7 + c) k = x.2.1 k := by unfold setS; rw [if_neg (by omega), if_pos rfl]
theorem setS_o {s : mF} {c : Nat} {x : (Nat → Int) × (Nat → Int) × Int} : setS s c x 2 c = x.2.2 := by unfold setS; rw [if_neg (by omega), if_neg (by omega), if_pos ⟨rfl, rfl⟩]
theorem setS_n {s : mF} {c r k : Nat} {x : (Nat → Int) × (Nat → Int) × Int} (h : ¬ (r = 3 + c ∨ r = 7 + c ∨ r = 2 ∧ k = c)) : setS s c x r k = s r k := by unfold setS; rw [if_neg (by omega), if_neg (by omega), if_neg (by omega)]
theorem fireS_y {G : mF} {D : Int} {c cell : Nat} {t : Int} {s : mF} (h : CBu G s c cell) : fireS G D c cell t s = setS s c (fireX G D c cell t s) := by unfold fireS; unfold CBu at h; rw [if_pos h]
theorem fireS_n {G : mF} {D : Int} {c cell : Nat} {t : Int} {s : mF} (h : ¬ CBu G s c cell) : fireS G D c cell t s = s := by unfold fireS; unfold CBu at h; rw [if_neg h]
theorem fire_SI {G : mF} {D : Int} {c st : Nat} {t : Int} {s : mF} {x : (Nat → Int) × (Nat → Int) × Int} {M M' : Int} (hG : CG G) (hD : -1 ≤ D ∧ D ≤ 50) (hc : c < 4) (ht : 0 ≤ t) (h : fFS G D c st t s x) (he : ∀ i, i < 36 → CBu G s c i → x.1 i ≠ -1 → x.2.1 i ≤ t + 3240) (hI : SI G M s) (hM : M ≤ M' ∧ t + 3240 ≤ M') (hl : s 0 c ≠ -1) (hB : CBu G s c st) : SI G M' (fireS G D c st t s) := by
  obtain ⟨u1, u2⟩ := fFS_u hG hD hc ht h
  rw [fireS_y hB]
  obtain ⟨f1, f2, f3, f4, f5, f6, f7, f8⟩ := h
  generalize fireX G D c st t s = y at u1 u2 ⊢
  intro c' hc'
  obtain ⟨i1, i2, i3, i4⟩ := hI c' hc'
  by_cases hcc : c' = c
  · subst hcc
    rw [setS_n (by omega), setS_n (by omega), setS_o, ← u2]
    refine ⟨by omega, i2, ⟨by omega, ?_⟩, fun i hi => ?_⟩
    · rcases f8 with z | ⟨i, z1, z2, z3, z4⟩
      · omega
      · have := he i z1 z2 (by omega)
        omega
    · rw [setS_b, setS_e, ← (u1 i hi).1, ← (u1 i hi).2]
      by_cases hBi : CBu G s c' i
      · have z := f3 i hi hBi
        refine ⟨?_, fun _ => ⟨hl, hBi.1, hBi.2.1⟩⟩
        rcases z with z | ⟨z1, z2⟩
        · exact Or.inl z
        · have p := ((hG.2 c' hc').2.2.2.1 i hi)
          have q := (btk_b (D := D) (t := x.1 i) hG.1 ⟨hBi.2.1, p.2.1⟩ (by omega) hD).1
          have w := f7 i hi hBi z1
          try simp only [] at z2
          right
          omega
      · have z := f2 i hi hBi
        have y := i4 i hi
        rw [z.1, z.2]
        refine ⟨?_, y.2⟩
        have y1 := y.1
        omega
  · rw [setS_n (by omega), setS_n (by omega), setS_n (by omega)]
    refine ⟨by omega, i2, by omega, fun i hi => ?_⟩
    rw [setS_n (by omega), setS_n (by omega)]
    exact i4 i hi
theorem fire_CS {G : mF} {D : Int} {c st : Nat} {t : Int} {s g h : mF} (hG : CG G) (hD : -1 ≤ D ∧ D ≤ 50) (hc : c < 4) (ht : 0 ≤ t) (hF : FF c g h) (hS : CS g s) (hB : CBu G s c st) (hx : fFS G D c st t s (h (21 + 6 * c), h (22 + 6 * c), h (19 + 6 * c) 6)) : CS h (fireS G D c st t s) := by
  obtain ⟨u1, u2⟩ := fFS_u hG hD hc ht hx
  rw [fireS_y hB]
  generalize fireX G D c st t s = y at u1 u2 ⊢
  intro c' hc'
  obtain ⟨s1, s2, s3, s4⟩ := hS c' hc'
  by_cases hcc : c' = c
  · subst hcc
    rw [setS_n (by omega), setS_n (by omega), setS_o, ← u2, hF _ 4 (by omega), hF _ 5 (by omega)]
    refine ⟨s1, s2, rfl, fun i hi => ?_⟩
    rw [setS_b, setS_e, ← (u1 i hi).1, ← (u1 i hi).2]
    exact ⟨rfl, rfl⟩
  · rw [setS_n (by omega), setS_n (by omega), setS_n (by omega), hF _ 4 (by omega), hF _ 5 (by omega), hF _ 6 (by omega)]
    refine ⟨s1, s2, s3, fun i hi => ?_⟩
    rw [setS_n (by omega), setS_n (by omega), hF _ i (by omega), hF _ i (by omega)]
    exact s4 i hi
theorem c22 (X : mX) {c st : Nat} (hc : c < 4) (hst : st < 36) {G g s : mF} {D t M M' : Int} (hA : Agree G g) (hG : CG G) (hD : g 5 2 = D) (hDb : -1 ≤ D ∧ D ≤ 50) (hS : CS g s) (hI : SI G M s) (ht : 0 ≤ t ∧ t ≤ 50000) (hb : s (3 + c) st = -1) (hM : M ≤ M' ∧ t + 3240 ≤ M') (hl : s 0 c ≠ -1) : Rel X 3 22 [(2, 20 + 6 * (c : Int)), (0, (st : Int)), (0, t), (2, 6), (3, 0), (3, 0)] g (fun ro g' => ro = none ∧ FF c g g' ∧ CS g' (fireS G D c st t s) ∧ SI G M' (fireS G D c st t s)) := by
  intro d Q hd hQ
  have hGc := hG.2 c hc
  have e0 : ((st : Int)).toNat = st := by omega
  have ep : g (20 + 6 * c) st = G (20 + 6 * c) st := hA _ _ (by unfold InpS; omega)
  have hps := hGc.2.2.2.1 st hst
  have hI36 : ∀ i, i < 36 → (s (3 + c) i = -1 ↔ s (7 + c) i = -1) := fun i hi => by
    have z := ((hI c hc).2.2.2 i hi).1
    omega
  have hSc := hS c hc
  by_cases hp : G (20 + 6 * c) st = -1
  · have hn : ¬ CBu G s c st := fun z => by have := z.2.1; omega
    have hq := hQ none g ⟨rfl, fun _ _ _ => rfl, by rw [fireS_n hn]; exact hS, by
      rw [fireS_n hn]
      intro c' hc'
      obtain ⟨i1, i2, i3, i4⟩ := hI c' hc'
      exact ⟨by omega, i2, by omega, i4⟩⟩
    apply s_22_0
    try simp only [cm_o, cl_1, cm_1, cn_1, ca_1, cz_1, cl_11, cu_11, cl_8, cm_8, cn_8, ca_8, cz_8, cl_7, cm_7, cn_7, ca_7, cz_7, mi_6, cl_6, cu_6, hc, e0, ep, hp, true_and, and_true, true_or, or_true, implies_true, b10_0, b10_1]
    repeat' (first | refine And.intro ?_ ?_ | intro _)
    all_goals (try (first | omega | (unfold r32; omega) | exact hQ | exact qe hQ (by omega) | exact qe hQ (by (repeat' split) <;> omega) | exact b01 | exact n01 | exact n21 | exact n31 | exact absurd trivial (by assumption)))
    all_goals (exact hq)
  · have hB : CBu G s c st := ⟨by
      by_cases z : (st : Int) < G (19 + 6 * c) 0
      · exact z
      · exact absurd (hps.2.2 (by omega)) hp, by omega, hb⟩
    have hf : ∀ i u, i < 36 → CBu G s c i → 0 ≤ u → 1 ≤ btk G D (G (20 + 6 * c) i) u ∧ btk G D (G (20 + 6 * c) i) u ≤ 90 := fun i u hi hBi hu => btk_b hG.1 ⟨hBi.2.1, (hGc.2.2.2.1 i hi).2.1⟩ hu hDb
    have fin : ∀ h : mF, FF c g h → ∀ r T, FI (CBu G s c) (CAd G c) (fun i u => btk G D (G (20 + 6 * c) i) u) st t (s (3 + c)) (s (7 + c)) (s 2 c) (h (21 + 6 * c)) (h (22 + 6 * c)) (h (19 + 6 * c) 6) (h (19 + 6 * c) 11) (h (24 + 6 * c)) r T (fun _ _ => True) → h (19 + 6 * c) 11 ≤ 0 → Q none (fl h) := by
      intro h hF r T hI' hw
      obtain ⟨x1, x2⟩ := FI_end hI' hw
      exact hQ none h ⟨rfl, hF, fire_CS hG hDb hc ht.1 hF hS hB x1, fire_SI (x := (h (21 + 6 * c), h (22 + 6 * c), h (19 + 6 * c) 6)) hG hDb hc ht.1 x1 x2 hI hM hl hB⟩
    have key : ∀ m r : Nat, r + m = 36 → ∀ h : mF, FF c g h → ∀ T, FI (CBu G s c) (CAd G c) (fun i u => btk G D (G (20 + 6 * c) i) u) st t (s (3 + c)) (s (7 + c)) (s 2 c) (h (21 + 6 * c)) (h (22 + 6 * c)) (h (19 + 6 * c) 6) (h (19 + 6 * c) 11) (h (24 + 6 * c)) (r : Int) T (fun _ _ => True) → ∀ v, Wp X d SH 22 25 [(2, 20 + 6 * (c : Int)), (0, (st : Int)), (0, t), (2, 6), (0, (r : Int)), v] [] SH (fl h) Q := by
      intro m
      induction m with
      | zero =>
        intro r hr h hF T hI' v
        have hw := hI'.2.2.2.2.2.2.2.2.1
        have hnb := nfr_b (h (21 + 6 * c))
        have fin' := fin h hF _ _ hI' (by omega)
        apply s_22_25
        try simp only [cm_o, cl_1, cm_1, cn_1, ca_1, cz_1, cl_11, cu_11, cl_8, cm_8, cn_8, ca_8, cz_8, cl_7, cm_7, cn_7, ca_7, cz_7, mi_6, cl_6, cu_6, hc, true_and, and_true, true_or, or_true, implies_true, b10_0, b10_1]
        repeat' (first | refine And.intro ?_ ?_ | intro _)
        all_goals (try (first | omega | (unfold r32; omega) | exact hQ | exact qe hQ (by omega) | exact qe hQ (by (repeat' split) <;> omega) | exact b01 | exact n01 | exact n21 | exact n31 | exact absurd trivial (by assumption)))
        all_goals (exact fin')
      | succ m ih =>
        intro r hr h hF T hI' v
        have hw := hI'.2.2.2.2.2.2.2.2.1
        have hnb := nfr_b (h (21 + 6 * c))
        by_cases hw0 : h (19 + 6 * c) 11 ≤ 0
        · have fin' := fin h hF _ _ hI' hw0
          apply s_22_25
          try simp only [cm_o, cl_1, cm_1, cn_1, ca_1, cz_1, cl_11, cu_11, cl_8, cm_8, cn_8, ca_8, cz_8, cl_7, cm_7, cn_7, ca_7, cz_7, mi_6, cl_6, cu_6, hc, true_and, and_true, true_or, or_true, implies_true, b10_0, b10_1]
          repeat' (first | refine And.intro ?_ ?_ | intro _)
          all_goals (try (first | omega | (unfold r32; omega) | exact hQ | exact qe hQ (by omega) | exact qe hQ (by (repeat' split) <;> omega) | exact b01 | exact n01 | exact n21 | exact n31 | exact absurd trivial (by assumption)))
          all_goals (exact fin')
        · have hlist := hI'.2.2.2.2.2.2.2.2.2.1
          have c24' := c24 X h hc (by omega) (fun j hj => ⟨(hlist j hj).1, (hlist j hj).2.1⟩)
          have hbp := bst_p h c (h (19 + 6 * c) 11 - 1).toNat
          generalize hbi : bst h c (h (19 + 6 * c) 11 - 1).toNat = bi at c24' hbp
          have hm := hlist bi (by omega)
          obtain ⟨x, hx⟩ : ∃ x : Nat, h (24 + 6 * c) bi = (x : Int) := ⟨(h (24 + 6 * c) bi).toNat, by omega⟩
          have ex : ((x : Int)).toNat = x := by omega
          rw [hx, ex] at hm
          rw [hx] at c24'
          have hx36 : x < 36 := by omega
          have hBx := hm.2.2.1
          have hbx := hI'.2.2.1 x hx36 hBx
          have hfx := hf x (h (21 + 6 * c) x) hx36 hBx (by omega)
          generalize hh1 : mup (mup h (19 + 6 * c) 11 (h (19 + 6 * c) 11 - 1)) (24 + 6 * c) bi (h (24 + 6 * c) (h (19 + 6 * c) 11 - 1).toNat) = h1 at c24'
          have fo1 : ∀ o k, ¬ (o = 19 + 6 * c ∧ k = 11 ∨ o = 24 + 6 * c ∧ k = bi) → h1 o k = h o k := by
            intro o k ho
            rw [← hh1, mup_n (by omega), mup_n (by omega)]
          have v1 : h1 (19 + 6 * c) 11 = h (19 + 6 * c) 11 - 1 := by rw [← hh1, mup_n (by omega), mup_e]
          have v2 : h1 (24 + 6 * c) bi = h (24 + 6 * c) (h (19 + 6 * c) 11 - 1).toNat := by rw [← hh1, mup_e]
          have hF1 : FF c g h1 := fun o k ho => by rw [fo1 o k (by omega)]; exact hF o k ho
          have hA1 := FF_ag hc hA hF1
          have p1 : h1 (20 + 6 * c) x = G (20 + 6 * c) x := hA1 _ _ (by unfold InpS; omega)
          have b1 : h1 (21 + 6 * c) x = h (21 + 6 * c) x := fo1 _ _ (by omega)
          have D1 : h1 5 2 = D := by rw [hF1 5 2 (by omega), hD]
          have hpx := hGc.2.2.2.1 x hx36
          have hBx1 := hBx.2.1
          have c2' := c2 X (p := G (20 + 6 * c) x) (t := h (21 + 6 * c) x) hA1 hG.1 D1 hDb ⟨hBx1, hpx.2.1⟩ (by omega)
          generalize hfv : btk G D (G (20 + 6 * c) x) (h (21 + 6 * c) x) = fv at c2' hfx
          generalize hh2 : mup h1 (22 + 6 * c) x (h (21 + 6 * c) x + fv) = h2
          have fo2 : ∀ o k, ¬ (o = 22 + 6 * c ∧ k = x) → h2 o k = h1 o k := by
            intro o k ho
            rw [← hh2, mup_n (by omega)]
          have w1 : h2 (22 + 6 * c) x = h (21 + 6 * c) x + fv := by rw [← hh2, mup_e]
          generalize hh3 : mup h2 (19 + 6 * c) 6 (max (h2 (19 + 6 * c) 6) (h (21 + 6 * c) x + fv)) = h3
          have fo3 : ∀ o k, ¬ (o = 19 + 6 * c ∧ k = 6) → h3 o k = h2 o k := by
            intro o k ho
            rw [← hh3, mup_n (by omega)]
          have u1 : h3 (19 + 6 * c) 6 = max (h2 (19 + 6 * c) 6) (h (21 + 6 * c) x + fv) := by rw [← hh3, mup_e]
          have hF3 : FF c g h3 := fun o k ho => by rw [fo3 o k (by omega), fo2 o k (by omega)]; exact hF1 o k ho
          have r21 : h3 (21 + 6 * c) = h (21 + 6 * c) := funext (fun k => by rw [fo3 _ _ (by omega), fo2 _ _ (by omega), fo1 _ _ (by omega)])
          have w11 : h3 (19 + 6 * c) 11 = h (19 + 6 * c) 11 - 1 := by rw [fo3 _ _ (by omega), fo2 _ _ (by omega), v1]
          have w22 : h3 (22 + 6 * c) x = h (21 + 6 * c) x + fv := by rw [fo3 _ _ (by omega), w1]
          obtain ⟨tk, tes⟩ := FI_take (e' := h3 (22 + 6 * c)) (wt' := h3 (24 + 6 * c)) (o' := h3 (19 + 6 * c) 6) (bi := bi) (x := x) hI' (by omega) (fun j hj => hbp.2 j (by omega)) hx (by rw [hfv]; exact hfx) (by rw [hfv]; exact w22) (fun i hi => by rw [fo3 _ _ (by omega), fo2 _ _ (by omega), fo1 _ _ (by omega)]) (by rw [w22, u1, fo2 _ _ (by omega), fo1 _ _ (by omega)]) (fun j hj => by rw [fo3 _ _ (by omega), fo2 _ _ (by omega), fo1 _ _ (by omega)]) (by rw [fo3 _ _ (by omega), fo2 _ _ (by omega), v2])
          have c25' := c25 X (G := G) (gs := g) (s := s) (D := D) (st := st) (t := t) (r := (r : Int) + 1) (T := h (21 + 6 * c) x) (g := h3) hc hx36 hA hF3 hG hI36 hBx (by rw [w22]; omega) tes (by rw [w22]; omega) (by rw [r21]) (by rw [w11, r21]; exact tk)
          apply s_22_25
          try simp only [cm_o, cl_1, cm_1, cn_1, ca_1, cz_1, cl_11, cu_11, cl_8, cm_8, cn_8, ca_8, cz_8, cl_7, cm_7, cn_7, ca_7, cz_7, mi_6, cl_6, cu_6, hc, true_and, and_true, true_or, or_true, implies_true, b10_0, b10_1]
          repeat' (first | refine And.intro ?_ ?_ | intro _)
          all_goals (try (first | omega | (unfold r32; omega) | exact hQ | exact qe hQ (by omega) | exact qe hQ (by (repeat' split) <;> omega) | exact b01 | exact n01 | exact n21 | exact n31 | exact absurd trivial (by assumption)))
          refine c24' _ _ (by omega) ?_
          apply s_22_43
          try simp only [cm_o, cl_1, cm_1, cn_1, ca_1, cz_1, cl_11, cu_11, cl_8, cm_8, cn_8, ca_8, cz_8, cl_7, cm_7, cn_7, ca_7, cz_7, mi_6, cl_6, cu_6, hc, ex, p1, b1, true_and, and_true, true_or, or_true, implies_true, b10_0, b10_1]
          repeat' (first | refine And.intro ?_ ?_ | intro _)
          all_goals (try (first | omega | (unfold r32; omega) | exact hQ | exact qe hQ (by omega) | exact qe hQ (by (repeat' split) <;> omega) | exact b01 | exact n01 | exact n21 | exact n31 | exact absurd trivial (by assumption)))
          refine c2' _ _ (by omega) ?_
          apply s_22_76
          try simp only [cm_o, cl_1, cm_1, cn_1, ca_1, cz_1, cl_11, cu_11, cl_8, cm_8, cn_8, ca_8, cz_8, cl_7, cm_7, cn_7, ca_7, cz_7, mi_6, cl_6, cu_6, hc, ex, b1, hh2, true_and, and_true, true_or, or_true, implies_true, b10_0, b10_1]
          repeat' (first | refine And.intro ?_ ?_ | intro _)
          all_goals (try (first | omega | (unfold r32; omega) | exact hQ | exact qe hQ (by omega) | exact qe hQ (by (repeat' split) <;> omega) | exact b01 | exact n01 | exact n21 | exact n31 | exact absurd trivial (by assumption)))
          apply s_22_78
          try simp only [cm_o, cl_1, cm_1, cn_1, ca_1, cz_1, cl_11, cu_11, cl_8, cm_8, cn_8, ca_8, cz_8, cl_7, cm_7, cn_7, ca_7, cz_7, mi_6, cl_6, cu_6, hc, ex, w1, hh3, true_and, and_true, true_or, or_true, implies_true, b10_0, b10_1]
          repeat' (first | refine And.intro ?_ ?_ | intro _)
          all_goals (try (first | omega | (unfold r32; omega) | exact hQ | exact qe hQ (by omega) | exact qe hQ (by (repeat' split) <;> omega) | exact b01 | exact n01 | exact n21 | exact n31 | exact absurd trivial (by assumption)))
          apply s_22_96
          try simp only [cm_o, cl_1, cm_1, cn_1, ca_1, cz_1, cl_11, cu_11, cl_8, cm_8, cn_8, ca_8, cz_8, cl_7, cm_7, cn_7, ca_7, cz_7, mi_6, cl_6, cu_6, hc, true_and, and_true, true_or, or_true, implies_true, b10_0, b10_1]
          repeat' (first | refine And.intro ?_ ?_ | intro _)
          all_goals (try (first | omega | (unfold r32; omega) | exact hQ | exact qe hQ (by omega) | exact qe hQ (by (repeat' split) <;> omega) | exact b01 | exact n01 | exact n21 | exact n31 | exact absurd trivial (by assumption)))
          refine c25' _ _ (by omega) ?_
          rintro _ h4 ⟨rfl, hF4, -, hI4⟩
          apply s_22_102
          try simp only [cm_o, cl_1, cm_1, cn_1, ca_1, cz_1, cl_11, cu_11, cl_8, cm_8, cn_8, ca_8, cz_8, cl_7, cm_7, cn_7, ca_7, cz_7, mi_6, cl_6, cu_6, true_and, and_true, true_or, or_true, implies_true, b10_0, b10_1]
          repeat' (first | refine And.intro ?_ ?_ | intro _)
          all_goals (try (first | omega | (unfold r32; omega) | exact hQ | exact qe hQ (by omega) | exact qe hQ (by (repeat' split) <;> omega) | exact b01 | exact n01 | exact n21 | exact n31 | exact absurd trivial (by assumption)))
          exact ih (r + 1) (by omega) h4 hF4 _ (by rw [show ((r + 1 : Nat) : Int) = (r : Int) + 1 by omega]; exact hI4) _
    generalize hh1 : mup g (19 + 6 * c) 11 0 = g1
    have fo1 : ∀ o k, ¬ (o = 19 + 6 * c ∧ k = 11) → g1 o k = g o k := by
      intro o k ho
      rw [← hh1, mup_n (by omega)]
    have v1 : g1 (19 + 6 * c) 11 = 0 := by rw [← hh1, mup_e]
    have c23' := c23 X g1 hc hst t (by omega)
    rw [v1] at c23'
    generalize hh2 : mup (mup (mup g1 (21 + 6 * c) st t) (24 + 6 * c) (0 : Int).toNat (st : Int)) (19 + 6 * c) 11 (0 + 1) = g2 at c23'
    have fo2 : ∀ o k, ¬ (o = 21 + 6 * c ∧ k = st ∨ o = 24 + 6 * c ∧ k = 0 ∨ o = 19 + 6 * c ∧ k = 11) → g2 o k = g1 o k := by
      intro o k ho
      rw [← hh2, mup_n (by omega), mup_n (by simp only [Int.toNat_zero]; omega), mup_n (by omega)]
    have z1 : g2 (21 + 6 * c) st = t := by rw [← hh2, mup_n (by omega), mup_n (by omega), mup_e]
    have z2 : g2 (24 + 6 * c) 0 = (st : Int) := by
      rw [← hh2, mup_n (by omega)]
      exact mup_e
    have z3 : g2 (19 + 6 * c) 11 = 1 := by rw [← hh2, mup_e]; rfl
    have hF2 : FF c g g2 := fun o k ho => by rw [fo2 o k (by omega), fo1 o k (by omega)]
    have i0 := FI_0 (B := CBu G s c) (A := CAd G c) (f := fun i u => btk G D (G (20 + 6 * c) i) u) (st := st) (t := t) (b0 := g1 (21 + 6 * c)) (e0 := g2 (22 + 6 * c)) (o0 := s 2 c) (b := g2 (21 + 6 * c)) (wt := g2 (24 + 6 * c)) hst hB ht.1 (fun i hi hBi => by
      have q := hSc.2.2.2 i hi
      rw [fo2 (22 + 6 * c) i (by omega), fo1 _ _ (by omega), fo1 _ _ (by omega), q.1, q.2]
      exact ⟨hBi.2.2, (hI36 i hi).1 hBi.2.2⟩) z1 (fun i hi => fo2 _ _ (by omega)) z2
    have k0 := key 36 0 (by omega) g2 hF2 t (by
      rw [z3, fo2 (19 + 6 * c) 6 (by omega), fo1 _ _ (by omega), hSc.2.2.1]
      refine FI_b0 i0 (fun i hi => ?_)
      have q := hSc.2.2.2 i hi
      rw [fo2 (22 + 6 * c) i (by omega), fo1 _ _ (by omega), fo1 _ _ (by omega), q.1, q.2]
      exact ⟨rfl, rfl⟩)
    apply s_22_0
    try simp only [cm_o, cl_1, cm_1, cn_1, ca_1, cz_1, cl_11, cu_11, cl_8, cm_8, cn_8, ca_8, cz_8, cl_7, cm_7, cn_7, ca_7, cz_7, mi_6, cl_6, cu_6, hc, e0, ep, hh1, true_and, and_true, true_or, or_true, implies_true, b10_0, b10_1]
    repeat' (first | refine And.intro ?_ ?_ | intro _)
    all_goals (try (first | omega | (unfold r32; omega) | exact hQ | exact qe hQ (by omega) | exact qe hQ (by (repeat' split) <;> omega) | exact b01 | exact n01 | exact n21 | exact n31 | exact absurd trivial (by assumption)))
    apply s_22_16
    try simp only [cm_o, cl_1, cm_1, cn_1, ca_1, cz_1, cl_11, cu_11, cl_8, cm_8, cn_8, ca_8, cz_8, cl_7, cm_7, cn_7, ca_7, cz_7, mi_6, cl_6, cu_6, hc, true_and, and_true, true_or, or_true, implies_true, b10_0, b10_1]
    repeat' (first | refine And.intro ?_ ?_ | intro _)
    all_goals (try (first | omega | (unfold r32; omega) | exact hQ | exact qe hQ (by omega) | exact qe hQ (by (repeat' split) <;> omega) | exact b01 | exact n01 | exact n21 | exact n31 | exact absurd trivial (by assumption)))
    refine c23' _ _ (by omega) ?_
    apply s_22_22
    try simp only [cm_o, cl_1, cm_1, cn_1, ca_1, cz_1, cl_11, cu_11, cl_8, cm_8, cn_8, ca_8, cz_8, cl_7, cm_7, cn_7, ca_7, cz_7, mi_6, cl_6, cu_6, true_and, and_true, true_or, or_true, implies_true, b10_0, b10_1]
    repeat' (first | refine And.intro ?_ ?_ | intro _)
    all_goals (try (first | omega | (unfold r32; omega) | exact hQ | exact qe hQ (by omega) | exact qe hQ (by (repeat' split) <;> omega) | exact b01 | exact n01 | exact n21 | exact n31 | exact absurd trivial (by assumption)))
    exact k0 _
