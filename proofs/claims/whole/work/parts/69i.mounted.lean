/-! mount, put together -/
theorem dm_b {P W H : Int} (hw : 1 ≤ W ∧ W ≤ 6) (hh : 1 ≤ H ∧ H ≤ 6) (hp : 0 ≤ P ∧ P < W * H) : 0 ≤ P / W ∧ P / W ≤ 5 ∧ 0 ≤ P % W ∧ P % W ≤ 5 := by
  have hc : W = 1 ∨ W = 2 ∨ W = 3 ∨ W = 4 ∨ W = 5 ∨ W = 6 := by omega
  rcases hc with rfl | rfl | rfl | rfl | rfl | rfl <;> omega
theorem Inear_congr {g g' : mF} {c : Nat} (h0 : g' (19 + 6 * c) 0 = g (19 + 6 * c) 0) (h1 : ∀ k, g' (23 + 6 * c) k = g (23 + 6 * c) k) (h2 : ∀ i, i < 36 → g' 100 (36 * c + i) = g 100 (36 * c + i) ∧ g' 101 (36 * c + i) = g 101 (36 * c + i)) (hn : g (19 + 6 * c) 0 ≤ 36) (h : Inear g c) : Inear g' c := by
  obtain ⟨a, b, d⟩ := h
  unfold Inear
  rw [h0]
  refine ⟨fun i hi => ?_, fun i hi side hs => ?_, fun i k hi hk => ?_⟩
  · rw [(h2 i (by omega)).1, (h2 i (by omega)).2]; exact a i hi
  · rw [h1]; exact b i hi side hs
  · have e : dst g' c i k = dst g c i k := by
      unfold dst
      rw [(h2 i (by omega)).1, (h2 i (by omega)).2, (h2 k (by omega)).1, (h2 k (by omega)).2]
    rw [e, d i k hi hk]
    unfold CAd
    simp only [h1]
def MC (g g' : mF) : Prop := ∀ o k, ¬ ((o = 19 ∨ o = 25 ∨ o = 31 ∨ o = 37) ∧ (k = 0 ∨ k = 2) ∨ o = 23 ∨ o = 29 ∨ o = 35 ∨ o = 41 ∨ 13 ≤ o ∧ o ≤ 18 ∨ o = 11 ∧ (k = 1 ∨ k = 2 ∨ k = 3) ∨ o = 44 ∨ o = 45 ∨ o = 43 ∧ k = 0 ∨ 99 ≤ o ∧ o ≤ 103 ∨ 105 ≤ o ∧ o ≤ 108 ∨ o = 86 ∧ (k = 20 ∨ k = 22 ∨ k = 24)) → g' o k = g o k
def MR (n : Nat) (g g2 : mF) : Prop := (∀ c, c < 4 → Iclk g2 c) ∧ (∀ c, c < 4 → Inear g2 c) ∧ Ilink g2 ∧ Iagn g2 ∧ Ibell g2 ∧ Istore (n + 1) g2 ∧ MC g g2 ∧ (g2 = g ∨ g2 11 3 = 0)
set_option maxHeartbeats 32000000 in
theorem T_mount (X : mX) (g : mF) (a b : Int) {n : Nat} (h : NI g) (hBl : Ibell g) (hSe : ∀ s, s < 6 → Iseal g s) (hS : Istore n g) : PR X 100 178 [(2, 1), (0, a), (0, b), (3, 0), (3, 0)] [(2, 87), (0, a), (0, b), (3, 0)] g (MR n g) := by
  have hC := h.2.1
  have hL := h.2.2.1
  have hN := h.2.2.2.1
  have hA := h.2.2.2.2.1
  have rr : MR n g g := ⟨hC, hN, hL, hA, hBl, Istore_le hS, fun _ _ _ => rfl, Or.inl rfl⟩
  intro d Q hd hQ
  by_cases hab : (0 ≤ a ∧ a ≤ 3) ∧ (0 ≤ b ∧ b ≤ 5)
  · obtain ⟨ha, hb⟩ := hab
    obtain ⟨c, rfl⟩ : ∃ c : Nat, a = (c : Int) := ⟨a.toNat, by omega⟩
    obtain ⟨s, rfl⟩ : ∃ s : Nat, b = (s : Int) := ⟨b.toNat, by omega⟩
    have hc : c < 4 := by omega
    have hs : s < 6 := by omega
    have e0 : ((c : Int)).toNat = c := by omega
    have es : ((s : Int)).toNat = s := by omega
    obtain ⟨k1, k2, k3, k4, k5, k6, k7, k8, k9, k10, k11, k12⟩ := hC c hc
    obtain ⟨⟨p1, p2, ⟨p3, p4, p5⟩, p6⟩, s2, s3, s4', s5, s6, s7⟩ := id (hSe s hs)
    have hwh := mul_b p1.2 p2.2
    have c17' := c17 X g hc ⟨k2, k3⟩
    have c176' := c176g X (g := g) hc (n := g (19 + 6 * c) 0) (pw := g (20 + 6 * c)) ⟨k2, k3⟩ k1 (fun i hi => ⟨k4 i hi, (k5 i (by omega)).1⟩)
    rw [show sumN (g (19 + 6 * c) 0).toNat (fun i => if g (20 + 6 * c) i = -1 then (0 : Int) else 1) = grn g c from rfl] at c176'
    have hgb : 0 ≤ grn g c ∧ grn g c ≤ 36 := by
      unfold grn
      have z := sumN_b (n := (g (19 + 6 * c) 0).toNat) (a := fun i => if g (20 + 6 * c) i = -1 then (0 : Int) else 1) (lo := 0) (hi := 1) (fun i _ => by (try simp only []); split <;> omega)
      omega
    by_cases hg : grn g c ≤ 0 ∧ g (56 + 5 * s) 2 ≠ 0
    · obtain ⟨hg, hlen⟩ := hg
      have hbare : ∀ i : Nat, i < 36 → g (20 + 6 * c) i = -1 := by
        intro i hi
        by_cases hin : (i : Int) < g (19 + 6 * c) 0
        · by_cases hz : g (20 + 6 * c) i = -1
          · exact hz
          · exfalso
            have u := sumN_upd (n := (g (19 + 6 * c) 0).toNat) (i := i) (a := fun k => if k = i then 0 else if g (20 + 6 * c) k = -1 then (0 : Int) else 1) (b := fun k => if g (20 + 6 * c) k = -1 then (0 : Int) else 1) (by omega) (fun k hk => by simp only [if_neg hk])
            have bb := (sumN_b (n := (g (19 + 6 * c) 0).toNat) (a := fun k => if k = i then 0 else if g (20 + 6 * c) k = -1 then (0 : Int) else 1) (lo := 0) (hi := 1) (fun k _ => by (try simp only []); split <;> (try split) <;> omega)).1
            simp only [if_neg hz, if_true] at u
            unfold grn at hg
            omega
        · exact k6 i hi (by omega)
      generalize hNl : g (56 + 5 * s) 2 = N at *
      have c15' := c15 X hc hs (hSe s hs)
      rw [hNl] at c15'
      -- links, agains, balls that stay
      have hLe : ∀ k, k < (g 11 1).toNat → rdN g k = rdL g k := fun k hk => by
        have z := hL.2 k (by omega)
        unfold rdN rdL
        rw [z.1.1, z.2.1.1, z.2.2.1]
      have hBe : ∀ k, k < (g 43 0).toNat → rdD g k = rdB g k := fun k hk => by
        have z := hBl.2.2.2 k (by omega)
        unfold rdD rdB
        rw [z.1, z.2.1]
      generalize hcl : cp (rdL g) (kL c) (g 11 1).toNat = CL
      generalize hca : cp (rdC g) (kA c) (g 11 2).toNat = CA
      generalize hcm : cp (rdM g) (kA c) (g 11 2).toNat = CM
      generalize hcb : cp (rdB g) (kB c) (g 43 0).toNat = CB
      have fin : ∀ g1 : mF, (∀ o k, ¬ (o = 19 + 6 * c ∧ (k = 0 ∨ k = 2) ∨ o = 23 + 6 * c ∨ 13 ≤ o ∧ o ≤ 18 ∨ o = 11 ∧ (k = 1 ∨ k = 2 ∨ k = 3) ∨ o = 44 ∨ o = 45 ∨ o = 43 ∧ k = 0) → g1 o k = g o k) → g1 (19 + 6 * c) 0 = N → g1 (19 + 6 * c) 2 = -1 → (∀ i : Nat, (i : Int) < N → ∀ side, side < 4 → g1 (23 + 6 * c) (4 * i + side) = if nearf (g (56 + 5 * s) 0) (g (56 + 5 * s) 1) (g (57 + 5 * s) i) side = -1 then -1 else g (58 + 5 * s) (nearf (g (56 + 5 * s) 0) (g (56 + 5 * s) 1) (g (57 + 5 * s) i) side).toNat) → g1 11 1 = (CL.1 : Int) → g1 11 2 = (CA.1 : Int) → g1 11 3 = 0 → g1 43 0 = (CB.1 : Int) → (∀ j, j < CL.1 → rdL g1 j = CL.2 j) → (∀ j, j < CA.1 → rdC g1 j = CA.2 j) → (∀ j, j < CB.1 → rdB g1 j = CB.2 j) → Q (some (0, N)) (fl g1) := by
        intro g1 hF f0 fh fn f111 f112 f113 f43 fL fA fB
        refine hQ _ g1 ⟨_, rfl, ?_⟩
        clear hQ
        intro d Q hd hQ
        have t99 : g1 99 c = g (19 + 6 * c) 0 := by rw [hF _ _ (by omega)]; exact k1
        have c176'' := c176g X (g := g1) hc (n := g (19 + 6 * c) 0) (pw := g (20 + 6 * c)) ⟨k2, k3⟩ t99 (fun i hi => ⟨by rw [hF _ _ (by omega)]; exact k4 i hi, (k5 i (by omega)).1⟩)
        rw [show sumN (g (19 + 6 * c) 0).toNat (fun i => if g (20 + 6 * c) i = -1 then (0 : Int) else 1) = grn g c from rfl] at c176''
        have t91 : g1 91 s = N := by rw [hF _ _ (by omega)]; exact p3
        have t20 : g1 86 20 = g 11 1 := by rw [hF _ _ (by omega)]; exact hL.1.1
        have t22 : g1 86 22 = g 11 2 := by rw [hF _ _ (by omega)]; exact hA.2.1
        have t24 : g1 86 24 = g 43 0 := by rw [hF _ _ (by omega)]; exact hBl.1
        have c177' := c177 X (g := g1) hc (by rw [t20]; exact hL.1.2) (by rw [t22]; exact hA.1.1) (by rw [t24]; exact ⟨hBl.2.1, hBl.2.2.1⟩)
        have rN : rdN g1 = rdN g := by funext k; unfold rdN; rw [hF _ _ (by omega), hF _ _ (by omega), hF _ _ (by omega)]
        have rM : rdM g1 = rdM g := by funext k; unfold rdM; rw [hF _ _ (by omega), hF _ _ (by omega), hF _ _ (by omega)]
        have rD : rdD g1 = rdD g := by funext k; unfold rdD; rw [hF _ _ (by omega), hF _ _ (by omega)]
        rw [rN, rM, rD, t20, t22, t24, cp_c (rd := rdN g) (rd' := rdL g) (kp := kL c) _ hLe, cp_c (rd := rdD g) (rd' := rdB g) (kp := kB c) _ hBe, hcl, hcm, hcb] at c177'
        apply s_178_0
        try simp only [mi_87, fl_87_4, mi_92, ml_92, fl_92, up_92, fl_87_14, mi_100, ml_100, fl_100, up_100, fl_87_15, mi_101, ml_101, fl_101, up_101, fl_87_3, mi_91, ml_91, fl_91, up_91, fl_87_0, mi_88, ml_88, fl_88, up_88, fl_87_16, mi_102, ml_102, fl_102, up_102, fl_87_17, mi_103, ml_103, fl_103, up_103, true_and, and_true, true_or, or_true, implies_true, b10_0, b10_1]
        repeat' (first | refine And.intro ?_ ?_ | intro _)
        all_goals (try (first | omega | (unfold r32; omega) | exact hQ | exact qe hQ (by omega) | exact qe hQ (by (repeat' split) <;> omega) | exact b01 | exact n01 | exact n21 | exact n31 | exact absurd trivial (by assumption)))
        refine c174 X _ _ _ _ (by omega) ?_
        apply s_178_4
        try simp only [mi_87, fl_87_4, mi_92, ml_92, fl_92, up_92, fl_87_14, mi_100, ml_100, fl_100, up_100, fl_87_15, mi_101, ml_101, fl_101, up_101, fl_87_3, mi_91, ml_91, fl_91, up_91, fl_87_0, mi_88, ml_88, fl_88, up_88, fl_87_16, mi_102, ml_102, fl_102, up_102, fl_87_17, mi_103, ml_103, fl_103, up_103, true_and, and_true, true_or, or_true, implies_true, b10_0, b10_1]
        repeat' (first | refine And.intro ?_ ?_ | intro _)
        all_goals (try (first | omega | (unfold r32; omega) | exact hQ | exact qe hQ (by omega) | exact qe hQ (by (repeat' split) <;> omega) | exact b01 | exact n01 | exact n21 | exact n31 | exact absurd trivial (by assumption)))
        refine c147 X _ _ _ _ (by omega) ?_
        apply s_178_11
        try simp only [mi_87, fl_87_4, mi_92, ml_92, fl_92, up_92, fl_87_14, mi_100, ml_100, fl_100, up_100, fl_87_15, mi_101, ml_101, fl_101, up_101, fl_87_3, mi_91, ml_91, fl_91, up_91, fl_87_0, mi_88, ml_88, fl_88, up_88, fl_87_16, mi_102, ml_102, fl_102, up_102, fl_87_17, mi_103, ml_103, fl_103, up_103, true_and, and_true, true_or, or_true, implies_true, b10_0, b10_1]
        repeat' (first | refine And.intro ?_ ?_ | intro _)
        all_goals (try (first | omega | (unfold r32; omega) | exact hQ | exact qe hQ (by omega) | exact qe hQ (by (repeat' split) <;> omega) | exact b01 | exact n01 | exact n21 | exact n31 | exact absurd trivial (by assumption)))
        refine c176'' _ _ (by omega) ?_
        apply s_178_23
        try simp only [mi_87, fl_87_4, mi_92, ml_92, fl_92, up_92, fl_87_14, mi_100, ml_100, fl_100, up_100, fl_87_15, mi_101, ml_101, fl_101, up_101, fl_87_3, mi_91, ml_91, fl_91, up_91, fl_87_0, mi_88, ml_88, fl_88, up_88, fl_87_16, mi_102, ml_102, fl_102, up_102, fl_87_17, mi_103, ml_103, fl_103, up_103, es, t91, true_and, and_true, true_or, or_true, implies_true, b10_0, b10_1]
        repeat' (first | refine And.intro ?_ ?_ | intro _)
        all_goals (try (first | omega | (unfold r32; omega) | exact hQ | exact qe hQ (by omega) | exact qe hQ (by (repeat' split) <;> omega) | exact b01 | exact n01 | exact n21 | exact n31 | exact absurd trivial (by assumption)))
        refine c177' _ _ (by omega) ?_
        rintro _ m0 ⟨rfl, hM, mh, m20, m22, m24, mN, mM, mD⟩
        have u91 : m0 91 s = N := by rw [hM _ _ (by omega)]; exact t91
        generalize hm1 : mup m0 99 c N = m1
        have fm1 : ∀ o k, ¬ (o = 99 ∧ k = c) → m1 o k = m0 o k := fun o k ho => by rw [← hm1, mup_n ho]
        have u99 : m1 99 c = N := by rw [← hm1, mup_e]
        have loop := lup (P := fun i => ∀ m' : mF, (∀ o k, ¬ ((o = 100 ∨ o = 101 ∨ o = 102) ∧ 36 * c ≤ k ∧ k < 36 * c + i) → m' o k = m1 o k) → (∀ k, k < i → m' 100 (36 * c + k) = g (57 + 5 * s) k % g (56 + 5 * s) 0 ∧ m' 101 (36 * c + k) = g (57 + 5 * s) k / g (56 + 5 * s) 0 ∧ m' 102 (36 * c + k) = -1) → Wp X d SH 178 58 [(2, 87), (0, (c : Int)), (0, (s : Int)), (0, (i : Int))] [] SH (fl m') Q) N.toNat ?_ ?_ 0 (by omega)
        · have l0 := loop m1 (fun _ _ _ => rfl) (fun k hk => absurd hk (by omega))
          apply s_178_44
          try simp only [mi_87, fl_87_4, mi_92, ml_92, fl_92, up_92, fl_87_14, mi_100, ml_100, fl_100, up_100, fl_87_15, mi_101, ml_101, fl_101, up_101, fl_87_3, mi_91, ml_91, fl_91, up_91, fl_87_0, mi_88, ml_88, fl_88, up_88, fl_87_16, mi_102, ml_102, fl_102, up_102, fl_87_17, mi_103, ml_103, fl_103, up_103, e0, es, u91, hm1, true_and, and_true, true_or, or_true, implies_true, b10_0, b10_1]
          repeat' (first | refine And.intro ?_ ?_ | intro _)
          all_goals (try (first | omega | (unfold r32; omega) | exact hQ | exact qe hQ (by omega) | exact qe hQ (by (repeat' split) <;> omega) | exact b01 | exact n01 | exact n21 | exact n31 | exact absurd trivial (by assumption)))
          apply s_178_56
          try simp only [mi_87, fl_87_4, mi_92, ml_92, fl_92, up_92, fl_87_14, mi_100, ml_100, fl_100, up_100, fl_87_15, mi_101, ml_101, fl_101, up_101, fl_87_3, mi_91, ml_91, fl_91, up_91, fl_87_0, mi_88, ml_88, fl_88, up_88, fl_87_16, mi_102, ml_102, fl_102, up_102, fl_87_17, mi_103, ml_103, fl_103, up_103, true_and, and_true, true_or, or_true, implies_true, b10_0, b10_1]
          repeat' (first | refine And.intro ?_ ?_ | intro _)
          all_goals (try (first | omega | (unfold r32; omega) | exact hQ | exact qe hQ (by omega) | exact qe hQ (by (repeat' split) <;> omega) | exact b01 | exact n01 | exact n21 | exact n31 | exact absurd trivial (by assumption)))
          all_goals (try exact l0)
        · intro m' hm' hv
          have w99 : m' 99 c = N := by rw [hm' _ _ (by omega)]; exact u99
          have hall : ∀ o k, ¬ (o = 99 ∧ k = c ∨ (o = 100 ∨ o = 101 ∨ o = 102) ∧ 36 * c ≤ k ∧ k < 36 * c + 36 ∨ o = 103 ∧ k = c ∨ 105 ≤ o ∧ o ≤ 108 ∨ o = 86 ∧ (k = 20 ∨ k = 22 ∨ k = 24)) → m' o k = g1 o k := fun o k ho => by rw [hm' _ _ (by omega), fm1 _ _ (by omega), hM _ _ (by omega)]
          have hall0 : ∀ o k, ¬ (o = 19 + 6 * c ∧ (k = 0 ∨ k = 2) ∨ o = 23 + 6 * c ∨ 13 ≤ o ∧ o ≤ 18 ∨ o = 11 ∧ (k = 1 ∨ k = 2 ∨ k = 3) ∨ o = 44 ∨ o = 45 ∨ o = 43 ∧ k = 0 ∨ o = 99 ∧ k = c ∨ (o = 100 ∨ o = 101 ∨ o = 102) ∧ 36 * c ≤ k ∧ k < 36 * c + 36 ∨ o = 103 ∧ k = c ∨ 105 ≤ o ∧ o ≤ 108 ∨ o = 86 ∧ (k = 20 ∨ k = 22 ∨ k = 24)) → m' o k = g o k := fun o k ho => by rw [hall _ _ (by omega), hF _ _ (by omega)]
          have q111 : m' 11 1 = (CL.1 : Int) := by rw [hall _ _ (by omega)]; exact f111
          have q112 : m' 11 2 = (CA.1 : Int) := by rw [hall _ _ (by omega)]; exact f112
          have q43 : m' 43 0 = (CB.1 : Int) := by rw [hall _ _ (by omega)]; exact f43
          have q20 : m' 86 20 = (CL.1 : Int) := by rw [hm' _ _ (by omega), fm1 _ _ (by omega)]; exact m20
          have q22 : m' 86 22 = (CM.1 : Int) := by rw [hm' _ _ (by omega), fm1 _ _ (by omega)]; exact m22
          have q24 : m' 86 24 = (CB.1 : Int) := by rw [hm' _ _ (by omega), fm1 _ _ (by omega)]; exact m24
          have rL2 : ∀ j, j < CL.1 → rdL m' j = CL.2 j := fun j hj => by rw [← fL j hj]; unfold rdL; rw [hall _ _ (by omega), hall _ _ (by omega), hall _ _ (by omega)]
          have rC2 : ∀ j, j < CA.1 → rdC m' j = CA.2 j := fun j hj => by rw [← fA j hj]; unfold rdC; rw [hall _ _ (by omega), hall _ _ (by omega), hall _ _ (by omega)]
          have rB2 : ∀ j, j < CB.1 → rdB m' j = CB.2 j := fun j hj => by rw [← fB j hj]; unfold rdB; rw [hall _ _ (by omega), hall _ _ (by omega)]
          have rN2 : ∀ j, j < CL.1 → rdN m' j = CL.2 j := fun j hj => by rw [← mN j hj]; unfold rdN; rw [hm' _ _ (by omega), hm' _ _ (by omega), hm' _ _ (by omega), fm1 _ _ (by omega), fm1 _ _ (by omega), fm1 _ _ (by omega)]
          have rM2 : ∀ j, j < CM.1 → rdM m' j = CM.2 j := fun j hj => by rw [← mM j hj]; unfold rdM; rw [hm' _ _ (by omega), hm' _ _ (by omega), hm' _ _ (by omega), fm1 _ _ (by omega), fm1 _ _ (by omega), fm1 _ _ (by omega)]
          have rD2 : ∀ j, j < CB.1 → rdD m' j = CB.2 j := fun j hj => by rw [← mD j hj]; unfold rdD; rw [hm' _ _ (by omega), hm' _ _ (by omega), fm1 _ _ (by omega), fm1 _ _ (by omega)]
          have leL := cp_le (rd := rdL g) (kp := kL c) (g 11 1).toNat
          have leA := cp_le (rd := rdC g) (kp := kA c) (g 11 2).toNat
          have leM := cp_le (rd := rdM g) (kp := kA c) (g 11 2).toNat
          have leB := cp_le (rd := rdB g) (kp := kB c) (g 43 0).toNat
          rw [hcl] at leL
          rw [hca] at leA
          rw [hcm] at leM
          rw [hcb] at leB
          have bL := hL.1
          have bA := hA.1.1
          have bB := hBl.2
          have hlink : Ilink m' := by
            unfold Ilink
            rw [q111, q20]
            refine ⟨⟨rfl, by omega, by omega⟩, fun k hk => ?_⟩
            have z1 := rL2 k (by omega)
            have z2 := rN2 k (by omega)
            obtain ⟨i, i1, i2, -⟩ := cp_m (rd := rdL g) (kp := kL c) (g 11 1).toNat k (by rw [hcl]; omega)
            rw [hcl] at i2
            have z := hL.2 i (by omega)
            rw [i2] at z1 z2
            unfold rdL at z1
            unfold rdN rdL at z2
            have a1 := (Prod.mk.inj z1).1
            have a2 := (Prod.mk.inj (Prod.mk.inj z1).2).1
            have a3 := (Prod.mk.inj (Prod.mk.inj z1).2).2
            have b1 := (Prod.mk.inj z2).1
            have b2 := (Prod.mk.inj (Prod.mk.inj z2).2).1
            have b3 := (Prod.mk.inj (Prod.mk.inj z2).2).2
            rw [a1, a2, a3, b1, b2, b3]
            exact ⟨⟨rfl, z.1.2⟩, ⟨rfl, z.2.1.2⟩, ⟨rfl, z.2.2.2⟩⟩
          have hbell : Ibell m' := by
            unfold Ibell
            rw [q43, q24]
            refine ⟨rfl, by omega, by omega, fun k hk => ?_⟩
            have z1 := rB2 k (by omega)
            have z2 := rD2 k (by omega)
            obtain ⟨i, i1, i2, -⟩ := cp_m (rd := rdB g) (kp := kB c) (g 43 0).toNat k (by rw [hcb]; omega)
            rw [hcb] at i2
            have z := hBl.2.2.2 i (by omega)
            rw [i2] at z1 z2
            unfold rdB at z1
            unfold rdD rdB at z2
            have a1 := (Prod.mk.inj z1).1
            have a2 := (Prod.mk.inj (Prod.mk.inj z1).2).1
            have b1 := (Prod.mk.inj z2).1
            have b2 := (Prod.mk.inj (Prod.mk.inj z2).2).1
            rw [a1, a2, b1, b2]
            exact ⟨rfl, rfl, z.2.2⟩
          have hag : Iagn m' := by
            have tM : ∀ k, k < CM.1 → 0 ≤ (CM.2 k).1 ∧ (CM.2 k).1 ≤ 5999 := fun k hk => by
              obtain ⟨i, i1, i2, -⟩ := cp_m (rd := rdM g) (kp := kA c) (g 11 2).toNat k (by rw [hcm]; exact hk)
              rw [hcm] at i2
              rw [i2]
              exact (hA.2.2.1 i (by omega)).2.2
            have lC := cp_l (rd := rdC g) (kp := kA c) (g 11 2).toNat
            have lM := cp_l (rd := rdM g) (kp := kA c) (g 11 2).toNat
            rw [hca] at lC
            rw [hcm] at lM
            have eq0 : lsO CA.2 CA.1 = byT (lsO CM.2 CM.1) 6000 := by rw [lC, hA.2.2.2, byT_f, ← lM]
            have eqn : CA.1 = CM.1 := by
              have z := congrArg List.length eq0
              rw [lsO_len, byT_len _ tM] at z
              exact z
            unfold Iagn Gag AgR
            rw [q112, q22, show ((CA.1 : Int)).toNat = CA.1 by omega, lsO_congr (rd := rdC m') (rd' := CA.2) rC2, lsO_congr (rd := rdM m') (rd' := CM.2) (n := CA.1) (fun i hi => rM2 i (by omega))]
            refine ⟨⟨by omega, fun k hk => ?_⟩, by omega, fun k hk => ?_, by rw [eq0, eqn]⟩
            · have z1 := rC2 k (by omega)
              obtain ⟨i, i1, i2, -⟩ := cp_m (rd := rdC g) (kp := kA c) (g 11 2).toNat k (by rw [hca]; omega)
              rw [hca] at i2
              have z := hA.1.2 i (by omega)
              rw [i2] at z1
              unfold rdC at z1
              have a1 := (Prod.mk.inj z1).1
              have a2 := (Prod.mk.inj (Prod.mk.inj z1).2).1
              have a3 := (Prod.mk.inj (Prod.mk.inj z1).2).2
              rw [a1, a2, a3]
              exact z
            · have z1 := rM2 k (by omega)
              obtain ⟨i, i1, i2, -⟩ := cp_m (rd := rdM g) (kp := kA c) (g 11 2).toNat k (by rw [hcm]; omega)
              rw [hcm] at i2
              have z := hA.2.2.1 i (by omega)
              rw [i2] at z1
              unfold rdM at z1
              have a1 := (Prod.mk.inj z1).1
              have a2 := (Prod.mk.inj (Prod.mk.inj z1).2).1
              have a3 := (Prod.mk.inj (Prod.mk.inj z1).2).2
              rw [a1, a2, a3]
              exact z
          have hclk : ∀ c', c' < 4 → Iclk m' c' := by
            intro c' hc'
            by_cases hcc : c' = c
            · subst hcc
              unfold Iclk
              rw [w99, hall (19 + 6 * c') 0 (by omega), f0, hall (19 + 6 * c') 2 (by omega), fh, hm' 103 _ (by omega), fm1 103 _ (by omega), mh, hall0 104 _ (by omega), hall0 (19 + 6 * c') 3 (by omega)]
              refine ⟨rfl, by omega, by omega, fun i hi => ?_, fun i hi => ?_, fun i hi _ => ?_, rfl, by omega, by omega, k10, k11, k12⟩
              · rw [(hv i (by omega)).2.2, hall0 _ _ (by omega), hbare i (by omega)]
              · rw [hall0 _ _ (by omega), hbare i hi]; omega
              · rw [hall0 _ _ (by omega), hbare i hi]
            · exact Iclk_congr (hall0 _ _ (by omega)) (fun k _ => hall0 _ _ (by omega)) (fun k _ => hall0 _ _ (by omega)) (hall0 _ _ (by omega)) (hall0 _ _ (by omega)) (fun i hi => hall0 _ _ (by omega)) (hC c' hc')
          have hnr : ∀ c', c' < 4 → Inear m' c' := by
            intro c' hc'
            by_cases hcc : c' = c
            · subst hcc
              have f0' : m' (19 + 6 * c') 0 = N := by rw [hall _ _ (by omega)]; exact f0
              have pb : ∀ i : Nat, (i : Int) < N → 0 ≤ g (57 + 5 * s) i ∧ g (57 + 5 * s) i < g (56 + 5 * s) 0 * g (56 + 5 * s) 1 := fun i hi => ⟨(p6 i hi).2.1, (s5 i hi).2⟩
              unfold Inear
              rw [f0']
              refine ⟨fun i hi => ?_, fun i hi side hsd => ?_, fun i k hi hk => ?_⟩
              · have z := dm_b p1.2 p2.2 (pb i hi)
                rw [(hv i (by omega)).1, (hv i (by omega)).2.1]
                omega
              · rw [hall _ _ (by omega), fn i hi side hsd]
                have z := nearf_r p1.2 p2.2 (pb i hi) hsd
                by_cases hz : nearf (g (56 + 5 * s) 0) (g (56 + 5 * s) 1) (g (57 + 5 * s) i) side = -1
                · rw [if_pos hz]; omega
                · rw [if_neg hz]
                  have y := s4' (nearf (g (56 + 5 * s) 0) (g (56 + 5 * s) 1) (g (57 + 5 * s) i) side).toNat (by omega)
                  rcases y with y | ⟨w, w1, w2, w3⟩
                  · rw [y]; omega
                  · rw [w2]; omega
              · have ni := near_iff p1.2 p2.2 (pb k hk) (pb i hi)
                unfold dst
                rw [(hv i (by omega)).1, (hv i (by omega)).2.1, (hv k (by omega)).1, (hv k (by omega)).2.1]
                rw [← ni]
                clear ni
                unfold CAd
                constructor
                · rintro ⟨side, hsd, he⟩
                  refine ⟨side, hsd, ?_⟩
                  rw [hall _ _ (by omega), fn k hk side hsd, he, if_neg (by have := pb i hi; omega)]
                  exact (s5 i hi).1
                · rintro ⟨side, hsd, he⟩
                  refine ⟨side, hsd, ?_⟩
                  rw [hall _ _ (by omega), fn k hk side hsd] at he
                  have z := nearf_r p1.2 p2.2 (pb k hk) hsd
                  by_cases hz : nearf (g (56 + 5 * s) 0) (g (56 + 5 * s) 1) (g (57 + 5 * s) k) side = -1
                  · rw [if_pos hz] at he; omega
                  · rw [if_neg hz] at he
                    have y := s4' (nearf (g (56 + 5 * s) 0) (g (56 + 5 * s) 1) (g (57 + 5 * s) k) side).toNat (by omega)
                    rcases y with y | ⟨w, w1, w2, w3⟩
                    · rw [y] at he; omega
                    · rw [w2] at he
                      have : w = i := by omega
                      subst this
                      omega
            · exact Inear_congr (hall0 _ _ (by omega)) (fun k => hall0 _ _ (by omega)) (fun i hi => ⟨hall0 _ _ (by omega), hall0 _ _ (by omega)⟩) (hC c' hc').2.2.1 (hN c' hc')
          have hst : Istore (n + 1) m' := by
            have cel : ∀ c' (q : Nat), c' < 4 → celp m' c' (q : Int) = celp g c' (q : Int) := by
              intro c' q hc'
              by_cases hcc : c' = c
              · subst hcc
                have z : ∀ (m : mF) (r : Nat), r ≤ 36 → (∀ i, i < 36 → m (20 + 6 * c') i = -1) → sumN r (fun i => if m (20 + 6 * c') i = (q : Int) then (1 : Int) else 0) = 0 := by
                  intro m r hr hm
                  refine Eq.trans (sumN_congr (b := fun _ => 0) (fun i hi => ?_)) sumN_zero
                  rw [hm i (by omega), if_neg (by omega)]
                unfold celp
                rw [z g _ (by omega) hbare, hall (19 + 6 * c') 0 (by omega), f0, z m' _ (by omega) (fun i hi => by rw [hall0 _ _ (by omega)]; exact hbare i hi)]
              · exact celp_congr (hall0 _ _ (by omega)) (fun k => hall0 _ _ (by omega))
            refine ⟨fun k hk => ?_, fun q hq => ?_, fun q hq => ?_⟩
            · rw [hall0 _ _ (by omega), hall0 _ _ (by omega)]; exact hS.1 k hk
            · rw [hall0 _ _ (by omega), hall0 _ _ (by omega)]; exact hS.2.1 q hq
            · have z := hS.2.2 q hq
              rw [hall0 97 _ (by omega), hall0 9 _ (by omega), hall0 9 _ (by omega), hall0 9 _ (by omega), hall0 9 _ (by omega), hall0 10 _ (by omega), cel 0 q (by omega), cel 1 q (by omega), cel 2 q (by omega), cel 3 q (by omega)]
              omega
          have hq : Q (some (0, N)) (fl m') := hQ _ m' ⟨rfl, hclk, hnr, hlink, hag, hbell, hst, fun o k ho => hall0 _ _ (by omega), Or.inr (by rw [hall _ _ (by omega)]; exact f113)⟩
          clear hclk hnr hlink hag hbell hst
          apply s_178_58
          try simp only [mi_87, fl_87_4, mi_92, ml_92, fl_92, up_92, fl_87_14, mi_100, ml_100, fl_100, up_100, fl_87_15, mi_101, ml_101, fl_101, up_101, fl_87_3, mi_91, ml_91, fl_91, up_91, fl_87_0, mi_88, ml_88, fl_88, up_88, fl_87_16, mi_102, ml_102, fl_102, up_102, fl_87_17, mi_103, ml_103, fl_103, up_103, e0, w99, true_and, and_true, true_or, or_true, implies_true, b10_0, b10_1]
          repeat' (first | refine And.intro ?_ ?_ | intro _)
          all_goals (try (first | omega | (unfold r32; omega) | exact hQ | exact qe hQ (by omega) | exact qe hQ (by (repeat' split) <;> omega) | exact b01 | exact n01 | exact n21 | exact n31 | exact absurd trivial (by assumption)))
          all_goals (try exact hq)
        · intro i hi ih m' hm' hv
          have e2 : ((i : Int)).toNat = i := by omega
          have e10 : ((i + 1 : Nat) : Int) = (i : Int) + 1 := by omega
          have eci : (36 * (c : Int) + (i : Int)).toNat = 36 * c + i := by omega
          have esi : (36 * (s : Int) + (i : Int)).toNat = 36 * s + i := by omega
          have w99 : m' 99 c = N := by rw [hm' _ _ (by omega)]; exact u99
          have pbi := (p6 i (by omega)).2
          have pb2 := (s5 i (by omega)).2
          have db := dm_b p1.2 p2.2 ⟨pbi.1, pb2⟩
          have td := tdn pbi.1 (g (56 + 5 * s) 0)
          have tm := tmn pbi.1 (g (56 + 5 * s) 0)
          have v90 : ∀ m'' : mF, (∀ o k, ¬ ((o = 100 ∨ o = 101 ∨ o = 102) ∧ 36 * c ≤ k ∧ k < 36 * c + (i + 1)) → m'' o k = m1 o k) → m'' 90 (36 * s + i) = g (57 + 5 * s) i ∧ m'' 87 s = g (56 + 5 * s) 0 := fun m'' hm'' => by
            rw [hm'' _ _ (by omega), hm'' _ _ (by omega), fm1 _ _ (by omega), fm1 _ _ (by omega), hM _ _ (by omega), hM _ _ (by omega), hF _ _ (by omega), hF _ _ (by omega)]
            exact ⟨(p6 i (by omega)).1, p1.1⟩
          generalize hh1 : mup m' 100 (36 * c + i) (g (57 + 5 * s) i % g (56 + 5 * s) 0) = n1
          generalize hh2 : mup n1 101 (36 * c + i) (g (57 + 5 * s) i / g (56 + 5 * s) 0) = n2
          generalize hh3 : mup n2 102 (36 * c + i) (-1) = n3
          have fn1 : ∀ o k, ¬ (o = 100 ∧ k = 36 * c + i) → n1 o k = m' o k := fun o k ho => by rw [← hh1, mup_n ho]
          have fn3 : ∀ o k, ¬ ((o = 100 ∨ o = 101 ∨ o = 102) ∧ k = 36 * c + i) → n3 o k = m' o k := fun o k ho => by rw [← hh3, mup_n (by omega), ← hh2, mup_n (by omega), fn1 _ _ (by omega)]
          obtain ⟨va, vb⟩ := v90 m' (fun o k ho => hm' o k (by omega))
          obtain ⟨vc, vd⟩ := v90 n1 (fun o k ho => by rw [fn1 _ _ (by omega)]; exact hm' o k (by omega))
          have nx := ih n3 (fun o k ho => by rw [fn3 _ _ (by omega)]; exact hm' o k (by omega)) (fun k hk => by
            by_cases hki : k = i
            · subst hki
              refine ⟨?_, ?_, ?_⟩
              · rw [← hh3, mup_n (by omega), ← hh2, mup_n (by omega), ← hh1, mup_e]
              · rw [← hh3, mup_n (by omega), ← hh2, mup_e]
              · rw [← hh3, mup_e]
            · rw [fn3 _ _ (by omega), fn3 _ _ (by omega), fn3 _ _ (by omega)]
              exact hv k (by omega))
          rw [e10] at nx
          apply s_178_58
          try simp only [mi_87, fl_87_4, mi_92, ml_92, fl_92, up_92, fl_87_14, mi_100, ml_100, fl_100, up_100, fl_87_15, mi_101, ml_101, fl_101, up_101, fl_87_3, mi_91, ml_91, fl_91, up_91, fl_87_0, mi_88, ml_88, fl_88, up_88, fl_87_16, mi_102, ml_102, fl_102, up_102, fl_87_17, mi_103, ml_103, fl_103, up_103, e0, es, w99, eci, esi, va, vb, td, tm, hh1, true_and, and_true, true_or, or_true, implies_true, b10_0, b10_1]
          repeat' (first | refine And.intro ?_ ?_ | intro _)
          all_goals (try (first | omega | (unfold r32; omega) | exact hQ | exact qe hQ (by omega) | exact qe hQ (by (repeat' split) <;> omega) | exact b01 | exact n01 | exact n21 | exact n31 | exact absurd trivial (by assumption)))
          apply s_178_97
          try simp only [mi_87, fl_87_4, mi_92, ml_92, fl_92, up_92, fl_87_14, mi_100, ml_100, fl_100, up_100, fl_87_15, mi_101, ml_101, fl_101, up_101, fl_87_3, mi_91, ml_91, fl_91, up_91, fl_87_0, mi_88, ml_88, fl_88, up_88, fl_87_16, mi_102, ml_102, fl_102, up_102, fl_87_17, mi_103, ml_103, fl_103, up_103, e0, es, eci, esi, vc, vd, td, tm, hh2, true_and, and_true, true_or, or_true, implies_true, b10_0, b10_1]
          repeat' (first | refine And.intro ?_ ?_ | intro _)
          all_goals (try (first | omega | (unfold r32; omega) | exact hQ | exact qe hQ (by omega) | exact qe hQ (by (repeat' split) <;> omega) | exact b01 | exact n01 | exact n21 | exact n31 | exact absurd trivial (by assumption)))
          apply s_178_126
          try simp only [mi_87, fl_87_4, mi_92, ml_92, fl_92, up_92, fl_87_14, mi_100, ml_100, fl_100, up_100, fl_87_15, mi_101, ml_101, fl_101, up_101, fl_87_3, mi_91, ml_91, fl_91, up_91, fl_87_0, mi_88, ml_88, fl_88, up_88, fl_87_16, mi_102, ml_102, fl_102, up_102, fl_87_17, mi_103, ml_103, fl_103, up_103, eci, hh3, true_and, and_true, true_or, or_true, implies_true, b10_0, b10_1]
          repeat' (first | refine And.intro ?_ ?_ | intro _)
          all_goals (try (first | omega | (unfold r32; omega) | exact hQ | exact qe hQ (by omega) | exact qe hQ (by (repeat' split) <;> omega) | exact b01 | exact n01 | exact n21 | exact n31 | exact absurd trivial (by assumption)))
          apply s_178_138
          try simp only [mi_87, fl_87_4, mi_92, ml_92, fl_92, up_92, fl_87_14, mi_100, ml_100, fl_100, up_100, fl_87_15, mi_101, ml_101, fl_101, up_101, fl_87_3, mi_91, ml_91, fl_91, up_91, fl_87_0, mi_88, ml_88, fl_88, up_88, fl_87_16, mi_102, ml_102, fl_102, up_102, fl_87_17, mi_103, ml_103, fl_103, up_103, true_and, and_true, true_or, or_true, implies_true, b10_0, b10_1]
          repeat' (first | refine And.intro ?_ ?_ | intro _)
          all_goals (try (first | omega | (unfold r32; omega) | exact hQ | exact qe hQ (by omega) | exact qe hQ (by (repeat' split) <;> omega) | exact b01 | exact n01 | exact n21 | exact n31 | exact absurd trivial (by assumption)))
          all_goals (try exact nx)
      apply s_100_0
      try simp only [mi_1, fl_1_4, mi_12, cm_o, sm_o, sl_2, su_2, fl_1_5, mi_44, cl_0, cu_0, true_and, and_true, true_or, or_true, implies_true, b10_0, b10_1]
      repeat' (first | refine And.intro ?_ ?_ | intro _)
      all_goals (try (first | omega | (unfold r32; omega) | exact hQ | exact qe hQ (by omega) | exact qe hQ (by (repeat' split) <;> omega) | exact b01 | exact n01 | exact n21 | exact n31 | exact absurd trivial (by assumption)))
      refine c32 X g hc _ _ (by omega) ?_
      apply s_100_8
      try simp only [mi_1, fl_1_4, mi_12, cm_o, sm_o, sl_2, su_2, fl_1_5, mi_44, cl_0, cu_0, true_and, and_true, true_or, or_true, implies_true, b10_0, b10_1]
      repeat' (first | refine And.intro ?_ ?_ | intro _)
      all_goals (try (first | omega | (unfold r32; omega) | exact hQ | exact qe hQ (by omega) | exact qe hQ (by (repeat' split) <;> omega) | exact b01 | exact n01 | exact n21 | exact n31 | exact absurd trivial (by assumption)))
      refine c135 X g hs _ _ (by omega) ?_
      apply s_100_14
      try simp only [mi_1, fl_1_4, mi_12, cm_o, sm_o, sl_2, su_2, fl_1_5, mi_44, cl_0, cu_0, hc, true_and, and_true, true_or, or_true, implies_true, b10_0, b10_1]
      repeat' (first | refine And.intro ?_ ?_ | intro _)
      all_goals (try (first | omega | (unfold r32; omega) | exact hQ | exact qe hQ (by omega) | exact qe hQ (by (repeat' split) <;> omega) | exact b01 | exact n01 | exact n21 | exact n31 | exact absurd trivial (by assumption)))
      refine c17' _ _ (by omega) ?_
      apply s_100_33
      try simp only [mi_1, fl_1_4, mi_12, cm_o, sm_o, sl_2, su_2, fl_1_5, mi_44, cl_0, cu_0, hc, hs, hNl, true_and, and_true, true_or, or_true, implies_true, b10_0, b10_1]
      repeat' (first | refine And.intro ?_ ?_ | intro _)
      all_goals (try (first | omega | (unfold r32; omega) | exact hQ | exact qe hQ (by omega) | exact qe hQ (by (repeat' split) <;> omega) | exact b01 | exact n01 | exact n21 | exact n31 | exact absurd trivial (by assumption)))
      refine c15' _ _ (by omega) ?_
      rintro _ h1 ⟨rfl, hF1, f0, fn⟩
      have c36' := c36 X (g := h1) hc (by rw [hF1 _ _ (by omega)]; exact hL.1.2) (by rw [hF1 _ _ (by omega)]; exact hA.1.1)
      have rL : rdL h1 = rdL g := by funext k; unfold rdL; rw [hF1 _ _ (by omega), hF1 _ _ (by omega), hF1 _ _ (by omega)]
      have rC : rdC h1 = rdC g := by funext k; unfold rdC; rw [hF1 _ _ (by omega), hF1 _ _ (by omega), hF1 _ _ (by omega)]
      rw [rL, rC, hF1 11 1 (by omega), hF1 11 2 (by omega), hcl, hca] at c36'
      apply s_100_54
      try simp only [mi_1, fl_1_4, mi_12, cm_o, sm_o, sl_2, su_2, fl_1_5, mi_44, cl_0, cu_0, true_and, and_true, true_or, or_true, implies_true, b10_0, b10_1]
      repeat' (first | refine And.intro ?_ ?_ | intro _)
      all_goals (try (first | omega | (unfold r32; omega) | exact hQ | exact qe hQ (by omega) | exact qe hQ (by (repeat' split) <;> omega) | exact b01 | exact n01 | exact n21 | exact n31 | exact absurd trivial (by assumption)))
      refine c36' _ _ (by omega) ?_
      rintro _ h2 ⟨rfl, hF2, fh, f111, f112, f113, fL, fA⟩
      have c5' := c5 X (g := h2) (c := c) (by rw [hF2 _ _ (by omega), hF1 _ _ (by omega)]; exact ⟨hBl.2.1, hBl.2.2.1⟩)
      have rB : rdB h2 = rdB g := by funext k; unfold rdB; rw [hF2 _ _ (by omega), hF2 _ _ (by omega), hF1 _ _ (by omega), hF1 _ _ (by omega)]
      rw [rB, hF2 43 0 (by omega), hF1 43 0 (by omega), hcb] at c5'
      apply s_100_62
      try simp only [mi_1, fl_1_4, mi_12, cm_o, sm_o, sl_2, su_2, fl_1_5, mi_44, cl_0, cu_0, true_and, and_true, true_or, or_true, implies_true, b10_0, b10_1]
      repeat' (first | refine And.intro ?_ ?_ | intro _)
      all_goals (try (first | omega | (unfold r32; omega) | exact hQ | exact qe hQ (by omega) | exact qe hQ (by (repeat' split) <;> omega) | exact b01 | exact n01 | exact n21 | exact n31 | exact absurd trivial (by assumption)))
      refine c5' _ _ (by omega) ?_
      rintro _ h3 ⟨rfl, hF3, f43, fB⟩
      have f0' : h3 (19 + 6 * c) 0 = N := by rw [hF3 _ _ (by omega), hF2 _ _ (by omega)]; exact f0
      have hq := fin h3 (fun o k ho => by rw [hF3 _ _ (by omega), hF2 _ _ (by omega), hF1 _ _ (by omega)]) f0' (by rw [hF3 _ _ (by omega)]; exact fh) (fun i hi side hsd => by rw [hF3 _ _ (by omega), hF2 _ _ (by omega)]; exact fn i hi side hsd) (by rw [hF3 _ _ (by omega)]; exact f111) (by rw [hF3 _ _ (by omega)]; exact f112) (by rw [hF3 _ _ (by omega)]; exact f113) f43 (fun j hj => by rw [← fL j hj]; unfold rdL; rw [hF3 _ _ (by omega), hF3 _ _ (by omega), hF3 _ _ (by omega)]) (fun j hj => by rw [← fA j hj]; unfold rdC; rw [hF3 _ _ (by omega), hF3 _ _ (by omega), hF3 _ _ (by omega)]) fB
      apply s_100_70
      try simp only [mi_1, fl_1_4, mi_12, cm_o, sm_o, sl_2, su_2, fl_1_5, mi_44, cl_0, cu_0, hc, f0', true_and, and_true, true_or, or_true, implies_true, b10_0, b10_1]
      repeat' (first | refine And.intro ?_ ?_ | intro _)
      all_goals (try (first | omega | (unfold r32; omega) | exact hQ | exact qe hQ (by omega) | exact qe hQ (by (repeat' split) <;> omega) | exact b01 | exact n01 | exact n21 | exact n31 | exact absurd trivial (by assumption)))
      all_goals (try exact hq)
    · have q1 : Ret X 60 100 [(2, 1), (0, (c : Int)), (0, (s : Int)), (3, 0), (3, 0)] g (some (0, -1003)) g := by
        intro d Q hd hQ
        apply s_100_0
        try simp only [mi_1, fl_1_4, mi_12, cm_o, sm_o, sl_2, su_2, fl_1_5, mi_44, cl_0, cu_0, true_and, and_true, true_or, or_true, implies_true, b10_0, b10_1]
        repeat' (first | refine And.intro ?_ ?_ | intro _)
        all_goals (try (first | omega | (unfold r32; omega) | exact hQ | exact qe hQ (by omega) | exact qe hQ (by (repeat' split) <;> omega) | exact b01 | exact n01 | exact n21 | exact n31 | exact absurd trivial (by assumption)))
        refine c32 X g hc _ _ (by omega) ?_
        apply s_100_8
        try simp only [mi_1, fl_1_4, mi_12, cm_o, sm_o, sl_2, su_2, fl_1_5, mi_44, cl_0, cu_0, true_and, and_true, true_or, or_true, implies_true, b10_0, b10_1]
        repeat' (first | refine And.intro ?_ ?_ | intro _)
        all_goals (try (first | omega | (unfold r32; omega) | exact hQ | exact qe hQ (by omega) | exact qe hQ (by (repeat' split) <;> omega) | exact b01 | exact n01 | exact n21 | exact n31 | exact absurd trivial (by assumption)))
        refine c135 X g hs _ _ (by omega) ?_
        apply s_100_14
        try simp only [mi_1, fl_1_4, mi_12, cm_o, sm_o, sl_2, su_2, fl_1_5, mi_44, cl_0, cu_0, hc, true_and, and_true, true_or, or_true, implies_true, b10_0, b10_1]
        repeat' (first | refine And.intro ?_ ?_ | intro _)
        all_goals (try (first | omega | (unfold r32; omega) | exact hQ | exact qe hQ (by omega) | exact qe hQ (by (repeat' split) <;> omega) | exact b01 | exact n01 | exact n21 | exact n31 | exact absurd trivial (by assumption)))
        refine c17' _ _ (by omega) ?_
        apply s_100_33
        try simp only [mi_1, fl_1_4, mi_12, cm_o, sm_o, sl_2, su_2, fl_1_5, mi_44, cl_0, cu_0, hc, hs, true_and, and_true, true_or, or_true, implies_true, b10_0, b10_1]
        repeat' (first | refine And.intro ?_ ?_ | intro _)
        all_goals (try (first | omega | (unfold r32; omega) | exact hQ | exact qe hQ (by omega) | exact qe hQ (by (repeat' split) <;> omega) | exact b01 | exact n01 | exact n21 | exact n31 | exact absurd trivial (by assumption)))
      have q2 : Ret X 60 178 [(2, 87), (0, (c : Int)), (0, (s : Int)), (3, 0)] g (some (0, -1003)) g := by
        intro d Q hd hQ
        apply s_178_0
        try simp only [mi_87, fl_87_4, mi_92, ml_92, fl_92, up_92, fl_87_14, mi_100, ml_100, fl_100, up_100, fl_87_15, mi_101, ml_101, fl_101, up_101, fl_87_3, mi_91, ml_91, fl_91, up_91, fl_87_0, mi_88, ml_88, fl_88, up_88, fl_87_16, mi_102, ml_102, fl_102, up_102, fl_87_17, mi_103, ml_103, fl_103, up_103, true_and, and_true, true_or, or_true, implies_true, b10_0, b10_1]
        repeat' (first | refine And.intro ?_ ?_ | intro _)
        all_goals (try (first | omega | (unfold r32; omega) | exact hQ | exact qe hQ (by omega) | exact qe hQ (by (repeat' split) <;> omega) | exact b01 | exact n01 | exact n21 | exact n31 | exact absurd trivial (by assumption)))
        refine c174 X _ _ _ _ (by omega) ?_
        apply s_178_4
        try simp only [mi_87, fl_87_4, mi_92, ml_92, fl_92, up_92, fl_87_14, mi_100, ml_100, fl_100, up_100, fl_87_15, mi_101, ml_101, fl_101, up_101, fl_87_3, mi_91, ml_91, fl_91, up_91, fl_87_0, mi_88, ml_88, fl_88, up_88, fl_87_16, mi_102, ml_102, fl_102, up_102, fl_87_17, mi_103, ml_103, fl_103, up_103, true_and, and_true, true_or, or_true, implies_true, b10_0, b10_1]
        repeat' (first | refine And.intro ?_ ?_ | intro _)
        all_goals (try (first | omega | (unfold r32; omega) | exact hQ | exact qe hQ (by omega) | exact qe hQ (by (repeat' split) <;> omega) | exact b01 | exact n01 | exact n21 | exact n31 | exact absurd trivial (by assumption)))
        refine c147 X _ _ _ _ (by omega) ?_
        apply s_178_11
        try simp only [mi_87, fl_87_4, mi_92, ml_92, fl_92, up_92, fl_87_14, mi_100, ml_100, fl_100, up_100, fl_87_15, mi_101, ml_101, fl_101, up_101, fl_87_3, mi_91, ml_91, fl_91, up_91, fl_87_0, mi_88, ml_88, fl_88, up_88, fl_87_16, mi_102, ml_102, fl_102, up_102, fl_87_17, mi_103, ml_103, fl_103, up_103, true_and, and_true, true_or, or_true, implies_true, b10_0, b10_1]
        repeat' (first | refine And.intro ?_ ?_ | intro _)
        all_goals (try (first | omega | (unfold r32; omega) | exact hQ | exact qe hQ (by omega) | exact qe hQ (by (repeat' split) <;> omega) | exact b01 | exact n01 | exact n21 | exact n31 | exact absurd trivial (by assumption)))
        refine c176' _ _ (by omega) ?_
        apply s_178_23
        try simp only [mi_87, fl_87_4, mi_92, ml_92, fl_92, up_92, fl_87_14, mi_100, ml_100, fl_100, up_100, fl_87_15, mi_101, ml_101, fl_101, up_101, fl_87_3, mi_91, ml_91, fl_91, up_91, fl_87_0, mi_88, ml_88, fl_88, up_88, fl_87_16, mi_102, ml_102, fl_102, up_102, fl_87_17, mi_103, ml_103, fl_103, up_103, es, p3, true_and, and_true, true_or, or_true, implies_true, b10_0, b10_1]
        repeat' (first | refine And.intro ?_ ?_ | intro _)
        all_goals (try (first | omega | (unfold r32; omega) | exact hQ | exact qe hQ (by omega) | exact qe hQ (by (repeat' split) <;> omega) | exact b01 | exact n01 | exact n21 | exact n31 | exact absurd trivial (by assumption)))
      exact PR_of q1 q2 rr d Q hd hQ
  · obtain ⟨y, hy⟩ : ∃ y, Ret X 0 32 [(2, 12), (0, a)] g (some (2, y)) g ∧ (¬ (0 ≤ a ∧ a ≤ 3) → y = 0) := by
      by_cases ha : 0 ≤ a ∧ a ≤ 3
      · obtain ⟨c, rfl⟩ : ∃ c : Nat, a = (c : Int) := ⟨a.toNat, by omega⟩
        exact ⟨_, c32 X g (by omega), fun z => absurd ha z⟩
      · exact ⟨_, c32n X g a ha, fun _ => rfl⟩
    have q1 : Ret X 60 100 [(2, 1), (0, a), (0, b), (3, 0), (3, 0)] g (some (0, -1001)) g := by
      intro d Q hd hQ
      apply s_100_0
      try simp only [mi_1, fl_1_4, mi_12, cm_o, sm_o, sl_2, su_2, fl_1_5, mi_44, cl_0, cu_0, true_and, and_true, true_or, or_true, implies_true, b10_0, b10_1]
      repeat' (first | refine And.intro ?_ ?_ | intro _)
      all_goals (try (first | omega | (unfold r32; omega) | exact hQ | exact qe hQ (by omega) | exact qe hQ (by (repeat' split) <;> omega) | exact b01 | exact n01 | exact n21 | exact n31 | exact absurd trivial (by assumption)))
      refine hy.1 _ _ (by omega) ?_
      apply s_100_8
      try simp only [mi_1, fl_1_4, mi_12, cm_o, sm_o, sl_2, su_2, fl_1_5, mi_44, cl_0, cu_0, true_and, and_true, true_or, or_true, implies_true, b10_0, b10_1]
      repeat' (first | refine And.intro ?_ ?_ | intro _)
      all_goals (try (first | omega | (unfold r32; omega) | exact hQ | exact qe hQ (by omega) | exact qe hQ (by (repeat' split) <;> omega) | exact b01 | exact n01 | exact n21 | exact n31 | exact absurd trivial (by assumption)))
      by_cases hb : 0 ≤ b ∧ b ≤ 5
      · obtain ⟨s, rfl⟩ : ∃ s : Nat, b = (s : Int) := ⟨b.toNat, by omega⟩
        have y0 := hy.2 (by omega)
        subst y0
        refine c135 X g (show s < 6 by omega) _ _ (by omega) ?_
        apply s_100_14
        try simp only [mi_1, fl_1_4, mi_12, cm_o, sm_o, sl_2, su_2, fl_1_5, mi_44, cl_0, cu_0, true_and, and_true, true_or, or_true, implies_true, b10_0, b10_1]
        repeat' (first | refine And.intro ?_ ?_ | intro _)
        all_goals (try (first | omega | (unfold r32; omega) | exact hQ | exact qe hQ (by omega) | exact qe hQ (by (repeat' split) <;> omega) | exact b01 | exact n01 | exact n21 | exact n31 | exact absurd trivial (by assumption)))
      · refine c135n X g _ hb _ _ (by omega) ?_
        by_cases hy0 : y = 0
        · subst hy0
          apply s_100_14
          try simp only [mi_1, fl_1_4, mi_12, cm_o, sm_o, sl_2, su_2, fl_1_5, mi_44, cl_0, cu_0, true_and, and_true, true_or, or_true, implies_true, b10_0, b10_1]
          repeat' (first | refine And.intro ?_ ?_ | intro _)
          all_goals (try (first | omega | (unfold r32; omega) | exact hQ | exact qe hQ (by omega) | exact qe hQ (by (repeat' split) <;> omega) | exact b01 | exact n01 | exact n21 | exact n31 | exact absurd trivial (by assumption)))
        · skip
          apply s_100_14
          try simp only [mi_1, fl_1_4, mi_12, cm_o, sm_o, sl_2, su_2, fl_1_5, mi_44, cl_0, cu_0, true_and, and_true, true_or, or_true, implies_true, b10_0, b10_1]
          repeat' (first | refine And.intro ?_ ?_ | intro _)
          all_goals (try (first | omega | (unfold r32; omega) | exact hQ | exact qe hQ (by omega) | exact qe hQ (by (repeat' split) <;> omega) | exact b01 | exact n01 | exact n21 | exact n31 | exact absurd trivial (by assumption)))
    have q2 : Ret X 60 178 [(2, 87), (0, a), (0, b), (3, 0)] g (some (0, -1001)) g := by
      intro d Q hd hQ
      apply s_178_0
      try simp only [mi_87, fl_87_4, mi_92, ml_92, fl_92, up_92, fl_87_14, mi_100, ml_100, fl_100, up_100, fl_87_15, mi_101, ml_101, fl_101, up_101, fl_87_3, mi_91, ml_91, fl_91, up_91, fl_87_0, mi_88, ml_88, fl_88, up_88, fl_87_16, mi_102, ml_102, fl_102, up_102, fl_87_17, mi_103, ml_103, fl_103, up_103, true_and, and_true, true_or, or_true, implies_true, b10_0, b10_1]
      repeat' (first | refine And.intro ?_ ?_ | intro _)
      all_goals (try (first | omega | (unfold r32; omega) | exact hQ | exact qe hQ (by omega) | exact qe hQ (by (repeat' split) <;> omega) | exact b01 | exact n01 | exact n21 | exact n31 | exact absurd trivial (by assumption)))
      refine c174 X _ _ _ _ (by omega) ?_
      apply s_178_4
      try simp only [mi_87, fl_87_4, mi_92, ml_92, fl_92, up_92, fl_87_14, mi_100, ml_100, fl_100, up_100, fl_87_15, mi_101, ml_101, fl_101, up_101, fl_87_3, mi_91, ml_91, fl_91, up_91, fl_87_0, mi_88, ml_88, fl_88, up_88, fl_87_16, mi_102, ml_102, fl_102, up_102, fl_87_17, mi_103, ml_103, fl_103, up_103, true_and, and_true, true_or, or_true, implies_true, b10_0, b10_1]
      repeat' (first | refine And.intro ?_ ?_ | intro _)
      all_goals (try (first | omega | (unfold r32; omega) | exact hQ | exact qe hQ (by omega) | exact qe hQ (by (repeat' split) <;> omega) | exact b01 | exact n01 | exact n21 | exact n31 | exact absurd trivial (by assumption)))
      refine c147 X _ _ _ _ (by omega) ?_
      apply s_178_11
      try simp only [mi_87, fl_87_4, mi_92, ml_92, fl_92, up_92, fl_87_14, mi_100, ml_100, fl_100, up_100, fl_87_15, mi_101, ml_101, fl_101, up_101, fl_87_3, mi_91, ml_91, fl_91, up_91, fl_87_0, mi_88, ml_88, fl_88, up_88, fl_87_16, mi_102, ml_102, fl_102, up_102, fl_87_17, mi_103, ml_103, fl_103, up_103, true_and, and_true, true_or, or_true, implies_true, b10_0, b10_1]
      repeat' (first | refine And.intro ?_ ?_ | intro _)
      all_goals (try (first | omega | (unfold r32; omega) | exact hQ | exact qe hQ (by omega) | exact qe hQ (by (repeat' split) <;> omega) | exact b01 | exact n01 | exact n21 | exact n31 | exact absurd trivial (by assumption)))
    exact PR_of q1 q2 rr d Q hd hQ
