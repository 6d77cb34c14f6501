/-! the reference's night, worked out -/
def rdM (g : mF) (k : Nat) : Int × Int × Int := (g 106 (3 * k + 2), g 106 (3 * k), g 106 (3 * k + 1))
def rdC (g : mF) (k : Nat) : Int × Int × Int := (g 16 k, g 17 k, g 18 k)
def lsO (rd : Nat → Int × Int × Int) (n : Nat) : List (Int × Int × Int) := (List.range n).map rd
def byT (l : List (Int × Int × Int)) (n : Nat) : List (Int × Int × Int) := (List.range n).flatMap (fun t : Nat => l.filter (fun x => x.1 == (t : Int)))
/-- the agains of both sides -/
def AgR (G g : mF) : Prop := g 86 22 = G 11 2 ∧ (∀ k : Nat, (k : Int) < G 11 2 → (0 ≤ g 106 (3 * k) ∧ g 106 (3 * k) ≤ 3) ∧ (0 ≤ g 106 (3 * k + 1) ∧ g 106 (3 * k + 1) ≤ 35) ∧ (0 ≤ g 106 (3 * k + 2) ∧ g 106 (3 * k + 2) ≤ 5999)) ∧ lsO (rdC G) (G 11 2).toNat = byT (lsO (rdM g) (G 11 2).toNat) 6000
noncomputable def aSt (G : mF) (D : Int) (c : Nat) (s : mF) (x : Int × Int × Int) : mF := if x.2.1 = (c : Int) ∧ s 2 c ≤ x.1 then fireS G D c x.2.2.toNat x.1 s else s
theorem lsO_s {rd : Nat → Int × Int × Int} {n : Nat} : lsO rd (n + 1) = lsO rd n ++ [rd n] := by unfold lsO; rw [List.range_succ, List.map_append]; rfl
theorem byT_s {l : List (Int × Int × Int)} {n : Nat} : byT l (n + 1) = byT l n ++ l.filter (fun x => x.1 == (n : Int)) := by unfold byT; rw [List.range_succ, List.flatMap_append]; simp
theorem agS_l {G : mF} {D : Int} {c : Nat} {s : mF} : ∀ n, agS G D c s n = (lsO (rdC G) n).foldl (aSt G D c) s := by
  intro n
  induction n with
  | zero => rfl
  | succ n ih =>
    rw [lsO_s, List.foldl_append, ← ih]
    show (if G 17 n = (c : Int) ∧ agS G D c s n 2 c ≤ G 16 n ∧ agS G D c s n (3 + c) (G 18 n).toNat = -1 then fireS G D c (G 18 n).toNat (G 16 n) (agS G D c s n) else agS G D c s n) = aSt G D c (agS G D c s n) (rdC G n)
    unfold aSt rdC
    simp only []
    by_cases h : G 17 n = (c : Int) ∧ agS G D c s n 2 c ≤ G 16 n
    · rw [if_pos h]
      by_cases h2 : agS G D c s n (3 + c) (G 18 n).toNat = -1
      · rw [if_pos ⟨h.1, h.2, h2⟩]
      · rw [if_neg (fun z => h2 z.2.2), fireS_n (fun z => h2 z.2.2)]
    · rw [if_neg h, if_neg (fun z => h ⟨z.1, z.2.1⟩)]
theorem fireS_0 {G : mF} {D : Int} {c cell : Nat} {t : Int} {s : mF} {k : Nat} : fireS G D c cell t s 0 k = s 0 k := by
  unfold fireS
  split
  · rw [setS_n (by omega)]
  · rfl
theorem aSt_0 {G : mF} {D : Int} {c : Nat} {s : mF} {x : Int × Int × Int} {k : Nat} : aSt G D c s x 0 k = s 0 k := by
  unfold aSt
  split
  · exact fireS_0
  · rfl
theorem fold_0 {G : mF} {D : Int} {c : Nat} {k : Nat} : ∀ (l : List (Int × Int × Int)) (s : mF), l.foldl (aSt G D c) s 0 k = s 0 k := by
  intro l
  induction l with
  | nil => intro s; rfl
  | cons x l ih => intro s; rw [List.foldl_cons, ih, aSt_0]
theorem comeS_0 {G : mF} {D : Int} {c : Nat} {s : mF} {k : Nat} : comeS G D c s 0 k = litS G c (lt G s c) s 0 k := by
  unfold comeS
  rw [agS_l, fold_0, fireS_0]
theorem FM_agr {G gs g : mF} (hA : AgR G gs) (h : FM gs g) : AgR G g := by
  have e : ∀ k, g 106 k = gs 106 k := fun k => h _ _ (by omega)
  have e2 : rdM g = rdM gs := by funext k; unfold rdM; simp only [e]
  unfold AgR at *
  simp only [e, e2, h 86 22 (by omega)]
  exact hA
theorem c190 (X : mX) {c : Nat} (hc : c < 4) {G g s : mF} {D M : Int} (hA : MAg D G g) (hR : AgR G g) (hG : CG G) (hGa : 0 ≤ G 11 2 ∧ G 11 2 ≤ 12) (hDb : -1 ≤ D ∧ D ≤ 50) (hS : MS g s) (hI : SI G M s) (hM : 9239 ≤ M ∧ M ≤ 50000) (hl : s 0 c ≠ -1) : Rel X 5 190 [(2, 87), (0, (c : Int)), (3, 0), (3, 0), (3, 0)] g (fun ro g' => ro = none ∧ FM g g' ∧ MS g' (agS G D c s (G 11 2).toNat) ∧ SI G M (agS G D c s (G 11 2).toNat)) := by
  intro d Q hd hQ
  have e0 : ((c : Int)).toNat = c := by omega
  rw [agS_l, hR.2.2] at hQ
  have key := lup (P := fun t => ∀ h : mF, FM g h → MS h ((byT (lsO (rdM g) (G 11 2).toNat) t).foldl (aSt G D c) s) → SI G M ((byT (lsO (rdM g) (G 11 2).toNat) t).foldl (aSt G D c) s) → ∀ v3 v4, Wp X d SH 190 2 [(2, 87), (0, (c : Int)), (0, (t : Int)), v3, v4] [] SH (fl h) Q) 6000 ?_ ?_ 0 (by omega)
  · skip
    apply s_190_0
    try simp only [mi_87, fl_87_22, up_87_22, fl_87_23, mi_107, ml_107, fl_107, up_107, fl_87_32, mi_114, ml_114, fl_114, up_114, true_and, and_true, true_or, or_true, implies_true, b10_0, b10_1]
    repeat' (first | refine And.intro ?_ ?_ | intro _)
    all_goals (try (first | omega | (unfold r32; omega) | exact hQ | exact qe hQ (by omega) | exact qe hQ (by (repeat' split) <;> omega) | exact b01 | exact n01 | exact n21 | exact n31 | exact absurd trivial (by assumption)))
    exact key g FM_r hS hI _ _
  · intro h hF hS' hI' v3 v4
    have hq := hQ none h ⟨rfl, hF, hS', hI'⟩
    apply s_190_2
    try simp only [mi_87, fl_87_22, up_87_22, fl_87_23, mi_107, ml_107, fl_107, up_107, fl_87_32, mi_114, ml_114, fl_114, up_114, true_and, and_true, true_or, or_true, implies_true, b10_0, b10_1]
    repeat' (first | refine And.intro ?_ ?_ | intro _)
    all_goals (try (first | omega | (unfold r32; omega) | exact hQ | exact qe hQ (by omega) | exact qe hQ (by (repeat' split) <;> omega) | exact b01 | exact n01 | exact n21 | exact n31 | exact absurd trivial (by assumption)))
    all_goals (exact hq)
  · intro t ht ih h hF hS' hI' v3 v4
    rw [byT_s] at ih
    simp only [List.foldl_append] at ih
    have e10 : ((t + 1 : Nat) : Int) = (t : Int) + 1 := by omega
    rw [e10] at ih
    generalize hs2 : (byT (lsO (rdM g) (G 11 2).toNat) t).foldl (aSt G D c) s = s2 at ih hS' hI'
    have hl2 : s2 0 c ≠ -1 := by rw [← hs2, fold_0]; exact hl
    have loop := lup (P := fun k => ∀ h : mF, FM g h → MS h (((lsO (rdM g) k).filter (fun x => x.1 == (t : Int))).foldl (aSt G D c) s2) → SI G M (((lsO (rdM g) k).filter (fun x => x.1 == (t : Int))).foldl (aSt G D c) s2) → ∀ v4, Wp X d SH 190 11 [(2, 87), (0, (c : Int)), (0, (t : Int)), (0, (k : Int)), v4] [] SH (fl h) Q) (G 11 2).toNat ?_ ?_ 0 (by omega)
    · skip
      apply s_190_2
      try simp only [mi_87, fl_87_22, up_87_22, fl_87_23, mi_107, ml_107, fl_107, up_107, fl_87_32, mi_114, ml_114, fl_114, up_114, true_and, and_true, true_or, or_true, implies_true, b10_0, b10_1]
      repeat' (first | refine And.intro ?_ ?_ | intro _)
      all_goals (try (first | omega | (unfold r32; omega) | exact hQ | exact qe hQ (by omega) | exact qe hQ (by (repeat' split) <;> omega) | exact b01 | exact n01 | exact n21 | exact n31 | exact absurd trivial (by assumption)))
      exact loop h hF hS' hI' _
    · intro h hF hS' hI' v4
      have f22 : h 86 22 = G 11 2 := by rw [hF _ _ (by omega)]; exact hR.1
      have hi := ih h hF hS' hI'
      apply s_190_11
      try simp only [mi_87, fl_87_22, up_87_22, fl_87_23, mi_107, ml_107, fl_107, up_107, fl_87_32, mi_114, ml_114, fl_114, up_114, f22, true_and, and_true, true_or, or_true, implies_true, b10_0, b10_1]
      repeat' (first | refine And.intro ?_ ?_ | intro _)
      all_goals (try (first | omega | (unfold r32; omega) | exact hQ | exact qe hQ (by omega) | exact qe hQ (by (repeat' split) <;> omega) | exact b01 | exact n01 | exact n21 | exact n31 | exact absurd trivial (by assumption)))
      all_goals (exact hi _ _)
    · intro k hk ihk h hF hS' hI' v4
      have hA' := FM_ag hA hF
      have z := hR.2.1 k (by omega)
      have f22 : h 86 22 = G 11 2 := by rw [hF _ _ (by omega)]; exact hR.1
      have f0 : h 106 (3 * k) = g 106 (3 * k) := hF _ _ (by omega)
      have f1 : h 106 (3 * k + 1) = g 106 (3 * k + 1) := hF _ _ (by omega)
      have f2 : h 106 (3 * k + 2) = g 106 (3 * k + 2) := hF _ _ (by omega)
      have e1 : (3 * (k : Int)).toNat = 3 * k := by omega
      have e2 : (3 * (k : Int) + 1).toNat = 3 * k + 1 := by omega
      have e3 : (3 * (k : Int) + 2).toNat = 3 * k + 2 := by omega
      have e11 : ((k + 1 : Nat) : Int) = (k : Int) + 1 := by omega
      obtain ⟨x, hx⟩ : ∃ x : Nat, g 106 (3 * k + 1) = (x : Int) := ⟨(g 106 (3 * k + 1)).toNat, by omega⟩
      have hx36 : x < 36 := by omega
      have ex : ((x : Int)).toNat = x := by omega
      rw [lsO_s, List.filter_append, e11] at ihk
      simp only [List.foldl_append] at ihk
      generalize hs3 : ((lsO (rdM g) k).filter (fun x => x.1 == (t : Int))).foldl (aSt G D c) s2 = s3 at ihk hS' hI'
      have hl3 : s3 0 c ≠ -1 := by rw [← hs3, fold_0]; exact hl2
      have f113 : h 113 c = s3 2 c := (hS' c hc).2.2.1
      by_cases hgo : (g 106 (3 * k) = (c : Int) ∧ g 106 (3 * k + 2) = (t : Int)) ∧ s3 2 c ≤ (t : Int)
      · obtain ⟨⟨g1, g2⟩, g3⟩ := hgo
        have hstep : (List.filter (fun x => x.1 == (t : Int)) [rdM g k]).foldl (aSt G D c) s3 = fireS G D c x (t : Int) s3 := by
          unfold rdM
          rw [List.filter_cons, if_pos (by simp [g2]), List.filter_nil, List.foldl_cons, List.foldl_nil]
          unfold aSt
          simp only []
          rw [g2, if_pos ⟨g1, g3⟩, hx, ex]
        rw [hstep] at ihk
        have c188' := c188 X (st := x) (t := (t : Int)) (M' := M) hc hx36 hA' hG hDb hS' hI' (by omega) (by omega) hl3 g3
        apply s_190_11
        try simp only [mi_87, fl_87_22, up_87_22, fl_87_23, mi_107, ml_107, fl_107, up_107, fl_87_32, mi_114, ml_114, fl_114, up_114, f22, e1, f0, e3, f2, f113, e0, true_and, and_true, true_or, or_true, implies_true, b10_0, b10_1]
        repeat' (first | refine And.intro ?_ ?_ | intro _)
        all_goals (try (first | omega | (unfold r32; omega) | exact hQ | exact qe hQ (by omega) | exact qe hQ (by (repeat' split) <;> omega) | exact b01 | exact n01 | exact n21 | exact n31 | exact absurd trivial (by assumption)))
        apply s_190_60
        try simp only [mi_87, fl_87_22, up_87_22, fl_87_23, mi_107, ml_107, fl_107, up_107, fl_87_32, mi_114, ml_114, fl_114, up_114, e2, f1, hx, true_and, and_true, true_or, or_true, implies_true, b10_0, b10_1]
        repeat' (first | refine And.intro ?_ ?_ | intro _)
        all_goals (try (first | omega | (unfold r32; omega) | exact hQ | exact qe hQ (by omega) | exact qe hQ (by (repeat' split) <;> omega) | exact b01 | exact n01 | exact n21 | exact n31 | exact absurd trivial (by assumption)))
        refine c188' _ _ (by omega) ?_
        rintro _ h2 ⟨rfl, hF2, hS2, hI2⟩
        apply s_190_83
        try simp only [mi_87, fl_87_22, up_87_22, fl_87_23, mi_107, ml_107, fl_107, up_107, fl_87_32, mi_114, ml_114, fl_114, up_114, true_and, and_true, true_or, or_true, implies_true, b10_0, b10_1]
        repeat' (first | refine And.intro ?_ ?_ | intro _)
        all_goals (try (first | omega | (unfold r32; omega) | exact hQ | exact qe hQ (by omega) | exact qe hQ (by (repeat' split) <;> omega) | exact b01 | exact n01 | exact n21 | exact n31 | exact absurd trivial (by assumption)))
        exact ihk h2 (fb_FM hF hF2) hS2 hI2 _
      · have hstep : (List.filter (fun x => x.1 == (t : Int)) [rdM g k]).foldl (aSt G D c) s3 = s3 := by
          unfold rdM
          rw [List.filter_cons]
          by_cases g2 : g 106 (3 * k + 2) = (t : Int)
          · rw [if_pos (by simp [g2]), List.filter_nil, List.foldl_cons, List.foldl_nil]
            unfold aSt
            simp only []
            rw [g2, if_neg (fun z => hgo ⟨⟨z.1, g2⟩, z.2⟩)]
          · rw [if_neg (by simp [g2]), List.filter_nil, List.foldl_nil]
        rw [hstep] at ihk
        have fin : ∀ v, Wp X d SH 190 59 [(2, 87), (0, (c : Int)), (0, (t : Int)), (0, (k : Int)), v] [] SH (fl h) Q := by
          intro v
          apply s_190_59
          try simp only [mi_87, fl_87_22, up_87_22, fl_87_23, mi_107, ml_107, fl_107, up_107, fl_87_32, mi_114, ml_114, fl_114, up_114, true_and, and_true, true_or, or_true, implies_true, b10_0, b10_1]
          repeat' (first | refine And.intro ?_ ?_ | intro _)
          all_goals (try (first | omega | (unfold r32; omega) | exact hQ | exact qe hQ (by omega) | exact qe hQ (by (repeat' split) <;> omega) | exact b01 | exact n01 | exact n21 | exact n31 | exact absurd trivial (by assumption)))
          apply s_190_60
          try simp only [mi_87, fl_87_22, up_87_22, fl_87_23, mi_107, ml_107, fl_107, up_107, fl_87_32, mi_114, ml_114, fl_114, up_114, true_and, and_true, true_or, or_true, implies_true, b10_0, b10_1]
          repeat' (first | refine And.intro ?_ ?_ | intro _)
          all_goals (try (first | omega | (unfold r32; omega) | exact hQ | exact qe hQ (by omega) | exact qe hQ (by (repeat' split) <;> omega) | exact b01 | exact n01 | exact n21 | exact n31 | exact absurd trivial (by assumption)))
          apply s_190_83
          try simp only [mi_87, fl_87_22, up_87_22, fl_87_23, mi_107, ml_107, fl_107, up_107, fl_87_32, mi_114, ml_114, fl_114, up_114, true_and, and_true, true_or, or_true, implies_true, b10_0, b10_1]
          repeat' (first | refine And.intro ?_ ?_ | intro _)
          all_goals (try (first | omega | (unfold r32; omega) | exact hQ | exact qe hQ (by omega) | exact qe hQ (by (repeat' split) <;> omega) | exact b01 | exact n01 | exact n21 | exact n31 | exact absurd trivial (by assumption)))
          exact ihk h hF hS' hI' _
        apply s_190_11
        try simp only [mi_87, fl_87_22, up_87_22, fl_87_23, mi_107, ml_107, fl_107, up_107, fl_87_32, mi_114, ml_114, fl_114, up_114, f22, e1, f0, e3, f2, f113, e0, true_and, and_true, true_or, or_true, implies_true, b10_0, b10_1]
        repeat' (first | refine And.intro ?_ ?_ | intro _)
        all_goals (try (first | omega | (unfold r32; omega) | exact hQ | exact qe hQ (by omega) | exact qe hQ (by (repeat' split) <;> omega) | exact b01 | exact n01 | exact n21 | exact n31 | exact absurd trivial (by assumption)))
        all_goals (exact fin _)
def mnx (G s : mF) : Nat → Int × Int × Int
  | 0 => (-1, 1000000, 0)
  | c + 1 => if s 0 c = -1 ∧ (mlS G s c (G 11 1).toNat).1 < (mnx G s c).2.1 then ((c : Int), (mlS G s c (G 11 1).toNat).1, (mlS G s c (G 11 1).toNat).2) else mnx G s c
theorem mnx_p {G s : mF} {M : Int} (hG : CG G) (hL : Glk G) (hI : SI G M s) (hM : 5999 ≤ M ∧ M ≤ 40000) : ∀ c : Nat, c ≤ 4 → (mnx G s c).1 = (nxS G s c).1 ∧ ((nxS G s c).1 = -1 → (mnx G s c).2.1 = 1000000) ∧ ((nxS G s c).1 ≠ -1 → (mnx G s c).2.1 = (nxS G s c).2 ∧ (mnx G s c).2.1 ≤ 40000 ∧ (mnx G s c).2.2 = (if lt G s (nxS G s c).1.toNat = G (19 + 6 * (nxS G s c).1.toNat) 2 then G (19 + 6 * (nxS G s c).1.toNat) 3 else 0)) := by
  intro c
  induction c with
  | zero => intro _; exact ⟨rfl, fun _ => rfl, fun h => absurd rfl h⟩
  | succ c ih =>
    intro hc
    obtain ⟨y1, y2, y3⟩ := ih (by omega)
    have hl := hL.1
    obtain ⟨p1, p2, p3, p4⟩ := mlS_p hG hL hI hM (c := c) (by omega) (G 11 1).toNat (by omega)
    unfold mnx nxS
    have hlt : lt G s c = ltS G s c (G 11 1).toNat := rfl
    rw [← hlt] at p1 p2 p3 p4
    by_cases h : s 0 c = -1 ∧ lt G s c ≠ -1 ∧ ((nxS G s c).1 = -1 ∨ lt G s c < (nxS G s c).2)
    · have q := p2 h.2.1
      have hm : s 0 c = -1 ∧ (mlS G s c (G 11 1).toNat).1 < (mnx G s c).2.1 := by
        refine ⟨h.1, ?_⟩
        by_cases hn : (nxS G s c).1 = -1
        · rw [y2 hn]; omega
        · rw [(y3 hn).1]
          have := h.2.2
          omega
      rw [if_pos h, if_pos hm]
      refine ⟨rfl, fun z => ?_, fun _ => ⟨q.1, ?_, ?_⟩⟩
      · have : (c : Int) = -1 := z
        omega
      · show (mlS G s c (G 11 1).toNat).1 ≤ 40000
        omega
      · show (mlS G s c (G 11 1).toNat).2 = (if lt G s ((c : Int)).toNat = G (19 + 6 * ((c : Int)).toNat) 2 then G (19 + 6 * ((c : Int)).toNat) 3 else 0)
        rw [show ((c : Int)).toNat = c by omega]
        exact q.2.1
    · have hm : ¬ (s 0 c = -1 ∧ (mlS G s c (G 11 1).toNat).1 < (mnx G s c).2.1) := by
        intro hh
        by_cases hln : lt G s c = -1
        · have q := (p1 hln).2
          by_cases hn : (nxS G s c).1 = -1
          · have := y2 hn; omega
          · have := (y3 hn).2.1; omega
        · have q := (p2 hln).1
          refine h ⟨hh.1, hln, ?_⟩
          by_cases hn : (nxS G s c).1 = -1
          · exact Or.inl hn
          · have := (y3 hn).1
            exact Or.inr (by omega)
      rw [if_neg h, if_neg hm]
      exact ⟨y1, y2, y3⟩
theorem c192 (X : mX) {G g : mF} {D : Int} (hA : MAg D G g) (hR : AgR G g) (hG : CG G) (hL : Glk G) (hGa : 0 ≤ G 11 2 ∧ G 11 2 ≤ 12) (hDb : -1 ≤ D ∧ D ≤ 50) : Rel X 6 192 [(2, 87), (3, 0), (3, 0), (3, 0), (3, 0), (3, 0), (3, 0)] g (fun ro g' => ro = none ∧ FM g g' ∧ MS g' (nightS G D 4) ∧ SI G 18959 (nightS G D 4)) := by
  intro d Q hd hQ
  have loop3 := lup (P := fun r => ∀ h : mF, FM g h → MS h (nightS G D r) → SI G (5999 + 3240 * (r : Int)) (nightS G D r) → ∀ v3 v4 v5 v6, Wp X d SH 192 67 [(2, 87), (0, cam (nightS G D r)), (0, (r : Int)), v3, v4, v5, v6] [] SH (fl h) Q) 4 ?_ ?_ 0 (by omega)
  · have loop2 := lup (P := fun k => ∀ h : mF, FM g h → (∀ c, c < 4 → h 111 c = -1 ∧ h 112 c = -1 ∧ h 113 c = -1) → (∀ j, j < k → h 114 j = -1 ∧ h 115 j = -1) → ∀ v2, Wp X d SH 192 36 [(2, 87), (0, (k : Int)), v2, (3, 0), (3, 0), (3, 0), (3, 0)] [] SH (fl h) Q) 144 ?_ ?_ 0 (by omega)
    · have loop1 := lup (P := fun k => ∀ h : mF, FM g h → (∀ c, c < k → h 111 c = -1 ∧ h 112 c = -1 ∧ h 113 c = -1) → ∀ v2, Wp X d SH 192 2 [(2, 87), (0, (k : Int)), v2, (3, 0), (3, 0), (3, 0), (3, 0)] [] SH (fl h) Q) 4 ?_ ?_ 0 (by omega)
      · skip
        apply s_192_0
        try simp only [mi_87, fl_87_30, mi_112, ml_112, fl_112, up_112, fl_87_31, mi_113, ml_113, fl_113, up_113, fl_87_32, mi_114, ml_114, fl_114, up_114, fl_87_33, mi_115, ml_115, fl_115, up_115, fl_87_34, mi_116, ml_116, fl_116, up_116, fl_87_36, up_87_36, fl_87_37, up_87_37, true_and, and_true, true_or, or_true, implies_true, b10_0, b10_1]
        repeat' (first | refine And.intro ?_ ?_ | intro _)
        all_goals (try (first | omega | (unfold r32; omega) | exact hQ | exact qe hQ (by omega) | exact qe hQ (by (repeat' split) <;> omega) | exact b01 | exact n01 | exact n21 | exact n31 | exact absurd trivial (by assumption)))
        exact loop1 g FM_r (fun c hc => absurd hc (by omega)) _
      · intro h hF h1 v2
        have l2 := loop2 h hF h1 (fun j hj => absurd hj (by omega))
        apply s_192_2
        try simp only [mi_87, fl_87_30, mi_112, ml_112, fl_112, up_112, fl_87_31, mi_113, ml_113, fl_113, up_113, fl_87_32, mi_114, ml_114, fl_114, up_114, fl_87_33, mi_115, ml_115, fl_115, up_115, fl_87_34, mi_116, ml_116, fl_116, up_116, fl_87_36, up_87_36, fl_87_37, up_87_37, true_and, and_true, true_or, or_true, implies_true, b10_0, b10_1]
        repeat' (first | refine And.intro ?_ ?_ | intro _)
        all_goals (try (first | omega | (unfold r32; omega) | exact hQ | exact qe hQ (by omega) | exact qe hQ (by (repeat' split) <;> omega) | exact b01 | exact n01 | exact n21 | exact n31 | exact absurd trivial (by assumption)))
        exact l2 _
      · intro k hk ih h hF h1 v2
        have e2 : ((k : Int)).toNat = k := by omega
        have e10 : ((k + 1 : Nat) : Int) = (k : Int) + 1 := by omega
        rw [e10] at ih
        apply s_192_2
        try simp only [mi_87, fl_87_30, mi_112, ml_112, fl_112, up_112, fl_87_31, mi_113, ml_113, fl_113, up_113, fl_87_32, mi_114, ml_114, fl_114, up_114, fl_87_33, mi_115, ml_115, fl_115, up_115, fl_87_34, mi_116, ml_116, fl_116, up_116, fl_87_36, up_87_36, fl_87_37, up_87_37, e2, true_and, and_true, true_or, or_true, implies_true, b10_0, b10_1]
        repeat' (first | refine And.intro ?_ ?_ | intro _)
        all_goals (try (first | omega | (unfold r32; omega) | exact hQ | exact qe hQ (by omega) | exact qe hQ (by (repeat' split) <;> omega) | exact b01 | exact n01 | exact n21 | exact n31 | exact absurd trivial (by assumption)))
        apply s_192_14
        try simp only [mi_87, fl_87_30, mi_112, ml_112, fl_112, up_112, fl_87_31, mi_113, ml_113, fl_113, up_113, fl_87_32, mi_114, ml_114, fl_114, up_114, fl_87_33, mi_115, ml_115, fl_115, up_115, fl_87_34, mi_116, ml_116, fl_116, up_116, fl_87_36, up_87_36, fl_87_37, up_87_37, e2, true_and, and_true, true_or, or_true, implies_true, b10_0, b10_1]
        repeat' (first | refine And.intro ?_ ?_ | intro _)
        all_goals (try (first | omega | (unfold r32; omega) | exact hQ | exact qe hQ (by omega) | exact qe hQ (by (repeat' split) <;> omega) | exact b01 | exact n01 | exact n21 | exact n31 | exact absurd trivial (by assumption)))
        apply s_192_21
        try simp only [mi_87, fl_87_30, mi_112, ml_112, fl_112, up_112, fl_87_31, mi_113, ml_113, fl_113, up_113, fl_87_32, mi_114, ml_114, fl_114, up_114, fl_87_33, mi_115, ml_115, fl_115, up_115, fl_87_34, mi_116, ml_116, fl_116, up_116, fl_87_36, up_87_36, fl_87_37, up_87_37, e2, true_and, and_true, true_or, or_true, implies_true, b10_0, b10_1]
        repeat' (first | refine And.intro ?_ ?_ | intro _)
        all_goals (try (first | omega | (unfold r32; omega) | exact hQ | exact qe hQ (by omega) | exact qe hQ (by (repeat' split) <;> omega) | exact b01 | exact n01 | exact n21 | exact n31 | exact absurd trivial (by assumption)))
        apply s_192_28
        try simp only [mi_87, fl_87_30, mi_112, ml_112, fl_112, up_112, fl_87_31, mi_113, ml_113, fl_113, up_113, fl_87_32, mi_114, ml_114, fl_114, up_114, fl_87_33, mi_115, ml_115, fl_115, up_115, fl_87_34, mi_116, ml_116, fl_116, up_116, fl_87_36, up_87_36, fl_87_37, up_87_37, true_and, and_true, true_or, or_true, implies_true, b10_0, b10_1]
        repeat' (first | refine And.intro ?_ ?_ | intro _)
        all_goals (try (first | omega | (unfold r32; omega) | exact hQ | exact qe hQ (by omega) | exact qe hQ (by (repeat' split) <;> omega) | exact b01 | exact n01 | exact n21 | exact n31 | exact absurd trivial (by assumption)))
        refine ih _ (fun o j ho => ?_) (fun c hc => ?_) _
        · rw [mup_n (by omega), mup_n (by omega), mup_n (by omega)]
          exact hF o j ho
        · by_cases hck : c = k
          · subst hck
            exact ⟨by rw [mup_n (by omega), mup_n (by omega), mup_e], by rw [mup_n (by omega), mup_e], by rw [mup_e]⟩
          · have z := h1 c (by omega)
            rw [mup_n (by omega), mup_n (by omega), mup_n (by omega), mup_n (by omega), mup_n (by omega), mup_n (by omega), mup_n (by omega), mup_n (by omega), mup_n (by omega)]
            exact z
    · intro h hF h1 h2 v2
      have l3 := loop3 h hF (fun c hc => by
        obtain ⟨a1, a2, a3⟩ := h1 c hc
        exact ⟨a1, a2, a3, fun i hi => h2 _ (by omega)⟩) (fun c hc => by unfold nightS; exact ⟨by omega, by omega, by omega, fun i hi => ⟨Or.inl ⟨rfl, rfl⟩, fun z => absurd rfl z⟩⟩)
      have hc0 : cam (nightS G D 0) = 0 := by unfold cam nightS; rfl
      rw [hc0] at l3
      apply s_192_36
      try simp only [mi_87, fl_87_30, mi_112, ml_112, fl_112, up_112, fl_87_31, mi_113, ml_113, fl_113, up_113, fl_87_32, mi_114, ml_114, fl_114, up_114, fl_87_33, mi_115, ml_115, fl_115, up_115, fl_87_34, mi_116, ml_116, fl_116, up_116, fl_87_36, up_87_36, fl_87_37, up_87_37, true_and, and_true, true_or, or_true, implies_true, b10_0, b10_1]
      repeat' (first | refine And.intro ?_ ?_ | intro _)
      all_goals (try (first | omega | (unfold r32; omega) | exact hQ | exact qe hQ (by omega) | exact qe hQ (by (repeat' split) <;> omega) | exact b01 | exact n01 | exact n21 | exact n31 | exact absurd trivial (by assumption)))
      exact l3 _ _ _ _
    · intro k hk ih h hF h1 h2 v2
      have e2 : ((k : Int)).toNat = k := by omega
      have e10 : ((k + 1 : Nat) : Int) = (k : Int) + 1 := by omega
      rw [e10] at ih
      apply s_192_36
      try simp only [mi_87, fl_87_30, mi_112, ml_112, fl_112, up_112, fl_87_31, mi_113, ml_113, fl_113, up_113, fl_87_32, mi_114, ml_114, fl_114, up_114, fl_87_33, mi_115, ml_115, fl_115, up_115, fl_87_34, mi_116, ml_116, fl_116, up_116, fl_87_36, up_87_36, fl_87_37, up_87_37, e2, true_and, and_true, true_or, or_true, implies_true, b10_0, b10_1]
      repeat' (first | refine And.intro ?_ ?_ | intro _)
      all_goals (try (first | omega | (unfold r32; omega) | exact hQ | exact qe hQ (by omega) | exact qe hQ (by (repeat' split) <;> omega) | exact b01 | exact n01 | exact n21 | exact n31 | exact absurd trivial (by assumption)))
      apply s_192_50
      try simp only [mi_87, fl_87_30, mi_112, ml_112, fl_112, up_112, fl_87_31, mi_113, ml_113, fl_113, up_113, fl_87_32, mi_114, ml_114, fl_114, up_114, fl_87_33, mi_115, ml_115, fl_115, up_115, fl_87_34, mi_116, ml_116, fl_116, up_116, fl_87_36, up_87_36, fl_87_37, up_87_37, e2, true_and, and_true, true_or, or_true, implies_true, b10_0, b10_1]
      repeat' (first | refine And.intro ?_ ?_ | intro _)
      all_goals (try (first | omega | (unfold r32; omega) | exact hQ | exact qe hQ (by omega) | exact qe hQ (by (repeat' split) <;> omega) | exact b01 | exact n01 | exact n21 | exact n31 | exact absurd trivial (by assumption)))
      apply s_192_57
      try simp only [mi_87, fl_87_30, mi_112, ml_112, fl_112, up_112, fl_87_31, mi_113, ml_113, fl_113, up_113, fl_87_32, mi_114, ml_114, fl_114, up_114, fl_87_33, mi_115, ml_115, fl_115, up_115, fl_87_34, mi_116, ml_116, fl_116, up_116, fl_87_36, up_87_36, fl_87_37, up_87_37, true_and, and_true, true_or, or_true, implies_true, b10_0, b10_1]
      repeat' (first | refine And.intro ?_ ?_ | intro _)
      all_goals (try (first | omega | (unfold r32; omega) | exact hQ | exact qe hQ (by omega) | exact qe hQ (by (repeat' split) <;> omega) | exact b01 | exact n01 | exact n21 | exact n31 | exact absurd trivial (by assumption)))
      refine ih _ (fun o j ho => ?_) (fun c hc => ?_) (fun j hj => ?_) _
      · rw [mup_n (by omega), mup_n (by omega)]
        exact hF o j ho
      · rw [mup_n (by omega), mup_n (by omega), mup_n (by omega), mup_n (by omega), mup_n (by omega), mup_n (by omega)]
        exact h1 c hc
      · by_cases hjk : j = k
        · subst hjk
          exact ⟨by rw [mup_n (by omega), mup_e], by rw [mup_e]⟩
        · rw [mup_n (by omega), mup_n (by omega), mup_n (by omega), mup_n (by omega)]
          exact h2 j (by omega)
  · intro h hF hS hI v3 v4 v5 v6
    have hq := hQ none h ⟨rfl, hF, hS, hI⟩
    apply s_192_67
    try simp only [mi_87, fl_87_30, mi_112, ml_112, fl_112, up_112, fl_87_31, mi_113, ml_113, fl_113, up_113, fl_87_32, mi_114, ml_114, fl_114, up_114, fl_87_33, mi_115, ml_115, fl_115, up_115, fl_87_34, mi_116, ml_116, fl_116, up_116, fl_87_36, up_87_36, fl_87_37, up_87_37, true_and, and_true, true_or, or_true, implies_true, b10_0, b10_1]
    repeat' (first | refine And.intro ?_ ?_ | intro _)
    all_goals (try (first | omega | (unfold r32; omega) | exact hQ | exact qe hQ (by omega) | exact qe hQ (by (repeat' split) <;> omega) | exact b01 | exact n01 | exact n21 | exact n31 | exact absurd trivial (by assumption)))
    all_goals (exact hq)
  · intro r hr ih h hF hS hI v3 v4 v5 v6
    have e10 : ((r + 1 : Nat) : Int) = (r : Int) + 1 := by omega
    rw [nightS_s, e10] at ih
    generalize hs : nightS G D r = s at ih hS hI
    have hMb : 5999 ≤ 5999 + 3240 * (r : Int) ∧ 5999 + 3240 * (r : Int) ≤ 40000 := by omega
    obtain ⟨n1, n2, n3⟩ := mnx_p hG hL hI hMb 4 (by omega)
    have hnb := nxS_b hG hL hI hMb.1 4 (by omega)
    have scan := lup (P := fun k => ∀ h : mF, FM g h → MS h s → Wp X d SH 192 84 [(2, 87), (0, cam s), (0, (r : Int)), (0, (mnx G s k).1), (0, (mnx G s k).2.1), (0, (mnx G s k).2.2), (0, (k : Int))] [] SH (fl h) Q) 4 ?_ ?_ 0 (by omega)
    · skip
      apply s_192_67
      try simp only [mi_87, fl_87_30, mi_112, ml_112, fl_112, up_112, fl_87_31, mi_113, ml_113, fl_113, up_113, fl_87_32, mi_114, ml_114, fl_114, up_114, fl_87_33, mi_115, ml_115, fl_115, up_115, fl_87_34, mi_116, ml_116, fl_116, up_116, fl_87_36, up_87_36, fl_87_37, up_87_37, true_and, and_true, true_or, or_true, implies_true, b10_0, b10_1]
      repeat' (first | refine And.intro ?_ ?_ | intro _)
      all_goals (try (first | omega | (unfold r32; omega) | exact hQ | exact qe hQ (by omega) | exact qe hQ (by (repeat' split) <;> omega) | exact b01 | exact n01 | exact n21 | exact n31 | exact absurd trivial (by assumption)))
      exact scan h hF hS
    · intro h hF hS
      have hA' := FM_ag hA hF
      by_cases hn : (nxS G s 4).1 = -1
      · rw [if_pos hn] at ih
        have hi := ih h hF hS (SI_mono hI (by omega))
        rw [n1, hn]
        apply s_192_84
        try simp only [mi_87, fl_87_30, mi_112, ml_112, fl_112, up_112, fl_87_31, mi_113, ml_113, fl_113, up_113, fl_87_32, mi_114, ml_114, fl_114, up_114, fl_87_33, mi_115, ml_115, fl_115, up_115, fl_87_34, mi_116, ml_116, fl_116, up_116, fl_87_36, up_87_36, fl_87_37, up_87_37, true_and, and_true, true_or, or_true, implies_true, b10_0, b10_1]
        repeat' (first | refine And.intro ?_ ?_ | intro _)
        all_goals (try (first | omega | (unfold r32; omega) | exact hQ | exact qe hQ (by omega) | exact qe hQ (by (repeat' split) <;> omega) | exact b01 | exact n01 | exact n21 | exact n31 | exact absurd trivial (by assumption)))
        apply s_192_184
        try simp only [mi_87, fl_87_30, mi_112, ml_112, fl_112, up_112, fl_87_31, mi_113, ml_113, fl_113, up_113, fl_87_32, mi_114, ml_114, fl_114, up_114, fl_87_33, mi_115, ml_115, fl_115, up_115, fl_87_34, mi_116, ml_116, fl_116, up_116, fl_87_36, up_87_36, fl_87_37, up_87_37, true_and, and_true, true_or, or_true, implies_true, b10_0, b10_1]
        repeat' (first | refine And.intro ?_ ?_ | intro _)
        all_goals (try (first | omega | (unfold r32; omega) | exact hQ | exact qe hQ (by omega) | exact qe hQ (by (repeat' split) <;> omega) | exact b01 | exact n01 | exact n21 | exact n31 | exact absurd trivial (by assumption)))
        exact hi _ _ _ _
      · obtain ⟨h1, h2, h3, h4, h5⟩ := hnb.resolve_left hn
        obtain ⟨m1, m2, m3⟩ := n3 hn
        obtain ⟨c, hc⟩ : ∃ c : Nat, (nxS G s 4).1 = (c : Int) := ⟨(nxS G s 4).1.toNat, by omega⟩
        have ec : ((c : Int)).toNat = c := by omega
        rw [hc, ec] at h3 h4 m3
        have hc4 : c < 4 := by omega
        have hGc := hG.2 c hc4
        have hlb := lt_b hG hL hI hMb.1 hc4
        rw [if_neg hn, hc, ec] at ih
        have hco := cam_o (s := s) (s' := comeS G D c s) hc4 h3 (by rw [comeS_0, litS_0]; omega) (fun k hk => by rw [comeS_0, litS_n (by omega)])
        unfold comeS at ih
        generalize hst : lt G s c = t at ih h4 m3 hlb
        have ht : (mnx G s 4).2.1 = t := by rw [m1, h4]
        obtain ⟨st, hcell⟩ : ∃ st : Nat, (if t = G (19 + 6 * c) 2 then G (19 + 6 * c) 3 else 0) = (st : Int) := ⟨(if t = G (19 + 6 * c) 2 then G (19 + 6 * c) 3 else 0).toNat, by split <;> omega⟩
        have hst36 : st < 36 := by split at hcell <;> omega
        have e3 : ((st : Int)).toNat = st := by omega
        rw [hcell] at m3
        rw [hcell, e3] at ih
        unfold comeS at hco
        rw [hst, hcell, e3] at hco
        rw [n1, hc, ht, m3]
        generalize hh1 : mup h 111 c t = g1
        generalize hh2 : mup g1 112 c (st : Int) = g2
        generalize hh3 : mup g2 113 c t = g3
        have fo3 : ∀ o k, ¬ ((o = 111 ∨ o = 112 ∨ o = 113) ∧ k = c) → g3 o k = h o k := by
          intro o k ho
          rw [← hh3, mup_n (by omega), ← hh2, mup_n (by omega), ← hh1, mup_n (by omega)]
        have v1 : g3 111 c = t := by rw [← hh3, mup_n (by omega), ← hh2, mup_n (by omega), ← hh1, mup_e]
        have v2 : g3 112 c = (st : Int) := by rw [← hh3, mup_n (by omega), ← hh2, mup_e]
        have v3 : g3 113 c = t := by rw [← hh3, mup_e]
        have hF3 : FM g g3 := fun o k ho => by rw [fo3 o k (by omega)]; exact hF o k ho
        have hS3 : MS g3 (litS G c t s) := by
          intro c' hc'
          obtain ⟨s1, s2, s3, s4⟩ := hS c' hc'
          by_cases hcc : c' = c
          · subst hcc
            rw [litS_0, litS_1, litS_2, v1, v2, v3, hcell]
            refine ⟨rfl, rfl, rfl, fun i hi => ?_⟩
            rw [litS_n (by omega), litS_n (by omega), fo3 _ _ (by omega), fo3 _ _ (by omega)]
            exact s4 i hi
          · rw [litS_n (by omega), litS_n (by omega), litS_n (by omega), fo3 _ _ (by omega), fo3 _ _ (by omega), fo3 _ _ (by omega)]
            refine ⟨s1, s2, s3, fun i hi => ?_⟩
            rw [litS_n (by omega), litS_n (by omega), fo3 _ _ (by omega), fo3 _ _ (by omega)]
            exact s4 i hi
        have hI1 := lit_SI hG hc4 hI h3 (t := t) (by omega)
        have c188' := c188 X (st := st) (t := t) (M' := 5999 + 3240 * (r : Int) + 3240) hc4 hst36 (FM_ag hA hF3) hG hDb hS3 hI1 (by omega) (by omega) (by rw [litS_0]; omega) (by rw [litS_2]; omega)
        apply s_192_84
        try simp only [mi_87, fl_87_30, mi_112, ml_112, fl_112, up_112, fl_87_31, mi_113, ml_113, fl_113, up_113, fl_87_32, mi_114, ml_114, fl_114, up_114, fl_87_33, mi_115, ml_115, fl_115, up_115, fl_87_34, mi_116, ml_116, fl_116, up_116, fl_87_36, up_87_36, fl_87_37, up_87_37, hco, true_and, and_true, true_or, or_true, implies_true, b10_0, b10_1]
        repeat' (first | refine And.intro ?_ ?_ | intro _)
        all_goals (try (first | omega | (unfold r32; omega) | exact hQ | exact qe hQ (by omega) | exact qe hQ (by (repeat' split) <;> omega) | exact b01 | exact n01 | exact n21 | exact n31 | exact absurd trivial (by assumption)))
        apply s_192_146
        try simp only [mi_87, fl_87_30, mi_112, ml_112, fl_112, up_112, fl_87_31, mi_113, ml_113, fl_113, up_113, fl_87_32, mi_114, ml_114, fl_114, up_114, fl_87_33, mi_115, ml_115, fl_115, up_115, fl_87_34, mi_116, ml_116, fl_116, up_116, fl_87_36, up_87_36, fl_87_37, up_87_37, ec, hh1, true_and, and_true, true_or, or_true, implies_true, b10_0, b10_1]
        repeat' (first | refine And.intro ?_ ?_ | intro _)
        all_goals (try (first | omega | (unfold r32; omega) | exact hQ | exact qe hQ (by omega) | exact qe hQ (by (repeat' split) <;> omega) | exact b01 | exact n01 | exact n21 | exact n31 | exact absurd trivial (by assumption)))
        apply s_192_154
        try simp only [mi_87, fl_87_30, mi_112, ml_112, fl_112, up_112, fl_87_31, mi_113, ml_113, fl_113, up_113, fl_87_32, mi_114, ml_114, fl_114, up_114, fl_87_33, mi_115, ml_115, fl_115, up_115, fl_87_34, mi_116, ml_116, fl_116, up_116, fl_87_36, up_87_36, fl_87_37, up_87_37, ec, hh2, true_and, and_true, true_or, or_true, implies_true, b10_0, b10_1]
        repeat' (first | refine And.intro ?_ ?_ | intro _)
        all_goals (try (first | omega | (unfold r32; omega) | exact hQ | exact qe hQ (by omega) | exact qe hQ (by (repeat' split) <;> omega) | exact b01 | exact n01 | exact n21 | exact n31 | exact absurd trivial (by assumption)))
        apply s_192_162
        try simp only [mi_87, fl_87_30, mi_112, ml_112, fl_112, up_112, fl_87_31, mi_113, ml_113, fl_113, up_113, fl_87_32, mi_114, ml_114, fl_114, up_114, fl_87_33, mi_115, ml_115, fl_115, up_115, fl_87_34, mi_116, ml_116, fl_116, up_116, fl_87_36, up_87_36, fl_87_37, up_87_37, ec, hh3, true_and, and_true, true_or, or_true, implies_true, b10_0, b10_1]
        repeat' (first | refine And.intro ?_ ?_ | intro _)
        all_goals (try (first | omega | (unfold r32; omega) | exact hQ | exact qe hQ (by omega) | exact qe hQ (by (repeat' split) <;> omega) | exact b01 | exact n01 | exact n21 | exact n31 | exact absurd trivial (by assumption)))
        apply s_192_170
        try simp only [mi_87, fl_87_30, mi_112, ml_112, fl_112, up_112, fl_87_31, mi_113, ml_113, fl_113, up_113, fl_87_32, mi_114, ml_114, fl_114, up_114, fl_87_33, mi_115, ml_115, fl_115, up_115, fl_87_34, mi_116, ml_116, fl_116, up_116, fl_87_36, up_87_36, fl_87_37, up_87_37, true_and, and_true, true_or, or_true, implies_true, b10_0, b10_1]
        repeat' (first | refine And.intro ?_ ?_ | intro _)
        all_goals (try (first | omega | (unfold r32; omega) | exact hQ | exact qe hQ (by omega) | exact qe hQ (by (repeat' split) <;> omega) | exact b01 | exact n01 | exact n21 | exact n31 | exact absurd trivial (by assumption)))
        refine c188' _ _ (by omega) ?_
        rintro _ g4 ⟨rfl, hF4, hS4, hI4⟩
        have hF4' := fb_FM hF3 hF4
        have c190' := c190 X hc4 (FM_ag hA hF4') (FM_agr hR hF4') hG hGa hDb hS4 hI4 (by omega) (by rw [fireS_0, litS_0]; omega)
        apply s_192_179
        try simp only [mi_87, fl_87_30, mi_112, ml_112, fl_112, up_112, fl_87_31, mi_113, ml_113, fl_113, up_113, fl_87_32, mi_114, ml_114, fl_114, up_114, fl_87_33, mi_115, ml_115, fl_115, up_115, fl_87_34, mi_116, ml_116, fl_116, up_116, fl_87_36, up_87_36, fl_87_37, up_87_37, true_and, and_true, true_or, or_true, implies_true, b10_0, b10_1]
        repeat' (first | refine And.intro ?_ ?_ | intro _)
        all_goals (try (first | omega | (unfold r32; omega) | exact hQ | exact qe hQ (by omega) | exact qe hQ (by (repeat' split) <;> omega) | exact b01 | exact n01 | exact n21 | exact n31 | exact absurd trivial (by assumption)))
        refine c190' _ _ (by omega) ?_
        rintro _ g5 ⟨rfl, hF5, hS5, hI5⟩
        apply s_192_184
        try simp only [mi_87, fl_87_30, mi_112, ml_112, fl_112, up_112, fl_87_31, mi_113, ml_113, fl_113, up_113, fl_87_32, mi_114, ml_114, fl_114, up_114, fl_87_33, mi_115, ml_115, fl_115, up_115, fl_87_34, mi_116, ml_116, fl_116, up_116, fl_87_36, up_87_36, fl_87_37, up_87_37, true_and, and_true, true_or, or_true, implies_true, b10_0, b10_1]
        repeat' (first | refine And.intro ?_ ?_ | intro _)
        all_goals (try (first | omega | (unfold r32; omega) | exact hQ | exact qe hQ (by omega) | exact qe hQ (by (repeat' split) <;> omega) | exact b01 | exact n01 | exact n21 | exact n31 | exact absurd trivial (by assumption)))
        have hi := ih g5 (FM_t hF4' hF5) hS5 (SI_mono hI5 (by omega))
        exact hi _ _ _ _
    · intro k hk ihk h hF hS
      have hA' := FM_ag hA hF
      have e10 : ((k + 1 : Nat) : Int) = (k : Int) + 1 := by omega
      have c191' := c191 X hk hA' hL hS hI
      have ct := cam_t (s := s) hk
      unfold mnx at ihk
      rw [e10] at ihk
      apply s_192_84
      try simp only [mi_87, fl_87_30, mi_112, ml_112, fl_112, up_112, fl_87_31, mi_113, ml_113, fl_113, up_113, fl_87_32, mi_114, ml_114, fl_114, up_114, fl_87_33, mi_115, ml_115, fl_115, up_115, fl_87_34, mi_116, ml_116, fl_116, up_116, fl_87_36, up_87_36, fl_87_37, up_87_37, true_and, and_true, true_or, or_true, implies_true, b10_0, b10_1]
      repeat' (first | refine And.intro ?_ ?_ | intro _)
      all_goals (try (first | omega | (unfold r32; omega) | exact hQ | exact qe hQ (by omega) | exact qe hQ (by (repeat' split) <;> omega) | exact b01 | exact n01 | exact n21 | exact n31 | exact absurd trivial (by assumption)))
      refine c191' _ _ (by omega) ?_
      rintro _ h2 ⟨rfl, hF2, h36, h37⟩
      have hFF : FM g h2 := fun o j ho => by rw [hF2 o j (by omega)]; exact hF o j ho
      have hSS : MS h2 s := by
        intro c' hc'
        obtain ⟨s1, s2, s3, s4⟩ := hS c' hc'
        rw [hF2 _ _ (by omega), hF2 _ _ (by omega), hF2 _ _ (by omega)]
        refine ⟨s1, s2, s3, fun i hi => ?_⟩
        rw [hF2 _ _ (by omega), hF2 _ _ (by omega)]
        exact s4 i hi
      have hi := ihk h2 hFF hSS
      by_cases hz : s 0 k = -1
      · rw [if_pos hz] at ct
        by_cases hlt : (mlS G s k (G 11 1).toNat).1 < (mnx G s k).2.1
        · rw [if_pos ⟨hz, hlt⟩] at hi
          apply s_192_97
          try simp only [mi_87, fl_87_30, mi_112, ml_112, fl_112, up_112, fl_87_31, mi_113, ml_113, fl_113, up_113, fl_87_32, mi_114, ml_114, fl_114, up_114, fl_87_33, mi_115, ml_115, fl_115, up_115, fl_87_34, mi_116, ml_116, fl_116, up_116, fl_87_36, up_87_36, fl_87_37, up_87_37, ct, h36, true_and, and_true, true_or, or_true, implies_true, b10_0, b10_1]
          repeat' (first | refine And.intro ?_ ?_ | intro _)
          all_goals (try (first | omega | (unfold r32; omega) | exact hQ | exact qe hQ (by omega) | exact qe hQ (by (repeat' split) <;> omega) | exact b01 | exact n01 | exact n21 | exact n31 | exact absurd trivial (by assumption)))
          apply s_192_124
          try simp only [mi_87, fl_87_30, mi_112, ml_112, fl_112, up_112, fl_87_31, mi_113, ml_113, fl_113, up_113, fl_87_32, mi_114, ml_114, fl_114, up_114, fl_87_33, mi_115, ml_115, fl_115, up_115, fl_87_34, mi_116, ml_116, fl_116, up_116, fl_87_36, up_87_36, fl_87_37, up_87_37, h37, true_and, and_true, true_or, or_true, implies_true, b10_0, b10_1]
          repeat' (first | refine And.intro ?_ ?_ | intro _)
          all_goals (try (first | omega | (unfold r32; omega) | exact hQ | exact qe hQ (by omega) | exact qe hQ (by (repeat' split) <;> omega) | exact b01 | exact n01 | exact n21 | exact n31 | exact absurd trivial (by assumption)))
          apply s_192_130
          try simp only [mi_87, fl_87_30, mi_112, ml_112, fl_112, up_112, fl_87_31, mi_113, ml_113, fl_113, up_113, fl_87_32, mi_114, ml_114, fl_114, up_114, fl_87_33, mi_115, ml_115, fl_115, up_115, fl_87_34, mi_116, ml_116, fl_116, up_116, fl_87_36, up_87_36, fl_87_37, up_87_37, true_and, and_true, true_or, or_true, implies_true, b10_0, b10_1]
          repeat' (first | refine And.intro ?_ ?_ | intro _)
          all_goals (try (first | omega | (unfold r32; omega) | exact hQ | exact qe hQ (by omega) | exact qe hQ (by (repeat' split) <;> omega) | exact b01 | exact n01 | exact n21 | exact n31 | exact absurd trivial (by assumption)))
          all_goals (try exact hi)
        · rw [if_neg (fun z => hlt z.2)] at hi
          apply s_192_97
          try simp only [mi_87, fl_87_30, mi_112, ml_112, fl_112, up_112, fl_87_31, mi_113, ml_113, fl_113, up_113, fl_87_32, mi_114, ml_114, fl_114, up_114, fl_87_33, mi_115, ml_115, fl_115, up_115, fl_87_34, mi_116, ml_116, fl_116, up_116, fl_87_36, up_87_36, fl_87_37, up_87_37, ct, h36, true_and, and_true, true_or, or_true, implies_true, b10_0, b10_1]
          repeat' (first | refine And.intro ?_ ?_ | intro _)
          all_goals (try (first | omega | (unfold r32; omega) | exact hQ | exact qe hQ (by omega) | exact qe hQ (by (repeat' split) <;> omega) | exact b01 | exact n01 | exact n21 | exact n31 | exact absurd trivial (by assumption)))
          apply s_192_130
          try simp only [mi_87, fl_87_30, mi_112, ml_112, fl_112, up_112, fl_87_31, mi_113, ml_113, fl_113, up_113, fl_87_32, mi_114, ml_114, fl_114, up_114, fl_87_33, mi_115, ml_115, fl_115, up_115, fl_87_34, mi_116, ml_116, fl_116, up_116, fl_87_36, up_87_36, fl_87_37, up_87_37, true_and, and_true, true_or, or_true, implies_true, b10_0, b10_1]
          repeat' (first | refine And.intro ?_ ?_ | intro _)
          all_goals (try (first | omega | (unfold r32; omega) | exact hQ | exact qe hQ (by omega) | exact qe hQ (by (repeat' split) <;> omega) | exact b01 | exact n01 | exact n21 | exact n31 | exact absurd trivial (by assumption)))
          all_goals (try exact hi)
      · rw [if_neg hz] at ct
        rw [if_neg (fun z => hz z.1)] at hi
        apply s_192_97
        try simp only [mi_87, fl_87_30, mi_112, ml_112, fl_112, up_112, fl_87_31, mi_113, ml_113, fl_113, up_113, fl_87_32, mi_114, ml_114, fl_114, up_114, fl_87_33, mi_115, ml_115, fl_115, up_115, fl_87_34, mi_116, ml_116, fl_116, up_116, fl_87_36, up_87_36, fl_87_37, up_87_37, ct, true_and, and_true, true_or, or_true, implies_true, b10_0, b10_1]
        repeat' (first | refine And.intro ?_ ?_ | intro _)
        all_goals (try (first | omega | (unfold r32; omega) | exact hQ | exact qe hQ (by omega) | exact qe hQ (by (repeat' split) <;> omega) | exact b01 | exact n01 | exact n21 | exact n31 | exact absurd trivial (by assumption)))
        apply s_192_130
        try simp only [mi_87, fl_87_30, mi_112, ml_112, fl_112, up_112, fl_87_31, mi_113, ml_113, fl_113, up_113, fl_87_32, mi_114, ml_114, fl_114, up_114, fl_87_33, mi_115, ml_115, fl_115, up_115, fl_87_34, mi_116, ml_116, fl_116, up_116, fl_87_36, up_87_36, fl_87_37, up_87_37, true_and, and_true, true_or, or_true, implies_true, b10_0, b10_1]
        repeat' (first | refine And.intro ?_ ?_ | intro _)
        all_goals (try (first | omega | (unfold r32; omega) | exact hQ | exact qe hQ (by omega) | exact qe hQ (by (repeat' split) <;> omega) | exact b01 | exact n01 | exact n21 | exact n31 | exact absurd trivial (by assumption)))
        all_goals (try exact hi)
