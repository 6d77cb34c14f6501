/-! again -/
theorem lsO_add {rd : Nat → Int × Int × Int} {a b : Nat} : lsO rd (a + b) = lsO rd a ++ lsO (fun j => rd (a + j)) b := by
  induction b with
  | zero => show lsO rd a = lsO rd a ++ []; rw [List.append_nil]
  | succ b ih => rw [show a + (b + 1) = (a + b) + 1 by omega, lsO_s, ih, lsO_s, List.append_assoc]
theorem lsO_congr {rd rd' : Nat → Int × Int × Int} {n : Nat} (h : ∀ i, i < n → rd i = rd' i) : lsO rd n = lsO rd' n := by
  induction n with
  | zero => rfl
  | succ n ih => rw [lsO_s, lsO_s, ih (fun i hi => h i (by omega)), h n (by omega)]
theorem lsO_len {rd : Nat → Int × Int × Int} {n : Nat} : (lsO rd n).length = n := by unfold lsO; simp
theorem lsO_get {rd : Nat → Int × Int × Int} {n i : Nat} (h : i < n) : (lsO rd n)[i]? = some (rd i) := by unfold lsO; simp [h]
/-- the ticks from a on -/
def byR (l : List (Int × Int × Int)) (a b : Nat) : List (Int × Int × Int) := (List.range b).flatMap (fun j : Nat => l.filter (fun x => x.1 == ((a + j : Nat) : Int)))
theorem byR_s {l : List (Int × Int × Int)} {a b : Nat} : byR l a (b + 1) = byR l a b ++ l.filter (fun x => x.1 == ((a + b : Nat) : Int)) := by unfold byR; rw [List.range_succ, List.flatMap_append]; simp
theorem byT_add {l : List (Int × Int × Int)} {a b : Nat} : byT l (a + b) = byT l a ++ byR l a b := by
  induction b with
  | zero => show byT l a = byT l a ++ []; rw [List.append_nil]
  | succ b ih => rw [show a + (b + 1) = (a + b) + 1 by omega, byT_s, ih, byR_s, List.append_assoc]
theorem byT_m {l : List (Int × Int × Int)} {n : Nat} {x : Int × Int × Int} (h : x ∈ byT l n) : x ∈ l ∧ 0 ≤ x.1 ∧ x.1 < (n : Int) := by
  unfold byT at h
  rw [List.mem_flatMap] at h
  obtain ⟨t, ht, hx⟩ := h
  rw [List.mem_range] at ht
  rw [List.mem_filter] at hx
  have : x.1 = (t : Int) := by simpa using hx.2
  exact ⟨hx.1, by omega, by omega⟩
theorem byR_m {l : List (Int × Int × Int)} {a b : Nat} {x : Int × Int × Int} (h : x ∈ byR l a b) : x ∈ l ∧ (a : Int) ≤ x.1 := by
  unfold byR at h
  rw [List.mem_flatMap] at h
  obtain ⟨t, ht, hx⟩ := h
  rw [List.mem_filter] at hx
  have : x.1 = ((a + t : Nat) : Int) := by simpa using hx.2
  exact ⟨hx.1, by omega⟩
theorem byT_x {l : List (Int × Int × Int)} {x : Int × Int × Int} {n : Nat} (h : (n : Int) ≤ x.1) : byT (l ++ [x]) n = byT l n := by
  induction n with
  | zero => rfl
  | succ n ih =>
    rw [byT_s, byT_s, ih (by omega), List.filter_append]
    have : List.filter (fun y : Int × Int × Int => y.1 == (n : Int)) [x] = [] := by
      rw [List.filter_cons, if_neg (by simp; omega), List.filter_nil]
    rw [this, List.append_nil]
theorem byR_x {l : List (Int × Int × Int)} {x : Int × Int × Int} {a b : Nat} (h : x.1 < (a : Int)) : byR (l ++ [x]) a b = byR l a b := by
  induction b with
  | zero => rfl
  | succ b ih =>
    rw [byR_s, byR_s, ih, List.filter_append]
    have : List.filter (fun y : Int × Int × Int => y.1 == ((a + b : Nat) : Int)) [x] = [] := by
      rw [List.filter_cons, if_neg (by simp; omega), List.filter_nil]
    rw [this, List.append_nil]
theorem byT_in {l : List (Int × Int × Int)} {x : Int × Int × Int} {t m : Nat} (h : x.1 = (t : Int)) : byT (l ++ [x]) ((t + 1) + m) = byT l (t + 1) ++ [x] ++ byR l (t + 1) m := by
  rw [byT_add, byR_x (by omega), byT_s, byT_x (by omega), byT_s, List.filter_append]
  have : List.filter (fun y : Int × Int × Int => y.1 == (t : Int)) [x] = [x] := by
    rw [List.filter_cons, if_pos (by simp [h]), List.filter_nil]
  rw [this, ← List.append_assoc]
/-- a new one put in its place -/
theorem agIns {rd rd' : Nat → Int × Int × Int} {lm : List (Int × Int × Int)} {n p t m : Nat} {x : Int × Int × Int} (hx : x.1 = (t : Int)) (hl : lsO rd n = byT lm ((t + 1) + m)) (hp : p ≤ n) (h1 : ∀ i, i < p → rd' i = rd i) (h2 : rd' p = x) (h3 : ∀ i, p ≤ i → i < n → rd' (i + 1) = rd i) (h4 : p = 0 ∨ (rd (p - 1)).1 ≤ (t : Int)) (h5 : ∀ i, p ≤ i → i < n → (t : Int) < (rd i).1) : lsO rd' (n + 1) = byT (lm ++ [x]) ((t + 1) + m) := by
  rw [byT_add] at hl
  rw [byT_in hx]
  have hlen : n = (byT lm (t + 1)).length + (byR lm (t + 1) m).length := by rw [← List.length_append, ← hl, lsO_len]
  have hA : ∀ i, i < (byT lm (t + 1)).length → (rd i).1 ≤ (t : Int) := by
    intro i hi
    have z := lsO_get (rd := rd) (n := n) (i := i) (by omega)
    rw [hl, List.getElem?_append_left hi] at z
    have := (byT_m (List.mem_of_getElem? z)).2.2
    omega
  have hB : ∀ i, (byT lm (t + 1)).length ≤ i → i < n → (t : Int) < (rd i).1 := by
    intro i hi hin
    have z := lsO_get (rd := rd) (n := n) (i := i) hin
    rw [hl, List.getElem?_append_right hi] at z
    have := (byR_m (List.mem_of_getElem? z)).2
    omega
  have hpl : p = (byT lm (t + 1)).length := by
    rcases Nat.lt_trichotomy p (byT lm (t + 1)).length with z | z | z
    · have a := hA p z
      have b := h5 p (Nat.le_refl _) (by omega)
      omega
    · exact z
    · rcases h4 with q | q
      · omega
      · have b := hB (p - 1) (by omega) (by omega)
        omega
  obtain ⟨k, rfl⟩ : ∃ k, n = p + k := ⟨n - p, by omega⟩
  rw [lsO_add] at hl
  obtain ⟨q1, q2⟩ := List.append_inj hl (by rw [lsO_len]; exact hpl)
  rw [show p + k + 1 = (p + 1) + k by omega, lsO_add, lsO_s, h2, lsO_congr (rd := rd') (rd' := rd) (n := p) h1, q1, lsO_congr (rd := fun j => rd' (p + 1 + j)) (rd' := fun j => rd (p + j)) (n := k) (fun i hi => by
    have := h3 (p + i) (by omega) (by omega)
    rw [show p + 1 + i = p + i + 1 by omega]
    exact this), q2]
theorem c35 (X : mX) (g : mF) {a b : Nat} (ha : a < 12) (hb : b < 12) : Ret X 0 35 [(2, 12), (0, (a : Int)), (0, (b : Int))] g none (mup (mup (mup g 16 b (g 16 a)) 17 b (g 17 a)) 18 b (g 18 a)) := by
  intro d Q hd hQ
  have e1 : ((a : Int)).toNat = a := by omega
  have e2 : ((b : Int)).toNat = b := by omega
  have f1 : mup g 16 b (g 16 a) 17 a = g 17 a := mup_n (by omega)
  have f2 : mup (mup g 16 b (g 16 a)) 17 b (g 17 a) 18 a = g 18 a := by rw [mup_n (by omega), mup_n (by omega)]
  repeat' (first
    | (exfalso; omega)
    | (exact absurd trivial (by assumption))
    | (apply s_35_0; try simp only [mi_12, fl_12_7, mi_17, ml_17, fl_17, up_17, fl_12_8, mi_18, ml_18, fl_18, up_18, fl_12_9, mi_19, ml_19, fl_19, up_19, e1, e2, f1, f2, true_and, and_true, true_or, or_true, implies_true, b10_0, b10_1])
    | (apply s_35_12; try simp only [mi_12, fl_12_7, mi_17, ml_17, fl_17, up_17, fl_12_8, mi_18, ml_18, fl_18, up_18, fl_12_9, mi_19, ml_19, fl_19, up_19, e1, e2, f1, f2, true_and, and_true, true_or, or_true, implies_true, b10_0, b10_1])
    | (apply s_35_24; try simp only [mi_12, fl_12_7, mi_17, ml_17, fl_17, up_17, fl_12_8, mi_18, ml_18, fl_18, up_18, fl_12_9, mi_19, ml_19, fl_19, up_19, e1, e2, f1, f2, true_and, and_true, true_or, or_true, implies_true, b10_0, b10_1])
    | (refine And.intro ?_ ?_)
    | (intro _)
    | omega
    | (unfold r32; omega)
    | (exact hQ)
    | (exact qe hQ (by omega))
    | (exact qe hQ (by (repeat' split) <;> omega))
    | (exact b01)
    | (exact n01)
    | (exact n21)
    | (exact n31))
theorem c34 (X : mX) (g : mF) {c x t : Int} (hn : 0 ≤ g 11 2 ∧ g 11 2 < 12) : Rel X 1 34 [(2, 12), (0, c), (0, x), (0, t), (3, 0)] g (fun ro h => ro = none ∧ (∀ o k, ¬ (o = 16 ∨ o = 17 ∨ o = 18 ∨ o = 11 ∧ (k = 2 ∨ k = 3)) → h o k = g o k) ∧ h 11 2 = g 11 2 + 1 ∧ h 11 3 = 0 ∧ ∃ p : Nat, (p : Int) ≤ g 11 2 ∧ (∀ i, i < p → rdC h i = rdC g i) ∧ rdC h p = (t, c, x) ∧ (∀ i : Nat, p ≤ i → (i : Int) < g 11 2 → rdC h (i + 1) = rdC g i) ∧ (p = 0 ∨ g 16 (p - 1) ≤ t) ∧ ∀ i : Nat, p ≤ i → (i : Int) < g 11 2 → t < g 16 i) := by
  intro d Q hd hQ
  obtain ⟨N, hN⟩ : ∃ N : Nat, g 11 2 = (N : Int) := ⟨(g 11 2).toNat, by omega⟩
  have fin : ∀ p : Nat, ∀ h : mF, p ≤ N → (∀ o k, o ≠ 16 → o ≠ 17 → o ≠ 18 → h o k = g o k) → (∀ i, i < p → rdC h i = rdC g i) → (∀ i, p ≤ i → i < N → rdC h (i + 1) = rdC g i) → (p = 0 ∨ g 16 (p - 1) ≤ t) → (∀ i, p ≤ i → i < N → t < g 16 i) → Wp X d SH 34 40 [(2, 12), (0, c), (0, x), (0, t), (0, (p : Int))] [] SH (fl h) Q := by
    intro p h hp hF h1 h3 h4 h5
    have e3 : ((p : Int)).toNat = p := by omega
    generalize hh1 : mup h 16 p t = m1
    generalize hh2 : mup m1 17 p c = m2
    generalize hh3 : mup m2 18 p x = m3
    have f3 : ∀ o k, ¬ ((o = 16 ∨ o = 17 ∨ o = 18) ∧ k = p) → m3 o k = h o k := fun o k ho => by rw [← hh3, mup_n (by omega), ← hh2, mup_n (by omega), ← hh1, mup_n (by omega)]
    have v1 : m3 16 p = t := by rw [← hh3, mup_n (by omega), ← hh2, mup_n (by omega), ← hh1, mup_e]
    have v2 : m3 17 p = c := by rw [← hh3, mup_n (by omega), ← hh2, mup_e]
    have v3 : m3 18 p = x := by rw [← hh3, mup_e]
    have n11 : m3 11 2 = g 11 2 := by rw [f3 _ _ (by omega), hF _ _ (by omega) (by omega) (by omega)]
    generalize hh4 : mup (mup m3 11 2 (g 11 2 + 1)) 11 3 0 = m5
    have f5 : ∀ o k, ¬ (o = 11 ∧ (k = 2 ∨ k = 3)) → m5 o k = m3 o k := fun o k ho => by rw [← hh4, mup_n (by omega), mup_n (by omega)]
    have r5 : ∀ i, i ≠ p → rdC m5 i = rdC h i := fun i hi => by
      unfold rdC
      rw [f5 _ _ (by omega), f5 _ _ (by omega), f5 _ _ (by omega), f3 _ _ (by omega), f3 _ _ (by omega), f3 _ _ (by omega)]
    have hq := hQ none m5 ⟨rfl, fun o k ho => by rw [f5 _ _ (by omega), f3 _ _ (by omega), hF _ _ (by omega) (by omega) (by omega)], by rw [← hh4, mup_n (by omega), mup_e], by rw [← hh4, mup_e], p, by omega, fun i hi => by rw [r5 i (by omega)]; exact h1 i hi, by
      unfold rdC
      rw [f5 _ _ (by omega), f5 _ _ (by omega), f5 _ _ (by omega), v1, v2, v3], fun i hi hin => by rw [r5 (i + 1) (by omega)]; exact h3 i hi (by omega), h4, fun i hi hin => h5 i hi (by omega)⟩
    apply s_34_40
    try simp only [mi_12, fl_12_2, up_12_2, fl_12_7, mi_17, ml_17, fl_17, up_17, fl_12_8, mi_18, ml_18, fl_18, up_18, fl_12_9, mi_19, ml_19, fl_19, up_19, fl_12_3, up_12_3, e3, hh1, true_and, and_true, true_or, or_true, implies_true, b10_0, b10_1]
    repeat' (first | refine And.intro ?_ ?_ | intro _)
    all_goals (try (first | omega | (unfold r32; omega) | exact hQ | exact qe hQ (by omega) | exact qe hQ (by (repeat' split) <;> omega) | exact b01 | exact n01 | exact n21 | exact n31 | exact absurd trivial (by assumption)))
    apply s_34_48
    try simp only [mi_12, fl_12_2, up_12_2, fl_12_7, mi_17, ml_17, fl_17, up_17, fl_12_8, mi_18, ml_18, fl_18, up_18, fl_12_9, mi_19, ml_19, fl_19, up_19, fl_12_3, up_12_3, e3, hh2, true_and, and_true, true_or, or_true, implies_true, b10_0, b10_1]
    repeat' (first | refine And.intro ?_ ?_ | intro _)
    all_goals (try (first | omega | (unfold r32; omega) | exact hQ | exact qe hQ (by omega) | exact qe hQ (by (repeat' split) <;> omega) | exact b01 | exact n01 | exact n21 | exact n31 | exact absurd trivial (by assumption)))
    apply s_34_56
    try simp only [mi_12, fl_12_2, up_12_2, fl_12_7, mi_17, ml_17, fl_17, up_17, fl_12_8, mi_18, ml_18, fl_18, up_18, fl_12_9, mi_19, ml_19, fl_19, up_19, fl_12_3, up_12_3, e3, hh3, true_and, and_true, true_or, or_true, implies_true, b10_0, b10_1]
    repeat' (first | refine And.intro ?_ ?_ | intro _)
    all_goals (try (first | omega | (unfold r32; omega) | exact hQ | exact qe hQ (by omega) | exact qe hQ (by (repeat' split) <;> omega) | exact b01 | exact n01 | exact n21 | exact n31 | exact absurd trivial (by assumption)))
    apply s_34_64
    try simp only [mi_12, fl_12_2, up_12_2, fl_12_7, mi_17, ml_17, fl_17, up_17, fl_12_8, mi_18, ml_18, fl_18, up_18, fl_12_9, mi_19, ml_19, fl_19, up_19, fl_12_3, up_12_3, n11, true_and, and_true, true_or, or_true, implies_true, b10_0, b10_1]
    repeat' (first | refine And.intro ?_ ?_ | intro _)
    all_goals (try (first | omega | (unfold r32; omega) | exact hQ | exact qe hQ (by omega) | exact qe hQ (by (repeat' split) <;> omega) | exact b01 | exact n01 | exact n21 | exact n31 | exact absurd trivial (by assumption)))
    apply s_34_74
    try simp only [mi_12, fl_12_2, up_12_2, fl_12_7, mi_17, ml_17, fl_17, up_17, fl_12_8, mi_18, ml_18, fl_18, up_18, fl_12_9, mi_19, ml_19, fl_19, up_19, fl_12_3, up_12_3, hh4, true_and, and_true, true_or, or_true, implies_true, b10_0, b10_1]
    repeat' (first | refine And.intro ?_ ?_ | intro _)
    all_goals (try (first | omega | (unfold r32; omega) | exact hQ | exact qe hQ (by omega) | exact qe hQ (by (repeat' split) <;> omega) | exact b01 | exact n01 | exact n21 | exact n31 | exact absurd trivial (by assumption)))
    all_goals (try exact hq)
  have key : ∀ p : Nat, ∀ h : mF, p ≤ N → (∀ o k, o ≠ 16 → o ≠ 17 → o ≠ 18 → h o k = g o k) → (∀ i, i < p → rdC h i = rdC g i) → (∀ i, p ≤ i → i < N → rdC h (i + 1) = rdC g i) → (∀ i, p ≤ i → i < N → t < g 16 i) → Wp X d SH 34 6 [(2, 12), (0, c), (0, x), (0, t), (0, (p : Int))] [] SH (fl h) Q := by
    intro p
    induction p with
    | zero =>
      intro h hp hF h1 h3 h5
      have f := fin 0 h hp hF h1 h3 (Or.inl rfl) h5
      apply s_34_6
      try simp only [mi_12, fl_12_2, up_12_2, fl_12_7, mi_17, ml_17, fl_17, up_17, fl_12_8, mi_18, ml_18, fl_18, up_18, fl_12_9, mi_19, ml_19, fl_19, up_19, fl_12_3, up_12_3, true_and, and_true, true_or, or_true, implies_true, b10_0, b10_1]
      repeat' (first | refine And.intro ?_ ?_ | intro _)
      all_goals (try (first | omega | (unfold r32; omega) | exact hQ | exact qe hQ (by omega) | exact qe hQ (by (repeat' split) <;> omega) | exact b01 | exact n01 | exact n21 | exact n31 | exact absurd trivial (by assumption)))
      all_goals (try exact f)
    | succ p ih =>
      intro h hp hF h1 h3 h5
      have e3 : (((p + 1 : Nat) : Int) - 1).toNat = p := by omega
      have hrp := h1 p (by omega)
      have h16 : h 16 p = g 16 p := by
        unfold rdC at hrp
        exact (Prod.mk.inj hrp).1
      by_cases hlt : g 16 p ≤ t
      · have f := fin (p + 1) h hp hF h1 h3 (Or.inr hlt) h5
        apply s_34_6
        try simp only [mi_12, fl_12_2, up_12_2, fl_12_7, mi_17, ml_17, fl_17, up_17, fl_12_8, mi_18, ml_18, fl_18, up_18, fl_12_9, mi_19, ml_19, fl_19, up_19, fl_12_3, up_12_3, e3, h16, true_and, and_true, true_or, or_true, implies_true, b10_0, b10_1]
        repeat' (first | refine And.intro ?_ ?_ | intro _)
        all_goals (try (first | omega | (unfold r32; omega) | exact hQ | exact qe hQ (by omega) | exact qe hQ (by (repeat' split) <;> omega) | exact b01 | exact n01 | exact n21 | exact n31 | exact absurd trivial (by assumption)))
        all_goals (try exact f)
      · have c35' := c35 X h (a := p) (b := p + 1) (by omega) (by omega)
        generalize hh1 : mup (mup (mup h 16 (p + 1) (h 16 p)) 17 (p + 1) (h 17 p)) 18 (p + 1) (h 18 p) = h2 at c35'
        rw [show (p : Int) = ((p + 1 : Nat) : Int) - 1 by omega] at c35'
        have f2 : ∀ o k, ¬ ((o = 16 ∨ o = 17 ∨ o = 18) ∧ k = p + 1) → h2 o k = h o k := fun o k ho => by rw [← hh1, mup_n (by omega), mup_n (by omega), mup_n (by omega)]
        have r2 : ∀ i, i ≠ p + 1 → rdC h2 i = rdC h i := fun i hi => by
          unfold rdC
          rw [f2 _ _ (by omega), f2 _ _ (by omega), f2 _ _ (by omega)]
        have nx := ih h2 (by omega) (fun o k q1 q2 q3 => by rw [f2 _ _ (by omega)]; exact hF o k q1 q2 q3) (fun i hi => by rw [r2 i (by omega)]; exact h1 i (by omega)) (fun i hi hin => by
          by_cases hip : i = p
          · subst hip
            rw [← hrp]
            unfold rdC
            rw [← hh1, mup_n (by omega), mup_n (by omega), mup_e, mup_n (by omega), mup_e, mup_e]
          · rw [r2 (i + 1) (by omega)]
            exact h3 i (by omega) hin) (fun i hi hin => by
          by_cases hip : i = p
          · subst hip; omega
          · exact h5 i (by omega) hin)
        apply s_34_6
        try simp only [mi_12, fl_12_2, up_12_2, fl_12_7, mi_17, ml_17, fl_17, up_17, fl_12_8, mi_18, ml_18, fl_18, up_18, fl_12_9, mi_19, ml_19, fl_19, up_19, fl_12_3, up_12_3, e3, h16, true_and, and_true, true_or, or_true, implies_true, b10_0, b10_1]
        repeat' (first | refine And.intro ?_ ?_ | intro _)
        all_goals (try (first | omega | (unfold r32; omega) | exact hQ | exact qe hQ (by omega) | exact qe hQ (by (repeat' split) <;> omega) | exact b01 | exact n01 | exact n21 | exact n31 | exact absurd trivial (by assumption)))
        refine c35' _ _ (by omega) ?_
        apply s_34_34
        try simp only [mi_12, fl_12_2, up_12_2, fl_12_7, mi_17, ml_17, fl_17, up_17, fl_12_8, mi_18, ml_18, fl_18, up_18, fl_12_9, mi_19, ml_19, fl_19, up_19, fl_12_3, up_12_3, true_and, and_true, true_or, or_true, implies_true, b10_0, b10_1]
        repeat' (first | refine And.intro ?_ ?_ | intro _)
        all_goals (try (first | omega | (unfold r32; omega) | exact hQ | exact qe hQ (by omega) | exact qe hQ (by (repeat' split) <;> omega) | exact b01 | exact n01 | exact n21 | exact n31 | exact absurd trivial (by assumption)))
        rw [show ((p + 1 : Nat) : Int) + -1 = (p : Int) by omega]
        exact nx
  have k0 := key N g (Nat.le_refl _) (fun _ _ _ _ _ => rfl) (fun _ _ => rfl) (fun i hi hin => absurd hin (by omega)) (fun i hi hin => absurd hin (by omega))
  apply s_34_0
  try simp only [mi_12, fl_12_2, up_12_2, fl_12_7, mi_17, ml_17, fl_17, up_17, fl_12_8, mi_18, ml_18, fl_18, up_18, fl_12_9, mi_19, ml_19, fl_19, up_19, fl_12_3, up_12_3, hN, true_and, and_true, true_or, or_true, implies_true, b10_0, b10_1]
  repeat' (first | refine And.intro ?_ ?_ | intro _)
  all_goals (try (first | omega | (unfold r32; omega) | exact hQ | exact qe hQ (by omega) | exact qe hQ (by (repeat' split) <;> omega) | exact b01 | exact n01 | exact n21 | exact n31 | exact absurd trivial (by assumption)))
  all_goals (try exact k0)
theorem T_again (X : mX) (g : mF) (a i t : Int) (hC : ∀ c, c < 4 → Iclk g c) (hA : Iagn g) : PR X 109 196 [(2, 1), (0, a), (0, i), (0, t), (3, 0)] [(2, 87), (0, a), (0, i), (0, t)] g (fun g2 => Iagn g2 ∧ (∀ o k, ¬ (o = 16 ∨ o = 17 ∨ o = 18 ∨ o = 11 ∧ (k = 2 ∨ k = 3) ∨ o = 106 ∨ o = 86 ∧ k = 22) → g2 o k = g o k) ∧ (g2 = g ∨ g2 11 3 = 0)) := by
  obtain ⟨⟨n1, n2⟩, r1, r2, r3⟩ := id hA
  have rr : Iagn g ∧ (∀ o k, ¬ (o = 16 ∨ o = 17 ∨ o = 18 ∨ o = 11 ∧ (k = 2 ∨ k = 3) ∨ o = 106 ∨ o = 86 ∧ k = 22) → g o k = g o k) ∧ (g = g ∨ g 11 3 = 0) := ⟨hA, fun _ _ _ => rfl, Or.inl rfl⟩
  intro d Q hd hQ
  by_cases ha : 0 ≤ a ∧ a ≤ 3
  · obtain ⟨c, rfl⟩ : ∃ c : Nat, a = (c : Int) := ⟨a.toNat, by omega⟩
    have hc : c < 4 := by omega
    obtain ⟨k1, k2, k3, -⟩ := hC c hc
    have hb : 0 ≤ g 99 c ∧ g 99 c ≤ 36 := by omega
    by_cases hi : 0 ≤ i ∧ i < g (19 + 6 * c) 0
    · by_cases ht : 0 ≤ t ∧ t ≤ 5999
      · by_cases hf : g 11 2 < 12
        · obtain ⟨N, hN⟩ : ∃ N : Nat, g 11 2 = (N : Int) := ⟨(g 11 2).toNat, by omega⟩
          obtain ⟨T, hT⟩ : ∃ T : Nat, t = (T : Int) := ⟨t.toNat, by omega⟩
          have c34' := c34 X g (c := (c : Int)) (x := i) (t := t) (by omega)
          have fin : ∀ h : mF, (∀ o k, ¬ (o = 16 ∨ o = 17 ∨ o = 18 ∨ o = 11 ∧ (k = 2 ∨ k = 3)) → h o k = g o k) → h 11 2 = g 11 2 + 1 → h 11 3 = 0 → (∃ p : Nat, (p : Int) ≤ g 11 2 ∧ (∀ i, i < p → rdC h i = rdC g i) ∧ rdC h p = (t, (c : Int), i) ∧ (∀ i : Nat, p ≤ i → (i : Int) < g 11 2 → rdC h (i + 1) = rdC g i) ∧ (p = 0 ∨ g 16 (p - 1) ≤ t) ∧ ∀ i : Nat, p ≤ i → (i : Int) < g 11 2 → t < g 16 i) → Q (some (0, g 11 2 + 1)) (fl h) := by
            intro h hF h2' h3' hex
            refine hQ _ h ⟨_, rfl, ?_⟩
            clear hQ
            intro d Q hd hQ
            have f22 : h 86 22 = (N : Int) := by rw [hF _ _ (by omega), r1, hN]
            generalize hm1 : mup h 106 (3 * N) (c : Int) = m1
            generalize hm2 : mup m1 106 (3 * N + 1) i = m2
            generalize hm3 : mup m2 106 (3 * N + 2) t = m3
            have f3 : ∀ o k, ¬ (o = 106 ∧ 3 * N ≤ k ∧ k < 3 * N + 3) → m3 o k = h o k := fun o k ho => by rw [← hm3, mup_n (by omega), ← hm2, mup_n (by omega), ← hm1, mup_n (by omega)]
            have v0 : m3 106 (3 * N) = (c : Int) := by rw [← hm3, mup_n (by omega), ← hm2, mup_n (by omega), ← hm1, mup_e]
            have v1 : m3 106 (3 * N + 1) = i := by rw [← hm3, mup_n (by omega), ← hm2, mup_e]
            have v2 : m3 106 (3 * N + 2) = t := by rw [← hm3, mup_e]
            have g1 : m1 86 22 = (N : Int) := by rw [← hm1, mup_n (by omega)]; exact f22
            have g2 : m2 86 22 = (N : Int) := by rw [← hm2, mup_n (by omega)]; exact g1
            have g3 : m3 86 22 = (N : Int) := by rw [← hm3, mup_n (by omega)]; exact g2
            have e0 : (3 * (N : Int)).toNat = 3 * N := by omega
            have e1 : (3 * (N : Int) + 1).toNat = 3 * N + 1 := by omega
            have e2 : (3 * (N : Int) + 2).toNat = 3 * N + 2 := by omega
            generalize hm4 : mup m3 86 22 ((N : Int) + 1) = m4
            have g4 : m4 86 22 = (N : Int) + 1 := by rw [← hm4, mup_e]
            have f4 : ∀ o k, ¬ (o = 106 ∧ 3 * N ≤ k ∧ k < 3 * N + 3 ∨ o = 86 ∧ k = 22) → m4 o k = h o k := fun o k ho => by rw [← hm4, mup_n (by omega), f3 _ _ (by omega)]
            have q11 : m4 11 2 = (N : Int) + 1 := by rw [f4 _ _ (by omega), h2', hN]
            have rM : ∀ k, k < N → rdM m4 k = rdM g k := fun k hk => by
              unfold rdM
              rw [f4 _ _ (by omega), f4 _ _ (by omega), f4 _ _ (by omega), hF _ _ (by omega), hF _ _ (by omega), hF _ _ (by omega)]
            have rMN : rdM m4 N = (t, (c : Int), i) := by
              unfold rdM
              rw [← hm4, mup_n (by omega), mup_n (by omega), mup_n (by omega), v0, v1, v2]
            have rC : rdC m4 = rdC h := by
              funext k
              unfold rdC
              rw [f4 _ _ (by omega), f4 _ _ (by omega), f4 _ _ (by omega)]
            obtain ⟨p, p1, p2, p3, p4, p5, p6⟩ := hex
            rw [hN] at r3 p1 p4 p6
            rw [show ((N : Int)).toNat = N by omega] at r3
            have ins := agIns (rd := rdC g) (rd' := rdC h) (lm := lsO (rdM g) N) (n := N) (p := p) (t := T) (m := 5999 - T) (x := (t, (c : Int), i)) hT (by rw [r3, show T + 1 + (5999 - T) = 6000 by omega]) (by omega) p2 p3 (fun i hi hin => p4 i hi (by omega)) (by
              rcases p5 with z | z
              · exact Or.inl z
              · exact Or.inr (by show g 16 (p - 1) ≤ _; omega)) (fun i hi hin => by
              have := p6 i hi (by omega)
              show _ < g 16 i
              omega)
            rw [show T + 1 + (5999 - T) = 6000 by omega] at ins
            have hIag : Iagn m4 := by
              unfold Iagn Gag AgR
              rw [q11, g4, show ((N : Int) + 1).toNat = N + 1 by omega, rC]
              refine ⟨⟨by omega, fun k hk => ?_⟩, rfl, fun k hk => ?_, ?_⟩
              · rw [f4 _ _ (by omega), f4 _ _ (by omega), f4 _ _ (by omega)]
                by_cases z1 : k < p
                · have q := p2 k z1
                  have y := n2 k (by omega)
                  unfold rdC at q
                  obtain ⟨u1, u2⟩ := Prod.mk.inj q
                  obtain ⟨u2, u3⟩ := Prod.mk.inj u2
                  rw [u1, u2, u3]
                  exact y
                · by_cases z2 : k = p
                  · subst z2
                    unfold rdC at p3
                    obtain ⟨u1, u2⟩ := Prod.mk.inj p3
                    obtain ⟨u2, u3⟩ := Prod.mk.inj u2
                    rw [u1, u2, u3]
                    omega
                  · have q := p4 (k - 1) (by omega) (by omega)
                    rw [show k - 1 + 1 = k by omega] at q
                    have y := n2 (k - 1) (by omega)
                    unfold rdC at q
                    obtain ⟨u1, u2⟩ := Prod.mk.inj q
                    obtain ⟨u2, u3⟩ := Prod.mk.inj u2
                    rw [u1, u2, u3]
                    exact y
              · by_cases z1 : k = N
                · subst z1
                  rw [← hm4, mup_n (by omega), mup_n (by omega), mup_n (by omega), v0, v1, v2]
                  omega
                · rw [f4 _ _ (by omega), f4 _ _ (by omega), f4 _ _ (by omega), hF _ _ (by omega), hF _ _ (by omega), hF _ _ (by omega)]
                  exact r2 k (by omega)
              · rw [ins, lsO_s, rMN, lsO_congr (rd := rdM m4) (rd' := rdM g) rM]
            have hq := hQ (some (0, g 11 2 + 1)) m4 ⟨rfl, hIag, fun o k ho => by rw [f4 _ _ (by omega)]; exact hF o k (by omega), Or.inr (by rw [f4 _ _ (by omega)]; exact h3')⟩
            rw [hN] at hq
            have c175' := c175 X h hc i (by rw [hF _ _ (by omega)]; exact hb)
            rw [hF 99 c (by omega)] at c175'
            clear hIag ins
            apply s_196_0
            try simp only [mi_87, fl_87_22, up_87_22, fl_87_23, mi_107, ml_107, fl_107, up_107, true_and, and_true, true_or, or_true, implies_true, b10_0, b10_1]
            repeat' (first | refine And.intro ?_ ?_ | intro _)
            all_goals (try (first | omega | (unfold r32; omega) | exact hQ | exact qe hQ (by omega) | exact qe hQ (by (repeat' split) <;> omega) | exact b01 | exact n01 | exact n21 | exact n31 | exact absurd trivial (by assumption)))
            refine c175' _ _ (by omega) ?_
            apply s_196_6
            try simp only [mi_87, fl_87_22, up_87_22, fl_87_23, mi_107, ml_107, fl_107, up_107, true_and, and_true, true_or, or_true, implies_true, b10_0, b10_1]
            repeat' (first | refine And.intro ?_ ?_ | intro _)
            all_goals (try (first | omega | (unfold r32; omega) | exact hQ | exact qe hQ (by omega) | exact qe hQ (by (repeat' split) <;> omega) | exact b01 | exact n01 | exact n21 | exact n31 | exact absurd trivial (by assumption)))
            refine c144 X _ _ _ _ _ _ (by omega) ?_
            apply s_196_22
            try simp only [mi_87, fl_87_22, up_87_22, fl_87_23, mi_107, ml_107, fl_107, up_107, f22, e0, hm1, true_and, and_true, true_or, or_true, implies_true, b10_0, b10_1]
            repeat' (first | refine And.intro ?_ ?_ | intro _)
            all_goals (try (first | omega | (unfold r32; omega) | exact hQ | exact qe hQ (by omega) | exact qe hQ (by (repeat' split) <;> omega) | exact b01 | exact n01 | exact n21 | exact n31 | exact absurd trivial (by assumption)))
            apply s_196_54
            try simp only [mi_87, fl_87_22, up_87_22, fl_87_23, mi_107, ml_107, fl_107, up_107, g1, e1, hm2, true_and, and_true, true_or, or_true, implies_true, b10_0, b10_1]
            repeat' (first | refine And.intro ?_ ?_ | intro _)
            all_goals (try (first | omega | (unfold r32; omega) | exact hQ | exact qe hQ (by omega) | exact qe hQ (by (repeat' split) <;> omega) | exact b01 | exact n01 | exact n21 | exact n31 | exact absurd trivial (by assumption)))
            apply s_196_68
            try simp only [mi_87, fl_87_22, up_87_22, fl_87_23, mi_107, ml_107, fl_107, up_107, g2, e2, hm3, true_and, and_true, true_or, or_true, implies_true, b10_0, b10_1]
            repeat' (first | refine And.intro ?_ ?_ | intro _)
            all_goals (try (first | omega | (unfold r32; omega) | exact hQ | exact qe hQ (by omega) | exact qe hQ (by (repeat' split) <;> omega) | exact b01 | exact n01 | exact n21 | exact n31 | exact absurd trivial (by assumption)))
            apply s_196_82
            try simp only [mi_87, fl_87_22, up_87_22, fl_87_23, mi_107, ml_107, fl_107, up_107, g3, hm4, g4, true_and, and_true, true_or, or_true, implies_true, b10_0, b10_1]
            repeat' (first | refine And.intro ?_ ?_ | intro _)
            all_goals (try (first | omega | (unfold r32; omega) | exact hQ | exact qe hQ (by omega) | exact qe hQ (by (repeat' split) <;> omega) | exact b01 | exact n01 | exact n21 | exact n31 | exact absurd trivial (by assumption)))
            all_goals (try exact hq)
          apply s_109_0
          try simp only [mi_1, fl_1_4, mi_12, cm_o, fl_12_2, up_12_2, true_and, and_true, true_or, or_true, implies_true, b10_0, b10_1]
          repeat' (first | refine And.intro ?_ ?_ | intro _)
          all_goals (try (first | omega | (unfold r32; omega) | exact hQ | exact qe hQ (by omega) | exact qe hQ (by (repeat' split) <;> omega) | exact b01 | exact n01 | exact n21 | exact n31 | exact absurd trivial (by assumption)))
          refine c32 X g hc _ _ (by omega) ?_
          apply s_109_8
          try simp only [mi_1, fl_1_4, mi_12, cm_o, fl_12_2, up_12_2, hc, true_and, and_true, true_or, or_true, implies_true, b10_0, b10_1]
          repeat' (first | refine And.intro ?_ ?_ | intro _)
          all_goals (try (first | omega | (unfold r32; omega) | exact hQ | exact qe hQ (by omega) | exact qe hQ (by (repeat' split) <;> omega) | exact b01 | exact n01 | exact n21 | exact n31 | exact absurd trivial (by assumption)))
          refine c14 X g hc _ _ _ (by omega) ?_
          apply s_109_21
          try simp only [mi_1, fl_1_4, mi_12, cm_o, fl_12_2, up_12_2, true_and, and_true, true_or, or_true, implies_true, b10_0, b10_1]
          repeat' (first | refine And.intro ?_ ?_ | intro _)
          all_goals (try (first | omega | (unfold r32; omega) | exact hQ | exact qe hQ (by omega) | exact qe hQ (by (repeat' split) <;> omega) | exact b01 | exact n01 | exact n21 | exact n31 | exact absurd trivial (by assumption)))
          refine c133 X _ _ _ _ (by omega) ?_
          apply s_109_32
          try simp only [mi_1, fl_1_4, mi_12, cm_o, fl_12_2, up_12_2, true_and, and_true, true_or, or_true, implies_true, b10_0, b10_1]
          repeat' (first | refine And.intro ?_ ?_ | intro _)
          all_goals (try (first | omega | (unfold r32; omega) | exact hQ | exact qe hQ (by omega) | exact qe hQ (by (repeat' split) <;> omega) | exact b01 | exact n01 | exact n21 | exact n31 | exact absurd trivial (by assumption)))
          refine c34' _ _ (by omega) ?_
          rintro _ h ⟨rfl, hF, h2', h3', hex⟩
          have hq := fin h hF h2' h3' hex
          rw [← h2'] at hq
          clear hex
          apply s_109_65
          try simp only [mi_1, fl_1_4, mi_12, cm_o, fl_12_2, up_12_2, true_and, and_true, true_or, or_true, implies_true, b10_0, b10_1]
          repeat' (first | refine And.intro ?_ ?_ | intro _)
          all_goals (try (first | omega | (unfold r32; omega) | exact hQ | exact qe hQ (by omega) | exact qe hQ (by (repeat' split) <;> omega) | exact b01 | exact n01 | exact n21 | exact n31 | exact absurd trivial (by assumption)))
          all_goals (try exact hq)
        · have q1 : Ret X 60 109 [(2, 1), (0, (c : Int)), (0, i), (0, t), (3, 0)] g (some (0, -1004)) g := by
            intro d Q hd hQ
            repeat' (first
              | (exfalso; omega)
              | (exact absurd trivial (by assumption))
              | (apply s_109_0; try simp only [mi_1, fl_1_4, mi_12, cm_o, fl_12_2, up_12_2, hc, true_and, and_true, true_or, or_true, implies_true, b10_0, b10_1])
              | (apply s_109_8; try simp only [mi_1, fl_1_4, mi_12, cm_o, fl_12_2, up_12_2, hc, true_and, and_true, true_or, or_true, implies_true, b10_0, b10_1])
              | (apply s_109_21; try simp only [mi_1, fl_1_4, mi_12, cm_o, fl_12_2, up_12_2, hc, true_and, and_true, true_or, or_true, implies_true, b10_0, b10_1])
              | (apply s_109_32; try simp only [mi_1, fl_1_4, mi_12, cm_o, fl_12_2, up_12_2, hc, true_and, and_true, true_or, or_true, implies_true, b10_0, b10_1])
              | (apply s_109_65; try simp only [mi_1, fl_1_4, mi_12, cm_o, fl_12_2, up_12_2, hc, true_and, and_true, true_or, or_true, implies_true, b10_0, b10_1])
              | (refine c133 X _ _ _ _ (by omega) ?_)
              | (refine c32 X g hc _ _ (by omega) ?_)
              | (refine c14 X g hc _ _ _ (by omega) ?_)
              | (refine And.intro ?_ ?_)
              | (intro _)
              | omega
              | (unfold r32; omega)
              | (exact hQ)
              | (exact qe hQ (by omega))
              | (exact qe hQ (by (repeat' split) <;> omega))
              | (exact b01)
              | (exact n01)
              | (exact n21)
              | (exact n31))
          have q2 : Ret X 60 196 [(2, 87), (0, (c : Int)), (0, i), (0, t)] g (some (0, -1004)) g := by
            intro d Q hd hQ
            repeat' (first
              | (exfalso; omega)
              | (exact absurd trivial (by assumption))
              | (apply s_196_0; try simp only [mi_87, fl_87_22, up_87_22, fl_87_23, mi_107, ml_107, fl_107, up_107, r1, true_and, and_true, true_or, or_true, implies_true, b10_0, b10_1])
              | (apply s_196_6; try simp only [mi_87, fl_87_22, up_87_22, fl_87_23, mi_107, ml_107, fl_107, up_107, r1, true_and, and_true, true_or, or_true, implies_true, b10_0, b10_1])
              | (apply s_196_22; try simp only [mi_87, fl_87_22, up_87_22, fl_87_23, mi_107, ml_107, fl_107, up_107, r1, true_and, and_true, true_or, or_true, implies_true, b10_0, b10_1])
              | (apply s_196_54; try simp only [mi_87, fl_87_22, up_87_22, fl_87_23, mi_107, ml_107, fl_107, up_107, r1, true_and, and_true, true_or, or_true, implies_true, b10_0, b10_1])
              | (apply s_196_68; try simp only [mi_87, fl_87_22, up_87_22, fl_87_23, mi_107, ml_107, fl_107, up_107, r1, true_and, and_true, true_or, or_true, implies_true, b10_0, b10_1])
              | (apply s_196_82; try simp only [mi_87, fl_87_22, up_87_22, fl_87_23, mi_107, ml_107, fl_107, up_107, r1, true_and, and_true, true_or, or_true, implies_true, b10_0, b10_1])
              | (refine c144 X _ _ _ _ _ _ (by omega) ?_)
              | (refine c175 X g hc _ hb _ _ (by omega) ?_)
              | (refine And.intro ?_ ?_)
              | (intro _)
              | omega
              | (unfold r32; omega)
              | (exact hQ)
              | (exact qe hQ (by omega))
              | (exact qe hQ (by (repeat' split) <;> omega))
              | (exact b01)
              | (exact n01)
              | (exact n21)
              | (exact n31))
          exact PR_of q1 q2 rr d Q hd hQ
      · have q1 : Ret X 60 109 [(2, 1), (0, (c : Int)), (0, i), (0, t), (3, 0)] g (some (0, -1002)) g := by
          intro d Q hd hQ
          repeat' (first
            | (exfalso; omega)
            | (exact absurd trivial (by assumption))
            | (apply s_109_0; try simp only [mi_1, fl_1_4, mi_12, cm_o, fl_12_2, up_12_2, hc, true_and, and_true, true_or, or_true, implies_true, b10_0, b10_1])
            | (apply s_109_8; try simp only [mi_1, fl_1_4, mi_12, cm_o, fl_12_2, up_12_2, hc, true_and, and_true, true_or, or_true, implies_true, b10_0, b10_1])
            | (apply s_109_21; try simp only [mi_1, fl_1_4, mi_12, cm_o, fl_12_2, up_12_2, hc, true_and, and_true, true_or, or_true, implies_true, b10_0, b10_1])
            | (apply s_109_32; try simp only [mi_1, fl_1_4, mi_12, cm_o, fl_12_2, up_12_2, hc, true_and, and_true, true_or, or_true, implies_true, b10_0, b10_1])
            | (apply s_109_65; try simp only [mi_1, fl_1_4, mi_12, cm_o, fl_12_2, up_12_2, hc, true_and, and_true, true_or, or_true, implies_true, b10_0, b10_1])
            | (refine c133 X _ _ _ _ (by omega) ?_)
            | (refine c32 X g hc _ _ (by omega) ?_)
            | (refine c14 X g hc _ _ _ (by omega) ?_)
            | (refine And.intro ?_ ?_)
            | (intro _)
            | omega
            | (unfold r32; omega)
            | (exact hQ)
            | (exact qe hQ (by omega))
            | (exact qe hQ (by (repeat' split) <;> omega))
            | (exact b01)
            | (exact n01)
            | (exact n21)
            | (exact n31))
        have q2 : Ret X 60 196 [(2, 87), (0, (c : Int)), (0, i), (0, t)] g (some (0, -1002)) g := by
          intro d Q hd hQ
          repeat' (first
            | (exfalso; omega)
            | (exact absurd trivial (by assumption))
            | (apply s_196_0; try simp only [mi_87, fl_87_22, up_87_22, fl_87_23, mi_107, ml_107, fl_107, up_107, true_and, and_true, true_or, or_true, implies_true, b10_0, b10_1])
            | (apply s_196_6; try simp only [mi_87, fl_87_22, up_87_22, fl_87_23, mi_107, ml_107, fl_107, up_107, true_and, and_true, true_or, or_true, implies_true, b10_0, b10_1])
            | (apply s_196_22; try simp only [mi_87, fl_87_22, up_87_22, fl_87_23, mi_107, ml_107, fl_107, up_107, true_and, and_true, true_or, or_true, implies_true, b10_0, b10_1])
            | (apply s_196_54; try simp only [mi_87, fl_87_22, up_87_22, fl_87_23, mi_107, ml_107, fl_107, up_107, true_and, and_true, true_or, or_true, implies_true, b10_0, b10_1])
            | (apply s_196_68; try simp only [mi_87, fl_87_22, up_87_22, fl_87_23, mi_107, ml_107, fl_107, up_107, true_and, and_true, true_or, or_true, implies_true, b10_0, b10_1])
            | (apply s_196_82; try simp only [mi_87, fl_87_22, up_87_22, fl_87_23, mi_107, ml_107, fl_107, up_107, true_and, and_true, true_or, or_true, implies_true, b10_0, b10_1])
            | (refine c144 X _ _ _ _ _ _ (by omega) ?_)
            | (refine c175 X g hc _ hb _ _ (by omega) ?_)
            | (refine And.intro ?_ ?_)
            | (intro _)
            | omega
            | (unfold r32; omega)
            | (exact hQ)
            | (exact qe hQ (by omega))
            | (exact qe hQ (by (repeat' split) <;> omega))
            | (exact b01)
            | (exact n01)
            | (exact n21)
            | (exact n31))
        exact PR_of q1 q2 rr d Q hd hQ
    · have q1 : Ret X 60 109 [(2, 1), (0, (c : Int)), (0, i), (0, t), (3, 0)] g (some (0, -1001)) g := by
        intro d Q hd hQ
        repeat' (first
          | (exfalso; omega)
          | (exact absurd trivial (by assumption))
          | (apply s_109_0; try simp only [mi_1, fl_1_4, mi_12, cm_o, fl_12_2, up_12_2, hc, true_and, and_true, true_or, or_true, implies_true, b10_0, b10_1])
          | (apply s_109_8; try simp only [mi_1, fl_1_4, mi_12, cm_o, fl_12_2, up_12_2, hc, true_and, and_true, true_or, or_true, implies_true, b10_0, b10_1])
          | (apply s_109_21; try simp only [mi_1, fl_1_4, mi_12, cm_o, fl_12_2, up_12_2, hc, true_and, and_true, true_or, or_true, implies_true, b10_0, b10_1])
          | (apply s_109_32; try simp only [mi_1, fl_1_4, mi_12, cm_o, fl_12_2, up_12_2, hc, true_and, and_true, true_or, or_true, implies_true, b10_0, b10_1])
          | (apply s_109_65; try simp only [mi_1, fl_1_4, mi_12, cm_o, fl_12_2, up_12_2, hc, true_and, and_true, true_or, or_true, implies_true, b10_0, b10_1])
          | (refine c133 X _ _ _ _ (by omega) ?_)
          | (refine c32 X g hc _ _ (by omega) ?_)
          | (refine c14 X g hc _ _ _ (by omega) ?_)
          | (refine And.intro ?_ ?_)
          | (intro _)
          | omega
          | (unfold r32; omega)
          | (exact hQ)
          | (exact qe hQ (by omega))
          | (exact qe hQ (by (repeat' split) <;> omega))
          | (exact b01)
          | (exact n01)
          | (exact n21)
          | (exact n31))
      have q2 : Ret X 60 196 [(2, 87), (0, (c : Int)), (0, i), (0, t)] g (some (0, -1001)) g := by
        intro d Q hd hQ
        repeat' (first
          | (exfalso; omega)
          | (exact absurd trivial (by assumption))
          | (apply s_196_0; try simp only [mi_87, fl_87_22, up_87_22, fl_87_23, mi_107, ml_107, fl_107, up_107, true_and, and_true, true_or, or_true, implies_true, b10_0, b10_1])
          | (apply s_196_6; try simp only [mi_87, fl_87_22, up_87_22, fl_87_23, mi_107, ml_107, fl_107, up_107, true_and, and_true, true_or, or_true, implies_true, b10_0, b10_1])
          | (apply s_196_22; try simp only [mi_87, fl_87_22, up_87_22, fl_87_23, mi_107, ml_107, fl_107, up_107, true_and, and_true, true_or, or_true, implies_true, b10_0, b10_1])
          | (apply s_196_54; try simp only [mi_87, fl_87_22, up_87_22, fl_87_23, mi_107, ml_107, fl_107, up_107, true_and, and_true, true_or, or_true, implies_true, b10_0, b10_1])
          | (apply s_196_68; try simp only [mi_87, fl_87_22, up_87_22, fl_87_23, mi_107, ml_107, fl_107, up_107, true_and, and_true, true_or, or_true, implies_true, b10_0, b10_1])
          | (apply s_196_82; try simp only [mi_87, fl_87_22, up_87_22, fl_87_23, mi_107, ml_107, fl_107, up_107, true_and, and_true, true_or, or_true, implies_true, b10_0, b10_1])
          | (refine c144 X _ _ _ _ _ _ (by omega) ?_)
          | (refine c175 X g hc _ hb _ _ (by omega) ?_)
          | (refine And.intro ?_ ?_)
          | (intro _)
          | omega
          | (unfold r32; omega)
          | (exact hQ)
          | (exact qe hQ (by omega))
          | (exact qe hQ (by (repeat' split) <;> omega))
          | (exact b01)
          | (exact n01)
          | (exact n21)
          | (exact n31))
      exact PR_of q1 q2 rr d Q hd hQ
  · have q1 : Ret X 60 109 [(2, 1), (0, a), (0, i), (0, t), (3, 0)] g (some (0, -1001)) g := by
      intro d Q hd hQ
      repeat' (first
        | (exfalso; omega)
        | (exact absurd trivial (by assumption))
        | (apply s_109_0; try simp only [mi_1, fl_1_4, mi_12, cm_o, fl_12_2, up_12_2, true_and, and_true, true_or, or_true, implies_true, b10_0, b10_1])
        | (apply s_109_8; try simp only [mi_1, fl_1_4, mi_12, cm_o, fl_12_2, up_12_2, true_and, and_true, true_or, or_true, implies_true, b10_0, b10_1])
        | (apply s_109_21; try simp only [mi_1, fl_1_4, mi_12, cm_o, fl_12_2, up_12_2, true_and, and_true, true_or, or_true, implies_true, b10_0, b10_1])
        | (apply s_109_32; try simp only [mi_1, fl_1_4, mi_12, cm_o, fl_12_2, up_12_2, true_and, and_true, true_or, or_true, implies_true, b10_0, b10_1])
        | (apply s_109_65; try simp only [mi_1, fl_1_4, mi_12, cm_o, fl_12_2, up_12_2, true_and, and_true, true_or, or_true, implies_true, b10_0, b10_1])
        | (refine c133 X _ _ _ _ (by omega) ?_)
        | (refine c32n X g _ ha _ _ (by omega) ?_)
        | (refine And.intro ?_ ?_)
        | (intro _)
        | omega
        | (unfold r32; omega)
        | (exact hQ)
        | (exact qe hQ (by omega))
        | (exact qe hQ (by (repeat' split) <;> omega))
        | (exact b01)
        | (exact n01)
        | (exact n21)
        | (exact n31))
    have q2 : Ret X 60 196 [(2, 87), (0, a), (0, i), (0, t)] g (some (0, -1001)) g := by
      intro d Q hd hQ
      repeat' (first
        | (exfalso; omega)
        | (exact absurd trivial (by assumption))
        | (apply s_196_0; try simp only [mi_87, fl_87_22, up_87_22, fl_87_23, mi_107, ml_107, fl_107, up_107, true_and, and_true, true_or, or_true, implies_true, b10_0, b10_1])
        | (apply s_196_6; try simp only [mi_87, fl_87_22, up_87_22, fl_87_23, mi_107, ml_107, fl_107, up_107, true_and, and_true, true_or, or_true, implies_true, b10_0, b10_1])
        | (apply s_196_22; try simp only [mi_87, fl_87_22, up_87_22, fl_87_23, mi_107, ml_107, fl_107, up_107, true_and, and_true, true_or, or_true, implies_true, b10_0, b10_1])
        | (apply s_196_54; try simp only [mi_87, fl_87_22, up_87_22, fl_87_23, mi_107, ml_107, fl_107, up_107, true_and, and_true, true_or, or_true, implies_true, b10_0, b10_1])
        | (apply s_196_68; try simp only [mi_87, fl_87_22, up_87_22, fl_87_23, mi_107, ml_107, fl_107, up_107, true_and, and_true, true_or, or_true, implies_true, b10_0, b10_1])
        | (apply s_196_82; try simp only [mi_87, fl_87_22, up_87_22, fl_87_23, mi_107, ml_107, fl_107, up_107, true_and, and_true, true_or, or_true, implies_true, b10_0, b10_1])
        | (refine c144 X _ _ _ _ _ _ (by omega) ?_)
        | (refine c175n X g _ _ ha _ _ (by omega) ?_)
        | (refine And.intro ?_ ?_)
        | (intro _)
        | omega
        | (unfold r32; omega)
        | (exact hQ)
        | (exact qe hQ (by omega))
        | (exact qe hQ (by (repeat' split) <;> omega))
        | (exact b01)
        | (exact n01)
        | (exact n21)
        | (exact n31))
    exact PR_of q1 q2 rr d Q hd hQ
