/-! neighbours on the path -/
theorem sumN_nil {n : Nat} {a : Nat → Int} (h : ∀ k, k < n → a k = 0) : sumN n a = 0 := by
  rw [sumN_congr (n := n) (a := a) (b := fun _ => 0) h]
  exact sumN_zero
theorem sumN_one {n : Nat} {a : Nat → Int} {x : Nat} (hx : x < n) (h1 : a x = 1) (h0 : ∀ k, k < n → k ≠ x → a k = 0) : sumN n a = 1 := by
  induction n with
  | zero => omega
  | succ n ih =>
    simp only [sumN]
    by_cases hxn : x = n
    · subst hxn
      have z : sumN x a = 0 := sumN_nil (fun k hk => h0 k (by omega) (by omega))
      omega
    · have z := ih (by omega) (fun k hk => h0 k (by omega))
      have y := h0 n (by omega) (by omega)
      omega
theorem near_inj {w h a b : Int} (hw : 1 ≤ w ∧ w ≤ 6) (hb : 0 ≤ b) {i j : Nat} (hi : i < 4) (hj : j < 4) (h1 : nearf w h a i = b) (h2 : nearf w h a j = b) : i = j := by
  have m1 := Int.emod_lt_of_pos a (show 0 < w by omega)
  have m0 := Int.emod_nonneg a (show w ≠ 0 by omega)
  have ci : i = 0 ∨ i = 1 ∨ i = 2 ∨ i = 3 := by omega
  have cj : j = 0 ∨ j = 1 ∨ j = 2 ∨ j = 3 := by omega
  rcases ci with rfl | rfl | rfl | rfl <;> rcases cj with rfl | rfl | rfl | rfl <;> first | rfl | skip
  all_goals
    exfalso
    revert h1 h2
    simp only [nearf0, nearf1, nearf2, nearf3]
    split <;> split <;> omega
def Ad (w a b : Int) : Int := if (if b % w - a % w < 0 then -(b % w - a % w) else b % w - a % w) + (if b / w - a / w < 0 then -(b / w - a / w) else b / w - a / w) = 1 then 1 else 0
theorem Ad_y {w a b : Int} (h : nrC w a b) : Ad w a b = 1 := if_pos h
theorem Ad_n {w a b : Int} (h : ¬ nrC w a b) : Ad w a b = 0 := if_neg h
theorem Ad_s {w h a b : Int} (hw : 1 ≤ w ∧ w ≤ 6) (hh : 1 ≤ h ∧ h ≤ 6) (ha : 0 ≤ a ∧ a < w * h) (hb : 0 ≤ b ∧ b < w * h) : sumN 4 (fun side => if nearf w h a side = b then (1 : Int) else 0) = Ad w a b := by
  by_cases hn : nrC w a b
  · rw [Ad_y hn]
    obtain ⟨side, s1, s2⟩ := (near_iff hw hh ha hb).2 hn
    exact sumN_one s1 (if_pos s2) (fun k hk hne => if_neg (fun z => hne (near_inj hw hb.1 hk s1 z s2)))
  · rw [Ad_n hn]
    exact sumN_nil (fun k hk => if_neg (fun z => hn ((near_iff hw hh ha hb).1 ⟨k, hk, z⟩)))
theorem Ad_c {w a b : Int} : Ad w a b = Ad w b a := by
  have e : nrC w a b ↔ nrC w b a := by
    unfold nrC
    constructor
    · intro z; revert z; split <;> split <;> split <;> split <;> omega
    · intro z; revert z; split <;> split <;> split <;> split <;> omega
  by_cases hn : nrC w a b
  · rw [Ad_y hn, Ad_y (e.1 hn)]
  · rw [Ad_n hn, Ad_n (fun z => hn (e.2 z))]
theorem Ad_z {w a : Int} : Ad w a a = 0 := by
  refine Ad_n ?_
  unfold nrC
  split <;> split <;> omega
theorem Ad_b {w a b : Int} : 0 ≤ Ad w a b ∧ Ad w a b ≤ 1 := by unfold Ad; split <;> omega
def nbF (w h : Int) (p : Nat → Int) (q : Int) (side : Nat) : Int := if nearf w h q side ≠ -1 ∧ p (nearf w h q side).toNat ≠ -1 then 1 else 0
def nbc (w h : Int) (p : Nat → Int) (q : Int) : Int := sumN 4 (nbF w h p q)
theorem nbF_b {w h : Int} {p : Nat → Int} {q : Int} {side : Nat} : 0 ≤ nbF w h p q side ∧ nbF w h p q side ≤ 1 := by unfold nbF; split <;> omega
theorem nbc_b {w h : Int} {p : Nat → Int} {q : Int} : 0 ≤ nbc w h p q ∧ nbc w h p q ≤ 4 := by
  have z := sumN_b (n := 4) (a := nbF w h p q) (lo := 0) (hi := 1) (fun i _ => nbF_b)
  unfold nbc
  omega
theorem nbc_s {w h : Int} {N : Nat} {ρ p : Nat → Int} (hw : 1 ≤ w ∧ w ≤ 6) (hh : 1 ≤ h ∧ h ≤ 6) (hr : ∀ i, i < N → 0 ≤ ρ i ∧ ρ i < w * h) (hp : ∀ i, i < N → p (ρ i).toNat = (i : Int)) (hq : ∀ k : Nat, (k : Int) < w * h → p k = -1 ∨ ∃ i : Nat, i < N ∧ p k = (i : Int) ∧ ρ i = (k : Int)) {q : Int} (ha : 0 ≤ q ∧ q < w * h) : nbc w h p q = sumN N (fun j => Ad w q (ρ j)) := by
  have e : sumN N (fun j => Ad w q (ρ j)) = sumN N (fun j => sumN 4 (fun side => if nearf w h q side = ρ j then (1 : Int) else 0)) := sumN_congr (fun j hj => (Ad_s hw hh ha (hr j hj)).symm)
  rw [e, sumN_swap]
  unfold nbc
  refine sumN_congr (fun side hs => ?_)
  show (if nearf w h q side ≠ -1 ∧ p (nearf w h q side).toNat ≠ -1 then (1 : Int) else 0) = sumN N (fun j => if nearf w h q side = ρ j then (1 : Int) else 0)
  rcases nearf_r hw hh ha hs with z | z
  · rw [z, if_neg (fun y => y.1 rfl)]
    exact (sumN_nil (fun j hj => if_neg (fun y => by have := hr j hj; omega))).symm
  · rcases hq (nearf w h q side).toNat (by omega) with y | ⟨i, i1, i2, i3⟩
    · rw [if_neg (fun x => x.2 y)]
      exact (sumN_nil (fun j hj => if_neg (fun x => by have := hp j hj; rw [← x, y] at this; omega))).symm
    · rw [if_pos ⟨by omega, by omega⟩]
      exact (sumN_one i1 (if_pos (by omega)) (fun j hj hne => if_neg (fun x => by have := hp j hj; rw [← x, i2] at this; omega))).symm
def TtR (A : Nat → Nat → Int) (n i : Nat) : Int := sumN n (fun j => if i + 2 ≤ j then A i j else 0)
def Tt (A : Nat → Nat → Int) (n : Nat) : Int := sumN n (TtR A n)
theorem Tt_S {A : Nat → Nat → Int} (n : Nat) (hs : ∀ i j, i < n → j < n → A i j = A j i) (h0 : ∀ i, i < n → A i i = 0) (h1 : ∀ i, i + 1 < n → A i (i + 1) = 1) : sumN n (fun i => sumN n (fun j => A i j)) = 2 * (Tt A n + (if n = 0 then 0 else (n : Int) - 1)) := by
  induction n with
  | zero => rfl
  | succ n ih =>
    have z := ih (fun i j hi hj => hs i j (by omega) (by omega)) (fun i hi => h0 i (by omega)) (fun i hi => h1 i (by omega))
    have e1 : sumN (n + 1) (fun i => sumN (n + 1) (fun j => A i j)) = sumN n (fun i => sumN n (fun j => A i j)) + sumN n (fun i => A i n) + (sumN n (fun j => A n j) + A n n) := by
      show sumN n (fun i => sumN n (fun j => A i j) + A i n) + (sumN n (fun j => A n j) + A n n) = _
      rw [sumN_plus]
    have e2 : sumN n (fun j => A n j) = sumN n (fun i => A i n) := sumN_congr (fun i hi => hs _ _ (by omega) (by omega))
    have e3 : Tt A (n + 1) = Tt A n + sumN n (fun i => if i + 2 ≤ n then A i n else 0) := by
      show sumN n (fun i => sumN n (fun j => if i + 2 ≤ j then A i j else 0) + (if i + 2 ≤ n then A i n else 0)) + (sumN n (fun j => if n + 2 ≤ j then A n j else 0) + (if n + 2 ≤ n then A n n else 0)) = _
      rw [sumN_plus, sumN_nil (n := n) (a := fun j => if n + 2 ≤ j then A n j else 0) (fun k hk => if_neg (by omega)), if_neg (by omega)]
      show Tt A n + _ + (0 + 0) = _
      omega
    have e4 : sumN n (fun i => A i n) = sumN n (fun i => if i + 2 ≤ n then A i n else 0) + (if n = 0 then 0 else 1) := by
      cases n with
      | zero => rfl
      | succ m =>
        show sumN m (fun i => A i (m + 1)) + A m (m + 1) = sumN m (fun i => if i + 2 ≤ m + 1 then A i (m + 1) else 0) + (if m + 2 ≤ m + 1 then A m (m + 1) else 0) + _
        rw [sumN_congr (n := m) (a := fun i => A i (m + 1)) (b := fun i => if i + 2 ≤ m + 1 then A i (m + 1) else 0) (fun i hi => (if_pos (by omega)).symm), h1 m (by omega), if_neg (by omega), if_neg (by omega)]
        omega
    have e5 := h0 n (by omega)
    rw [e1, e2, e3, z, e4, e5, if_neg (show ¬ n + 1 = 0 by omega)]
    by_cases n0 : n = 0
    · rw [if_pos n0, if_pos n0]; omega
    · rw [if_neg n0, if_neg n0]; omega
theorem c68 (X : mX) (g : mF) {s : Nat} (hs : s < 6) (hI : Iseal g s) {R : Int} (hm : mis SH R 10) (hl : mln SH R = 36) {p : Nat → Int} (hp : ∀ k, fl g (mix R) k = p k) {q : Nat} (hq : (q : Int) < g (56 + 5 * s) 0 * g (56 + 5 * s) 1) : Ret X 0 68 [(2, 57 + 5 * (s : Int)), (2, R), (0, (q : Int)), (3, 0), (3, 0), (3, 0)] g (some (0, nbc (g (56 + 5 * s) 0) (g (56 + 5 * s) 1) p (q : Int))) g := by
  intro d Q hd hQ
  obtain ⟨⟨p1, p2, -⟩, -, -, -, -, s6, -⟩ := hI
  have hwh := mul_b p1.2 p2.2
  have hr := fun i (hi : i < 4) => nearf_r p1.2 p2.2 (show 0 ≤ (q : Int) ∧ (q : Int) < g (56 + 5 * s) 0 * g (56 + 5 * s) 1 by omega) hi
  have hn := s6 q hq
  unfold nbc at hQ
  have key := lup (P := fun i => ∀ v5, Wp X d SH 68 5 [(2, 57 + 5 * (s : Int)), (2, R), (0, (q : Int)), (0, sumN i (nbF (g (56 + 5 * s) 0) (g (56 + 5 * s) 1) p (q : Int))), (0, (i : Int)), v5] [] SH (fl g) Q) 4 ?_ ?_ 0 (by omega)
  · have k0 := key (3, 0)
    apply s_68_0
    try simp only [sm_o, sl_6, sm_6, sn_6, sa_6, sz_6, true_and, and_true, true_or, or_true, implies_true, b10_0, b10_1]
    repeat' (first | refine And.intro ?_ ?_ | intro _)
    all_goals (try (first | omega | (unfold r32; omega) | exact hQ | exact qe hQ (by omega) | exact qe hQ (by (repeat' split) <;> omega) | exact b01 | exact n01 | exact n21 | exact n31 | exact absurd trivial (by assumption)))
    all_goals (try exact k0)
  · intro v5
    apply s_68_5
    try simp only [sm_o, sl_6, sm_6, sn_6, sa_6, sz_6, true_and, and_true, true_or, or_true, implies_true, b10_0, b10_1]
    repeat' (first | refine And.intro ?_ ?_ | intro _)
    all_goals (try (first | omega | (unfold r32; omega) | exact hQ | exact qe hQ (by omega) | exact qe hQ (by (repeat' split) <;> omega) | exact b01 | exact n01 | exact n21 | exact n31 | exact absurd trivial (by assumption)))
  · intro i hi ih v5
    have ix : ((q : Int) * 4 + (i : Int)).toNat = 4 * q + i := by omega
    have e10 : ((i + 1 : Nat) : Int) = (i : Int) + 1 := by omega
    have e4 := hn i hi
    have es : sumN (i + 1) (nbF (g (56 + 5 * s) 0) (g (56 + 5 * s) 1) p (q : Int)) = sumN i (nbF (g (56 + 5 * s) 0) (g (56 + 5 * s) 1) p (q : Int)) + nbF (g (56 + 5 * s) 0) (g (56 + 5 * s) 1) p (q : Int) i := rfl
    have bb := sumN_b (n := i) (a := nbF (g (56 + 5 * s) 0) (g (56 + 5 * s) 1) p (q : Int)) (lo := 0) (hi := 1) (fun i _ => nbF_b)
    have hri := hr i hi
    rw [es, e10] at ih
    generalize hF : nbF (g (56 + 5 * s) 0) (g (56 + 5 * s) 1) p (q : Int) i = F at ih
    unfold nbF at hF
    generalize nearf (g (56 + 5 * s) 0) (g (56 + 5 * s) 1) (q : Int) i = v at *
    generalize sumN i (nbF (g (56 + 5 * s) 0) (g (56 + 5 * s) 1) p (q : Int)) = S at *
    clear hn hr
    by_cases hv : v = -1
    · subst hv
      rw [if_neg (fun z => z.1 rfl)] at hF
      subst hF
      have nx := ih (0, -1)
      rw [Int.add_zero] at nx
      apply s_68_5
      try simp only [sm_o, sl_6, sm_6, sn_6, sa_6, sz_6, hs, ix, e4, true_and, and_true, true_or, or_true, implies_true, b10_0, b10_1]
      repeat' (first | refine And.intro ?_ ?_ | intro _)
      all_goals (try (first | omega | (unfold r32; omega) | exact hQ | exact qe hQ (by omega) | exact qe hQ (by (repeat' split) <;> omega) | exact b01 | exact n01 | exact n21 | exact n31 | exact absurd trivial (by assumption)))
      apply s_68_24
      try simp only [sm_o, sl_6, sm_6, sn_6, sa_6, sz_6, true_and, and_true, true_or, or_true, implies_true, b10_0, b10_1]
      repeat' (first | refine And.intro ?_ ?_ | intro _)
      all_goals (try (first | omega | (unfold r32; omega) | exact hQ | exact qe hQ (by omega) | exact qe hQ (by (repeat' split) <;> omega) | exact b01 | exact n01 | exact n21 | exact n31 | exact absurd trivial (by assumption)))
      apply s_68_41
      try simp only [sm_o, sl_6, sm_6, sn_6, sa_6, sz_6, true_and, and_true, true_or, or_true, implies_true, b10_0, b10_1]
      repeat' (first | refine And.intro ?_ ?_ | intro _)
      all_goals (try (first | omega | (unfold r32; omega) | exact hQ | exact qe hQ (by omega) | exact qe hQ (by (repeat' split) <;> omega) | exact b01 | exact n01 | exact n21 | exact n31 | exact absurd trivial (by assumption)))
      all_goals (try exact nx)
    · have nx := ih (0, v)
      have hv2 := hri.resolve_left hv
      clear hri
      by_cases hz : p v.toNat = -1
      · rw [if_neg (fun z => z.2 hz)] at hF
        subst hF
        rw [Int.add_zero] at nx
        apply s_68_5
        try simp only [sm_o, sl_6, sm_6, sn_6, sa_6, sz_6, hs, ix, e4, true_and, and_true, true_or, or_true, implies_true, b10_0, b10_1]
        repeat' (first | refine And.intro ?_ ?_ | intro _)
        all_goals (try (first | omega | (unfold r32; omega) | exact hQ | exact qe hQ (by omega) | exact qe hQ (by (repeat' split) <;> omega) | exact b01 | exact n01 | exact n21 | exact n31 | exact absurd trivial (by assumption)))
        apply s_68_24
        try simp only [sm_o, sl_6, sm_6, sn_6, sa_6, sz_6, hm, hl, hp, hv, hz, true_and, and_true, true_or, or_true, implies_true, b10_0, b10_1]
        repeat' (first | refine And.intro ?_ ?_ | intro _)
        all_goals (try (first | omega | (unfold r32; omega) | exact hQ | exact qe hQ (by omega) | exact qe hQ (by (repeat' split) <;> omega) | exact b01 | exact n01 | exact n21 | exact n31 | exact absurd trivial (by assumption)))
        all_goals (try contradiction)
        apply s_68_41
        try simp only [sm_o, sl_6, sm_6, sn_6, sa_6, sz_6, true_and, and_true, true_or, or_true, implies_true, b10_0, b10_1]
        repeat' (first | refine And.intro ?_ ?_ | intro _)
        all_goals (try (first | omega | (unfold r32; omega) | exact hQ | exact qe hQ (by omega) | exact qe hQ (by (repeat' split) <;> omega) | exact b01 | exact n01 | exact n21 | exact n31 | exact absurd trivial (by assumption)))
        all_goals (try exact nx)
      · rw [if_pos ⟨hv, hz⟩] at hF
        subst hF
        apply s_68_5
        try simp only [sm_o, sl_6, sm_6, sn_6, sa_6, sz_6, hs, ix, e4, true_and, and_true, true_or, or_true, implies_true, b10_0, b10_1]
        repeat' (first | refine And.intro ?_ ?_ | intro _)
        all_goals (try (first | omega | (unfold r32; omega) | exact hQ | exact qe hQ (by omega) | exact qe hQ (by (repeat' split) <;> omega) | exact b01 | exact n01 | exact n21 | exact n31 | exact absurd trivial (by assumption)))
        apply s_68_24
        try simp only [sm_o, sl_6, sm_6, sn_6, sa_6, sz_6, hm, hl, hp, hv, hz, true_and, and_true, true_or, or_true, implies_true, b10_0, b10_1]
        repeat' (first | refine And.intro ?_ ?_ | intro _)
        all_goals (try (first | omega | (unfold r32; omega) | exact hQ | exact qe hQ (by omega) | exact qe hQ (by (repeat' split) <;> omega) | exact b01 | exact n01 | exact n21 | exact n31 | exact absurd trivial (by assumption)))
        all_goals (try contradiction)
        apply s_68_41
        try simp only [sm_o, sl_6, sm_6, sn_6, sa_6, sz_6, true_and, and_true, true_or, or_true, implies_true, b10_0, b10_1]
        repeat' (first | refine And.intro ?_ ?_ | intro _)
        all_goals (try (first | omega | (unfold r32; omega) | exact hQ | exact qe hQ (by omega) | exact qe hQ (by (repeat' split) <;> omega) | exact b01 | exact n01 | exact n21 | exact n31 | exact absurd trivial (by assumption)))
        all_goals (try exact nx)
/-- the path's pairs -/
def PA (g : mF) (s i j : Nat) : Int := Ad (g (56 + 5 * s) 0) (g (57 + 5 * s) i) (g (57 + 5 * s) j)
theorem PA_S {g : mF} {s N : Nat} (hI : Iseal g s) (hN : g (56 + 5 * s) 2 = (N : Int)) : sumN N (fun i => nbc (g (56 + 5 * s) 0) (g (56 + 5 * s) 1) (g (58 + 5 * s)) (g (57 + 5 * s) i)) = 2 * (Tt (PA g s) N + (if N = 0 then 0 else (N : Int) - 1)) := by
  obtain ⟨⟨p1, p2, ⟨p3, p4, p5⟩, p6⟩, s2, s3, s4', s5, s6, s7⟩ := hI
  have hwh := mul_b p1.2 p2.2
  rw [hN] at p4 p5 p6 s4' s5 s7
  have hr : ∀ i, i < N → 0 ≤ g (57 + 5 * s) i ∧ g (57 + 5 * s) i < g (56 + 5 * s) 0 * g (56 + 5 * s) 1 := fun i hi => ⟨(p6 i (by omega)).2.1, (s5 i (by omega)).2⟩
  rw [← Tt_S (A := PA g s) N (fun i j _ _ => Ad_c) (fun i _ => Ad_z) (fun i hi => ?_)]
  · refine sumN_congr (fun i hi => ?_)
    refine nbc_s (ρ := fun j => g (57 + 5 * s) j) p1.2 p2.2 hr (fun j hj => (s5 j (by omega)).1) (fun k hk => ?_) (hr i hi)
    rcases s4' k (by omega) with z | ⟨j, z1, z2, z3⟩
    · exact Or.inl z
    · exact Or.inr ⟨j, by omega, z2, z3⟩
  · have y := s7 i (by omega)
    exact Ad_y ((near_iff p1.2 p2.2 (hr i (by omega)) (hr (i + 1) hi)).1 y)
theorem c67 (X : mX) (g : mF) {s N : Nat} (hs : s < 6) (hI : Iseal g s) (hN : g (56 + 5 * s) 2 = (N : Int)) : Ret X 1 67 [(2, 57 + 5 * (s : Int)), (3, 0), (3, 0)] g (some (0, Tt (PA g s) N)) g := by
  intro d Q hd hQ
  have hS := PA_S hI hN
  obtain ⟨⟨p1, p2, ⟨p3, p4, p5⟩, p6⟩, s2, s3, s4', s5, s6, s7⟩ := id hI
  have hwh := mul_b p1.2 p2.2
  rw [hN] at p4 p5
  have bS := fun i => sumN_b (n := i) (a := fun i => nbc (g (56 + 5 * s) 0) (g (56 + 5 * s) 1) (g (58 + 5 * s)) (g (57 + 5 * s) i)) (lo := 0) (hi := 4) (fun i _ => nbc_b)
  have key := lup (P := fun i => Wp X d SH 67 4 [(2, 57 + 5 * (s : Int)), (0, sumN i (fun i => nbc (g (56 + 5 * s) 0) (g (56 + 5 * s) 1) (g (58 + 5 * s)) (g (57 + 5 * s) i))), (0, (i : Int))] [] SH (fl g) Q) N ?_ ?_ 0 (by omega)
  · skip
    apply s_67_0
    try simp only [sm_o, sl_2, su_2, sl_4, sm_4, sn_4, sa_4, sz_4, sl_3, sm_3, sn_3, sa_3, sz_3, true_and, and_true, true_or, or_true, implies_true, b10_0, b10_1]
    repeat' (first | refine And.intro ?_ ?_ | intro _)
    all_goals (try (first | omega | (unfold r32; omega) | exact hQ | exact qe hQ (by omega) | exact qe hQ (by (repeat' split) <;> omega) | exact b01 | exact n01 | exact n21 | exact n31 | exact absurd trivial (by assumption)))
    all_goals (try exact key)
  · have b := bS N
    rw [hS] at b ⊢
    clear s2 s3 s4' s5 s6 s7 bS p6
    by_cases hN0 : N = 0
    · subst hN0
      have hQ0 : Q (some (0, 0)) (fl g) := hQ
      apply s_67_4
      try simp only [sm_o, sl_2, su_2, sl_4, sm_4, sn_4, sa_4, sz_4, sl_3, sm_3, sn_3, sa_3, sz_3, hs, hN, true_and, and_true, true_or, or_true, implies_true, b10_0, b10_1]
      repeat' (first | refine And.intro ?_ ?_ | intro _)
      all_goals (try (first | omega | (unfold r32; omega) | exact hQ | exact qe hQ (by omega) | exact qe hQ (by (repeat' split) <;> omega) | exact b01 | exact n01 | exact n21 | exact n31 | exact absurd trivial (by assumption)))
      all_goals (try exact hQ0)
    · rw [if_neg hN0] at b ⊢
      generalize Tt (PA g s) N = T at *
      have td : Int.tdiv (2 * (T + ((N : Int) - 1))) 2 = T + ((N : Int) - 1) := by rw [tdn (by omega)]; omega
      have nz : ((N : Int) = 0) = False := eq_false (by omega)
      apply s_67_4
      try simp only [sm_o, sl_2, su_2, sl_4, sm_4, sn_4, sa_4, sz_4, sl_3, sm_3, sn_3, sa_3, sz_3, hs, hN, td, nz, true_and, and_true, true_or, or_true, implies_true, b10_0, b10_1]
      repeat' (first | refine And.intro ?_ ?_ | intro _)
      all_goals (try (first | omega | (unfold r32; omega) | exact hQ | exact qe hQ (by omega) | exact qe hQ (by (repeat' split) <;> omega) | exact b01 | exact n01 | exact n21 | exact n31 | exact absurd trivial (by assumption)))
  · intro i hi ih
    have e10 : ((i + 1 : Nat) : Int) = (i : Int) + 1 := by omega
    have ei : ((i : Int)).toNat = i := by omega
    have b := bS i
    have pb := (p6 i (by omega)).2
    have s5i := (s5 i (by omega)).2
    obtain ⟨q, hq⟩ : ∃ q : Nat, g (57 + 5 * s) i = (q : Int) := ⟨(g (57 + 5 * s) i).toNat, by omega⟩
    have c := c68 X g hs hI (sm_4 hs) (sn_4 hs) (p := g (58 + 5 * s)) (sa_4 g hs) (q := q) (by omega)
    have es : sumN (i + 1) (fun i => nbc (g (56 + 5 * s) 0) (g (56 + 5 * s) 1) (g (58 + 5 * s)) (g (57 + 5 * s) i)) = sumN i (fun i => nbc (g (56 + 5 * s) 0) (g (56 + 5 * s) 1) (g (58 + 5 * s)) (g (57 + 5 * s) i)) + nbc (g (56 + 5 * s) 0) (g (56 + 5 * s) 1) (g (58 + 5 * s)) (g (57 + 5 * s) i) := rfl
    have bn := nbc_b (w := g (56 + 5 * s) 0) (h := g (56 + 5 * s) 1) (p := g (58 + 5 * s)) (q := g (57 + 5 * s) i)
    rw [es, e10] at ih
    rw [← hq] at c
    clear s2 s3 s4' s5 s6 s7 bS p6 hS
    generalize nbc (g (56 + 5 * s) 0) (g (56 + 5 * s) 1) (g (58 + 5 * s)) (g (57 + 5 * s) i) = B at *
    generalize sumN i (fun i => nbc (g (56 + 5 * s) 0) (g (56 + 5 * s) 1) (g (58 + 5 * s)) (g (57 + 5 * s) i)) = S at *
    apply s_67_4
    try simp only [sm_o, sl_2, su_2, sl_4, sm_4, sn_4, sa_4, sz_4, sl_3, sm_3, sn_3, sa_3, sz_3, hs, hN, true_and, and_true, true_or, or_true, implies_true, b10_0, b10_1]
    repeat' (first | refine And.intro ?_ ?_ | intro _)
    all_goals (try (first | omega | (unfold r32; omega) | exact hQ | exact qe hQ (by omega) | exact qe hQ (by (repeat' split) <;> omega) | exact b01 | exact n01 | exact n21 | exact n31 | exact absurd trivial (by assumption)))
    refine c _ _ (by omega) ?_
    apply s_67_27
    try simp only [sm_o, sl_2, su_2, sl_4, sm_4, sn_4, sa_4, sz_4, sl_3, sm_3, sn_3, sa_3, sz_3, true_and, and_true, true_or, or_true, implies_true, b10_0, b10_1]
    repeat' (first | refine And.intro ?_ ?_ | intro _)
    all_goals (try (first | omega | (unfold r32; omega) | exact hQ | exact qe hQ (by omega) | exact qe hQ (by (repeat' split) <;> omega) | exact b01 | exact n01 | exact n21 | exact n31 | exact absurd trivial (by assumption)))
    all_goals (try exact ih)
theorem c162 (X : mX) (g : mF) {s N : Nat} (hs : s < 6) (hI : Iseal g s) (hN : g (56 + 5 * s) 2 = (N : Int)) : Ret X 2 162 [(2, 87), (0, (s : Int)), (3, 0), (3, 0), (3, 0)] g (some (0, Tt (PA g s) N)) g := by
  intro d Q hd hQ
  obtain ⟨⟨p1, p2, ⟨p3, p4, p5⟩, p6⟩, s2, s3, s4', s5, s6, s7⟩ := id hI
  have hwh := mul_b p1.2 p2.2
  have es : ((s : Int)).toNat = s := by omega
  rw [hN] at p3 p4 p5 p6 s5
  have hrow : ∀ i j, 0 ≤ sumN j (fun j => if i + 2 ≤ j then PA g s i j else 0) ∧ sumN j (fun j => if i + 2 ≤ j then PA g s i j else 0) ≤ (j : Int) := fun i j => by
    have z := sumN_b (n := j) (a := fun j => if i + 2 ≤ j then PA g s i j else 0) (lo := 0) (hi := 1) (fun k _ => by
      have y := Ad_b (w := g (56 + 5 * s) 0) (a := g (57 + 5 * s) i) (b := g (57 + 5 * s) k)
      show 0 ≤ (if i + 2 ≤ k then PA g s i k else 0) ∧ (if i + 2 ≤ k then PA g s i k else 0) ≤ 1
      unfold PA
      split <;> omega)
    omega
  have hsum : ∀ i, 0 ≤ sumN i (TtR (PA g s) N) ∧ sumN i (TtR (PA g s) N) ≤ (i : Int) * 36 := fun i => by
    have z := sumN_b (n := i) (a := TtR (PA g s) N) (lo := 0) (hi := 36) (fun k _ => by
      have y := hrow k N
      show 0 ≤ sumN N (fun j => if k + 2 ≤ j then PA g s k j else 0) ∧ sumN N (fun j => if k + 2 ≤ j then PA g s k j else 0) ≤ 36
      omega)
    omega
  have key := lup (P := fun i => ∀ v4, Wp X d SH 162 4 [(2, 87), (0, (s : Int)), (0, sumN i (TtR (PA g s) N)), (0, (i : Int)), v4] [] SH (fl g) Q) N ?_ ?_ 0 (by omega)
  · have k0 := key (3, 0)
    apply s_162_0
    try simp only [mi_87, fl_87_4, mi_92, ml_92, fl_92, up_92, fl_87_3, mi_91, ml_91, fl_91, up_91, true_and, and_true, true_or, or_true, implies_true, b10_0, b10_1]
    repeat' (first | refine And.intro ?_ ?_ | intro _)
    all_goals (try (first | omega | (unfold r32; omega) | exact hQ | exact qe hQ (by omega) | exact qe hQ (by (repeat' split) <;> omega) | exact b01 | exact n01 | exact n21 | exact n31 | exact absurd trivial (by assumption)))
    all_goals (try exact k0)
  · intro v4
    apply s_162_4
    try simp only [mi_87, fl_87_4, mi_92, ml_92, fl_92, up_92, fl_87_3, mi_91, ml_91, fl_91, up_91, es, p3, true_and, and_true, true_or, or_true, implies_true, b10_0, b10_1]
    repeat' (first | refine And.intro ?_ ?_ | intro _)
    all_goals (try (first | omega | (unfold r32; omega) | exact hQ | exact qe hQ (by omega) | exact qe hQ (by (repeat' split) <;> omega) | exact b01 | exact n01 | exact n21 | exact n31 | exact absurd trivial (by assumption)))
    all_goals (try exact hQ)
  · intro i hi ih v4
    have e10 : ((i + 1 : Nat) : Int) = (i : Int) + 1 := by omega
    have esi : (36 * (s : Int) + (i : Int)).toNat = 36 * s + i := by omega
    have bi := hsum i
    have eS : sumN (i + 1) (TtR (PA g s) N) = sumN i (TtR (PA g s) N) + sumN N (fun j => if i + 2 ≤ j then PA g s i j else 0) := rfl
    rw [eS, e10] at ih
    generalize sumN i (TtR (PA g s) N) = S at *
    have in2 : ∀ j : Nat, i + 2 ≤ j → j ≤ N → Wp X d SH 162 19 [(2, 87), (0, (s : Int)), (0, S + sumN j (fun j => if i + 2 ≤ j then PA g s i j else 0)), (0, (i : Int)), (0, (j : Int))] [] SH (fl g) Q := by
      intro j hj hjN
      refine lup (P := fun j => i + 2 ≤ j → Wp X d SH 162 19 [(2, 87), (0, (s : Int)), (0, S + sumN j (fun j => if i + 2 ≤ j then PA g s i j else 0)), (0, (i : Int)), (0, (j : Int))] [] SH (fl g) Q) N ?_ ?_ j hjN hj
      · intro _
        have nx := ih (0, (N : Int))
        apply s_162_19
        try simp only [mi_87, fl_87_4, mi_92, ml_92, fl_92, up_92, fl_87_3, mi_91, ml_91, fl_91, up_91, es, p3, true_and, and_true, true_or, or_true, implies_true, b10_0, b10_1]
        repeat' (first | refine And.intro ?_ ?_ | intro _)
        all_goals (try (first | omega | (unfold r32; omega) | exact hQ | exact qe hQ (by omega) | exact qe hQ (by (repeat' split) <;> omega) | exact b01 | exact n01 | exact n21 | exact n31 | exact absurd trivial (by assumption)))
        all_goals (try exact nx)
      · intro j hj ih2 hij
        have ih2 := ih2 (by omega)
        have e11 : ((j + 1 : Nat) : Int) = (j : Int) + 1 := by omega
        have esj : (36 * (s : Int) + (j : Int)).toNat = 36 * s + j := by omega
        have bj := hrow i j
        have e1 : sumN (j + 1) (fun j => if i + 2 ≤ j then PA g s i j else 0) = sumN j (fun j => if i + 2 ≤ j then PA g s i j else 0) + PA g s i j := by
          show sumN j (fun j => if i + 2 ≤ j then PA g s i j else 0) + (if i + 2 ≤ j then PA g s i j else 0) = _
          rw [if_pos hij]
        rw [e1, e11] at ih2
        generalize sumN j (fun j => if i + 2 ≤ j then PA g s i j else 0) = T at *
        have hqi := p6 i (by omega)
        have hqj := p6 j (by omega)
        have z1 := hqi.1
        have z2 := hqj.1
        have c := c150 X g hs p1.2 p2.2 p1.1 ⟨hqi.2.1, (s5 i (by omega)).2⟩ ⟨hqj.2.1, (s5 j (by omega)).2⟩
        have hA : PA g s i j = Ad (g (56 + 5 * s) 0) (g (57 + 5 * s) i) (g (57 + 5 * s) j) := rfl
        rw [hA] at ih2
        clear s2 s3 s4' s5 s6 s7 p6 hrow hsum ih
        by_cases hn : nrC (g (56 + 5 * s) 0) (g (57 + 5 * s) i) (g (57 + 5 * s) j)
        · rw [Ad_y hn, ← Int.add_assoc] at ih2
          have c1 := c.1 hn
          clear c hn
          apply s_162_19
          try simp only [mi_87, fl_87_4, mi_92, ml_92, fl_92, up_92, fl_87_3, mi_91, ml_91, fl_91, up_91, es, p3, esi, esj, z1, z2, true_and, and_true, true_or, or_true, implies_true, b10_0, b10_1]
          repeat' (first | refine And.intro ?_ ?_ | intro _)
          all_goals (try (first | omega | (unfold r32; omega) | exact hQ | exact qe hQ (by omega) | exact qe hQ (by (repeat' split) <;> omega) | exact b01 | exact n01 | exact n21 | exact n31 | exact absurd trivial (by assumption)))
          refine c1 _ _ (by omega) ?_
          apply s_162_59
          try simp only [mi_87, fl_87_4, mi_92, ml_92, fl_92, up_92, fl_87_3, mi_91, ml_91, fl_91, up_91, true_and, and_true, true_or, or_true, implies_true, b10_0, b10_1]
          repeat' (first | refine And.intro ?_ ?_ | intro _)
          all_goals (try (first | omega | (unfold r32; omega) | exact hQ | exact qe hQ (by omega) | exact qe hQ (by (repeat' split) <;> omega) | exact b01 | exact n01 | exact n21 | exact n31 | exact absurd trivial (by assumption)))
          apply s_162_67
          try simp only [mi_87, fl_87_4, mi_92, ml_92, fl_92, up_92, fl_87_3, mi_91, ml_91, fl_91, up_91, true_and, and_true, true_or, or_true, implies_true, b10_0, b10_1]
          repeat' (first | refine And.intro ?_ ?_ | intro _)
          all_goals (try (first | omega | (unfold r32; omega) | exact hQ | exact qe hQ (by omega) | exact qe hQ (by (repeat' split) <;> omega) | exact b01 | exact n01 | exact n21 | exact n31 | exact absurd trivial (by assumption)))
          all_goals (try exact ih2)
        · rw [Ad_n hn, Int.add_zero] at ih2
          have c1 := c.2 hn
          clear c hn
          apply s_162_19
          try simp only [mi_87, fl_87_4, mi_92, ml_92, fl_92, up_92, fl_87_3, mi_91, ml_91, fl_91, up_91, es, p3, esi, esj, z1, z2, true_and, and_true, true_or, or_true, implies_true, b10_0, b10_1]
          repeat' (first | refine And.intro ?_ ?_ | intro _)
          all_goals (try (first | omega | (unfold r32; omega) | exact hQ | exact qe hQ (by omega) | exact qe hQ (by (repeat' split) <;> omega) | exact b01 | exact n01 | exact n21 | exact n31 | exact absurd trivial (by assumption)))
          refine c1 _ _ (by omega) ?_
          apply s_162_59
          try simp only [mi_87, fl_87_4, mi_92, ml_92, fl_92, up_92, fl_87_3, mi_91, ml_91, fl_91, up_91, true_and, and_true, true_or, or_true, implies_true, b10_0, b10_1]
          repeat' (first | refine And.intro ?_ ?_ | intro _)
          all_goals (try (first | omega | (unfold r32; omega) | exact hQ | exact qe hQ (by omega) | exact qe hQ (by (repeat' split) <;> omega) | exact b01 | exact n01 | exact n21 | exact n31 | exact absurd trivial (by assumption)))
          apply s_162_67
          try simp only [mi_87, fl_87_4, mi_92, ml_92, fl_92, up_92, fl_87_3, mi_91, ml_91, fl_91, up_91, Int.add_zero, true_and, and_true, true_or, or_true, implies_true, b10_0, b10_1]
          repeat' (first | refine And.intro ?_ ?_ | intro _)
          all_goals (try (first | omega | (unfold r32; omega) | exact hQ | exact qe hQ (by omega) | exact qe hQ (by (repeat' split) <;> omega) | exact b01 | exact n01 | exact n21 | exact n31 | exact absurd trivial (by assumption)))
          all_goals (try exact ih2)
    by_cases h2 : i + 2 ≤ N
    · have st := in2 (i + 2) (by omega) h2
      have e0 : sumN (i + 2) (fun j => if i + 2 ≤ j then PA g s i j else 0) = 0 := sumN_nil (fun k hk => if_neg (by omega))
      have e12 : ((i + 2 : Nat) : Int) = (i : Int) + 2 := by omega
      rw [e0, Int.add_zero, e12] at st
      clear s2 s3 s4' s5 s6 s7 p6 hrow hsum in2
      apply s_162_4
      try simp only [mi_87, fl_87_4, mi_92, ml_92, fl_92, up_92, fl_87_3, mi_91, ml_91, fl_91, up_91, es, p3, true_and, and_true, true_or, or_true, implies_true, b10_0, b10_1]
      repeat' (first | refine And.intro ?_ ?_ | intro _)
      all_goals (try (first | omega | (unfold r32; omega) | exact hQ | exact qe hQ (by omega) | exact qe hQ (by (repeat' split) <;> omega) | exact b01 | exact n01 | exact n21 | exact n31 | exact absurd trivial (by assumption)))
      all_goals (try exact st)
    · have e0 : sumN N (fun j => if i + 2 ≤ j then PA g s i j else 0) = 0 := sumN_nil (fun k hk => if_neg (by omega))
      rw [e0, Int.add_zero] at ih
      have nx := ih (0, (i : Int) + 2)
      clear s2 s3 s4' s5 s6 s7 p6 hrow hsum in2 ih
      apply s_162_4
      try simp only [mi_87, fl_87_4, mi_92, ml_92, fl_92, up_92, fl_87_3, mi_91, ml_91, fl_91, up_91, es, p3, true_and, and_true, true_or, or_true, implies_true, b10_0, b10_1]
      repeat' (first | refine And.intro ?_ ?_ | intro _)
      all_goals (try (first | omega | (unfold r32; omega) | exact hQ | exact qe hQ (by omega) | exact qe hQ (by (repeat' split) <;> omega) | exact b01 | exact n01 | exact n21 | exact n31 | exact absurd trivial (by assumption)))
      apply s_162_19
      try simp only [mi_87, fl_87_4, mi_92, ml_92, fl_92, up_92, fl_87_3, mi_91, ml_91, fl_91, up_91, es, p3, true_and, and_true, true_or, or_true, implies_true, b10_0, b10_1]
      repeat' (first | refine And.intro ?_ ?_ | intro _)
      all_goals (try (first | omega | (unfold r32; omega) | exact hQ | exact qe hQ (by omega) | exact qe hQ (by (repeat' split) <;> omega) | exact b01 | exact n01 | exact n21 | exact n31 | exact absurd trivial (by assumption)))
      all_goals (try exact nx)
