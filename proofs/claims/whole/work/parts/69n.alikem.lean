/-! likenesses -/
theorem c155 (X : mX) (g : mF) {s : Nat} (hs : s < 6) {w h q kind : Int} (hw : 1 ≤ w ∧ w ≤ 6) (hh : 1 ≤ h ∧ h ≤ 6) (h87 : g 87 s = w) (h88 : g 88 s = h) (hq : 0 ≤ q ∧ q < w * h) (hk : 1 ≤ kind ∧ kind ≤ 3) : Ret X 0 155 [(2, 87), (0, (s : Int)), (0, q), (0, kind), (3, 0), (3, 0)] g (some (0, tq w h kind (q % w) (q / w))) g := by
  intro d Q hd hQ
  have es : ((s : Int)).toNat = s := by omega
  have ta := tdn hq.1 w
  have ma := tmn hq.1 w
  obtain ⟨d1, d2, d3⟩ := dml hw hq
  have m1 := mul_c (y := q / w) hw d1
  have m2 := mul_c (y := h - 1 - q / w) (h := h) hw (by omega)
  have hwh := mul_b hw hh
  unfold tq at hQ
  generalize q % w = x at *
  generalize q / w = y at *
  have hc : kind = 1 ∨ kind = 2 ∨ kind = 3 := by omega
  rcases hc with rfl | rfl | rfl
  · rw [if_neg (by decide), if_pos (by decide)] at hQ
    apply s_155_0
    try simp only [mi_87, fl_87_0, mi_88, ml_88, fl_88, up_88, fl_87_1, mi_89, ml_89, fl_89, up_89, es, h87, ta, ma, true_and, and_true, true_or, or_true, implies_true, b10_0, b10_1]
    repeat' (first | refine And.intro ?_ ?_ | intro _)
    all_goals (try (first | omega | (unfold r32; omega) | exact hQ | exact qe hQ (by omega) | exact qe hQ (by (repeat' split) <;> omega) | exact b01 | exact n01 | exact n21 | exact n31 | exact absurd trivial (by assumption)))
    apply s_155_10
    try simp only [mi_87, fl_87_0, mi_88, ml_88, fl_88, up_88, fl_87_1, mi_89, ml_89, fl_89, up_89, es, h87, ta, ma, true_and, and_true, true_or, or_true, implies_true, b10_0, b10_1]
    repeat' (first | refine And.intro ?_ ?_ | intro _)
    all_goals (try (first | omega | (unfold r32; omega) | exact hQ | exact qe hQ (by omega) | exact qe hQ (by (repeat' split) <;> omega) | exact b01 | exact n01 | exact n21 | exact n31 | exact absurd trivial (by assumption)))
    apply s_155_20
    try simp only [mi_87, fl_87_0, mi_88, ml_88, fl_88, up_88, fl_87_1, mi_89, ml_89, fl_89, up_89, es, h87, true_and, and_true, true_or, or_true, implies_true, b10_0, b10_1]
    repeat' (first | refine And.intro ?_ ?_ | intro _)
    all_goals (try (first | omega | (unfold r32; omega) | exact hQ | exact qe hQ (by omega) | exact qe hQ (by (repeat' split) <;> omega) | exact b01 | exact n01 | exact n21 | exact n31 | exact absurd trivial (by assumption)))
    apply s_155_41
    try simp only [mi_87, fl_87_0, mi_88, ml_88, fl_88, up_88, fl_87_1, mi_89, ml_89, fl_89, up_89, es, h88, true_and, and_true, true_or, or_true, implies_true, b10_0, b10_1]
    repeat' (first | refine And.intro ?_ ?_ | intro _)
    all_goals (try (first | omega | (unfold r32; omega) | exact hQ | exact qe hQ (by omega) | exact qe hQ (by (repeat' split) <;> omega) | exact b01 | exact n01 | exact n21 | exact n31 | exact absurd trivial (by assumption)))
    apply s_155_64
    try simp only [mi_87, fl_87_0, mi_88, ml_88, fl_88, up_88, fl_87_1, mi_89, ml_89, fl_89, up_89, es, h87, true_and, and_true, true_or, or_true, implies_true, b10_0, b10_1]
    repeat' (first | refine And.intro ?_ ?_ | intro _)
    all_goals (try (first | omega | (unfold r32; omega) | exact hQ | exact qe hQ (by omega) | exact qe hQ (by (repeat' split) <;> omega) | exact b01 | exact n01 | exact n21 | exact n31 | exact absurd trivial (by assumption)))
  · rw [if_pos (by decide), if_neg (by decide)] at hQ
    apply s_155_0
    try simp only [mi_87, fl_87_0, mi_88, ml_88, fl_88, up_88, fl_87_1, mi_89, ml_89, fl_89, up_89, es, h87, ta, ma, true_and, and_true, true_or, or_true, implies_true, b10_0, b10_1]
    repeat' (first | refine And.intro ?_ ?_ | intro _)
    all_goals (try (first | omega | (unfold r32; omega) | exact hQ | exact qe hQ (by omega) | exact qe hQ (by (repeat' split) <;> omega) | exact b01 | exact n01 | exact n21 | exact n31 | exact absurd trivial (by assumption)))
    apply s_155_10
    try simp only [mi_87, fl_87_0, mi_88, ml_88, fl_88, up_88, fl_87_1, mi_89, ml_89, fl_89, up_89, es, h87, ta, ma, true_and, and_true, true_or, or_true, implies_true, b10_0, b10_1]
    repeat' (first | refine And.intro ?_ ?_ | intro _)
    all_goals (try (first | omega | (unfold r32; omega) | exact hQ | exact qe hQ (by omega) | exact qe hQ (by (repeat' split) <;> omega) | exact b01 | exact n01 | exact n21 | exact n31 | exact absurd trivial (by assumption)))
    apply s_155_20
    try simp only [mi_87, fl_87_0, mi_88, ml_88, fl_88, up_88, fl_87_1, mi_89, ml_89, fl_89, up_89, es, h87, true_and, and_true, true_or, or_true, implies_true, b10_0, b10_1]
    repeat' (first | refine And.intro ?_ ?_ | intro _)
    all_goals (try (first | omega | (unfold r32; omega) | exact hQ | exact qe hQ (by omega) | exact qe hQ (by (repeat' split) <;> omega) | exact b01 | exact n01 | exact n21 | exact n31 | exact absurd trivial (by assumption)))
    apply s_155_41
    try simp only [mi_87, fl_87_0, mi_88, ml_88, fl_88, up_88, fl_87_1, mi_89, ml_89, fl_89, up_89, es, h88, true_and, and_true, true_or, or_true, implies_true, b10_0, b10_1]
    repeat' (first | refine And.intro ?_ ?_ | intro _)
    all_goals (try (first | omega | (unfold r32; omega) | exact hQ | exact qe hQ (by omega) | exact qe hQ (by (repeat' split) <;> omega) | exact b01 | exact n01 | exact n21 | exact n31 | exact absurd trivial (by assumption)))
    apply s_155_64
    try simp only [mi_87, fl_87_0, mi_88, ml_88, fl_88, up_88, fl_87_1, mi_89, ml_89, fl_89, up_89, es, h87, true_and, and_true, true_or, or_true, implies_true, b10_0, b10_1]
    repeat' (first | refine And.intro ?_ ?_ | intro _)
    all_goals (try (first | omega | (unfold r32; omega) | exact hQ | exact qe hQ (by omega) | exact qe hQ (by (repeat' split) <;> omega) | exact b01 | exact n01 | exact n21 | exact n31 | exact absurd trivial (by assumption)))
  · rw [if_pos (by decide), if_pos (by decide)] at hQ
    apply s_155_0
    try simp only [mi_87, fl_87_0, mi_88, ml_88, fl_88, up_88, fl_87_1, mi_89, ml_89, fl_89, up_89, es, h87, ta, ma, true_and, and_true, true_or, or_true, implies_true, b10_0, b10_1]
    repeat' (first | refine And.intro ?_ ?_ | intro _)
    all_goals (try (first | omega | (unfold r32; omega) | exact hQ | exact qe hQ (by omega) | exact qe hQ (by (repeat' split) <;> omega) | exact b01 | exact n01 | exact n21 | exact n31 | exact absurd trivial (by assumption)))
    apply s_155_10
    try simp only [mi_87, fl_87_0, mi_88, ml_88, fl_88, up_88, fl_87_1, mi_89, ml_89, fl_89, up_89, es, h87, ta, ma, true_and, and_true, true_or, or_true, implies_true, b10_0, b10_1]
    repeat' (first | refine And.intro ?_ ?_ | intro _)
    all_goals (try (first | omega | (unfold r32; omega) | exact hQ | exact qe hQ (by omega) | exact qe hQ (by (repeat' split) <;> omega) | exact b01 | exact n01 | exact n21 | exact n31 | exact absurd trivial (by assumption)))
    apply s_155_20
    try simp only [mi_87, fl_87_0, mi_88, ml_88, fl_88, up_88, fl_87_1, mi_89, ml_89, fl_89, up_89, es, h87, true_and, and_true, true_or, or_true, implies_true, b10_0, b10_1]
    repeat' (first | refine And.intro ?_ ?_ | intro _)
    all_goals (try (first | omega | (unfold r32; omega) | exact hQ | exact qe hQ (by omega) | exact qe hQ (by (repeat' split) <;> omega) | exact b01 | exact n01 | exact n21 | exact n31 | exact absurd trivial (by assumption)))
    apply s_155_41
    try simp only [mi_87, fl_87_0, mi_88, ml_88, fl_88, up_88, fl_87_1, mi_89, ml_89, fl_89, up_89, es, h88, true_and, and_true, true_or, or_true, implies_true, b10_0, b10_1]
    repeat' (first | refine And.intro ?_ ?_ | intro _)
    all_goals (try (first | omega | (unfold r32; omega) | exact hQ | exact qe hQ (by omega) | exact qe hQ (by (repeat' split) <;> omega) | exact b01 | exact n01 | exact n21 | exact n31 | exact absurd trivial (by assumption)))
    apply s_155_64
    try simp only [mi_87, fl_87_0, mi_88, ml_88, fl_88, up_88, fl_87_1, mi_89, ml_89, fl_89, up_89, es, h87, true_and, and_true, true_or, or_true, implies_true, b10_0, b10_1]
    repeat' (first | refine And.intro ?_ ?_ | intro _)
    all_goals (try (first | omega | (unfold r32; omega) | exact hQ | exact qe hQ (by omega) | exact qe hQ (by (repeat' split) <;> omega) | exact b01 | exact n01 | exact n21 | exact n31 | exact absurd trivial (by assumption)))
theorem c156 (X : mX) (g : mF) {s : Nat} (hs : s < 6) {w h : Int} (hw : 1 ≤ w ∧ w ≤ 6) (hh : 1 ≤ h ∧ h ≤ 6) (h87 : g 87 s = w) (h88 : g 88 s = h) {R : Int} (hm : mis SH R 10) {L : Nat} (hl : mln SH R = (L : Int)) {ρ : Nat → Int} (hp : ∀ k, fl g (mix R) k = ρ k) {F M : Nat} (hF : F + M ≤ L) (hL : L ≤ 1000) (hr : ∀ i, i < M → 0 ≤ ρ (F + i) ∧ ρ (F + i) < w * h) {kind : Int} (hk : 1 ≤ kind ∧ kind ≤ 3) : (ALM w h kind M (fun i => ρ (F + i)) → Ret X 1 156 [(2, 87), (0, (s : Int)), (2, R), (0, (F : Int)), (0, (M : Int)), (0, kind), (3, 0), (3, 0), (3, 0), (3, 0)] g (some (0, 1)) g) ∧ (¬ ALM w h kind M (fun i => ρ (F + i)) → Ret X 1 156 [(2, 87), (0, (s : Int)), (2, R), (0, (F : Int)), (0, (M : Int)), (0, kind), (3, 0), (3, 0), (3, 0), (3, 0)] g (some (0, 0)) g) := by
  have run : ∀ d Q, 1 ≤ d → (ALM w h kind M (fun i => ρ (F + i)) → Q (some (0, 1)) (fl g)) → (¬ ALM w h kind M (fun i => ρ (F + i)) → Q (some (0, 0)) (fl g)) → Wp X d SH 156 0 [(2, 87), (0, (s : Int)), (2, R), (0, (F : Int)), (0, (M : Int)), (0, kind), (3, 0), (3, 0), (3, 0), (3, 0)] [] SH (fl g) Q := by
    intro d Q hd hy hn
    have key := lup (P := fun k => (∀ k', k' < k → ∃ i, i < M ∧ ρ (F + i) = tq w h kind (ρ (F + k') % w) (ρ (F + k') / w)) → ∀ v8 v9, Wp X d SH 156 6 [(2, 87), (0, (s : Int)), (2, R), (0, (F : Int)), (0, (M : Int)), (0, kind), (0, 1), (0, (k : Int)), v8, v9] [] SH (fl g) Q) M ?_ ?_ 0 (by omega)
    · have k0 := key (fun k' hk' => absurd hk' (by omega)) (3, 0) (3, 0)
      clear hy hn key
      apply s_156_0
      try simp only [mi_87, true_and, and_true, true_or, or_true, implies_true, b10_0, b10_1]
      repeat' (first | refine And.intro ?_ ?_ | intro _)
      all_goals (try (first | omega | (unfold r32; omega) | exact hQ | exact qe hQ (by omega) | exact qe hQ (by (repeat' split) <;> omega) | exact b01 | exact n01 | exact n21 | exact n31 | exact absurd trivial (by assumption)))
      all_goals (try exact k0)
    · intro hall v8 v9
      have q1 := hy (fun k hk => hall k hk)
      apply s_156_6
      exact ⟨fun _ => ⟨Or.inr rfl, q1⟩, fun z => absurd (Int.le_refl _) z⟩
    · intro k hkM ih hall v8 v9
      have e10 : ((k + 1 : Nat) : Int) = (k : Int) + 1 := by omega
      have rk : r32 ((k : Int) + 1) := by unfold r32; omega
      have efk : ((F : Int) + (k : Int)).toNat = F + k := by omega
      have hrk := hr k hkM
      have c := c155 X g hs hw hh h87 h88 hrk hk
      rw [e10] at ih
      have inner := lup (P := fun i => ∀ e : Int, (e = 0 ∨ e = 1) → (e = 1 ↔ ∃ i', i' < i ∧ ρ (F + i') = tq w h kind (ρ (F + k) % w) (ρ (F + k) / w)) → Wp X d SH 156 24 [(2, 87), (0, (s : Int)), (2, R), (0, (F : Int)), (0, (M : Int)), (0, kind), (0, 1), (0, (k : Int)), (0, e), (0, (i : Int))] [] SH (fl g) Q) M ?_ ?_ 0 (by omega)
      · have k0 := inner 0 (Or.inl rfl) ⟨fun z => absurd z (by decide), fun ⟨i', z, _⟩ => absurd z (by omega)⟩
        apply s_156_6
        exact ⟨fun z => absurd z (by omega), fun _ => ⟨fun z => absurd z (by decide), fun _ => k0⟩⟩
      · intro e he hee
        rcases he with rfl | rfl
        · have q0 := hn (fun z => absurd (hee.2 (z k hkM)) (by decide))
          apply s_156_24
          refine ⟨fun _ => ⟨rk, ?_⟩, fun z => absurd (Int.le_refl _) z⟩
          apply s_156_6
          exact ⟨fun _ => ⟨Or.inl rfl, q0⟩, fun _ => ⟨fun _ => ⟨Or.inl rfl, q0⟩, fun z => absurd rfl z⟩⟩
        · have nx := ih (fun k' hk' => by
            by_cases hkk : k' = k
            · subst hkk; exact hee.1 rfl
            · exact hall k' (by omega)) (0, 1) (0, (M : Int))
          apply s_156_24
          exact ⟨fun _ => ⟨rk, nx⟩, fun z => absurd (Int.le_refl _) z⟩
      · intro i hiM ih2 e he hee
        have e11 : ((i + 1 : Nat) : Int) = (i : Int) + 1 := by omega
        have efi : ((F : Int) + (i : Int)).toNat = F + i := by omega
        rw [e11] at ih2
        generalize tq w h kind (ρ (F + k) % w) (ρ (F + k) / w) = T at *
        rcases he with rfl | rfl
        · by_cases ht : ρ (F + i) = T
          · have nx := ih2 1 (Or.inr rfl) ⟨fun _ => ⟨i, by omega, ht⟩, fun _ => rfl⟩
            clear hy hn ih ih2 hall hee hr
            apply s_156_24
            try simp only [mi_87, hm, hl, hp, efi, efk, true_and, and_true, true_or, or_true, implies_true, b10_0, b10_1]
            repeat' (first | refine And.intro ?_ ?_ | intro _)
            all_goals (try (first | omega | (unfold r32; omega) | exact hQ | exact qe hQ (by omega) | exact qe hQ (by (repeat' split) <;> omega) | exact b01 | exact n01 | exact n21 | exact n31 | exact absurd trivial (by assumption)))
            refine c _ _ (by omega) ?_
            apply s_156_55
            try simp only [mi_87, ht, true_and, and_true, true_or, or_true, implies_true, b10_0, b10_1]
            repeat' (first | refine And.intro ?_ ?_ | intro _)
            all_goals (try (first | omega | (unfold r32; omega) | exact hQ | exact qe hQ (by omega) | exact qe hQ (by (repeat' split) <;> omega) | exact b01 | exact n01 | exact n21 | exact n31 | exact absurd trivial (by assumption)))
            apply s_156_58
            try simp only [mi_87, true_and, and_true, true_or, or_true, implies_true, b10_0, b10_1]
            repeat' (first | refine And.intro ?_ ?_ | intro _)
            all_goals (try (first | omega | (unfold r32; omega) | exact hQ | exact qe hQ (by omega) | exact qe hQ (by (repeat' split) <;> omega) | exact b01 | exact n01 | exact n21 | exact n31 | exact absurd trivial (by assumption)))
            apply s_156_63
            try simp only [mi_87, true_and, and_true, true_or, or_true, implies_true, b10_0, b10_1]
            repeat' (first | refine And.intro ?_ ?_ | intro _)
            all_goals (try (first | omega | (unfold r32; omega) | exact hQ | exact qe hQ (by omega) | exact qe hQ (by (repeat' split) <;> omega) | exact b01 | exact n01 | exact n21 | exact n31 | exact absurd trivial (by assumption)))
            all_goals (try exact nx)
          · have nx := ih2 0 (Or.inl rfl) ⟨fun z => absurd z (by decide), fun ⟨i', z1, z2⟩ => by
              by_cases hii : i' = i
              · subst hii; exact absurd z2 ht
              · exact hee.2 ⟨i', by omega, z2⟩⟩
            clear hy hn ih ih2 hall hee hr
            apply s_156_24
            try simp only [mi_87, hm, hl, hp, efi, efk, true_and, and_true, true_or, or_true, implies_true, b10_0, b10_1]
            repeat' (first | refine And.intro ?_ ?_ | intro _)
            all_goals (try (first | omega | (unfold r32; omega) | exact hQ | exact qe hQ (by omega) | exact qe hQ (by (repeat' split) <;> omega) | exact b01 | exact n01 | exact n21 | exact n31 | exact absurd trivial (by assumption)))
            refine c _ _ (by omega) ?_
            apply s_156_55
            try simp only [mi_87, ht, true_and, and_true, true_or, or_true, implies_true, b10_0, b10_1]
            repeat' (first | refine And.intro ?_ ?_ | intro _)
            all_goals (try (first | omega | (unfold r32; omega) | exact hQ | exact qe hQ (by omega) | exact qe hQ (by (repeat' split) <;> omega) | exact b01 | exact n01 | exact n21 | exact n31 | exact absurd trivial (by assumption)))
            apply s_156_63
            try simp only [mi_87, true_and, and_true, true_or, or_true, implies_true, b10_0, b10_1]
            repeat' (first | refine And.intro ?_ ?_ | intro _)
            all_goals (try (first | omega | (unfold r32; omega) | exact hQ | exact qe hQ (by omega) | exact qe hQ (by (repeat' split) <;> omega) | exact b01 | exact n01 | exact n21 | exact n31 | exact absurd trivial (by assumption)))
            all_goals (try exact nx)
        · have nx := ih2 1 (Or.inr rfl) ⟨fun _ => by
            obtain ⟨i', a, b⟩ := hee.1 rfl
            exact ⟨i', by omega, b⟩, fun _ => rfl⟩
          clear hy hn ih ih2 hall hee hr c
          apply s_156_24
          try simp only [mi_87, true_and, and_true, true_or, or_true, implies_true, b10_0, b10_1]
          repeat' (first | refine And.intro ?_ ?_ | intro _)
          all_goals (try (first | omega | (unfold r32; omega) | exact hQ | exact qe hQ (by omega) | exact qe hQ (by (repeat' split) <;> omega) | exact b01 | exact n01 | exact n21 | exact n31 | exact absurd trivial (by assumption)))
          apply s_156_58
          try simp only [mi_87, true_and, and_true, true_or, or_true, implies_true, b10_0, b10_1]
          repeat' (first | refine And.intro ?_ ?_ | intro _)
          all_goals (try (first | omega | (unfold r32; omega) | exact hQ | exact qe hQ (by omega) | exact qe hQ (by (repeat' split) <;> omega) | exact b01 | exact n01 | exact n21 | exact n31 | exact absurd trivial (by assumption)))
          apply s_156_63
          try simp only [mi_87, true_and, and_true, true_or, or_true, implies_true, b10_0, b10_1]
          repeat' (first | refine And.intro ?_ ?_ | intro _)
          all_goals (try (first | omega | (unfold r32; omega) | exact hQ | exact qe hQ (by omega) | exact qe hQ (by (repeat' split) <;> omega) | exact b01 | exact n01 | exact n21 | exact n31 | exact absurd trivial (by assumption)))
          all_goals (try exact nx)
  exact ⟨fun hz d Q hd hQ => run d Q hd (fun _ => hQ) (fun hn => absurd hz hn), fun hz d Q hd hQ => run d Q hd (fun hy => absurd hy hz) (fun _ => hQ)⟩
