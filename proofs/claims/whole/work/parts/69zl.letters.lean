/-! words of a text: the class's numbers and the reference's -/
def wc (l : Nat → Int) : Nat → Int
  | 0 => 0
  | m + 1 => wc l m % 72057594037927936 * 256 + l m
def rc (l : Nat → Int) : Nat → Int
  | 0 => 0
  | m + 1 => if 100000000 < rc l m then 1000000000 else 27 * rc l m + l m - 96
def wof (x : Int) : Int := if x = 1650814060 then 0 else if x = 465624852596 then 1 else if x = 495924372848 then 2 else if x = 495739823472 then 3 else if x = 1685222765 then 4 else -1
def rof (x : Int) : Int := if x = 43347 then 0 else if x = 6559778 then 1 else if x = 10553884 then 2 else if x = 10337371 then 3 else if x = 92434 then 4 else -1
theorem wof_b {x : Int} : wof x = -1 ∨ 0 ≤ wof x ∧ wof x ≤ 4 := by
  unfold wof
  by_cases h0 : x = 1650814060
  · rw [if_pos h0]; exact Or.inr ⟨by decide, by decide⟩
  · rw [if_neg h0]
    by_cases h1 : x = 465624852596
    · rw [if_pos h1]; exact Or.inr ⟨by decide, by decide⟩
    · rw [if_neg h1]
      by_cases h2 : x = 495924372848
      · rw [if_pos h2]; exact Or.inr ⟨by decide, by decide⟩
      · rw [if_neg h2]
        by_cases h3 : x = 495739823472
        · rw [if_pos h3]; exact Or.inr ⟨by decide, by decide⟩
        · rw [if_neg h3]
          by_cases h4 : x = 1685222765
          · rw [if_pos h4]; exact Or.inr ⟨by decide, by decide⟩
          · rw [if_neg h4]; exact Or.inl rfl
theorem rof_wof {R W : Int} (i0 : R = 43347 ↔ W = 1650814060) (i1 : R = 6559778 ↔ W = 465624852596) (i2 : R = 10553884 ↔ W = 495924372848) (i3 : R = 10337371 ↔ W = 495739823472) (i4 : R = 92434 ↔ W = 1685222765) : rof R = wof W := by
  unfold rof wof
  by_cases h0 : W = 1650814060
  · rw [if_pos (i0.2 h0), if_pos h0]
  · rw [if_neg (fun x => h0 (i0.1 x)), if_neg h0]
    by_cases h1 : W = 465624852596
    · rw [if_pos (i1.2 h1), if_pos h1]
    · rw [if_neg (fun x => h1 (i1.1 x)), if_neg h1]
      by_cases h2 : W = 495924372848
      · rw [if_pos (i2.2 h2), if_pos h2]
      · rw [if_neg (fun x => h2 (i2.1 x)), if_neg h2]
        by_cases h3 : W = 495739823472
        · rw [if_pos (i3.2 h3), if_pos h3]
        · rw [if_neg (fun x => h3 (i3.1 x)), if_neg h3]
          by_cases h4 : W = 1685222765
          · rw [if_pos (i4.2 h4), if_pos h4]
          · rw [if_neg (fun x => h4 (i4.1 x)), if_neg h4]
/-! bytes side by side -/
theorem bs1 {x l : Int} (h : 0 ≤ l ∧ l < 256) : (x % 72057594037927936 * 256 + l) % 256 = l := by omega
theorem bs2 {x l : Int} (h : 0 ≤ l ∧ l < 256) : (x % 72057594037927936 * 256 + l) % 65536 = x % 256 * 256 + l := by omega
theorem bs3 {x l : Int} (h : 0 ≤ l ∧ l < 256) : (x % 72057594037927936 * 256 + l) % 16777216 = x % 65536 * 256 + l := by omega
theorem bs4 {x l : Int} (h : 0 ≤ l ∧ l < 256) : (x % 72057594037927936 * 256 + l) % 4294967296 = x % 16777216 * 256 + l := by omega
theorem bs5 {x l : Int} (h : 0 ≤ l ∧ l < 256) : (x % 72057594037927936 * 256 + l) % 1099511627776 = x % 4294967296 * 256 + l := by omega
theorem bs6 {x l : Int} (h : 0 ≤ l ∧ l < 256) : (x % 72057594037927936 * 256 + l) % 281474976710656 = x % 1099511627776 * 256 + l := by omega
theorem bs7 {x l : Int} (h : 0 ≤ l ∧ l < 256) : (x % 72057594037927936 * 256 + l) % 72057594037927936 = x % 281474976710656 * 256 + l := by omega
theorem wc_s {l : Nat → Int} {m : Nat} : wc l (m + 1) = wc l m % 72057594037927936 * 256 + l m := rfl
theorem wc_b {l : Nat → Int} : ∀ m, (∀ i, i < m → 97 ≤ l i ∧ l i ≤ 122) → 0 ≤ wc l m ∧ wc l m % 256 < 123 ∧ wc l m % 65536 < 31488 ∧ wc l m % 16777216 < 8060928 ∧ wc l m % 4294967296 < 2063597568 ∧ wc l m % 1099511627776 < 528280977408 ∧ wc l m % 281474976710656 < 135239930216448 ∧ wc l m % 72057594037927936 < 34621422135410688 ∧ wc l m < 8863084066665136128 := by
  intro m
  induction m with
  | zero =>
    intro _
    rw [show wc l 0 = 0 from rfl]
    exact ⟨by decide, by decide, by decide, by decide, by decide, by decide, by decide, by decide, by decide⟩
  | succ m ih =>
    intro h
    have z := h m (by omega)
    obtain ⟨y0, y1, y2, y3, y4, y5, y6, y7, y8⟩ := ih (fun i hi => h i (by omega))
    have zb : 0 ≤ l m ∧ l m < 256 := by omega
    rw [wc_s, bs1 zb, bs2 zb, bs3 zb, bs4 zb, bs5 zb, bs6 zb, bs7 zb]
    have n7 : 0 ≤ wc l m % 72057594037927936 := by omega
    refine ⟨by omega, by omega, by omega, by omega, by omega, by omega, by omega, by omega, by omega⟩
theorem wc_6 {l : Nat → Int} (m : Nat) (h : ∀ i, i < m + 6 → 97 ≤ l i ∧ l i ≤ 122) : 106652627894272 ≤ wc l (m + 6) := by
  have b : ∀ i, i < m + 6 → 0 ≤ l i ∧ l i < 256 := fun i hi => by
    have := h i hi
    omega
  have a1 : wc l (m + 1) % 256 = l m := by rw [wc_s, bs1 (b m (by omega))]
  have a2 : wc l (m + 2) % 65536 = wc l (m + 1) % 256 * 256 + l (m + 1) := by rw [show m + 2 = (m + 1) + 1 from rfl, wc_s, bs2 (b _ (by omega))]
  have a3 : wc l (m + 3) % 16777216 = wc l (m + 2) % 65536 * 256 + l (m + 2) := by rw [show m + 3 = (m + 2) + 1 from rfl, wc_s, bs3 (b _ (by omega))]
  have a4 : wc l (m + 4) % 4294967296 = wc l (m + 3) % 16777216 * 256 + l (m + 3) := by rw [show m + 4 = (m + 3) + 1 from rfl, wc_s, bs4 (b _ (by omega))]
  have a5 : wc l (m + 5) % 1099511627776 = wc l (m + 4) % 4294967296 * 256 + l (m + 4) := by rw [show m + 5 = (m + 4) + 1 from rfl, wc_s, bs5 (b _ (by omega))]
  have a6 : wc l (m + 6) % 281474976710656 = wc l (m + 5) % 1099511627776 * 256 + l (m + 5) := by rw [show m + 6 = (m + 5) + 1 from rfl, wc_s, bs6 (b _ (by omega))]
  have l0 := h m (by omega)
  have l1 := b (m + 1) (by omega)
  have l2 := b (m + 2) (by omega)
  have l3 := b (m + 3) (by omega)
  have l4 := b (m + 4) (by omega)
  have l5 := b (m + 5) (by omega)
  have nn := (wc_b (m + 6) h).1
  rw [a5, a4, a3, a2, a1] at a6
  have le : wc l (m + 6) % 281474976710656 ≤ wc l (m + 6) := by
    generalize wc l (m + 6) = w at nn
    omega
  rw [a6] at le
  omega
theorem rc_b {l : Nat → Int} : ∀ m, (∀ i, i < m → 97 ≤ l i ∧ l i ≤ 122) → 0 ≤ rc l m ∧ rc l m ≤ 2700000026 := by
  intro m
  induction m with
  | zero =>
    intro _
    rw [show rc l 0 = 0 from rfl]
    exact ⟨by decide, by decide⟩
  | succ m ih =>
    intro h
    have z := h m (by omega)
    have y := ih (fun i hi => h i (by omega))
    unfold rc
    by_cases hx : 100000000 < rc l m
    · rw [if_pos hx]; exact ⟨by decide, by decide⟩
    · rw [if_neg hx]; exact ⟨by omega, by omega⟩
theorem rc_s {l : Nat → Int} {m : Nat} {v : Int} (hv : rc l m = v) (h : ¬ 100000000 < v) : rc l (m + 1) = 27 * v + l m - 96 := by
  subst hv
  exact if_neg h
theorem rc_6 {l : Nat → Int} : ∀ m, (∀ i, i < m + 6 → 97 ≤ l i ∧ l i ≤ 122) → 14348907 ≤ rc l (m + 6) := by
  intro m
  induction m with
  | zero =>
    intro h
    have l0 := h 0 (by omega)
    have l1 := h 1 (by omega)
    have l2 := h 2 (by omega)
    have l3 := h 3 (by omega)
    have l4 := h 4 (by omega)
    have l5 := h 5 (by omega)
    have r1 : rc l 1 = l 0 - 96 := by
      have z := rc_s (l := l) (m := 0) (v := 0) rfl (by decide)
      have y : rc l 1 = _ := z
      rw [y]
      show 27 * (0) + l 0 - 96 = _
      omega
    have r2 : rc l 2 = 27 * (l 0 - 96) + (l 1 - 96) := by
      have z := rc_s (l := l) (m := 1) r1 (by omega)
      have y : rc l 2 = _ := z
      rw [y]
      show 27 * (l 0 - 96) + l 1 - 96 = _
      omega
    have r3 : rc l 3 = 27 * (27 * (l 0 - 96) + (l 1 - 96)) + (l 2 - 96) := by
      have z := rc_s (l := l) (m := 2) r2 (by omega)
      have y : rc l 3 = _ := z
      rw [y]
      show 27 * (27 * (l 0 - 96) + (l 1 - 96)) + l 2 - 96 = _
      omega
    have r4 : rc l 4 = 27 * (27 * (27 * (l 0 - 96) + (l 1 - 96)) + (l 2 - 96)) + (l 3 - 96) := by
      have z := rc_s (l := l) (m := 3) r3 (by omega)
      have y : rc l 4 = _ := z
      rw [y]
      show 27 * (27 * (27 * (l 0 - 96) + (l 1 - 96)) + (l 2 - 96)) + l 3 - 96 = _
      omega
    have r5 : rc l 5 = 27 * (27 * (27 * (27 * (l 0 - 96) + (l 1 - 96)) + (l 2 - 96)) + (l 3 - 96)) + (l 4 - 96) := by
      have z := rc_s (l := l) (m := 4) r4 (by omega)
      have y : rc l 5 = _ := z
      rw [y]
      show 27 * (27 * (27 * (27 * (l 0 - 96) + (l 1 - 96)) + (l 2 - 96)) + (l 3 - 96)) + l 4 - 96 = _
      omega
    have z := rc_s (l := l) (m := 5) r5 (by omega)
    have y : rc l (0 + 6) = 27 * (27 * (27 * (27 * (27 * (l 0 - 96) + (l 1 - 96)) + (l 2 - 96)) + (l 3 - 96)) + (l 4 - 96)) + l 5 - 96 := z
    rw [y]
    omega
  | succ m ih =>
    intro h
    have y := ih (fun i hi => h i (by omega))
    have z := h (m + 6) (by omega)
    rw [show m + 1 + 6 = (m + 6) + 1 by omega]
    unfold rc
    by_cases hx : 100000000 < rc l (m + 6)
    · rw [if_pos hx]; decide
    · rw [if_neg hx]; omega
theorem wr {l : Nat → Int} (m : Nat) (h : ∀ i, i < m → 97 ≤ l i ∧ l i ≤ 122) : rof (rc l m) = wof (wc l m) ∧ (rc l m = 12257495 ↔ wc l m = 512736125800) := by
  have e0 : wc l 0 = 0 := rfl
  have e1 : wc l 1 = wc l 0 % 72057594037927936 * 256 + l 0 := rfl
  have e2 : wc l 2 = wc l 1 % 72057594037927936 * 256 + l 1 := rfl
  have e3 : wc l 3 = wc l 2 % 72057594037927936 * 256 + l 2 := rfl
  have e4 : wc l 4 = wc l 3 % 72057594037927936 * 256 + l 3 := rfl
  have e5 : wc l 5 = wc l 4 % 72057594037927936 * 256 + l 4 := rfl
  have w1 : wc l 1 = l 0 := by rw [e1, e0]; omega
  have r0 : rc l 0 = 0 := rfl
  have hm : (m = 0 ∨ m = 1 ∨ m = 2 ∨ m = 3 ∨ m = 4 ∨ m = 5) ∨ 6 ≤ m := by omega
  rcases hm with (rfl | rfl | rfl | rfl | rfl | rfl) | hm
  · rw [r0, e0]
    exact ⟨by decide, by decide⟩
  · have l0 := h 0 (by omega)
    have r1 : rc l 1 = l 0 - 96 := by
      have z := rc_s (l := l) (m := 0) (v := 0) rfl (by decide)
      have y : rc l 1 = _ := z
      rw [y]
      show 27 * (0) + l 0 - 96 = _
      omega
    rw [r1, w1]
    exact ⟨rof_wof ⟨fun x => by omega, fun x => by omega⟩ ⟨fun x => by omega, fun x => by omega⟩ ⟨fun x => by omega, fun x => by omega⟩ ⟨fun x => by omega, fun x => by omega⟩ ⟨fun x => by omega, fun x => by omega⟩, ⟨fun x => by omega, fun x => by omega⟩⟩
  · have l0 := h 0 (by omega)
    have l1 := h 1 (by omega)
    have r1 : rc l 1 = l 0 - 96 := by
      have z := rc_s (l := l) (m := 0) (v := 0) rfl (by decide)
      have y : rc l 1 = _ := z
      rw [y]
      show 27 * (0) + l 0 - 96 = _
      omega
    have r2 : rc l 2 = 27 * (l 0 - 96) + (l 1 - 96) := by
      have z := rc_s (l := l) (m := 1) r1 (by omega)
      have y : rc l 2 = _ := z
      rw [y]
      show 27 * (l 0 - 96) + l 1 - 96 = _
      omega
    have w2 : wc l 2 = 256 * l 0 + l 1 := by rw [e2, w1]; omega
    rw [r2, w2]
    exact ⟨rof_wof ⟨fun x => by omega, fun x => by omega⟩ ⟨fun x => by omega, fun x => by omega⟩ ⟨fun x => by omega, fun x => by omega⟩ ⟨fun x => by omega, fun x => by omega⟩ ⟨fun x => by omega, fun x => by omega⟩, ⟨fun x => by omega, fun x => by omega⟩⟩
  · have l0 := h 0 (by omega)
    have l1 := h 1 (by omega)
    have l2 := h 2 (by omega)
    have r1 : rc l 1 = l 0 - 96 := by
      have z := rc_s (l := l) (m := 0) (v := 0) rfl (by decide)
      have y : rc l 1 = _ := z
      rw [y]
      show 27 * (0) + l 0 - 96 = _
      omega
    have r2 : rc l 2 = 27 * (l 0 - 96) + (l 1 - 96) := by
      have z := rc_s (l := l) (m := 1) r1 (by omega)
      have y : rc l 2 = _ := z
      rw [y]
      show 27 * (l 0 - 96) + l 1 - 96 = _
      omega
    have r3 : rc l 3 = 27 * (27 * (l 0 - 96) + (l 1 - 96)) + (l 2 - 96) := by
      have z := rc_s (l := l) (m := 2) r2 (by omega)
      have y : rc l 3 = _ := z
      rw [y]
      show 27 * (27 * (l 0 - 96) + (l 1 - 96)) + l 2 - 96 = _
      omega
    have w2 : wc l 2 = 256 * l 0 + l 1 := by rw [e2, w1]; omega
    have w3 : wc l 3 = 65536 * l 0 + 256 * l 1 + l 2 := by rw [e3, w2]; omega
    rw [r3, w3]
    exact ⟨rof_wof ⟨fun x => by omega, fun x => by omega⟩ ⟨fun x => by omega, fun x => by omega⟩ ⟨fun x => by omega, fun x => by omega⟩ ⟨fun x => by omega, fun x => by omega⟩ ⟨fun x => by omega, fun x => by omega⟩, ⟨fun x => by omega, fun x => by omega⟩⟩
  · have l0 := h 0 (by omega)
    have l1 := h 1 (by omega)
    have l2 := h 2 (by omega)
    have l3 := h 3 (by omega)
    have r1 : rc l 1 = l 0 - 96 := by
      have z := rc_s (l := l) (m := 0) (v := 0) rfl (by decide)
      have y : rc l 1 = _ := z
      rw [y]
      show 27 * (0) + l 0 - 96 = _
      omega
    have r2 : rc l 2 = 27 * (l 0 - 96) + (l 1 - 96) := by
      have z := rc_s (l := l) (m := 1) r1 (by omega)
      have y : rc l 2 = _ := z
      rw [y]
      show 27 * (l 0 - 96) + l 1 - 96 = _
      omega
    have r3 : rc l 3 = 27 * (27 * (l 0 - 96) + (l 1 - 96)) + (l 2 - 96) := by
      have z := rc_s (l := l) (m := 2) r2 (by omega)
      have y : rc l 3 = _ := z
      rw [y]
      show 27 * (27 * (l 0 - 96) + (l 1 - 96)) + l 2 - 96 = _
      omega
    have r4 : rc l 4 = 27 * (27 * (27 * (l 0 - 96) + (l 1 - 96)) + (l 2 - 96)) + (l 3 - 96) := by
      have z := rc_s (l := l) (m := 3) r3 (by omega)
      have y : rc l 4 = _ := z
      rw [y]
      show 27 * (27 * (27 * (l 0 - 96) + (l 1 - 96)) + (l 2 - 96)) + l 3 - 96 = _
      omega
    have w2 : wc l 2 = 256 * l 0 + l 1 := by rw [e2, w1]; omega
    have w3 : wc l 3 = 65536 * l 0 + 256 * l 1 + l 2 := by rw [e3, w2]; omega
    have w4 : wc l 4 = 16777216 * l 0 + 65536 * l 1 + 256 * l 2 + l 3 := by rw [e4, w3]; omega
    have r4' : rc l 4 = 19683 * (l 0 - 96) + 729 * (l 1 - 96) + 27 * (l 2 - 96) + (l 3 - 96) := by
      rw [r4]
      omega
    rw [r4', w4]
    clear r1 r2 r3 r4 r4' w2 w3 w4 w1 e0 e1 e2 e3 e4 e5 r0 h
    generalize l 0 = a at *
    generalize l 1 = b at *
    generalize l 2 = c at *
    generalize l 3 = d at *
    have p1 : 16777216 * a + 65536 * b + 256 * c + d = 1650814060 → a = 98 ∧ b = 101 ∧ c = 108 ∧ d = 108 := fun x => ⟨by omega, by omega, by omega, by omega⟩
    have p2 : 19683 * (a - 96) + 729 * (b - 96) + 27 * (c - 96) + (d - 96) = 43347 → a = 98 ∧ b = 101 ∧ c = 108 ∧ d = 108 := fun x => ⟨by omega, by omega, by omega, by omega⟩
    have p3 : 16777216 * a + 65536 * b + 256 * c + d = 1685222765 → a = 100 ∧ b = 114 ∧ c = 117 ∧ d = 109 := fun x => ⟨by omega, by omega, by omega, by omega⟩
    have p4 : 19683 * (a - 96) + 729 * (b - 96) + 27 * (c - 96) + (d - 96) = 92434 → a = 100 ∧ b = 114 ∧ c = 117 ∧ d = 109 := fun x => ⟨by omega, by omega, by omega, by omega⟩
    refine ⟨rof_wof ⟨fun x => ?_, fun x => ?_⟩ ⟨fun x => by omega, fun x => by omega⟩ ⟨fun x => by omega, fun x => by omega⟩ ⟨fun x => by omega, fun x => by omega⟩ ⟨fun x => ?_, fun x => ?_⟩, ⟨fun x => by omega, fun x => by omega⟩⟩
    · have y := p2 x
      omega
    · have y := p1 x
      omega
    · have y := p4 x
      omega
    · have y := p3 x
      omega
  · have l0 := h 0 (by omega)
    have l1 := h 1 (by omega)
    have l2 := h 2 (by omega)
    have l3 := h 3 (by omega)
    have l4 := h 4 (by omega)
    have r1 : rc l 1 = l 0 - 96 := by
      have z := rc_s (l := l) (m := 0) (v := 0) rfl (by decide)
      have y : rc l 1 = _ := z
      rw [y]
      show 27 * (0) + l 0 - 96 = _
      omega
    have r2 : rc l 2 = 27 * (l 0 - 96) + (l 1 - 96) := by
      have z := rc_s (l := l) (m := 1) r1 (by omega)
      have y : rc l 2 = _ := z
      rw [y]
      show 27 * (l 0 - 96) + l 1 - 96 = _
      omega
    have r3 : rc l 3 = 27 * (27 * (l 0 - 96) + (l 1 - 96)) + (l 2 - 96) := by
      have z := rc_s (l := l) (m := 2) r2 (by omega)
      have y : rc l 3 = _ := z
      rw [y]
      show 27 * (27 * (l 0 - 96) + (l 1 - 96)) + l 2 - 96 = _
      omega
    have r4 : rc l 4 = 27 * (27 * (27 * (l 0 - 96) + (l 1 - 96)) + (l 2 - 96)) + (l 3 - 96) := by
      have z := rc_s (l := l) (m := 3) r3 (by omega)
      have y : rc l 4 = _ := z
      rw [y]
      show 27 * (27 * (27 * (l 0 - 96) + (l 1 - 96)) + (l 2 - 96)) + l 3 - 96 = _
      omega
    have r5 : rc l 5 = 27 * (27 * (27 * (27 * (l 0 - 96) + (l 1 - 96)) + (l 2 - 96)) + (l 3 - 96)) + (l 4 - 96) := by
      have z := rc_s (l := l) (m := 4) r4 (by omega)
      have y : rc l 5 = _ := z
      rw [y]
      show 27 * (27 * (27 * (27 * (l 0 - 96) + (l 1 - 96)) + (l 2 - 96)) + (l 3 - 96)) + l 4 - 96 = _
      omega
    have w2 : wc l 2 = 256 * l 0 + l 1 := by rw [e2, w1]; omega
    have w3 : wc l 3 = 65536 * l 0 + 256 * l 1 + l 2 := by rw [e3, w2]; omega
    have w4 : wc l 4 = 16777216 * l 0 + 65536 * l 1 + 256 * l 2 + l 3 := by rw [e4, w3]; omega
    have w5 : wc l 5 = 4294967296 * l 0 + 16777216 * l 1 + 65536 * l 2 + 256 * l 3 + l 4 := by rw [e5, w4]; omega
    have r5' : rc l 5 = 531441 * (l 0 - 96) + 19683 * (l 1 - 96) + 729 * (l 2 - 96) + 27 * (l 3 - 96) + (l 4 - 96) := by
      rw [r5]
      omega
    rw [r5', w5]
    clear r1 r2 r3 r4 r5 r5' w2 w3 w4 w5 w1 e0 e1 e2 e3 e4 e5 r0 h
    generalize l 0 = a at *
    generalize l 1 = b at *
    generalize l 2 = c at *
    generalize l 3 = d at *
    generalize l 4 = e at *
    have p1 : 4294967296 * a + 16777216 * b + 65536 * c + 256 * d + e = 465624852596 → a = 108 ∧ b = 105 ∧ c = 103 ∧ d = 104 ∧ e = 116 := fun x => ⟨by omega, by omega, by omega, by omega, by omega⟩
    have p2 : 531441 * (a - 96) + 19683 * (b - 96) + 729 * (c - 96) + 27 * (d - 96) + (e - 96) = 6559778 → a = 108 ∧ b = 105 ∧ c = 103 ∧ d = 104 ∧ e = 116 := fun x => ⟨by omega, by omega, by omega, by omega, by omega⟩
    have p3 : 4294967296 * a + 16777216 * b + 65536 * c + 256 * d + e = 495924372848 → a = 115 ∧ b = 119 ∧ c = 101 ∧ d = 101 ∧ e = 112 := fun x => ⟨by omega, by omega, by omega, by omega, by omega⟩
    have p4 : 531441 * (a - 96) + 19683 * (b - 96) + 729 * (c - 96) + 27 * (d - 96) + (e - 96) = 10553884 → a = 115 ∧ b = 119 ∧ c = 101 ∧ d = 101 ∧ e = 112 := fun x => ⟨by omega, by omega, by omega, by omega, by omega⟩
    have p5 : 4294967296 * a + 16777216 * b + 65536 * c + 256 * d + e = 495739823472 → a = 115 ∧ b = 108 ∧ c = 101 ∧ d = 101 ∧ e = 112 := fun x => ⟨by omega, by omega, by omega, by omega, by omega⟩
    have p6 : 531441 * (a - 96) + 19683 * (b - 96) + 729 * (c - 96) + 27 * (d - 96) + (e - 96) = 10337371 → a = 115 ∧ b = 108 ∧ c = 101 ∧ d = 101 ∧ e = 112 := fun x => ⟨by omega, by omega, by omega, by omega, by omega⟩
    have p7 : 4294967296 * a + 16777216 * b + 65536 * c + 256 * d + e = 512736125800 → a = 119 ∧ b = 97 ∧ c = 116 ∧ d = 99 ∧ e = 104 := fun x => ⟨by omega, by omega, by omega, by omega, by omega⟩
    have p8 : 531441 * (a - 96) + 19683 * (b - 96) + 729 * (c - 96) + 27 * (d - 96) + (e - 96) = 12257495 → a = 119 ∧ b = 97 ∧ c = 116 ∧ d = 99 ∧ e = 104 := fun x => ⟨by omega, by omega, by omega, by omega, by omega⟩
    refine ⟨rof_wof ⟨fun x => by omega, fun x => by omega⟩ ⟨fun x => ?_, fun x => ?_⟩ ⟨fun x => ?_, fun x => ?_⟩ ⟨fun x => ?_, fun x => ?_⟩ ⟨fun x => by omega, fun x => by omega⟩, ⟨fun x => ?_, fun x => ?_⟩⟩
    · have y := p2 x
      omega
    · have y := p1 x
      omega
    · have y := p4 x
      omega
    · have y := p3 x
      omega
    · have y := p6 x
      omega
    · have y := p5 x
      omega
    · have y := p8 x
      omega
    · have y := p7 x
      omega
  · obtain ⟨k, rfl⟩ : ∃ k, m = k + 6 := ⟨m - 6, by omega⟩
    have a := wc_6 k h
    have b := rc_6 k h
    generalize wc l (k + 6) = W at *
    generalize rc l (k + 6) = R at *
    exact ⟨rof_wof ⟨fun x => by omega, fun x => by omega⟩ ⟨fun x => by omega, fun x => by omega⟩ ⟨fun x => by omega, fun x => by omega⟩ ⟨fun x => by omega, fun x => by omega⟩ ⟨fun x => by omega, fun x => by omega⟩, ⟨fun x => by omega, fun x => by omega⟩⟩
/-- a byte more in a long -/
theorem sh8_c : (((Int32.ofInt 8).toInt64 &&& 63).toBitVec.smod 64).toNat = 8 := by decide +kernel
theorem shl8 {w b : Int} (hw : 0 ≤ w ∧ w < 9223372036854775808) (hb : 0 ≤ b ∧ b < 256) (hr : w % 72057594037927936 * 256 + b < 9223372036854775808) : (Int64.ofInt ((Int64.ofInt w <<< ((Int32.ofInt 8).toInt64 &&& 63)).toInt) ||| Int64.ofInt b).toInt = w % 72057594037927936 * 256 + b := by
  obtain ⟨a, rfl⟩ : ∃ a : Nat, w = (a : Int) := ⟨w.toNat, by omega⟩
  obtain ⟨c, rfl⟩ : ∃ c : Nat, b = (c : Int) := ⟨b.toNat, by omega⟩
  rw [Int64.ofInt_toInt]
  have ha : (Int64.ofInt (a : Int)).toBitVec.toNat = a := by
    show (BitVec.ofInt 64 (a : Int)).toNat = a
    rw [BitVec.toNat_ofInt]
    omega
  have hc : (Int64.ofInt (c : Int)).toBitVec.toNat = c := by
    show (BitVec.ofInt 64 (c : Int)).toNat = c
    rw [BitVec.toNat_ofInt]
    omega
  have hX : (Int64.ofInt (a : Int) <<< ((Int32.ofInt 8).toInt64 &&& 63)).toBitVec.toNat = 2 ^ 8 * (a % 72057594037927936) := by
    rw [Int64.toBitVec_shiftLeft]
    show ((Int64.ofInt (a : Int)).toBitVec <<< (((Int32.ofInt 8).toInt64 &&& 63).toBitVec.smod 64).toNat).toNat = _
    rw [sh8_c, BitVec.toNat_shiftLeft, Nat.shiftLeft_eq, ha]
    omega
  have hV : (Int64.ofInt (a : Int) <<< ((Int32.ofInt 8).toInt64 &&& 63) ||| Int64.ofInt (c : Int)).toBitVec.toNat = 2 ^ 8 * (a % 72057594037927936) + c := by
    rw [Int64.toBitVec_or, BitVec.toNat_or, hX, hc, ← Nat.two_pow_add_eq_or_of_lt (by omega)]
  show (Int64.ofInt (a : Int) <<< ((Int32.ofInt 8).toInt64 &&& 63) ||| Int64.ofInt (c : Int)).toBitVec.toInt = _
  rw [BitVec.toInt_eq_toNat_cond, hV, if_pos (by omega)]
  omega
