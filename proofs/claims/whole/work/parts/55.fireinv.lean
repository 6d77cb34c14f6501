/-! the class's fire: what holds between two of its turns -/
def nfr (b : Nat → Int) : Int := sumN 36 (fun i => if b i = -1 then 0 else 1)
theorem nfr_b (b : Nat → Int) : 0 ≤ nfr b ∧ nfr b ≤ 36 := by
  have z := sumN_b (n := 36) (a := fun i => if b i = -1 then (0 : Int) else 1) (lo := 0) (hi := 1) (fun i _ => by (try simp only []); split <;> omega)
  unfold nfr
  omega
theorem nfr_up {b b' : Nat → Int} {x : Nat} (hx : x < 36) (h : ∀ i, i ≠ x → b' i = b i) (h1 : b' x ≠ -1) : nfr b' = nfr b + (if b x = -1 then 1 else 0) := by
  unfold nfr
  rw [sumN_upd (i := x) (a := fun i => if b i = -1 then (0 : Int) else 1) (b := fun i => if b' i = -1 then (0 : Int) else 1) hx (fun k hk => by simp only [h k hk])]
  simp only [if_neg h1]
  split <;> omega
def FI (B : Nat → Prop) (A : Nat → Nat → Prop) (f : Nat → Int → Int) (st : Nat) (t : Int) (b0 e0 : Nat → Int) (o0 : Int) (b e : Nat → Int) (o w : Int) (wt : Nat → Int) (r T : Int) (V : Nat → Nat → Prop) : Prop :=
  (st < 36 ∧ B st ∧ 0 ≤ t ∧ 0 ≤ r ∧ t ≤ T) ∧
  (∀ i, i < 36 → ¬ B i → b i = b0 i ∧ e i = e0 i) ∧
  (∀ i, i < 36 → B i → b i = -1 ∧ e i = -1 ∨ t ≤ b i ∧ b i ≤ t + 90 * r ∧ (e i = -1 ∨ e i = b i + f i (b i) ∧ b i ≤ T ∧ e i ≤ o ∧ e i ≤ t + 90 * r)) ∧
  b st = t ∧
  (∀ i, i < 36 → B i → i ≠ st → b i ≠ -1 → ∃ k, k < 36 ∧ B k ∧ A i k ∧ e k ≠ -1 ∧ b i = e k) ∧
  (∀ i, i < 36 → B i → i ≠ st → ∀ k, k < 36 → B k → A i k → e k ≠ -1 → V i k → b i ≠ -1 ∧ b i ≤ e k) ∧
  (∀ k, k < 36 → B k → b k ≠ -1 → e k = -1 → T ≤ b k) ∧
  (o0 ≤ o ∧ (o = o0 ∨ ∃ i, i < 36 ∧ B i ∧ e i ≠ -1 ∧ o = e i)) ∧
  (0 ≤ w ∧ r + w ≤ nfr b) ∧
  (∀ j : Nat, (j : Int) < w → 0 ≤ wt j ∧ wt j < 36 ∧ B (wt j).toNat ∧ b (wt j).toNat ≠ -1 ∧ e (wt j).toNat = -1) ∧
  (∀ i, i < 36 → B i → b i ≠ -1 → e i = -1 → ∃ j : Nat, (j : Int) < w ∧ wt j = (i : Int)) ∧
  (∀ j j' : Nat, j < j' → (j' : Int) < w → wt j ≠ wt j') ∧
  (e st ≠ -1 ∨ w = 1 ∧ wt 0 = (st : Int))
theorem FI_0 {B : Nat → Prop} {A : Nat → Nat → Prop} {f : Nat → Int → Int} {st : Nat} {t : Int} {b0 e0 : Nat → Int} {o0 : Int} {b : Nat → Int} {wt : Nat → Int} (hst : st < 36) (hB : B st) (ht : 0 ≤ t) (h0 : ∀ i, i < 36 → B i → b0 i = -1 ∧ e0 i = -1) (hb : b st = t) (hb' : ∀ i, i ≠ st → b i = b0 i) (hw : wt 0 = (st : Int)) : FI B A f st t b0 e0 o0 b e0 o0 1 wt 0 t (fun _ _ => True) := by
  have hn := nfr_up hst hb' (by omega)
  have hn0 := nfr_b b0
  have h1 := h0 st hst hB
  rw [if_pos h1.1] at hn
  refine ⟨⟨hst, hB, ht, by omega, by omega⟩, ?_, ?_, hb, ?_, ?_, ?_, ⟨by omega, Or.inl rfl⟩, ⟨by omega, by omega⟩, ?_, ?_, ?_, Or.inr ⟨rfl, hw⟩⟩
  · intro i hi hn
    exact ⟨hb' i (fun z => hn (z ▸ hB)), rfl⟩
  · intro i hi hBi
    have z := h0 i hi hBi
    by_cases his : i = st
    · subst his; right; omega
    · left; rw [hb' i his]; exact z
  · intro i hi hBi his hne
    rw [hb' i his] at hne
    exact absurd (h0 i hi hBi).1 hne
  · intro i hi hBi his k hk hBk _ hek _
    exact absurd (h0 k hk hBk).2 hek
  · intro k hk hBk hne hek
    by_cases his : k = st
    · subst his; omega
    · rw [hb' k his] at hne
      exact absurd (h0 k hk hBk).1 hne
  · intro j hj
    have : j = 0 := by omega
    subst this
    rw [hw, show ((st : Int)).toNat = st by omega]
    exact ⟨by omega, by omega, hB, by omega, h1.2⟩
  · intro i hi hBi hne hek
    by_cases his : i = st
    · exact ⟨0, by omega, by rw [hw, his]⟩
    · rw [hb' i his] at hne
      exact absurd (h0 i hi hBi).1 hne
  · intro j j' hj hj'
    omega
theorem FI_take {B : Nat → Prop} {A : Nat → Nat → Prop} {f : Nat → Int → Int} {st : Nat} {t : Int} {b0 e0 : Nat → Int} {o0 : Int} {b e : Nat → Int} {o w : Int} {wt : Nat → Int} {r T : Int} (h : FI B A f st t b0 e0 o0 b e o w wt r T (fun _ _ => True)) {e' wt' : Nat → Int} {o' : Int} {bi x : Nat} (hbi : (bi : Int) < w) (hmin : ∀ j : Nat, (j : Int) < w → b (wt bi).toNat ≤ b (wt j).toNat) (hx : wt bi = (x : Int)) (hf : 1 ≤ f x (b x) ∧ f x (b x) ≤ 90) (he : e' x = b x + f x (b x)) (he' : ∀ i, i ≠ x → e' i = e i) (ho : o' = max o (e' x)) (hw1 : ∀ j : Nat, j ≠ bi → wt' j = wt j) (hw2 : wt' bi = wt (w - 1).toNat) : FI B A f st t b0 e0 o0 b e' o' (w - 1) wt' (r + 1) (b x) (fun _ k => k ≠ x) ∧ e' st ≠ -1 := by
  have ho1 : o ≤ o' := by omega
  have ho2 : e' x ≤ o' := by omega
  have ho3 : o' = o ∨ o' = e' x := by omega
  clear ho
  obtain ⟨⟨p1, p2, p3, p4, p5⟩, f1, f2, f3, f4, f5, f6, ⟨f7, f7'⟩, ⟨f8, f8'⟩, f9, f10, f11, f12⟩ := h
  have hm := f9 bi hbi
  have e1 : (wt bi).toNat = x := by omega
  rw [e1] at hm hmin
  obtain ⟨m1, m2, m3, m4, m5⟩ := hm
  have hxx : x < 36 := by omega
  have hT := f6 x hxx m3 m4 m5
  have hbx := f2 x hxx m3
  have hfin : e' st ≠ -1 := by
    by_cases hsx : st = x
    · subst hsx
      omega
    · rw [he' st hsx]
      rcases f12 with z | ⟨z1, z2⟩
      · exact z
      · have : bi = 0 := by omega
        subst this
        omega
  refine ⟨⟨⟨p1, p2, p3, by omega, by omega⟩, ?_, ?_, f3, ?_, ?_, ?_, ⟨by omega, ?_⟩, ⟨by omega, by omega⟩, ?_, ?_, ?_, Or.inl hfin⟩, hfin⟩
  · intro i hi hn
    have : i ≠ x := fun z => hn (z ▸ m3)
    rw [he' i this]
    exact f1 i hi hn
  · intro i hi hBi
    have z := f2 i hi hBi
    by_cases hix : i = x
    · subst hix
      right
      omega
    · rw [he' i hix]
      omega
  · intro i hi hBi his hne
    obtain ⟨k, k1, k2, k3, k4, k5⟩ := f4 i hi hBi his hne
    have hkx : k ≠ x := fun z => k4 (z ▸ m5)
    exact ⟨k, k1, k2, k3, by rw [he' k hkx]; exact k4, by rw [he' k hkx]; exact k5⟩
  · intro i hi hBi his k hk hBk hA hek hkx
    rw [he' k hkx] at hek ⊢
    exact f5 i hi hBi his k hk hBk hA hek trivial
  · intro k hk hBk hne hek
    have hkx : k ≠ x := fun z => by subst z; omega
    rw [he' k hkx] at hek
    obtain ⟨j, j1, j2⟩ := f10 k hk hBk hne hek
    have z := hmin j j1
    rw [j2, show ((k : Int)).toNat = k by omega] at z
    exact z
  · by_cases hoo : o' = o
    · rcases f7' with z | ⟨i, i1, i2, i3, i4⟩
      · left; omega
      · right
        have : i ≠ x := fun z => i3 (z ▸ m5)
        exact ⟨i, i1, i2, by rw [he' i this]; exact i3, by rw [he' i this]; omega⟩
    · right
      clear f7'
      exact ⟨x, hxx, m3, by omega, by omega⟩
  · intro j hj
    by_cases hjb : j = bi
    · subst hjb
      rw [hw2]
      have z := f9 (w - 1).toNat (by omega)
      have y := f11 j (w - 1).toNat (by omega) (by omega)
      refine ⟨z.1, z.2.1, z.2.2.1, z.2.2.2.1, ?_⟩
      rw [he' _ (by omega)]
      exact z.2.2.2.2
    · rw [hw1 j hjb]
      have z := f9 j (by omega)
      have y : wt j ≠ wt bi := by
        rcases Nat.lt_or_gt_of_ne hjb with q | q
        · exact f11 j bi q hbi
        · exact fun z => f11 bi j q (by omega) z.symm
      refine ⟨z.1, z.2.1, z.2.2.1, z.2.2.2.1, ?_⟩
      rw [he' _ (by omega)]
      exact z.2.2.2.2
  · intro i hi hBi hne hei
    have hix : i ≠ x := fun z => by subst z; omega
    rw [he' i hix] at hei
    obtain ⟨j, j1, j2⟩ := f10 i hi hBi hne hei
    by_cases hjl : j = (w - 1).toNat
    · have hb' : bi ≠ j := fun z => by subst z; omega
      exact ⟨bi, by omega, by rw [hw2, ← hjl]; exact j2⟩
    · have hb' : j ≠ bi := fun z => by subst z; omega
      exact ⟨j, by omega, by rw [hw1 j hb']; exact j2⟩
  · intro j j' hj hj'
    by_cases h1 : j = bi
    · subst h1
      rw [hw2, hw1 j' (by omega)]
      exact fun z => f11 j' (w - 1).toNat (by omega) (by omega) z.symm
    · by_cases h2 : j' = bi
      · subst h2
        rw [hw2, hw1 j h1]
        exact f11 j (w - 1).toNat (by omega) (by omega)
      · rw [hw1 j h1, hw1 j' h2]
        exact f11 j j' hj (by omega)
theorem FI_V {B : Nat → Prop} {A : Nat → Nat → Prop} {f : Nat → Int → Int} {st : Nat} {t : Int} {b0 e0 : Nat → Int} {o0 : Int} {b e : Nat → Int} {o w : Int} {wt : Nat → Int} {r T : Int} {V V' : Nat → Nat → Prop} (h : FI B A f st t b0 e0 o0 b e o w wt r T V) (hV : ∀ i k, i < 36 → B i → i ≠ st → k < 36 → B k → A i k → e k ≠ -1 → V' i k → V i k ∨ b i ≠ -1 ∧ b i ≤ e k) : FI B A f st t b0 e0 o0 b e o w wt r T V' := by
  obtain ⟨p, f1, f2, f3, f4, f5, f6, f7, f8, f9, f10, f11, f12⟩ := h
  refine ⟨p, f1, f2, f3, f4, ?_, f6, f7, f8, f9, f10, f11, f12⟩
  intro i hi hBi his k hk hBk hA hek hv
  rcases hV i k hi hBi his hk hBk hA hek hv with z | z
  · exact f5 i hi hBi his k hk hBk hA hek z
  · exact z
theorem FI_upd {B : Nat → Prop} {A : Nat → Nat → Prop} {f : Nat → Int → Int} {st : Nat} {t : Int} {b0 e0 : Nat → Int} {o0 : Int} {b e : Nat → Int} {o w : Int} {wt : Nat → Int} {r T : Int} {V V' : Nat → Nat → Prop} (h : FI B A f st t b0 e0 o0 b e o w wt r T V) {b' wt' : Nat → Int} {w' : Int} {x nx : Nat} (hes : e st ≠ -1) (hx : x < 36) (hBx : B x) (hxs : x ≠ st) (hex : e x = -1) (hnx : nx < 36) (hBn : B nx) (hen : e nx ≠ -1) (hA : A x nx) (hT : T ≤ e nx) (hb : b' x = e nx) (hb' : ∀ i, i ≠ x → b' i = b i) (hV : ∀ i k, V' i k → V i k ∨ k = nx ∧ i = x) (hw : (b x = -1 ∧ w' = w + 1 ∧ wt' w.toNat = (x : Int) ∧ ∀ j : Nat, (j : Int) < w → wt' j = wt j) ∨ (b x ≠ -1 ∧ e nx < b x ∧ w' = w ∧ wt' = wt)) : FI B A f st t b0 e0 o0 b' e o w' wt' r T V' := by
  obtain ⟨⟨p1, p2, p3, p4, p5⟩, f1, f2, f3, f4, f5, f6, f7, ⟨f8, f8'⟩, f9, f10, f11, f12⟩ := h
  have en := f2 nx hnx hBn
  have hbn : b' x ≠ -1 := by omega
  have hn := nfr_up hx hb' hbn
  refine ⟨⟨p1, p2, p3, p4, p5⟩, ?_, ?_, ?_, ?_, ?_, ?_, f7, ?_, ?_, ?_, ?_, Or.inl hes⟩
  · intro i hi hn
    have : i ≠ x := fun z => hn (z ▸ hBx)
    rw [hb' i this]
    exact f1 i hi hn
  · intro i hi hBi
    by_cases hix : i = x
    · subst hix
      right
      omega
    · rw [hb' i hix]
      exact f2 i hi hBi
  · rw [hb' st (fun z => hxs z.symm)]
    exact f3
  · intro i hi hBi his hne
    by_cases hix : i = x
    · subst hix
      exact ⟨nx, hnx, hBn, hA, hen, hb⟩
    · rw [hb' i hix] at hne ⊢
      exact f4 i hi hBi his hne
  · intro i hi hBi his k hk hBk hAk hek hv
    by_cases hix : i = x
    · subst hix
      rw [hb]
      refine ⟨by omega, ?_⟩
      by_cases hkn : k = nx
      · subst hkn; omega
      · rcases hV i k hv with z | z
        · have y := f5 i hi hBi his k hk hBk hAk hek z
          rcases hw with ⟨q, -⟩ | ⟨-, q, -⟩
          · omega
          · omega
        · exact absurd z.1 hkn
    · rw [hb' i hix]
      rcases hV i k hv with z | z
      · exact f5 i hi hBi his k hk hBk hAk hek z
      · exact absurd z.2 hix
  · intro k hk hBk hne hek
    by_cases hix : k = x
    · subst hix; omega
    · rw [hb' k hix] at hne ⊢
      exact f6 k hk hBk hne hek
  · rcases hw with ⟨q1, q2, -⟩ | ⟨q1, -, q2, -⟩
    · rw [if_pos q1] at hn; omega
    · rw [if_neg q1] at hn; omega
  · intro j hj
    rcases hw with ⟨q1, q2, q3, q4⟩ | ⟨q1, q2, q3, q4⟩
    · by_cases hjw : j = w.toNat
      · subst hjw
        rw [q3, show ((x : Int)).toNat = x by omega]
        exact ⟨by omega, by omega, hBx, hbn, hex⟩
      · rw [q4 j (by omega)]
        have z := f9 j (by omega)
        have hne : (wt j).toNat ≠ x := fun y => by rw [y] at z; omega
        rw [hb' _ hne]
        exact z
    · rw [q4]
      have z := f9 j (by omega)
      by_cases hne : (wt j).toNat = x
      · rw [hne] at z ⊢
        exact ⟨z.1, z.2.1, z.2.2.1, hbn, z.2.2.2.2⟩
      · rw [hb' _ hne]
        exact z
  · intro i hi hBi hne hei
    by_cases hix : i = x
    · subst hix
      rcases hw with ⟨q1, q2, q3, q4⟩ | ⟨q1, q2, q3, q4⟩
      · exact ⟨w.toNat, by omega, q3⟩
      · rw [q3, q4]
        exact f10 i hi hBi q1 hei
    · rw [hb' i hix] at hne
      obtain ⟨j, j1, j2⟩ := f10 i hi hBi hne hei
      rcases hw with ⟨q1, q2, q3, q4⟩ | ⟨q1, q2, q3, q4⟩
      · exact ⟨j, by omega, by rw [q4 j j1]; exact j2⟩
      · exact ⟨j, by omega, by rw [q4]; exact j2⟩
  · intro j j' hj hj'
    rcases hw with ⟨q1, q2, q3, q4⟩ | ⟨q1, q2, q3, q4⟩
    · by_cases hjw : j' = w.toNat
      · subst hjw
        rw [q3, q4 j (by omega)]
        have z := f9 j (by omega)
        intro y
        rw [y, show ((x : Int)).toNat = x by omega] at z
        omega
      · rw [q4 j (by omega), q4 j' (by omega)]
        exact f11 j j' hj (by omega)
    · rw [q4]
      exact f11 j j' hj (by omega)
theorem FI_b0 {B : Nat → Prop} {A : Nat → Nat → Prop} {f : Nat → Int → Int} {st : Nat} {t : Int} {b0 e0 b0' e0' : Nat → Int} {o0 : Int} {b e : Nat → Int} {o w : Int} {wt : Nat → Int} {r T : Int} {V : Nat → Nat → Prop} (h : FI B A f st t b0 e0 o0 b e o w wt r T V) (h0 : ∀ i, i < 36 → b0 i = b0' i ∧ e0 i = e0' i) : FI B A f st t b0' e0' o0 b e o w wt r T V := by
  obtain ⟨p, f1, f2, f3, f4, f5, f6, f7, f8, f9, f10, f11, f12⟩ := h
  refine ⟨p, ?_, f2, f3, f4, f5, f6, f7, f8, f9, f10, f11, f12⟩
  intro i hi hB
  have z := f1 i hi hB
  have y := h0 i hi
  omega
