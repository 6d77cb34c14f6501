/-! the reference's fire: what holds between two of its turns -/
def MI (B : Nat → Prop) (A : Nat → Nat → Prop) (f : Nat → Int → Int) (st : Nat) (t : Int) (b0 e0 : Nat → Int) (o0 : Int) (b e : Nat → Int) (o : Int) (dn : Nat → Int) (m x : Nat) : Prop :=
  (st < 36 ∧ B st ∧ 0 ≤ t ∧ m ≤ 35 ∧ x < 36 ∧ B x ∧ t ≤ b x) ∧
  (∀ i, i < 36 → ¬ B i → b i = b0 i ∧ e i = e0 i) ∧
  (∀ i, i < 36 → B i → b i = -1 ∧ e i = -1 ∨ t ≤ b i ∧ e i = b i + f i (b i) ∧ b i ≤ b x ∧ e i ≤ t + 90 * (36 - (m : Int))) ∧
  b st = t ∧
  (∀ i, i < 36 → B i → i ≠ st → t ≤ b i → ∃ k, k < 36 ∧ B k ∧ A i k ∧ t ≤ b k ∧ b i = e k) ∧
  (∀ i, i < 36 → B i → i ≠ st → t ≤ b i → ∀ k, k < 36 → B k → A i k → t ≤ b k → b i ≤ e k) ∧
  (∀ i, i < 36 → B i → b i = -1 → ∀ k, k < 36 → B k → A i k → t ≤ b k → b x ≤ e k) ∧
  (∀ i, i < 36 → dn i = 0 ∧ B i ∧ b i = -1 ∨ dn i = 1 ∧ ¬ (B i ∧ b i = -1)) ∧
  ((m : Int) = sumN 36 (fun i => if dn i = 0 then 1 else 0)) ∧
  o0 ≤ o ∧ (∀ i, i < 36 → B i → t ≤ b i → i ≠ x → e i ≤ o) ∧ (o = o0 ∨ ∃ i, i < 36 ∧ B i ∧ t ≤ b i ∧ o = e i)
theorem MI_0 {B : Nat → Prop} {A : Nat → Nat → Prop} {f : Nat → Int → Int} {st : Nat} {t : Int} {b0 e0 : Nat → Int} {o0 : Int} {b e dn : Nat → Int} {m : Nat} (hst : st < 36) (hB : B st) (ht : 0 ≤ t) (hm35 : m ≤ 35) (hf : 1 ≤ f st t ∧ f st t ≤ 90) (h0 : ∀ i, i < 36 → B i → b0 i = -1 ∧ e0 i = -1) (hb : b st = t) (hb' : ∀ i, i < 36 → i ≠ st → b i = b0 i) (he : e st = t + f st t) (he' : ∀ i, i < 36 → i ≠ st → e i = e0 i) (hd : ∀ i, i < 36 → dn i = 0 ∧ B i ∧ b i = -1 ∨ dn i = 1 ∧ ¬ (B i ∧ b i = -1)) (hm : (m : Int) = sumN 36 (fun i => if dn i = 0 then 1 else 0)) : MI B A f st t b0 e0 o0 b e o0 dn m st := by
  refine ⟨⟨hst, hB, ht, hm35, hst, hB, by omega⟩, ?_, ?_, hb, ?_, ?_, ?_, hd, hm, by omega, ?_, Or.inl rfl⟩
  · intro i hi hn
    have : i ≠ st := fun z => hn (z ▸ hB)
    exact ⟨hb' i hi this, he' i hi this⟩
  · intro i hi hBi
    by_cases his : i = st
    · subst his
      right
      rw [hb]
      omega
    · left
      rw [hb' i hi his, he' i hi his]
      exact h0 i hi hBi
  · intro i hi hBi his hti
    rw [hb' i hi his] at hti
    have := (h0 i hi hBi).1
    omega
  · intro i hi hBi his hti
    rw [hb' i hi his] at hti
    have := (h0 i hi hBi).1
    omega
  · intro i hi hBi hbi k hk hBk hA hbk
    by_cases his : k = st
    · subst his; omega
    · rw [hb' k hk his] at hbk
      have := (h0 k hk hBk).1
      omega
  · intro i hi hBi hti his
    rw [hb' i hi his] at hti
    have := (h0 i hi hBi).1
    omega
theorem MI_st {B : Nat → Prop} {A : Nat → Nat → Prop} {f : Nat → Int → Int} {st : Nat} {t : Int} {b0 e0 : Nat → Int} {o0 : Int} {b e : Nat → Int} {o : Int} {dn : Nat → Int} {m x : Nat} (h : MI B A f st t b0 e0 o0 b e o dn m x) {b' e' dn' : Nat → Int} {o' L : Int} {y : Nat} (hy : y < 36) (hdy : dn y = 0) (hL1 : ∃ k, k < 36 ∧ B k ∧ A y k ∧ t ≤ b k ∧ L = e k) (hL2 : ∀ i, i < 36 → dn i = 0 → ∀ k, k < 36 → B k → A i k → t ≤ b k → L ≤ e k) (hf : 1 ≤ f y L ∧ f y L ≤ 90) (hfx : 1 ≤ f x (b x)) (ho : o' = if o < e x then e x else o) (hb : b' y = L) (hb' : ∀ i, i < 36 → i ≠ y → b' i = b i) (he : e' y = L + f y L) (he' : ∀ i, i < 36 → i ≠ y → e' i = e i) (hd : dn' y = 1) (hd' : ∀ i, i ≠ y → dn' i = dn i) : ∃ m', m = m' + 1 ∧ MI B A f st t b0 e0 o0 b' e' o' dn' m' y := by
  obtain ⟨⟨p1, p2, p3, p4, p5, p6, p7⟩, m1, m2, m3, m4, m5, m6, m7, m8, m9, m10, m11⟩ := h
  obtain ⟨k0, k1, k2, k3, k4, k5⟩ := hL1
  have hyd : B y ∧ b y = -1 := by
    rcases m7 y hy with z | z
    · exact z.2
    · omega
  have hkk := m2 k0 k1 k2
  have hbxL := m6 y hy hyd.1 hyd.2 k0 k1 k2 k3 k4
  have hyst : y ≠ st := fun z => by subst z; omega
  have hyx : y ≠ x := fun z => by subst z; omega
  have hky : k0 ≠ y := fun z => by subst z; omega
  have hfk : b k0 < e k0 ∨ b k0 = L := by omega
  have hu := sumN_upd (n := 36) (i := y) (a := fun i => if dn i = 0 then (1 : Int) else 0) (b := fun i => if dn' i = 0 then (1 : Int) else 0) hy (fun k hk => by simp only [hd' k hk])
  simp only [hd, hdy] at hu
  simp at hu
  have hsb := sumN_b (n := 36) (a := fun i => if dn' i = 0 then (1 : Int) else 0) (lo := 0) (hi := 1) (fun i _ => by (try simp only []); split <;> omega)
  have hx2 := m2 x p5 p6
  have hoo : o ≤ o' ∧ e x ≤ o' ∧ (o' = o ∨ o' = e x) := by rw [ho]; split <;> omega
  refine ⟨m - 1, by omega, ⟨p1, p2, p3, by omega, hy, hyd.1, by omega⟩, ?_, ?_, ?_, ?_, ?_, ?_, ?_, ?_, by omega, ?_, ?_⟩
  · intro i hi hn
    have : i ≠ y := fun z => hn (z ▸ hyd.1)
    rw [hb' i hi this, he' i hi this]
    exact m1 i hi hn
  · intro i hi hBi
    by_cases hiy : i = y
    · subst hiy
      right
      rw [hb, he]
      omega
    · rw [hb' i hi hiy, he' i hi hiy, hb]
      have z := m2 i hi hBi
      omega
  · rw [hb' st p1 (fun z => hyst z.symm)]
    exact m3
  · intro i hi hBi his hti
    by_cases hiy : i = y
    · subst hiy
      exact ⟨k0, k1, k2, k3, by rw [hb' k0 k1 hky]; exact k4, by rw [he' k0 k1 hky, hb]; exact k5⟩
    · rw [hb' i hi hiy] at hti
      obtain ⟨k, c1, c2, c3, c4, c5⟩ := m4 i hi hBi his hti
      have hkyy : k ≠ y := fun z => by subst z; omega
      exact ⟨k, c1, c2, c3, by rw [hb' k c1 hkyy]; exact c4, by rw [he' k c1 hkyy, hb' i hi hiy]; exact c5⟩
  · intro i hi hBi his hti k hk hBk hA htk
    by_cases hiy : i = y
    · subst hiy
      rw [hb]
      by_cases hkyy : k = i
      · subst hkyy; omega
      · rw [hb' k hk hkyy] at htk
        rw [he' k hk hkyy]
        exact hL2 i hi hdy k hk hBk hA htk
    · rw [hb' i hi hiy] at hti ⊢
      have z := m2 i hi hBi
      by_cases hkyy : k = y
      · subst hkyy; omega
      · rw [hb' k hk hkyy] at htk
        rw [he' k hk hkyy]
        exact m5 i hi hBi his hti k hk hBk hA htk
  · intro i hi hBi hbi k hk hBk hA htk
    rw [hb]
    have hiy : i ≠ y := fun z => by subst z; omega
    rw [hb' i hi hiy] at hbi
    by_cases hkyy : k = y
    · subst hkyy; omega
    · rw [hb' k hk hkyy] at htk
      rw [he' k hk hkyy]
      refine hL2 i hi ?_ k hk hBk hA htk
      rcases m7 i hi with z | z
      · exact z.1
      · exact absurd ⟨hBi, hbi⟩ z.2
  · intro i hi
    by_cases hiy : i = y
    · subst hiy
      exact Or.inr ⟨hd, fun z => by omega⟩
    · rw [hd' i hiy, hb' i hi hiy]
      exact m7 i hi
  · omega
  · intro i hi hBi hti hiy
    rw [hb' i hi hiy] at hti
    rw [he' i hi hiy]
    by_cases hix : i = x
    · subst hix; omega
    · have := m10 i hi hBi hti hix
      omega
  · rcases hoo.2.2 with z | z
    · rcases m11 with q | ⟨i, q1, q2, q3, q4⟩
      · exact Or.inl (by omega)
      · have hiy : i ≠ y := fun z => by subst z; omega
        exact Or.inr ⟨i, q1, q2, by rw [hb' i q1 hiy]; exact q3, by rw [he' i q1 hiy]; omega⟩
    · have hxy : x ≠ y := fun z => hyx z.symm
      exact Or.inr ⟨x, p5, p6, by rw [hb' x p5 hxy]; exact p7, by rw [he' x p5 hxy]; exact z⟩
theorem MI_end {B : Nat → Prop} {A : Nat → Nat → Prop} {f : Nat → Int → Int} {st : Nat} {t : Int} {b0 e0 : Nat → Int} {o0 : Int} {b e : Nat → Int} {o : Int} {dn : Nat → Int} {m x : Nat} (h : MI B A f st t b0 e0 o0 b e o dn m x) {o' : Int} (hL : ∀ i, i < 36 → dn i = 0 → ∀ k, k < 36 → B k → A i k → ¬ t ≤ b k) (ho : o' = if o < e x then e x else o) : FS B A f st t b0 e0 o0 b e o' ∧ ∀ i, i < 36 → B i → b i ≠ -1 → e i ≤ t + 3240 := by
  obtain ⟨⟨p1, p2, p3, p4, p5, p6, p7⟩, m1, m2, m3, m4, m5, m6, m7, m8, m9, m10, m11⟩ := h
  have hx2 := m2 x p5 p6
  have hoo : o ≤ o' ∧ e x ≤ o' ∧ (o' = o ∨ o' = e x) := by rw [ho]; split <;> omega
  refine ⟨⟨m3, m1, ?_, m4, ?_, by omega, ?_, ?_⟩, ?_⟩
  · intro i hi hB
    have z := m2 i hi hB
    omega
  · intro i hi hB his k hk hBk hA htk
    have z := m2 i hi hB
    by_cases hbi : b i = -1
    · exfalso
      refine hL i hi ?_ k hk hBk hA htk
      rcases m7 i hi with y | y
      · exact y.1
      · exact absurd ⟨hB, hbi⟩ y.2
    · exact ⟨by omega, m5 i hi hB his (by omega) k hk hBk hA htk⟩
  · intro i hi hB hti
    by_cases hix : i = x
    · subst hix; omega
    · have := m10 i hi hB hti hix
      omega
  · rcases hoo.2.2 with z | z
    · rcases m11 with q | q
      · exact Or.inl (by omega)
      · obtain ⟨i, q1, q2, q3, q4⟩ := q
        exact Or.inr ⟨i, q1, q2, q3, by omega⟩
    · exact Or.inr ⟨x, p5, p6, p7, z⟩
  · intro i hi hB hne
    have z := m2 i hi hB
    omega
