/-! fires: what a fire makes of a clock's cells; these rules allow one answer alone -/
def hr (t : Int) : Int := if t / 60 < 100 then t / 60 else 99
theorem hr_b {t : Int} (h : 0 ≤ t) : 0 ≤ hr t ∧ hr t ≤ 99 := by unfold hr; split <;> omega
/-- ticks that a powder burns, lit at a tick; D: a damp for all hours, or -1 -/
def btk (G : mF) (D p t : Int) : Int := G 6 p.toNat * (100 + (if D = -1 then G 7 (hr t).toNat else D)) / 100
def Gair (G : mF) : Prop := (∀ p, p < 8 → 1 ≤ G 6 p ∧ G 6 p ≤ 60) ∧ (∀ h, h < 100 → 0 ≤ G 7 h ∧ G 7 h ≤ 50)
theorem mulb {r d : Int} (hr : 1 ≤ r ∧ r ≤ 60) (hd : 0 ≤ d ∧ d ≤ 50) : 100 ≤ r * (100 + d) ∧ r * (100 + d) ≤ 9000 := by
  have a := Int.mul_le_mul_of_nonneg_right hr.1 (show 0 ≤ 100 + d by omega)
  have b := Int.mul_le_mul_of_nonneg_right hr.2 (show 0 ≤ 100 + d by omega)
  omega
theorem btk_b {G : mF} {D p t : Int} (hG : Gair G) (hp : 0 ≤ p ∧ p ≤ 7) (ht : 0 ≤ t) (hD : -1 ≤ D ∧ D ≤ 50) : 1 ≤ btk G D p t ∧ btk G D p t ≤ 90 := by
  unfold btk
  have h1 := hG.1 p.toNat (by omega)
  have h0 := hr_b ht
  have h2 := hG.2 (hr t).toNat (by omega)
  have h3 : 0 ≤ (if D = -1 then G 7 (hr t).toNat else D) ∧ (if D = -1 then G 7 (hr t).toNat else D) ≤ 50 := by split <;> omega
  have h4 := mulb h1 h3
  omega
/-- B: cells that may burn; A i k: cell k lights cell i; f k u: the ticks of cell k, lit at u -/
def FS (B : Nat → Prop) (A : Nat → Nat → Prop) (f : Nat → Int → Int) (s : Nat) (t : Int) (b e : Nat → Int) (o : Int) (b' e' : Nat → Int) (o' : Int) : Prop :=
  b' s = t ∧ (∀ i, i < 36 → ¬ B i → b' i = b i ∧ e' i = e i) ∧
  (∀ i, i < 36 → B i → b' i = -1 ∧ e' i = -1 ∨ t ≤ b' i ∧ e' i = b' i + f i (b' i)) ∧
  (∀ i, i < 36 → B i → i ≠ s → t ≤ b' i → ∃ k, k < 36 ∧ B k ∧ A i k ∧ t ≤ b' k ∧ b' i = e' k) ∧
  (∀ i, i < 36 → B i → i ≠ s → ∀ k, k < 36 → B k → A i k → t ≤ b' k → t ≤ b' i ∧ b' i ≤ e' k) ∧
  o ≤ o' ∧ (∀ i, i < 36 → B i → t ≤ b' i → e' i ≤ o') ∧ (o' = o ∨ ∃ i, i < 36 ∧ B i ∧ t ≤ b' i ∧ o' = e' i)
theorem FS_st {B : Nat → Prop} {A : Nat → Nat → Prop} {f : Nat → Int → Int} {s : Nat} {t : Int} {b e : Nat → Int} {o : Int} {b1 e1 : Nat → Int} {o1 : Int} {b2 e2 : Nat → Int} {o2 : Int} (ht : 0 ≤ t) (hf : ∀ i u, i < 36 → B i → t ≤ u → 1 ≤ f i u) (h1 : FS B A f s t b e o b1 e1 o1) (h2 : FS B A f s t b e o b2 e2 o2) (m : Nat) (ih : ∀ i, i < 36 → B i → (t ≤ b1 i → b1 i < t + m → b2 i = b1 i) ∧ (t ≤ b2 i → b2 i < t + m → b1 i = b2 i)) (i : Nat) (hi : i < 36) (hB : B i) (hb : t ≤ b1 i) (hm : b1 i < t + m + 1) : b2 i = b1 i := by
  obtain ⟨p1, p2, p3, p4, p5, -⟩ := h1
  obtain ⟨q1, q2, q3, q4, q5, -⟩ := h2
  by_cases hs : i = s
  · subst hs; omega
  · obtain ⟨k, k1, k2, k3, k4, k5⟩ := p4 i hi hB hs hb
    have ek := p3 k k1 k2
    have fk := hf k (b1 k) k1 k2 k4
    have bk : b2 k = b1 k := (ih k k1 k2).1 k4 (by omega)
    have ek2 := q3 k k1 k2
    rw [bk] at ek2
    have z := q5 i hi hB hs k k1 k2 k3 (by omega)
    have y := (ih i hi hB).2 z.1
    omega
theorem FS_h {B : Nat → Prop} {A : Nat → Nat → Prop} {f : Nat → Int → Int} {s : Nat} {t : Int} {b e : Nat → Int} {o : Int} {b1 e1 : Nat → Int} {o1 : Int} {b2 e2 : Nat → Int} {o2 : Int} (ht : 0 ≤ t) (hf : ∀ i u, i < 36 → B i → t ≤ u → 1 ≤ f i u) (h1 : FS B A f s t b e o b1 e1 o1) (h2 : FS B A f s t b e o b2 e2 o2) : ∀ m : Nat, ∀ i, i < 36 → B i → (t ≤ b1 i → b1 i < t + m → b2 i = b1 i) ∧ (t ≤ b2 i → b2 i < t + m → b1 i = b2 i) := by
  intro m
  induction m with
  | zero => intro i hi hB; exact ⟨fun a b => by omega, fun a b => by omega⟩
  | succ m ih =>
    intro i hi hB
    exact ⟨fun a b => FS_st ht hf h1 h2 m ih i hi hB a (by omega), fun a b => FS_st ht hf h2 h1 m (fun i hi hB => ⟨(ih i hi hB).2, (ih i hi hB).1⟩) i hi hB a (by omega)⟩
theorem FS_u {B : Nat → Prop} {A : Nat → Nat → Prop} {f : Nat → Int → Int} {s : Nat} {t : Int} {b e : Nat → Int} {o : Int} {b1 e1 : Nat → Int} {o1 : Int} {b2 e2 : Nat → Int} {o2 : Int} (ht : 0 ≤ t) (hf : ∀ i u, i < 36 → B i → t ≤ u → 1 ≤ f i u) (h1 : FS B A f s t b e o b1 e1 o1) (h2 : FS B A f s t b e o b2 e2 o2) : (∀ i, i < 36 → b1 i = b2 i ∧ e1 i = e2 i) ∧ o1 = o2 := by
  have hh := FS_h ht hf h1 h2
  obtain ⟨p1, p2, p3, -, -, p6, p7, p8⟩ := h1
  obtain ⟨q1, q2, q3, -, -, q6, q7, q8⟩ := h2
  have hb : ∀ i, i < 36 → b1 i = b2 i ∧ e1 i = e2 i := by
    intro i hi
    by_cases hB : B i
    · have e1 := p3 i hi hB
      have e2 := q3 i hi hB
      have a := hh (b1 i - t + 1).toNat i hi hB
      have c := hh (b2 i - t + 1).toNat i hi hB
      have hbb : b1 i = b2 i := by
        by_cases z : t ≤ b1 i
        · have := a.1 z (by omega); omega
        · by_cases y : t ≤ b2 i
          · exact c.2 y (by omega)
          · omega
      rw [hbb] at e1 ⊢
      omega
    · have a := p2 i hi hB
      have c := q2 i hi hB
      omega
  refine ⟨hb, ?_⟩
  have l1 : o1 ≤ o2 := by
    rcases p8 with z | ⟨i, i1, i2, i3, i4⟩
    · omega
    · have a := hb i i1
      have c := q7 i i1 i2 (by omega)
      omega
  have l2 : o2 ≤ o1 := by
    rcases q8 with z | ⟨i, i1, i2, i3, i4⟩
    · omega
    · have a := hb i i1
      have c := p7 i i1 i2 (by omega)
      omega
  omega
/-! a night's state: rows 0 lit, 1 cell lit, 2 out, 3 + c begins, 7 + c ends -/
def CBu (G s : mF) (c i : Nat) : Prop := (i : Int) < G (19 + 6 * c) 0 ∧ 0 ≤ G (20 + 6 * c) i ∧ s (3 + c) i = -1
def CAd (G : mF) (c i k : Nat) : Prop := ∃ side, side < 4 ∧ G (23 + 6 * c) (4 * k + side) = (i : Int)
def fFS (G : mF) (D : Int) (c cell : Nat) (t : Int) (s : mF) (x : (Nat → Int) × (Nat → Int) × Int) : Prop := FS (CBu G s c) (CAd G c) (fun i u => btk G D (G (20 + 6 * c) i) u) cell t (s (3 + c)) (s (7 + c)) (s 2 c) x.1 x.2.1 x.2.2
noncomputable def fireX (G : mF) (D : Int) (c cell : Nat) (t : Int) (s : mF) : (Nat → Int) × (Nat → Int) × Int := Classical.epsilon (fFS G D c cell t s)
def setS (s : mF) (c : Nat) (x : (Nat → Int) × (Nat → Int) × Int) : mF := fun r k => if r = 3 + c then x.1 k else if r = 7 + c then x.2.1 k else if r = 2 ∧ k = c then x.2.2 else s r k
noncomputable def fireS (G : mF) (D : Int) (c cell : Nat) (t : Int) (s : mF) : mF := if (cell : Int) < G (19 + 6 * c) 0 ∧ 0 ≤ G (20 + 6 * c) cell ∧ s (3 + c) cell = -1 then setS s c (fireX G D c cell t s) else s
/-- the class's memory holds the state -/
def CS (g s : mF) : Prop := ∀ c, c < 4 → g (19 + 6 * c) 4 = s 0 c ∧ g (19 + 6 * c) 5 = s 1 c ∧ g (19 + 6 * c) 6 = s 2 c ∧ ∀ i, i < 36 → g (21 + 6 * c) i = s (3 + c) i ∧ g (22 + 6 * c) i = s (7 + c) i
/-- the reference's memory holds the state -/
def MS (g s : mF) : Prop := ∀ c, c < 4 → g 111 c = s 0 c ∧ g 112 c = s 1 c ∧ g 113 c = s 2 c ∧ ∀ i, i < 36 → g 114 (36 * c + i) = s (3 + c) i ∧ g 115 (36 * c + i) = s (7 + c) i
def SI (G : mF) (M : Int) (s : mF) : Prop := ∀ c, c < 4 → (-1 ≤ s 0 c ∧ s 0 c ≤ M) ∧ (-1 ≤ s 1 c ∧ s 1 c ≤ 35) ∧ (-1 ≤ s 2 c ∧ s 2 c ≤ M) ∧ ∀ i, i < 36 → (s (3 + c) i = -1 ∧ s (7 + c) i = -1 ∨ 0 ≤ s (3 + c) i ∧ s (3 + c) i < s (7 + c) i ∧ s (7 + c) i ≤ s 2 c) ∧ (s (3 + c) i ≠ -1 → s 0 c ≠ -1 ∧ (i : Int) < G (19 + 6 * c) 0 ∧ 0 ≤ G (20 + 6 * c) i)
/-- what the inputs of a night keep -/
def CG (G : mF) : Prop := Gair G ∧ ∀ c, c < 4 → (0 ≤ G (19 + 6 * c) 0 ∧ G (19 + 6 * c) 0 ≤ 36) ∧ (-1 ≤ G (19 + 6 * c) 2 ∧ G (19 + 6 * c) 2 ≤ 5999) ∧ (0 ≤ G (19 + 6 * c) 3 ∧ G (19 + 6 * c) 3 ≤ 35) ∧ (∀ i, i < 36 → -1 ≤ G (20 + 6 * c) i ∧ G (20 + 6 * c) i ≤ 7 ∧ (G (19 + 6 * c) 0 ≤ (i : Int) → G (20 + 6 * c) i = -1)) ∧ ∀ i : Nat, (i : Int) < G (19 + 6 * c) 0 → ∀ side, side < 4 → -1 ≤ G (23 + 6 * c) (4 * i + side) ∧ G (23 + 6 * c) (4 * i + side) < G (19 + 6 * c) 0
def InpS (o k : Nat) : Prop := o = 6 ∨ o = 7 ∨ o = 11 ∧ (k = 1 ∨ k = 2) ∨ 13 ≤ o ∧ o ≤ 18 ∨ (o = 19 ∨ o = 25 ∨ o = 31 ∨ o = 37) ∧ (k = 0 ∨ k = 2 ∨ k = 3) ∨ o = 20 ∨ o = 26 ∨ o = 32 ∨ o = 38 ∨ o = 23 ∨ o = 29 ∨ o = 35 ∨ o = 41
def Agree (G g : mF) : Prop := ∀ o k, InpS o k → g o k = G o k
theorem fFS_u {G : mF} {D : Int} {c cell : Nat} {t : Int} {s : mF} {x : (Nat → Int) × (Nat → Int) × Int} (hG : CG G) (hD : -1 ≤ D ∧ D ≤ 50) (hc : c < 4) (ht : 0 ≤ t) (h : fFS G D c cell t s x) : (∀ i, i < 36 → x.1 i = (fireX G D c cell t s).1 i ∧ x.2.1 i = (fireX G D c cell t s).2.1 i) ∧ x.2.2 = (fireX G D c cell t s).2.2 := by
  have h2 : fFS G D c cell t s (fireX G D c cell t s) := Classical.epsilon_spec (p := fFS G D c cell t s) ⟨x, h⟩
  refine FS_u ht ?_ h h2
  intro i u hi hB hu
  have z := (hG.2 c hc).2.2.2.1 i hi
  exact (btk_b hG.1 ⟨hB.2.1, z.2.1⟩ (by omega) hD).1
/-- a relational contract -/
def Rel (X : mX) (D y : Nat) (ls : List mV) (g : mF) (P : Option mV → mF → Prop) : Prop := ∀ (d : Nat) (Q : mQ), D ≤ d → (∀ r g', P r g' → Q r (fl g')) → Wp X d SH y 0 ls [] SH (fl g) Q
theorem Rel.le {X : mX} {D D' y : Nat} {ls : List mV} {g : mF} {P : Option mV → mF → Prop} (h : Rel X D y ls g P) (hd : D ≤ D') : Rel X D' y ls g P := fun d Q h1 h2 => h d Q (Nat.le_trans hd h1) h2
theorem Ret.rel {X : mX} {D y : Nat} {ls : List mV} {g g' : mF} {r : Option mV} {P : Option mV → mF → Prop} (h : Ret X D y ls g r g') (hP : P r g') : Rel X D y ls g P := fun d Q h1 h2 => h d Q h1 (h2 _ _ hP)
