/-! the machine's memory as cells of the heap: cell i of the machine lies at bs + i -/
def mad (bs wt bb : Nat) (x : Int) : Option Nat := if x = 0 then none else if x = -1 then some wt else if x = -2 then some bb else some (bs + (x - 1).toNat)
def mrv (bs wt bb : Nat) (v : mV) : Value := if v.1 = 0 then .int (Int32.ofInt v.2) else if v.1 = 1 then .long (Int64.ofInt v.2) else va_rf (mad bs wt bb v.2)
theorem mrv_i (bs wt bb : Nat) (x : Int) : mrv bs wt bb (0, x) = .int (Int32.ofInt x) := rfl
theorem mrv_l (bs wt bb : Nat) (x : Int) : mrv bs wt bb (1, x) = .long (Int64.ofInt x) := rfl
theorem mrv_r (bs wt bb : Nat) (x : Int) : mrv bs wt bb (2, x) = va_rf (mad bs wt bb x) := rfl
theorem mrv_n (bs wt bb : Nat) : mrv bs wt bb (2, 0) = .null := rfl
theorem mad_pos {bs wt bb : Nat} {x : Int} (h : 1 ≤ x) : mad bs wt bb x = some (bs + (x - 1).toNat) := by
  unfold mad
  rw [if_neg (by omega), if_neg (by omega), if_neg (by omega)]
theorem mrv_p {bs wt bb : Nat} {x : Int} (h : 1 ≤ x) : mrv bs wt bb (2, x) = .ref (bs + (x - 1).toNat) := by rw [mrv_r, mad_pos h]; rfl
def mtg (c k : Nat) : Nat := if c < 10 then mgt (rtg (kY c k)) else if c < 12 then 0 else 2
theorem rtg_lt (t : FieldType) : rtg t < 4 := by cases t <;> simp [rtg]
theorem mgt_lt {n : Nat} (h : n < 4) : mgt n = 0 ∨ mgt n = 1 ∨ mgt n = 2 := by
  unfold mgt
  split <;> omega
theorem mtg3 (c k : Nat) : mtg c k = 0 ∨ mtg c k = 1 ∨ mtg c k = 2 := by
  unfold mtg
  split
  · exact mgt_lt (rtg_lt _)
  · split
    · exact Or.inl rfl
    · exact Or.inr (Or.inr rfl)
def okv (v : mV) : Prop := (v.1 = 0 ∧ r32 v.2) ∨ (v.1 = 1 ∧ r64 v.2) ∨ v.1 = 2
def okSh (sh : mSh) : Prop := ∀ q ∈ sh, q.1 < 14 ∧ (q.1 < 10 → q.2 = kF q.1)
def okF (sh : mSh) (f : mF) : Prop := ∀ (o : Nat) (q : Nat × Nat), sh[o]? = some q → ∀ j, j < q.2 → okv (mtg q.1 j, f o j)
def mce (cA : Nat → ClassId) (bs wt bb : Nat) (q : Nat × Nat) (g : Nat → Int) : va_E :=
  if q.1 < 10 then .inr (q.1, (List.range q.2).map (fun k => mrv bs wt bb (mtg q.1 k, g k)))
  else .inl (cA q.1, (q.2, if q.1 < 12 then .inl (fun j => Int32.ofInt (g j)) else .inr (.inr (.inr (.inr (fun j => mad bs wt bb (g j)))))))
def mwo (cA : Nat → ClassId) (bs wt bb : Nat) (sh : mSh) (f : mF) : va_W := sh.mapIdx (fun i q => (bs + i, mce cA bs wt bb q (f i)))
section MW
variable {cA : Nat → ClassId} {bs wt bb : Nat} {sh : mSh} {f : mF}
theorem mwo_at {i : Nat} {q : Nat × Nat} (h : sh[i]? = some q) : (mwo cA bs wt bb sh f)[i]? = some (bs + i, mce cA bs wt bb q (f i)) := by
  unfold mwo
  rw [List.getElem?_mapIdx, h]
  rfl
theorem mwo_sp {i : Nat} {p : Nat × va_E} (h : (mwo cA bs wt bb sh f)[i]? = some p) : ∃ q, sh[i]? = some q ∧ p = (bs + i, mce cA bs wt bb q (f i)) := by
  unfold mwo at h
  rw [List.getElem?_mapIdx] at h
  cases hq : sh[i]? with
  | none => rw [hq] at h; cases h
  | some q => rw [hq] at h; cases h; exact ⟨q, rfl, rfl⟩
theorem mwo_D : va_D (fun q => bs ≤ q) (mwo cA bs wt bb sh f) := by
  refine ⟨fun i j p q hi hj h => ?_, fun k q h => ?_⟩
  · obtain ⟨a, -, rfl⟩ := mwo_sp hi
    obtain ⟨b, -, rfl⟩ := mwo_sp hj
    have : bs + i = bs + j := h
    omega
  · obtain ⟨a, -, rfl⟩ := mwo_sp h
    exact Nat.le_add_right _ _
theorem mwo_set {o : Nat} {q : Nat × Nat} (h : sh[o]? = some q) (k : Nat) (v : Int) : (mwo cA bs wt bb sh f).set o (bs + o, mce cA bs wt bb q (fun j => if j = k then v else f o j)) = mwo cA bs wt bb sh (mup f o k v) := by
  apply List.ext_getElem?
  intro i
  by_cases hi : i = o
  · subst hi
    have hl : i < (mwo cA bs wt bb sh f).length := (List.getElem?_eq_some_iff.mp (mwo_at (f := f) h)).1
    rw [List.getElem?_set_self hl, mwo_at h]
    congr 3
    funext j
    simp [mup]
  · rw [List.getElem?_set_ne (Ne.symm hi)]
    unfold mwo
    rw [List.getElem?_mapIdx, List.getElem?_mapIdx]
    have e : mup f o k v i = f i := by funext j; simp [mup, hi]
    rw [e]
theorem mwo_push (q : Nat × Nat) : mwo cA bs wt bb (sh ++ [q]) (mze f sh.length) = mwo cA bs wt bb sh f ++ [(bs + sh.length, mce cA bs wt bb q (fun _ => 0))] := by
  apply List.ext_getElem?
  intro i
  have hl : (mwo cA bs wt bb sh f).length = sh.length := by simp [mwo]
  rcases Nat.lt_trichotomy i sh.length with h | h | h
  · rw [List.getElem?_append_left (by omega)]
    unfold mwo
    rw [List.getElem?_mapIdx, List.getElem?_mapIdx, List.getElem?_append_left h]
    have e : mze f sh.length i = f i := by funext j; simp [mze]; omega
    rw [e]
  · subst h
    rw [List.getElem?_append_right (by omega), hl]
    unfold mwo
    rw [List.getElem?_mapIdx, List.getElem?_append_right (by omega)]
    have e : mze f sh.length sh.length = fun _ => 0 := by funext j; simp [mze]
    rw [e]
    simp
  · rw [List.getElem?_eq_none (by simp [mwo]; omega), List.getElem?_eq_none (by simp [hl]; omega)]
theorem mis_at {a : Int} {c : Nat} (hc : c < 14) (h : mis sh a c) : ∃ n, sh[(a - 1).toNat]? = some (c, n) ∧ mln sh a = n := by
  obtain ⟨h1, h2⟩ := h
  cases hq : sh[(a - 1).toNat]? with
  | none => rw [List.getD_eq_getElem?_getD, hq] at h2; simp at h2; omega
  | some q =>
    rw [List.getD_eq_getElem?_getD, hq] at h2
    simp at h2
    subst h2
    exact ⟨q.2, rfl, by unfold mln; rw [List.getD_eq_getElem?_getD, hq]; rfl⟩
theorem okF_up {o k : Nat} {v : Int} {q : Nat × Nat} (h : okF sh f) (hq : sh[o]? = some q) (hv : okv (mtg q.1 k, v)) : okF sh (mup f o k v) := by
  intro o' q' hq' j hj
  unfold mup
  by_cases hc : o' = o ∧ j = k
  · obtain ⟨rfl, rfl⟩ := hc
    rw [hq] at hq'
    cases hq'
    simpa using hv
  · rw [if_neg hc]
    exact h o' q' hq' j hj
theorem okF_push {q : Nat × Nat} (h : okF sh f) : okF (sh ++ [q]) (mze f sh.length) := by
  intro o' q' hq' j hj
  unfold mze
  by_cases hc : o' = sh.length
  · rw [if_pos hc]
    have := mtg3 q'.1 j
    rcases this with e | e | e <;> rw [e]
    · exact Or.inl ⟨rfl, by unfold r32; omega⟩
    · exact Or.inr (Or.inl ⟨rfl, by unfold r64; omega⟩)
    · exact Or.inr (Or.inr rfl)
  · rw [if_neg hc]
    have hl : o' < sh.length := by
      have := (List.getElem?_eq_some_iff.mp hq').1
      simp at this
      omega
    rw [List.getElem?_append_left hl] at hq'
    exact h o' q' hq' j hj
theorem okSh_push {q : Nat × Nat} (h : okSh sh) (h1 : q.1 < 14) (h2 : q.1 < 10 → q.2 = kF q.1) : okSh (sh ++ [q]) := by
  intro p hp
  rcases List.mem_append.mp hp with z | z
  · exact h p z
  · simp at z
    subst z
    exact ⟨h1, h2⟩
theorem mtot_push (q : Nat × Nat) : mtot (sh ++ [q]) = mtot sh + q.2 := by simp [mtot]
end MW
/-! locals -/
def mlv (bs wt bb : Nat) (ls : List mV) : List (Nat × Value) := (List.range ls.length).filterMap (fun i => if (mlg ls i).1 = 3 then none else some (i, mrv bs wt bb (mlg ls i)))
theorem mlv_in {bs wt bb : Nat} {ls : List mV} {i : Nat} (hi : i < ls.length) (h : (mlg ls i).1 ≠ 3) : (i, mrv bs wt bb (mlg ls i)) ∈ mlv bs wt bb ls := by
  unfold mlv
  rw [List.mem_filterMap]
  exact ⟨i, List.mem_range.mpr hi, by simp [h]⟩
theorem mlv_sp {bs wt bb : Nat} {ls : List mV} {q : Nat × Value} (h : q ∈ mlv bs wt bb ls) : q.1 < ls.length ∧ (mlg ls q.1).1 ≠ 3 ∧ q.2 = mrv bs wt bb (mlg ls q.1) := by
  unfold mlv at h
  rw [List.mem_filterMap] at h
  obtain ⟨i, h1, h2⟩ := h
  split at h2
  · cases h2
  · rename_i h3
    cases h2
    exact ⟨List.mem_range.mp h1, h3, rfl⟩
theorem mlg_set {ls : List mV} {i j : Nat} {v : mV} (hi : i < ls.length) : mlg (ls.set i v) j = if j = i then v else mlg ls j := by
  unfold mlg
  rw [List.getD_eq_getElem?_getD, List.getD_eq_getElem?_getD, List.getElem?_set]
  by_cases h : i = j
  · subst h
    simp [hi]
  · simp [h, Ne.symm h]
theorem mlg_lt {ls : List mV} {i : Nat} (h : (mlg ls i).1 ≠ 3) : i < ls.length := by
  rcases Nat.lt_or_ge i ls.length with z | z
  · exact z
  · exfalso
    apply h
    unfold mlg
    rw [List.getD_eq_getElem?_getD, List.getElem?_eq_none z]
    rfl
theorem mlg_mem {ls : List mV} {i : Nat} (h : i < ls.length) : mlg ls i ∈ ls := by
  unfold mlg
  rw [List.getD_eq_getElem?_getD, List.getElem?_eq_getElem h]
  exact List.getElem_mem h
theorem mrv_c2 {bs wt bb : Nat} {v : mV} (h : (mrv bs wt bb v).category = 2) : v.1 = 1 := by
  unfold mrv at h
  split at h
  · cases h
  · split at h
    · assumption
    · unfold va_rf at h
      split at h <;> cases h
theorem mrv_cat {bs wt bb : Nat} (v : mV) : (mrv bs wt bb v).category = if v.1 = 1 then 2 else 1 := by
  unfold mrv
  by_cases h0 : v.1 = 0
  · simp [h0, Value.category]
  · by_cases h1 : v.1 = 1
    · simp [h1, Value.category]
    · simp only [h0, h1, if_false]
      unfold va_rf
      split <;> rfl
theorem mlv_set1 {bs wt bb : Nat} {lz : Array Slot} {ls : List mV} {nL i : Nat} {v : mV} (hn : nol ls i) (h : lv_has lz nL ((i, mrv bs wt bb v) :: (mlv bs wt bb ls).filter (fun q => !(q.1 == i) && !(q.1 + 1 == i && q.2.category == 2)))) : lv_has lz nL (mlv bs wt bb (ls.set i v)) := by
  refine ⟨h.1, h.2.1, fun q hq => h.2.2 q ?_⟩
  obtain ⟨h1, h2, h3⟩ := mlv_sp hq
  rw [List.length_set] at h1
  rw [mlg_set hn.1] at h2 h3
  by_cases e : q.1 = i
  · rw [if_pos e] at h3
    have : q = (i, mrv bs wt bb v) := by rw [← e, ← h3]
    rw [this]
    exact List.mem_cons_self
  · rw [if_neg e] at h2 h3
    refine List.mem_cons_of_mem _ (List.mem_filter.mpr ⟨?_, ?_⟩)
    · have := mlv_in (bs := bs) (wt := wt) (bb := bb) h1 h2
      rwa [← h3] at this
    · simp only [Bool.and_eq_true, Bool.not_eq_true', beq_eq_false_iff_ne, ne_eq, Bool.and_eq_false_iff]
      refine ⟨e, ?_⟩
      rcases hn.2 with z | z
      · exact Or.inl (by omega)
      · rcases Nat.decEq (q.1 + 1) i with y | y
        · exact Or.inl y
        · refine Or.inr (fun c => z ?_)
          rw [h3] at c
          have := mrv_c2 c
          rw [show i - 1 = q.1 by omega]
          exact this
theorem mlv_set2 {bs wt bb : Nat} {lz : Array Slot} {ls : List mV} {nL i : Nat} {v : mV} (hn : nol ls i) (hi1 : i + 1 < ls.length) (h : lv_has lz nL ((i, mrv bs wt bb v) :: (mlv bs wt bb ls).filter (fun q => !(q.1 == i) && (!(q.1 == i + 1) && !(q.1 + 1 == i && q.2.category == 2))))) : lv_has lz nL (mlv bs wt bb ((ls.set i v).set (i + 1) (3, 0))) := by
  refine ⟨h.1, h.2.1, fun q hq => h.2.2 q ?_⟩
  obtain ⟨h1, h2, h3⟩ := mlv_sp hq
  rw [List.length_set, List.length_set] at h1
  rw [mlg_set (by rw [List.length_set]; exact hi1)] at h2 h3
  by_cases e1 : q.1 = i + 1
  · rw [if_pos e1] at h2
    exact absurd rfl h2
  rw [if_neg e1, mlg_set hn.1] at h2 h3
  by_cases e : q.1 = i
  · rw [if_pos e] at h3
    have : q = (i, mrv bs wt bb v) := by rw [← e, ← h3]
    rw [this]
    exact List.mem_cons_self
  · rw [if_neg e] at h2 h3
    refine List.mem_cons_of_mem _ (List.mem_filter.mpr ⟨?_, ?_⟩)
    · have := mlv_in (bs := bs) (wt := wt) (bb := bb) h1 h2
      rwa [← h3] at this
    · simp only [Bool.and_eq_true, Bool.not_eq_true', beq_eq_false_iff_ne, ne_eq, Bool.and_eq_false_iff]
      refine ⟨e, e1, ?_⟩
      rcases hn.2 with z | z
      · exact Or.inl (by omega)
      · rcases Nat.decEq (q.1 + 1) i with y | y
        · exact Or.inl y
        · refine Or.inr (fun c => z ?_)
          rw [h3] at c
          have := mrv_c2 c
          rw [show i - 1 = q.1 by omega]
          exact this
theorem mrv_ne3 {bs wt bb : Nat} (as : List mV) : ∀ (j : Nat) (ls : List mV), (∀ i v, (as.flatMap (fun v => if v.1 = 1 then [v, (3, 0)] else [v]))[i]? = some v → mlg ls (j + i) = v) → (∀ v ∈ as, v.1 ≠ 3) → ∀ i, i < (as.flatMap (fun v => if v.1 = 1 then [v, (3, 0)] else [v])).length → (mlg ls (j + i)).1 ≠ 3 → (j + i, mrv bs wt bb (mlg ls (j + i))) ∈ lv_args j (as.map (mrv bs wt bb)) := by
  induction as with
  | nil => intro j ls _ _ i hi; simp at hi
  | cons a as ih =>
    intro j ls hl ha i hi h3
    rw [List.map_cons]
    unfold lv_args
    rw [mrv_cat]
    by_cases h1 : a.1 = 1
    · simp only [h1, if_true] at hl hi ⊢
      rw [List.flatMap_cons, if_pos h1] at hi hl
      simp only [List.length_append, List.length_cons, List.length_nil] at hi
      match i with
      | 0 =>
        have := hl 0 a (by simp)
        rw [this]
        exact List.mem_cons_self
      | 1 =>
        have := hl 1 (3, 0) (by simp)
        rw [this] at h3
        exact absurd rfl h3
      | i + 2 =>
        refine List.mem_cons_of_mem _ ?_
        have := ih (j + 2) ls (fun i v h => by
          have := hl (i + 2) v (by simpa using h)
          rwa [show j + (i + 2) = j + 2 + i by omega] at this) (fun v h => ha v (List.mem_cons_of_mem _ h)) i (by omega) (by rw [show j + 2 + i = j + (i + 2) by omega]; exact h3)
        rwa [show j + 2 + i = j + (i + 2) by omega] at this
    · simp only [h1, if_false] at hl hi ⊢
      rw [List.flatMap_cons, if_neg h1] at hi hl
      simp only [List.length_append, List.length_cons, List.length_nil] at hi
      match i with
      | 0 =>
        have := hl 0 a (by simp)
        rw [this]
        exact List.mem_cons_self
      | i + 1 =>
        refine List.mem_cons_of_mem _ ?_
        have := ih (j + 1) ls (fun i v h => by
          have := hl (i + 1) v (by simpa using h)
          rwa [show j + (i + 1) = j + 1 + i by omega] at this) (fun v h => ha v (List.mem_cons_of_mem _ h)) i (by omega) (by rw [show j + 1 + i = j + (i + 1) by omega]; exact h3)
        rwa [show j + 1 + i = j + (i + 1) by omega] at this
theorem lgsl_len {bs wt bb : Nat} (as : List mV) : (lg_sl (as.map (mrv bs wt bb))).length = (as.flatMap (fun v => if v.1 = 1 then [v, (3, 0)] else [v])).length := by
  induction as with
  | nil => rfl
  | cons a as ih =>
    rw [List.map_cons, List.flatMap_cons]
    show (lg_sl (mrv bs wt bb a :: as.map (mrv bs wt bb))).length = _
    have e : lg_sl (mrv bs wt bb a :: as.map (mrv bs wt bb)) = (if (mrv bs wt bb a).category = 2 then [.val (mrv bs wt bb a), .second] else [.val (mrv bs wt bb a)]) ++ lg_sl (as.map (mrv bs wt bb)) := by simp [lg_sl]
    rw [e, List.length_append, List.length_append, ih, mrv_cat]
    by_cases h : a.1 = 1 <;> simp [h]
theorem ment_len {mx : Nat} {as : List mV} (h : (as.flatMap (fun v => if v.1 = 1 then [v, (3, 0)] else [v])).length ≤ mx) : (ment mx as).length = mx := by
  unfold ment
  rw [List.length_append, List.length_replicate]
  omega
/-- a method's entry -/
theorem ment_has {bs wt bb mx : Nat} {as : List mV} (h3 : ∀ v ∈ as, v.1 ≠ 3) (h : (as.flatMap (fun v => if v.1 = 1 then [v, (3, 0)] else [v])).length ≤ mx) : lv_has ((lg_sl (as.map (mrv bs wt bb)) ++ List.replicate (mx - (lg_sl (as.map (mrv bs wt bb))).length) Slot.unset).toArray) mx (mlv bs wt bb (ment mx as)) := by
  have h0 := lv_entry (as.map (mrv bs wt bb)) (n := mx) (by rw [lgsl_len]; exact h)
  refine ⟨h0.1, h0.2.1, fun q hq => h0.2.2 q ?_⟩
  obtain ⟨h1, h2, hv⟩ := mlv_sp hq
  have hlt : q.1 < (as.flatMap (fun v => if v.1 = 1 then [v, (3, 0)] else [v])).length := by
    refine Nat.lt_of_not_le (fun z => ?_)
    apply h2
    unfold mlg ment
    rw [List.getD_eq_getElem?_getD, List.getElem?_append_right z, List.getElem?_replicate]
    split <;> rfl
  have := mrv_ne3 (bs := bs) (wt := wt) (bb := bb) as 0 (ment mx as) (fun i v hi => by
    rw [Nat.zero_add]
    unfold mlg ment
    rw [List.getD_eq_getElem?_getD, List.getElem?_append_left (List.getElem?_eq_some_iff.mp hi).1, hi]
    rfl) h3 q.1 hlt (by rw [Nat.zero_add]; exact h2)
  rw [Nat.zero_add, ← hv] at this
  exact this
theorem vin {i : Int} {n : Nat} (hr : r32 i) (h0 : 0 ≤ i) (h1 : i < n) : vp_in (Int32.ofInt i) n ∧ (Int32.ofInt i).toNatClampNeg = i.toNat := by
  have e : (Int32.ofInt i).toNatClampNeg = i.toNat := Int32.toNatClampNeg_ofInt_of_le (by unfold r32 at hr; omega) (by unfold r32 at hr; omega)
  refine ⟨fun h => ?_, e⟩
  rcases h with h | h
  · rw [Int32.lt_iff_toInt_lt, Int32.toInt_ofInt_of_le (by unfold r32 at hr; omega) (by unfold r32 at hr; omega)] at h
    have : (0 : Int32).toInt = 0 := rfl
    omega
  · rw [e] at h
    omega
theorem ofi_eq {a b : Int} (ha : r32 a) (hb : r32 b) : Int32.ofInt a = Int32.ofInt b ↔ a = b := by
  unfold r32 at ha hb
  rw [← Int32.toInt_inj, Int32.toInt_ofInt_of_le (by omega) (by omega), Int32.toInt_ofInt_of_le (by omega) (by omega)]
theorem ofi_lt {a b : Int} (ha : r32 a) (hb : r32 b) : Int32.ofInt a < Int32.ofInt b ↔ a < b := by
  unfold r32 at ha hb
  rw [Int32.lt_iff_toInt_lt, Int32.toInt_ofInt_of_le (by omega) (by omega), Int32.toInt_ofInt_of_le (by omega) (by omega)]
theorem ofi_le {a b : Int} (ha : r32 a) (hb : r32 b) : Int32.ofInt a ≤ Int32.ofInt b ↔ a ≤ b := by
  unfold r32 at ha hb
  rw [Int32.le_iff_toInt_le, Int32.toInt_ofInt_of_le (by omega) (by omega), Int32.toInt_ofInt_of_le (by omega) (by omega)]
theorem ofi_t {a : Int} (ha : r32 a) : (Int32.ofInt a).toInt = a := by
  unfold r32 at ha
  exact Int32.toInt_ofInt_of_le (by omega) (by omega)
theorem ofl_t {a : Int} (ha : r64 a) : (Int64.ofInt a).toInt = a := by
  unfold r64 at ha
  exact Int64.toInt_ofInt_of_le (by omega) (by omega)
theorem ofl_lt {a b : Int} (ha : r64 a) (hb : r64 b) : Int64.ofInt a < Int64.ofInt b ↔ a < b := by rw [Int64.lt_iff_toInt_lt, ofl_t ha, ofl_t hb]
theorem ofl_eq {a b : Int} (ha : r64 a) (hb : r64 b) : Int64.ofInt a = Int64.ofInt b ↔ a = b := by rw [← Int64.toInt_inj, ofl_t ha, ofl_t hb]
theorem r32_t (x : Int32) : r32 x.toInt := by
  have h1 := Int32.le_toInt x
  have h2 := Int32.toInt_lt x
  unfold r32
  omega
theorem r64_t (x : Int64) : r64 x.toInt := by
  have h1 := Int64.le_toInt x
  have h2 := Int64.toInt_lt x
  unfold r64
  omega
