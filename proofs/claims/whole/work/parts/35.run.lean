/-! a run that the kernel can count out: for the constructors -/
def lf (m : List (List Int)) : mF := fun o k => (m.getD o []).getD k 0
def lset (m : List (List Int)) (o k : Nat) (v : Int) : List (List Int) := m.set o ((m.getD o []).set k v)
def lin (m : List (List Int)) (o k : Nat) : Bool := decide (o < m.length) && decide (k < (m.getD o []).length)
theorem lf_set {m : List (List Int)} {o k : Nat} {v : Int} (h : lin m o k = true) : lf (lset m o k v) = mup (lf m) o k v := by
  unfold lin at h
  simp only [Bool.and_eq_true, decide_eq_true_eq] at h
  obtain ⟨h1, h2⟩ := h
  funext a b
  unfold lf lset mup
  by_cases ha : a = o
  · subst ha
    rw [List.getD_eq_getElem?_getD (l := m.set _ _), List.getElem?_set_self h1]
    simp only [Option.getD_some]
    by_cases hb : b = k
    · subst hb
      rw [List.getD_eq_getElem?_getD, List.getElem?_set_self h2]
      simp
    · rw [List.getD_eq_getElem?_getD, List.getElem?_set_ne (Ne.symm hb)]
      simp [hb]
  · rw [List.getD_eq_getElem?_getD (l := m.set _ _), List.getElem?_set_ne (Ne.symm ha)]
    simp [ha]
theorem lf_push {m : List (List Int)} {n L : Nat} (h : m.length = L) : lf (m ++ [List.replicate n 0]) = mze (lf m) L := by
  subst h
  funext a b
  unfold lf mze
  rcases Nat.lt_trichotomy a m.length with h | h | h
  · rw [if_neg (by omega)]
    simp only [List.getD_eq_getElem?_getD]
    rw [List.getElem?_append_left h]
  · subst h
    rw [if_pos rfl]
    simp only [List.getD_eq_getElem?_getD]
    rw [List.getElem?_append_right (Nat.le_refl _), Nat.sub_self]
    show (List.replicate n (0 : Int))[b]?.getD 0 = 0
    rw [List.getElem?_replicate]
    split <;> rfl
  · rw [if_neg (by omega)]
    simp only [List.getD_eq_getElem?_getD]
    rw [List.getElem?_eq_none (l := m ++ _) (by simp; omega), List.getElem?_eq_none (l := m) (by omega)]
def misb (sh : mSh) (a : Int) (c : Nat) : Bool := decide (1 ≤ a) && (sh.getD (a - 1).toNat (99, 0)).1 == c
theorem misb_ok {sh : mSh} {a : Int} {c : Nat} (h : misb sh a c = true) : mis sh a c := by
  unfold misb at h
  simp only [Bool.and_eq_true, decide_eq_true_eq, beq_iff_eq] at h
  exact h
def r32b (x : Int) : Bool := decide (-2147483648 ≤ x) && decide (x ≤ 2147483647)
theorem r32b_ok {x : Int} (h : r32b x = true) : r32 x := by
  unfold r32b at h
  simp only [Bool.and_eq_true, decide_eq_true_eq] at h
  exact h
def nolb (ls : List mV) (i : Nat) : Bool := decide (i < ls.length) && (i == 0 || (mlg ls (i - 1)).1 != 1)
theorem nolb_ok {ls : List mV} {i : Nat} (h : nolb ls i = true) : nol ls i := by
  unfold nolb at h
  simp only [Bool.and_eq_true, decide_eq_true_eq, Bool.or_eq_true, beq_iff_eq, bne_iff_ne, ne_eq] at h
  exact h
def mcb' (c : ClassFile.Cond) (a b : Int) : Bool := match c with
  | .eq => decide (a = b)
  | .ne => decide (a ≠ b)
  | .lt => decide (a < b)
  | .ge => decide (b ≤ a)
  | .gt => decide (b < a)
  | .le => decide (a ≤ b)
theorem mcb_ok {c : ClassFile.Cond} {a b : Int} : mcb' c a b = true ↔ mcd c a b := by
  cases c <;> simp [mcb', mcd]
abbrev mR : Type := Nat × List mV × List mV × mSh × List (List Int)
def stC (ins : Instr) (nx : Nat) (ls st : List mV) (sh : mSh) (m : List (List Int)) : Option mR := match ins, st with
  | .aload i, st => if (mlg ls i).1 = 2 then some (nx, ls, mlg ls i :: st, sh, m) else none
  | .iload i, st => if (mlg ls i).1 = 0 then some (nx, ls, mlg ls i :: st, sh, m) else none
  | .bipush v, st => if r32b v = true then some (nx, ls, (0, v) :: st, sh, m) else none
  | .istore i, (0, x) :: st => if nolb ls i = true then some (nx, ls.set i (0, x), st, sh, m) else none
  | .iinc i n, st => if (mlg ls i).1 = 0 ∧ nolb ls i = true ∧ r32b ((mlg ls i).2 + n) = true then some (nx, ls.set i (0, (mlg ls i).2 + n), st, sh, m) else none
  | .iadd, (0, b) :: (0, a) :: st => if r32b (a + b) = true then some (nx, ls, (0, a + b) :: st, sh, m) else none
  | .isub, (0, b) :: (0, a) :: st => if r32b (a - b) = true then some (nx, ls, (0, a - b) :: st, sh, m) else none
  | .imul, (0, b) :: (0, a) :: st => if r32b (a * b) = true then some (nx, ls, (0, a * b) :: st, sh, m) else none
  | .dup, v :: st => if v.1 ≠ 1 then some (nx, ls, v :: v :: st, sh, m) else none
  | .pop, (2, a) :: st => if 1 ≤ a ∧ mws st ≤ 8 then some (nx, ls, st, sh, m) else none
  | .getfield n, (2, a) :: st => if misb sh a (n / 400) = true then some (nx, ls, (mgt (n % 4), lf m (mix a) (n / 4 % 100)) :: st, sh, m) else none
  | .putfield n, (t, x) :: (2, a) :: st => if t = mgt (n % 4) ∧ misb sh a (n / 400) = true ∧ (n % 4 = 3 → x = 0 ∨ x = 1) ∧ lin m (mix a) (n / 4 % 100) = true then some (nx, ls, st, sh, lset m (mix a) (n / 4 % 100) x) else none
  | .iastore, (0, x) :: (0, i) :: (2, a) :: st => if misb sh a 10 = true ∧ 0 ≤ i ∧ i < mln sh a ∧ lin m (mix a) i.toNat = true then some (nx, ls, st, sh, lset m (mix a) i.toNat x) else none
  | .aastore, (2, x) :: (0, i) :: (2, a) :: st => if (misb sh a 12 = true ∧ misb sh x 5 = true ∨ misb sh a 13 = true ∧ misb sh x 2 = true) ∧ 0 ≤ i ∧ i < mln sh a ∧ lin m (mix a) i.toNat = true then some (nx, ls, st, sh, lset m (mix a) i.toNat x) else none
  | .arraylength, (2, a) :: st => if misb sh a 10 = true ∧ r32b (mln sh a) = true then some (nx, ls, (0, mln sh a) :: st, sh, m) else none
  | .new c, st => if c < 10 then some (nx, ls, (2, (sh.length : Int) + 1) :: st, sh ++ [(c, kF c)], m ++ [List.replicate (kF c) 0]) else none
  | .newarray t, (0, n) :: st => if 0 ≤ n ∧ n ≤ 10000 then some (nx, ls, (2, (sh.length : Int) + 1) :: st, sh ++ [(if t = .int then 10 else 11, n.toNat)], m ++ [List.replicate n.toNat 0]) else none
  | .anewarray c, (0, n) :: st => if 0 ≤ n ∧ n ≤ 10000 then some (nx, ls, (2, (sh.length : Int) + 1) :: st, sh ++ [(if c = 5 then 12 else 13, n.toNat)], m ++ [List.replicate n.toNat 0]) else none
  | .goto t, st => some (t.toNat, ls, st, sh, m)
  | .ifCond c t, (0, x) :: st => if mcb' c x 0 = true then some (t.toNat, ls, st, sh, m) else some (nx, ls, st, sh, m)
  | .if_icmp c t, (0, y) :: (0, x) :: st => if mcb' c x y = true then some (t.toNat, ls, st, sh, m) else some (nx, ls, st, sh, m)
  | _, _ => none
def stG (r : mR) (ins : Instr) (nx : Nat) (ls st : List mV) (sh : mSh) (m : List (List Int)) : Prop :=
  r.2.2.2.2.length = r.2.2.2.1.length ∧ sh.length ≤ r.2.2.2.1.length ∧ mtot sh ≤ mtot r.2.2.2.1 ∧ ∀ (X : mX) (d : Nat) (fin : mSh) (k : Nat) (Q : mQ), 1 ≤ d → r.2.2.2.1.length ≤ fin.length → mtot r.2.2.2.1 ≤ mtot fin → Wp X d fin k r.1 r.2.1 r.2.2.1 r.2.2.2.1 (lf r.2.2.2.2) Q → ex1 X (Wp X) d fin k Q ins ls st sh (lf m) (fun ls st sh f => Wp X d fin k nx ls st sh f Q)
theorem stG_s {r : mR} {ins : Instr} {nx : Nat} {ls st ls' st' : List mV} {sh : mSh} {m m' : List (List Int)} {pc : Nat} (e : some (pc, ls', st', sh, m') = some r) (hm : m'.length = sh.length) (h : ∀ (X : mX) (d : Nat) (fin : mSh) (k : Nat) (Q : mQ), 1 ≤ d → Wp X d fin k pc ls' st' sh (lf m') Q → ex1 X (Wp X) d fin k Q ins ls st sh (lf m) (fun ls st sh f => Wp X d fin k nx ls st sh f Q)) : stG r ins nx ls st sh m := by
  cases e
  exact ⟨hm, Nat.le_refl _, Nat.le_refl _, fun X d fin k Q h1 _ _ h2 => h X d fin k Q h1 h2⟩
theorem lset_len {m : List (List Int)} {o k : Nat} {v : Int} : (lset m o k v).length = m.length := by unfold lset; simp
set_option maxHeartbeats 4000000 in
theorem stC_ok {ins : Instr} {nx : Nat} {ls st : List mV} {sh : mSh} {m : List (List Int)} {r : mR} (h : stC ins nx ls st sh m = some r) (hm : m.length = sh.length) : stG r ins nx ls st sh m := by
  unfold stC at h
  split at h
  · split at h
    · rename_i c; exact stG_s h hm (fun X d fin k Q _ w => ⟨c, w⟩)
    · cases h
  · split at h
    · rename_i c; exact stG_s h hm (fun X d fin k Q _ w => ⟨c, w⟩)
    · cases h
  · split at h
    · rename_i c; exact stG_s h hm (fun X d fin k Q _ w => ⟨r32b_ok c, w⟩)
    · cases h
  · split at h
    · rename_i c; exact stG_s h hm (fun X d fin k Q _ w => ⟨nolb_ok c, w⟩)
    · cases h
  · split at h
    · rename_i c; exact stG_s h hm (fun X d fin k Q _ w => ⟨c.1, nolb_ok c.2.1, r32b_ok c.2.2, w⟩)
    · cases h
  · split at h
    · rename_i c; exact stG_s h hm (fun X d fin k Q _ w => ⟨r32b_ok c, w⟩)
    · cases h
  · split at h
    · rename_i c; exact stG_s h hm (fun X d fin k Q _ w => ⟨r32b_ok c, w⟩)
    · cases h
  · split at h
    · rename_i c; exact stG_s h hm (fun X d fin k Q _ w => ⟨r32b_ok c, w⟩)
    · cases h
  · split at h
    · rename_i c; exact stG_s h hm (fun X d fin k Q _ w => ⟨c, w⟩)
    · cases h
  · split at h
    · rename_i c; exact stG_s h hm (fun X d fin k Q hd w => ⟨c.1, hd, c.2, w⟩)
    · cases h
  · split at h
    · rename_i c; exact stG_s h hm (fun X d fin k Q _ w => ⟨misb_ok c, w⟩)
    · cases h
  · split at h
    · rename_i c; exact stG_s h (lset_len.trans hm) (fun X d fin k Q _ w => by rw [lf_set c.2.2.2] at w; exact ⟨c.1, misb_ok c.2.1, c.2.2.1, w⟩)
    · cases h
  · split at h
    · rename_i c; exact stG_s h (lset_len.trans hm) (fun X d fin k Q _ w => by rw [lf_set c.2.2.2] at w; exact ⟨misb_ok c.1, c.2.1, c.2.2.1, w⟩)
    · cases h
  · split at h
    · rename_i c; exact stG_s h (lset_len.trans hm) (fun X d fin k Q _ w => by rw [lf_set c.2.2.2] at w; exact ⟨c.1.imp (fun z => ⟨misb_ok z.1, misb_ok z.2⟩) (fun z => ⟨misb_ok z.1, misb_ok z.2⟩), c.2.1, c.2.2.1, w⟩)
    · cases h
  · split at h
    · rename_i c; exact stG_s h hm (fun X d fin k Q _ w => ⟨misb_ok c.1, r32b_ok c.2, w⟩)
    · cases h
  · split at h
    · rename_i c
      cases h
      refine ⟨by simp [hm], by simp, mtot_mono, fun X d fin k Q _ h1 h2 w => ?_⟩
      rw [lf_push hm] at w
      simp only [List.length_append, List.length_cons, List.length_nil, mtot_push] at h1 h2
      exact ⟨c, h1, h2, w⟩
    · cases h
  · split at h
    · rename_i c
      cases h
      refine ⟨by simp [hm], by simp, mtot_mono, fun X d fin k Q _ h1 h2 w => ?_⟩
      rw [lf_push hm] at w
      simp only [List.length_append, List.length_cons, List.length_nil, mtot_push] at h1 h2
      exact ⟨c.1, c.2, h1, h2, w⟩
    · cases h
  · split at h
    · rename_i c
      cases h
      refine ⟨by simp [hm], by simp, mtot_mono, fun X d fin k Q _ h1 h2 w => ?_⟩
      rw [lf_push hm] at w
      simp only [List.length_append, List.length_cons, List.length_nil, mtot_push] at h1 h2
      exact ⟨c.1, c.2, h1, h2, w⟩
    · cases h
  · exact stG_s h hm (fun X d fin k Q _ w => w)
  · split at h
    · rename_i c; exact stG_s h hm (fun X d fin k Q _ w => ⟨fun _ => w, fun z => absurd (mcb_ok.mp c) z⟩)
    · rename_i c; exact stG_s h hm (fun X d fin k Q _ w => ⟨fun z => absurd (mcb_ok.mpr z) c, fun _ => w⟩)
  · split at h
    · rename_i c; exact stG_s h hm (fun X d fin k Q _ w => ⟨fun _ => w, fun z => absurd (mcb_ok.mp c) z⟩)
    · rename_i c; exact stG_s h hm (fun X d fin k Q _ w => ⟨fun z => absurd (mcb_ok.mpr z) c, fun _ => w⟩)
  · cases h
def mrcb (sh : mSh) (c : Nat) (as : List mV) : Bool := match as with
  | (2, a) :: _ => misb sh a c
  | _ => false
theorem mrcb_ok {sh : mSh} {c : Nat} {as : List mV} (h : mrcb sh c as = true) : mrc sh c as := by
  unfold mrcb at h
  split at h
  · exact misb_ok h
  · cases h
def mr1b (as : List mV) : Bool := match as with
  | (2, a) :: _ => decide (1 ≤ a)
  | _ => false
theorem mr1b_ok {as : List mV} (h : mr1b as = true) : mr1 as := by
  unfold mr1b at h
  split at h
  · have h2 := of_decide_eq_true h
    exact h2
  · cases h
def clC (d y : Nat) (ok : List mV → Bool) (st : List mV) : Bool := decide (y % 100 ≤ st.length) && decide (mws (st.drop (y % 100)) ≤ 8) && decide (1 ≤ d) && ok (st.take (y % 100)).reverse && (ment (y / 100 % 100) (st.take (y % 100)).reverse).length == y / 100 % 100
/-- a call's kind of test; none: no call -/
def clK (ins : Instr) (sh : mSh) : Option (Nat × (List mV → Bool)) := match ins with
  | .invokevirtual y => some (y, mrcb sh (y / 10000 % 100))
  | .invokestatic y => some (y, fun _ => true)
  | .invokespecial y => some (y, mr1b)
  | _ => none
noncomputable def runC : Nat → Nat → Nat → Nat → List mV → List mV → mSh → List (List Int) → Option (mSh × List (List Int))
  | 0, _, _, _, _, _, _, _ => none
  | n + 1, d, k, pc, ls, st, sh, m => match mlk k pc with
    | none => none
    | some (ins, nx) => if ins = .return_ then (if st = [] then some (sh, m) else none) else match clK ins sh with
      | some (y, ok) => if clC d y ok st = true then (match runC n (d - 1) (y / 1000000) 0 (ment (y / 100 % 100) (st.take (y % 100)).reverse) [] sh m with
          | none => none
          | some (sh1, m1) => runC n d k nx ls (st.drop (y % 100)) sh1 m1) else none
      | none => if 1 ≤ d then (match stC ins nx ls st sh m with
          | none => none
          | some (pc1, ls1, st1, sh1, m1) => runC n d k pc1 ls1 st1 sh1 m1) else none
theorem clK_ok {ins : Instr} {sh fin sh1 : mSh} {y : Nat} {ok : List mV → Bool} {X : mX} {d k nx : Nat} {Q : mQ} {ls st : List mV} {f : mF} (hk : clK ins sh = some (y, ok)) (h : clC d y ok st = true) (h1 : sh.length ≤ sh1.length) (h2 : mtot sh ≤ mtot sh1) (h3 : sh1.length ≤ fin.length) (h4 : mtot sh1 ≤ mtot fin) (w : Wp X (d - 1) sh1 (y / 1000000) 0 (ment (y / 100 % 100) (st.take (y % 100)).reverse) [] sh f (fun r f' => Wp X d fin k nx ls (r.toList ++ st.drop (y % 100)) sh1 f' Q)) : ex1 X (Wp X) d fin k Q ins ls st sh f (fun ls st sh f => Wp X d fin k nx ls st sh f Q) := by
  unfold clC at h
  simp only [Bool.and_eq_true, decide_eq_true_eq, beq_iff_eq] at h
  obtain ⟨⟨⟨⟨a1, a2⟩, a3⟩, a4⟩, a5⟩ := h
  unfold clK at hk
  split at hk
  · cases hk
    exact ⟨a1, a2, a3, mrcb_ok a4, a5, sh1, h1, h2, h3, h4, w⟩
  · cases hk
    exact ⟨a1, a2, a3, trivial, a5, sh1, h1, h2, h3, h4, w⟩
  · cases hk
    exact ⟨a1, a2, a3, mr1b_ok a4, a5, sh1, h1, h2, h3, h4, w⟩
  · cases hk
theorem runC_ok : ∀ (n d k pc : Nat) (ls st : List mV) (sh : mSh) (m : List (List Int)) (sh' : mSh) (m' : List (List Int)), runC n d k pc ls st sh m = some (sh', m') → m.length = sh.length → m'.length = sh'.length ∧ sh.length ≤ sh'.length ∧ mtot sh ≤ mtot sh' ∧ ∀ (X : mX) (Q : mQ), Q none (lf m') → Wp X d sh' k pc ls st sh (lf m) Q := by
  intro n
  induction n with
  | zero => intro d k pc ls st sh m sh' m' h; cases h
  | succ n ih =>
    intro d k pc ls st sh m sh' m' h hm
    unfold runC at h
    split at h
    · cases h
    · rename_i ins nx hl
      split at h
      · rename_i hr
        subst hr
        split at h
        · rename_i hst
          subst hst
          cases h
          exact ⟨hm, Nat.le_refl _, Nat.le_refl _, fun X Q hQ => Wp_clos X _ _ _ _ _ _ _ _ _ ⟨_, _, hl, rfl, rfl, hQ⟩⟩
        · cases h
      · split at h
        · rename_i y ok hk
          split at h
          · rename_i hc
            split at h
            · cases h
            · rename_i sh1 m1 h1
              obtain ⟨b1, b2, b3, b4⟩ := ih _ _ _ _ _ _ _ _ _ h1 hm
              obtain ⟨e1, e2, e3, e4⟩ := ih _ _ _ _ _ _ _ _ _ h b1
              exact ⟨e1, Nat.le_trans b2 e2, Nat.le_trans b3 e3, fun X Q hQ => Wp_clos X _ _ _ _ _ _ _ _ _ ⟨_, _, hl, clK_ok hk hc b2 b3 e2 e3 (b4 X _ (e4 X Q hQ))⟩⟩
          · cases h
        · split at h
          · rename_i hd
            split at h
            · cases h
            · rename_i pc1 ls1 st1 sh1 m1 h1
              obtain ⟨a1, a2, a3, a4⟩ := stC_ok h1 hm
              obtain ⟨e1, e2, e3, e4⟩ := ih _ _ _ _ _ _ _ _ _ h a1
              exact ⟨e1, Nat.le_trans a2 e2, Nat.le_trans a3 e3, fun X Q hQ => Wp_clos X _ _ _ _ _ _ _ _ _ ⟨_, _, hl, a4 X d sh' k Q hd e2 e3 (e4 X Q hQ)⟩⟩
          · cases h
