/-! THE MACHINE: the code as 03 resolves it, over a memory of numbered cells; Wp: from here the method returns, and Q holds of what it returns and of the memory -/
abbrev mV : Type := Nat × Int
abbrev mSh : Type := List (Nat × Nat)
abbrev mF : Type := Nat → Nat → Int
abbrev mQ : Type := Option mV → mF → Prop
abbrev mX : Type := Nat × (Nat → Int)
abbrev mK : Type := List mV → List mV → mSh → mF → Prop
/-- depth, shape at the end, method, place, locals, stack, shape, memory, what holds at the end -/
abbrev mP : Type := Nat → mSh → Nat → Nat → List mV → List mV → mSh → mF → mQ → Prop
def r32 (x : Int) : Prop := -2147483648 ≤ x ∧ x ≤ 2147483647
def r64 (x : Int) : Prop := -9223372036854775808 ≤ x ∧ x ≤ 9223372036854775807
def mup (f : mF) (o k : Nat) (v : Int) : mF := fun a b => if a = o ∧ b = k then v else f a b
def mze (f : mF) (o : Nat) : mF := fun a b => if a = o then 0 else f a b
def mtot (sh : mSh) : Nat := (sh.map (fun q => q.2)).sum
def mlg (ls : List mV) (i : Nat) : mV := ls.getD i (3, 0)
def nol (ls : List mV) (i : Nat) : Prop := i < ls.length ∧ (i = 0 ∨ (mlg ls (i - 1)).1 ≠ 1)
def mws (st : List mV) : Nat := (st.map (fun v => if v.1 = 1 then 2 else 1)).sum
def mis (sh : mSh) (a : Int) (c : Nat) : Prop := 1 ≤ a ∧ (sh.getD (a - 1).toNat (99, 0)).1 = c
def mln (sh : mSh) (a : Int) : Int := ((sh.getD (a - 1).toNat (99, 0)).2 : Nat)
def mix (a : Int) : Nat := (a - 1).toNat
def mgt (n : Nat) : Nat := if n = 3 then 0 else n
def mwl (n : Nat) : Int := match n with
  | 0 => 1650814060
  | 1 => 465624852596
  | 2 => 495924372848
  | 3 => 495739823472
  | _ => 1685222765
def mcd (c : ClassFile.Cond) (a b : Int) : Prop := match c with
  | .eq => a = b
  | .ne => a ≠ b
  | .lt => a < b
  | .ge => b ≤ a
  | .gt => b < a
  | .le => a ≤ b
def ment (mx : Nat) (as : List mV) : List mV := (as.flatMap (fun v => if v.1 = 1 then [v, (3, 0)] else [v])) ++ List.replicate (mx - (as.flatMap (fun v => if v.1 = 1 then [v, (3, 0)] else [v])).length) (3, 0)
def popI (st : List mV) (k : Int → List mV → Prop) : Prop := match st with
  | (0, x) :: s => k x s
  | _ => False
def popL (st : List mV) (k : Int → List mV → Prop) : Prop := match st with
  | (1, x) :: s => k x s
  | _ => False
def popR (st : List mV) (k : Int → List mV → Prop) : Prop := match st with
  | (2, x) :: s => k x s
  | _ => False
def popN (t : Nat) (st : List mV) (k : Int → List mV → Prop) : Prop := match st with
  | (u, x) :: s => u = t ∧ k x s
  | _ => False
def popV (st : List mV) (k : mV → List mV → Prop) : Prop := match st with
  | v :: s => v.1 ≠ 1 ∧ k v s
  | _ => False
def mcl (P : mP) (d : Nat) (fin : mSh) (code : Nat) (ok : List mV → Prop) (ls st : List mV) (sh : mSh) (f : mF) (K : mK) : Prop :=
  code % 100 ≤ st.length ∧ mws (st.drop (code % 100)) ≤ 8 ∧ 1 ≤ d ∧ ok (st.take (code % 100)).reverse ∧ (ment (code / 100 % 100) (st.take (code % 100)).reverse).length = code / 100 % 100 ∧ ∃ fin' : mSh, sh.length ≤ fin'.length ∧ mtot sh ≤ mtot fin' ∧ fin'.length ≤ fin.length ∧ mtot fin' ≤ mtot fin ∧
  P (d - 1) fin' (code / 1000000) 0 (ment (code / 100 % 100) (st.take (code % 100)).reverse) [] sh f (fun r f' => K ls (r.toList ++ st.drop (code % 100)) fin' f')
def mrc (sh : mSh) (c : Nat) (as : List mV) : Prop := match as with
  | (2, a) :: _ => mis sh a c
  | _ => False
def mr1 (as : List mV) : Prop := match as with
  | (2, a) :: _ => 1 ≤ a
  | _ => False
def ex1 (X : mX) (P : mP) (d : Nat) (fin : mSh) (k : Nat) (Q : mQ) (ins : Instr) (ls st : List mV) (sh : mSh) (f : mF) (K : mK) : Prop := match ins with
  | .bipush v => r32 v ∧ K ls ((0, v) :: st) sh f
  | .sipush v => r64 v ∧ K ls ((1, v) :: st) sh f
  | .aconst_null => K ls ((2, 0) :: st) sh f
  | .iload i => (mlg ls i).1 = 0 ∧ K ls (mlg ls i :: st) sh f
  | .lload i => (mlg ls i).1 = 1 ∧ K ls (mlg ls i :: st) sh f
  | .aload i => (mlg ls i).1 = 2 ∧ K ls (mlg ls i :: st) sh f
  | .istore i => popI st fun x st => nol ls i ∧ K (ls.set i (0, x)) st sh f
  | .astore i => popR st fun x st => nol ls i ∧ K (ls.set i (2, x)) st sh f
  | .lstore i => popL st fun x st => nol ls i ∧ i + 1 < ls.length ∧ K ((ls.set i (1, x)).set (i + 1) (3, 0)) st sh f
  | .iinc i n => (mlg ls i).1 = 0 ∧ nol ls i ∧ r32 ((mlg ls i).2 + n) ∧ K (ls.set i (0, (mlg ls i).2 + n)) st sh f
  | .iaload => popI st fun i st => popR st fun a st => mis sh a 10 ∧ 0 ≤ i ∧ i < mln sh a ∧ K ls ((0, f (mix a) i.toNat) :: st) sh f
  | .baload => popI st fun i st => popR st fun a st => mis sh a 11 ∧ 0 ≤ i ∧ i < mln sh a ∧ K ls ((0, f (mix a) i.toNat) :: st) sh f
  | .aaload => popI st fun i st => popR st fun a st => (mis sh a 12 ∨ mis sh a 13) ∧ 0 ≤ i ∧ i < mln sh a ∧ K ls ((2, f (mix a) i.toNat) :: st) sh f
  | .laload => popI st fun i st => popR st fun a st => a = -1 ∧ 0 ≤ i ∧ i < 5 ∧ K ls ((1, mwl i.toNat) :: st) sh f
  | .saload => popI st fun i st => popR st fun a st => a = -2 ∧ 0 ≤ i ∧ i < (X.1 : Int) ∧ K ls ((0, X.2 i.toNat) :: st) sh f
  | .i2s => popR st fun a st => a = -2 ∧ K ls ((0, (X.1 : Int)) :: st) sh f
  | .i2c => popR st fun a st => a = -1 ∧ K ls ((0, 5) :: st) sh f
  | .arraylength => popR st fun a st => mis sh a 10 ∧ r32 (mln sh a) ∧ K ls ((0, mln sh a) :: st) sh f
  | .iastore => popI st fun x st => popI st fun i st => popR st fun a st => mis sh a 10 ∧ 0 ≤ i ∧ i < mln sh a ∧ K ls st sh (mup f (mix a) i.toNat x)
  | .bastore => popI st fun x st => popI st fun i st => popR st fun a st => mis sh a 11 ∧ (x = 0 ∨ x = 1) ∧ 0 ≤ i ∧ i < mln sh a ∧ K ls st sh (mup f (mix a) i.toNat x)
  | .aastore => popR st fun x st => popI st fun i st => popR st fun a st => (mis sh a 12 ∧ mis sh x 5 ∨ mis sh a 13 ∧ mis sh x 2) ∧ 0 ≤ i ∧ i < mln sh a ∧ K ls st sh (mup f (mix a) i.toNat x)
  | .getfield n => popR st fun a st => mis sh a (n / 400) ∧ K ls ((mgt (n % 4), f (mix a) (n / 4 % 100)) :: st) sh f
  | .putfield n => popN (mgt (n % 4)) st fun x st => popR st fun a st => mis sh a (n / 400) ∧ (n % 4 = 3 → x = 0 ∨ x = 1) ∧ K ls st sh (mup f (mix a) (n / 4 % 100) x)
  | .getstatic _ => K ls ((2, -1) :: st) sh f
  | .iadd => popI st fun b st => popI st fun a st => r32 (a + b) ∧ K ls ((0, a + b) :: st) sh f
  | .isub => popI st fun b st => popI st fun a st => r32 (a - b) ∧ K ls ((0, a - b) :: st) sh f
  | .imul => popI st fun b st => popI st fun a st => r32 (a * b) ∧ K ls ((0, a * b) :: st) sh f
  | .idiv => popI st fun b st => popI st fun a st => b ≠ 0 ∧ r32 (a.tdiv b) ∧ K ls ((0, a.tdiv b) :: st) sh f
  | .irem => popI st fun b st => popI st fun a st => b ≠ 0 ∧ r32 (a.tdiv b) ∧ r32 (a.tmod b) ∧ K ls ((0, a.tmod b) :: st) sh f
  | .ineg => popI st fun a st => r32 (-a) ∧ K ls ((0, -a) :: st) sh f
  | .iand => popI st fun b st => popI st fun a st => K ls ((0, (Int32.ofInt a &&& Int32.ofInt b).toInt) :: st) sh f
  | .ior => popI st fun b st => popI st fun a st => K ls ((0, (Int32.ofInt a ||| Int32.ofInt b).toInt) :: st) sh f
  | .ishl => popI st fun b st => popI st fun a st => K ls ((0, (Int32.ofInt a <<< (Int32.ofInt b &&& 31)).toInt) :: st) sh f
  | .ishr => popI st fun b st => popI st fun a st => K ls ((0, (Int32.ofInt a >>> (Int32.ofInt b &&& 31)).toInt) :: st) sh f
  | .i2l => popI st fun a st => K ls ((1, a) :: st) sh f
  | .l2i => popL st fun a st => K ls ((0, (Int64.ofInt a).toInt32.toInt) :: st) sh f
  | .lcmp => popL st fun b st => popL st fun a st => K ls ((0, if b < a then 1 else if a = b then 0 else -1) :: st) sh f
  | .ladd => popL st fun b st => popL st fun a st => r64 (a + b) ∧ K ls ((1, a + b) :: st) sh f
  | .lsub => popL st fun b st => popL st fun a st => r64 (a - b) ∧ K ls ((1, a - b) :: st) sh f
  | .lmul => popL st fun b st => popL st fun a st => r64 (a * b) ∧ K ls ((1, a * b) :: st) sh f
  | .land => popL st fun b st => popL st fun a st => K ls ((1, (Int64.ofInt a &&& Int64.ofInt b).toInt) :: st) sh f
  | .lor => popL st fun b st => popL st fun a st => K ls ((1, (Int64.ofInt a ||| Int64.ofInt b).toInt) :: st) sh f
  | .lshl => popI st fun b st => popL st fun a st => K ls ((1, (Int64.ofInt a <<< ((Int32.ofInt b).toInt64 &&& 63)).toInt) :: st) sh f
  | .lshr => popI st fun b st => popL st fun a st => K ls ((1, (Int64.ofInt a >>> ((Int32.ofInt b).toInt64 &&& 63)).toInt) :: st) sh f
  | .lushr => popI st fun b st => popL st fun a st => K ls ((1, ((Int64.ofInt a).toUInt64 >>> ((Int32.ofInt b).toInt64.toUInt64 &&& Int64.toUInt64 63)).toInt64.toInt) :: st) sh f
  | .dup => popV st fun v st => K ls (v :: v :: st) sh f
  | .dup2 => popV st fun v st => popV st fun w st => K ls (v :: w :: v :: w :: st) sh f
  | .pop => popR st fun a st => 1 ≤ a ∧ 1 ≤ d ∧ mws st ≤ 8 ∧ K ls st sh f
  | .lneg => popI st fun a st => r32 (-a) ∧ 1 ≤ d ∧ mws st ≤ 8 ∧ K ls ((0, if 0 ≤ a then a else -a) :: st) sh f
  | .ixor => popI st fun b st => popI st fun a st => 1 ≤ d ∧ mws st ≤ 8 ∧ K ls ((0, max a b) :: st) sh f
  | .lxor => popI st fun b st => popI st fun a st => 1 ≤ d ∧ mws st ≤ 8 ∧ K ls ((0, min a b) :: st) sh f
  | .goto t => P d fin k t.toNat ls st sh f Q
  | .ifCond c t => popI st fun x st => (mcd c x 0 → P d fin k t.toNat ls st sh f Q) ∧ (¬ mcd c x 0 → K ls st sh f)
  | .if_icmp c t => popI st fun y st => popI st fun x st => (mcd c x y → P d fin k t.toNat ls st sh f Q) ∧ (¬ mcd c x y → K ls st sh f)
  | .ifnull t => popR st fun x st => (x = 0 → P d fin k t.toNat ls st sh f Q) ∧ (x ≠ 0 → K ls st sh f)
  | .ifnonnull t => popR st fun x st => (x ≠ 0 → P d fin k t.toNat ls st sh f Q) ∧ (x = 0 → K ls st sh f)
  | .tableswitch df lo hi os => popI st fun x st => (x < lo ∨ hi < x → P d fin k df.toNat ls st sh f Q) ∧ (lo ≤ x → x ≤ hi → ∃ o, os[(x - lo).toNat]? = some o ∧ P d fin k o.toNat ls st sh f Q)
  | .new c => c < 10 ∧ sh.length + 1 ≤ fin.length ∧ mtot sh + kF c ≤ mtot fin ∧ K ls ((2, (sh.length : Int) + 1) :: st) (sh ++ [(c, kF c)]) (mze f sh.length)
  | .newarray t => popI st fun n st => 0 ≤ n ∧ n ≤ 10000 ∧ sh.length + 1 ≤ fin.length ∧ mtot sh + n.toNat ≤ mtot fin ∧ K ls ((2, (sh.length : Int) + 1) :: st) (sh ++ [(if t = .int then 10 else 11, n.toNat)]) (mze f sh.length)
  | .anewarray c => popI st fun n st => 0 ≤ n ∧ n ≤ 10000 ∧ sh.length + 1 ≤ fin.length ∧ mtot sh + n.toNat ≤ mtot fin ∧ K ls ((2, (sh.length : Int) + 1) :: st) (sh ++ [(if c = 5 then 12 else 13, n.toNat)]) (mze f sh.length)
  | .invokevirtual y => mcl P d fin y (mrc sh (y / 10000 % 100)) ls st sh f K
  | .invokestatic y => mcl P d fin y (fun _ => True) ls st sh f K
  | .invokespecial y => mcl P d fin y mr1 ls st sh f K
  | .ireturn => popI st fun x st => st = [] ∧ sh = fin ∧ Q (some (0, x)) f
  | .dreturn => popI st fun x st => (x = 0 ∨ x = 1) ∧ st = [] ∧ sh = fin ∧ Q (some (0, x)) f
  | .lreturn => popL st fun x st => st = [] ∧ sh = fin ∧ Q (some (1, x)) f
  | .areturn => popR st fun x st => st = [] ∧ sh = fin ∧ Q (some (2, x)) f
  | .return_ => st = [] ∧ sh = fin ∧ Q none f
  | _ => False
noncomputable def mlk (k pc : Nat) : Option (Instr × Nat) := ((cds.getD k []).find? (fun e => e.1 == pc)).map (fun e => (e.2.2.1, e.2.2.2))
def stepP (X : mX) (P : mP) : mP := fun d fin k pc ls st sh f Q => ∃ ins nx, mlk k pc = some (ins, nx) ∧ ex1 X P d fin k Q ins ls st sh f (fun ls st sh f => P d fin k nx ls st sh f Q)
def mMono (P : mP) : Prop := ∀ d fin k pc ls st sh f (Q Q' : mQ), (∀ r g, Q r g → Q' r g) → P d fin k pc ls st sh f Q → P d fin k pc ls st sh f Q'
def mClos (X : mX) (P : mP) : Prop := ∀ d fin k pc ls st sh f Q, stepP X P d fin k pc ls st sh f Q → P d fin k pc ls st sh f Q
def Wp (X : mX) : mP := fun d fin k pc ls st sh f Q => ∃ _u : Unit, ∀ P, mMono P → mClos X P → P d fin k pc ls st sh f Q
theorem popI_sp {st : List mV} {k : Int → List mV → Prop} (h : popI st k) : ∃ x s, st = (0, x) :: s ∧ k x s := by
  unfold popI at h
  split at h
  · exact ⟨_, _, rfl, h⟩
  · exact h.elim
theorem popL_sp {st : List mV} {k : Int → List mV → Prop} (h : popL st k) : ∃ x s, st = (1, x) :: s ∧ k x s := by
  unfold popL at h
  split at h
  · exact ⟨_, _, rfl, h⟩
  · exact h.elim
theorem popR_sp {st : List mV} {k : Int → List mV → Prop} (h : popR st k) : ∃ x s, st = (2, x) :: s ∧ k x s := by
  unfold popR at h
  split at h
  · exact ⟨_, _, rfl, h⟩
  · exact h.elim
theorem popN_sp {t : Nat} {st : List mV} {k : Int → List mV → Prop} (h : popN t st k) : ∃ x s, st = (t, x) :: s ∧ k x s := by
  unfold popN at h
  split at h
  · obtain ⟨rfl, h⟩ := h
    exact ⟨_, _, rfl, h⟩
  · exact h.elim
theorem popV_sp {st : List mV} {k : mV → List mV → Prop} (h : popV st k) : ∃ x s, st = x :: s ∧ x.1 ≠ 1 ∧ k x s := by
  unfold popV at h
  split at h
  · exact ⟨_, _, rfl, h⟩
  · exact h.elim
theorem popI_mo {st : List mV} {k k' : Int → List mV → Prop} (h : popI st k) (hk : ∀ x s, k x s → k' x s) : popI st k' := by
  obtain ⟨x, s, rfl, h⟩ := popI_sp h
  exact hk _ _ h
theorem popL_mo {st : List mV} {k k' : Int → List mV → Prop} (h : popL st k) (hk : ∀ x s, k x s → k' x s) : popL st k' := by
  obtain ⟨x, s, rfl, h⟩ := popL_sp h
  exact hk _ _ h
theorem popR_mo {st : List mV} {k k' : Int → List mV → Prop} (h : popR st k) (hk : ∀ x s, k x s → k' x s) : popR st k' := by
  obtain ⟨x, s, rfl, h⟩ := popR_sp h
  exact hk _ _ h
theorem popN_mo {t : Nat} {st : List mV} {k k' : Int → List mV → Prop} (h : popN t st k) (hk : ∀ x s, k x s → k' x s) : popN t st k' := by
  obtain ⟨x, s, e, h1⟩ := popN_sp h
  subst e
  exact ⟨rfl, hk _ _ h1⟩
theorem popV_mo {st : List mV} {k k' : mV → List mV → Prop} (h : popV st k) (hk : ∀ x s, k x s → k' x s) : popV st k' := by
  obtain ⟨x, s, rfl, h1, h⟩ := popV_sp h
  exact ⟨h1, hk _ _ h⟩
theorem mcl_mo {P P' : mP} {d : Nat} {fin : mSh} {code : Nat} {ok : List mV → Prop} {ls st : List mV} {sh : mSh} {f : mF} {K K' : mK} (hP : ∀ d fin k pc ls st sh f (Q Q' : mQ), (∀ r g, Q r g → Q' r g) → P d fin k pc ls st sh f Q → P' d fin k pc ls st sh f Q') (hK : ∀ ls st sh f, K ls st sh f → K' ls st sh f) (h : mcl P d fin code ok ls st sh f K) : mcl P' d fin code ok ls st sh f K' := by
  obtain ⟨h1, h2, h3, h4, h4b, fin', h5, h6, h7, h8, h9⟩ := h
  exact ⟨h1, h2, h3, h4, h4b, fin', h5, h6, h7, h8, hP _ _ _ _ _ _ _ _ _ _ (fun r g h => hK _ _ _ _ h) h9⟩
theorem ex1_mo {X : mX} {P P' : mP} {d : Nat} {fin : mSh} {k : Nat} {Q Q' : mQ} {ins : Instr} {ls st : List mV} {sh : mSh} {f : mF} {K K' : mK} (hP : ∀ d fin k pc ls st sh f (Q Q' : mQ), (∀ r g, Q r g → Q' r g) → P d fin k pc ls st sh f Q → P' d fin k pc ls st sh f Q') (hQ : ∀ r g, Q r g → Q' r g) (hK : ∀ ls st sh f, K ls st sh f → K' ls st sh f) (h : ex1 X P d fin k Q ins ls st sh f K) : ex1 X P' d fin k Q' ins ls st sh f K' := by
  cases ins <;> first
    | exact h.elim
    | exact hK _ _ _ _ h
    | exact ⟨h.1, hK _ _ _ _ h.2⟩
    | exact ⟨h.1, h.2.1, h.2.2.1, hK _ _ _ _ h.2.2.2⟩
    | exact mcl_mo hP hK h
    | exact mcl_mo (ok := fun _ => True) hP hK h
    | exact hP _ _ _ _ _ _ _ _ _ _ hQ h
    | exact ⟨h.1, h.2.1, hQ _ _ h.2.2⟩
    | exact popI_mo h fun _ _ h => hK _ _ _ _ h
    | exact popI_mo h fun _ _ h => ⟨h.1, hK _ _ _ _ h.2⟩
    | exact popR_mo h fun _ _ h => ⟨h.1, hK _ _ _ _ h.2⟩
    | exact popR_mo h fun _ _ h => ⟨h.1, h.2.1, hK _ _ _ _ h.2.2⟩
    | exact popR_mo h fun _ _ h => ⟨h.1, h.2.1, h.2.2.1, hK _ _ _ _ h.2.2.2⟩
    | exact popL_mo h fun _ _ h => ⟨h.1, h.2.1, hK _ _ _ _ h.2.2⟩
    | exact popL_mo h fun _ _ h => hK _ _ _ _ h
    | exact popI_mo h fun _ _ h => popI_mo h fun _ _ h => hK _ _ _ _ h
    | exact popL_mo h fun _ _ h => popL_mo h fun _ _ h => hK _ _ _ _ h
    | exact popI_mo h fun _ _ h => popL_mo h fun _ _ h => hK _ _ _ _ h
    | exact popI_mo h fun _ _ h => popI_mo h fun _ _ h => ⟨h.1, hK _ _ _ _ h.2⟩
    | exact popL_mo h fun _ _ h => popL_mo h fun _ _ h => ⟨h.1, hK _ _ _ _ h.2⟩
    | exact popI_mo h fun _ _ h => popI_mo h fun _ _ h => ⟨h.1, h.2.1, hK _ _ _ _ h.2.2⟩
    | exact popI_mo h fun _ _ h => popI_mo h fun _ _ h => ⟨h.1, h.2.1, h.2.2.1, hK _ _ _ _ h.2.2.2⟩
    | exact popI_mo h fun _ _ h => popR_mo h fun _ _ h => ⟨h.1, h.2.1, h.2.2.1, hK _ _ _ _ h.2.2.2⟩
    | exact popI_mo h fun _ _ h => popI_mo h fun _ _ h => popR_mo h fun _ _ h => ⟨h.1, h.2.1, h.2.2.1, hK _ _ _ _ h.2.2.2⟩
    | exact popI_mo h fun _ _ h => popI_mo h fun _ _ h => popR_mo h fun _ _ h => ⟨h.1, h.2.1, h.2.2.1, h.2.2.2.1, hK _ _ _ _ h.2.2.2.2⟩
    | exact popR_mo h fun _ _ h => popI_mo h fun _ _ h => popR_mo h fun _ _ h => ⟨h.1, h.2.1, h.2.2.1, hK _ _ _ _ h.2.2.2⟩
    | exact popN_mo h fun _ _ h => popR_mo h fun _ _ h => ⟨h.1, h.2.1, hK _ _ _ _ h.2.2⟩
    | exact popV_mo h fun _ _ h => hK _ _ _ _ h
    | exact popV_mo h fun _ _ h => popV_mo h fun _ _ h => hK _ _ _ _ h
    | exact popI_mo h fun _ _ h => ⟨fun c => hP _ _ _ _ _ _ _ _ _ _ hQ (h.1 c), fun c => hK _ _ _ _ (h.2 c)⟩
    | exact popR_mo h fun _ _ h => ⟨fun c => hP _ _ _ _ _ _ _ _ _ _ hQ (h.1 c), fun c => hK _ _ _ _ (h.2 c)⟩
    | exact popI_mo h fun _ _ h => popI_mo h fun _ _ h => ⟨fun c => hP _ _ _ _ _ _ _ _ _ _ hQ (h.1 c), fun c => hK _ _ _ _ (h.2 c)⟩
    | exact popI_mo h fun _ _ h => ⟨fun c => hP _ _ _ _ _ _ _ _ _ _ hQ (h.1 c), fun c1 c2 => (h.2 c1 c2).imp fun _ z => ⟨z.1, hP _ _ _ _ _ _ _ _ _ _ hQ z.2⟩⟩
    | exact popI_mo h fun _ _ h => ⟨h.1, h.2.1, h.2.2.1, hK _ _ _ _ h.2.2.2⟩
    | exact popI_mo h fun _ _ h => ⟨h.1, h.2.1, h.2.2.1, h.2.2.2.1, hK _ _ _ _ h.2.2.2.2⟩
    | exact popI_mo h fun _ _ h => ⟨h.1, h.2.1, hQ _ _ h.2.2⟩
    | exact popL_mo h fun _ _ h => ⟨h.1, h.2.1, hQ _ _ h.2.2⟩
    | exact popR_mo h fun _ _ h => ⟨h.1, h.2.1, hQ _ _ h.2.2⟩
    | exact popI_mo h fun _ _ h => ⟨h.1, h.2.1, h.2.2.1, hQ _ _ h.2.2.2⟩
theorem Wp_mono (X : mX) : mMono (Wp X) := fun _ _ _ _ _ _ _ _ _ _ hQ h => h.elim fun u h => ⟨u, fun P hM hC => hM _ _ _ _ _ _ _ _ _ _ hQ (h P hM hC)⟩
theorem Wp_clos (X : mX) : mClos X (Wp X) := by
  intro d fin k pc ls st sh f Q h
  refine ⟨(), fun P hM hC => ?_⟩
  obtain ⟨ins, nx, h1, h2⟩ := h
  exact hC _ _ _ _ _ _ _ _ _ ⟨ins, nx, h1, ex1_mo (fun _ _ _ _ _ _ _ _ _ _ hQ z => z.elim fun _ z => hM _ _ _ _ _ _ _ _ _ _ hQ (z P hM hC)) (fun _ _ z => z) (fun _ _ _ _ z => z.elim fun _ z => z P hM hC) h2⟩
/-- a straight stretch of instructions -/
def exs (X : mX) (d : Nat) (fin : mSh) (k : Nat) (Q : mQ) : List Instr → List mV → List mV → mSh → mF → mK → Prop
  | [], ls, st, sh, f, K => K ls st sh f
  | i :: is, ls, st, sh, f, K => ex1 X (Wp X) d fin k Q i ls st sh f (fun ls st sh f => exs X d fin k Q is ls st sh f K)
noncomputable def sgo (k pc : Nat) (is : List Instr) (to : Nat) : Bool := match is with
  | [] => pc == to
  | i :: is => match mlk k pc with
    | some (j, nx) => decide (j = i) && sgo k nx is to
    | none => false
theorem Wp_seg {X : mX} {d : Nat} {fin : mSh} {k pc : Nat} {is : List Instr} {to : Nat} {Q : mQ} {ls st : List mV} {sh : mSh} {f : mF} (hs : sgo k pc is to = true) (h : exs X d fin k Q is ls st sh f (fun ls st sh f => Wp X d fin k to ls st sh f Q)) : Wp X d fin k pc ls st sh f Q := by
  induction is generalizing pc ls st sh f with
  | nil =>
    have e : pc = to := by simpa [sgo] using hs
    subst e
    exact h
  | cons i is ih =>
    unfold sgo at hs
    split at hs
    · rename_i j nx hl
      simp only [Bool.and_eq_true, decide_eq_true_eq] at hs
      obtain ⟨rfl, hs⟩ := hs
      exact Wp_clos X _ _ _ _ _ _ _ _ _ ⟨j, nx, hl, ex1_mo (fun _ _ _ _ _ _ _ _ _ _ hQ z => Wp_mono X _ _ _ _ _ _ _ _ _ _ hQ z) (fun _ _ z => z) (fun _ _ _ _ z => ih hs z) h⟩
    · cases hs
