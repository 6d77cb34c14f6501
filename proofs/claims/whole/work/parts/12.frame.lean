/-! what the machine says, said of the JVM -/
def mtys (cA : Nat → ClassId) : List (ClassId × FieldType) := [(cA 10, .int), (cA 11, .boolean), (cA 12, .object RX5), (cA 13, .object RX2)]
def mRT (k bs wt bb : Nat) (r : Option mV) (pc' : Nat) (st' : List Value) : Prop :=
  (∃ x, r = some (0, x) ∧ r32 x ∧ st' = [.int (Int32.ofInt x)] ∧ decode (mt k).2.2.1 pc' = .ok (.ireturn, 1) ∧ ((mt k).2.2.2.2.1 = some .int ∨ ((mt k).2.2.2.2.1 = some .boolean ∧ (x = 0 ∨ x = 1)))) ∨
  (∃ x, r = some (1, x) ∧ r64 x ∧ st' = [.long (Int64.ofInt x)] ∧ decode (mt k).2.2.1 pc' = .ok (.lreturn, 1) ∧ (mt k).2.2.2.2.1 = some .long) ∨
  (∃ x, r = some (2, x) ∧ st' = [mrv bs wt bb (2, x)] ∧ decode (mt k).2.2.1 pc' = .ok (.areturn, 1) ∧ rtr (mt k).2.2.2.2.1 = true) ∨
  (r = none ∧ st' = [] ∧ decode (mt k).2.2.1 pc' = .ok (.return_, 1) ∧ (mt k).2.2.2.2.1 = none)
/-- what holds of the state at a method's start, wherever it is called -/
def mST (X : mX) (bs wt bb : Nat) (cA : Nat → ClassId) (D : va_G) (s : State) : Prop :=
  (∀ (a : String) (i : Nat) (y : MethodName) (h : String), Cond.methodLinkNest a i y h ∈ lw_tbl → va_Nw (.methodLinkNest a i y h) s) ∧ va_AO RX5 s ∧ va_AO RX2 s ∧ va_K D vwCl (mtys cA) s ∧ va_Z RX4 "WORDS" "[J" (.ref wt) (fun q => bs ≤ q) s s.heap ∧ va_T .long wt 5 (fun j => .long (Int64.ofInt (mwl j))) (fun q => bs ≤ q) s s.heap ∧ va_X bb X.1 (fun j => Int32.ofInt (X.2 j)) s s.heap ∧ bb < s.heap.size ∧ bb < bs ∧ (∀ j, r32 (X.2 j)) ∧ X.1 ≤ 4096
def mFR (X : mX) (d : Nat) (fin : mSh) (k : Nat) (Q : mQ) (p : Program) (l : Launch) (e : Env) (R : Room) (s : State) (m : MethodId) (args : Array Value) (below : List Frame) (meth : Method) (c : Code) (bs wt bb : Nat) (cA : Nat → ClassId) (D : va_G) (c0 s0 : Nat) (Z : State → Prop) : Prop :=
  k < 234 ∧ p.tables.exec = Jvm.exec ∧ c.code = (mt k).2.2.1 ∧ c.maxLocals = (mt k).2.2.2.1 ∧ s.vm.findClass (kN (mt k).1) = some m.cls ∧ (∀ w ∈ lw_tbl.filter goodWord, w.before args s = true) ∧ ((mt k).2.2.2.2.2.2 = 2 → meth.name = "<init>") ∧ mST X bs wt bb cA D s ∧ s.heap.size = bs + c0 ∧
  d ≤ R.frames ∧ 100 * d ≤ R.locals ∧ fin.length - c0 ≤ R.cells ∧ mtot fin - s0 ≤ R.slots ∧
  ∀ (r : Option mV) (f' : mF) (H' : Heap) (locs' : List Loc) (lz : Array Slot) (pc' : Nat) (st' : List Value), Q r f' → va_P D vwCl (mwo cA bs wt bb fin f') H' → va_S (fun q => bs ≤ q) s.heap H' locs' → okF fin f' → okSh fin → mRT k bs wt bb r pc' st' →
    W p l e R s m args below meth c H' locs' (fin.length - c0) (mtot fin - s0) Z (F0 m pc' lz st')
def mMS (k bs wt bb : Nat) (cA : Nat → ClassId) (D : va_G) (c0 s0 : Nat) (fin : mSh) (s : State) (ls st : List mV) (sh : mSh) (f : mF) (H : Heap) (locs : List Loc) (lz : Array Slot) : Prop :=
  va_P D vwCl (mwo cA bs wt bb sh f) H ∧ va_S (fun q => bs ≤ q) s.heap H locs ∧ okSh sh ∧ okF sh f ∧ (∀ v ∈ ls, v.1 = 3 ∨ okv v) ∧ (∀ v ∈ st, okv v) ∧ lv_has lz (mt k).2.2.2.1 (mlv bs wt bb ls) ∧ ls.length = (mt k).2.2.2.1 ∧ c0 ≤ sh.length ∧ s0 ≤ mtot sh ∧ sh.length ≤ fin.length ∧ mtot sh ≤ mtot fin
def PW (X : mX) : mP := fun d fin k pc ls st sh f Q => ∀ (p : Program) (l : Launch) (e : Env) (R : Room) (s : State) (m : MethodId) (args : Array Value) (below : List Frame) (meth : Method) (c : Code) (bs wt bb : Nat) (cA : Nat → ClassId) (D : va_G) (c0 s0 : Nat) (Z : State → Prop),
  mFR X d fin k Q p l e R s m args below meth c bs wt bb cA D c0 s0 Z → ∀ (H : Heap) (locs : List Loc) (lz : Array Slot), mMS k bs wt bb cA D c0 s0 fin s ls st sh f H locs lz →
  W p l e R s m args below meth c H locs (sh.length - c0) (mtot sh - s0) Z (F0 m pc lz (st.map (mrv bs wt bb)))
theorem PW_mono (X : mX) : mMono (PW X) := by
  intro d fin k pc ls st sh f Q Q' hQ h p l e R s m args below meth c bs wt bb cA D c0 s0 Z fr H locs lz ms
  obtain ⟨a1, a2, a3, a4, a5, a6, a7, a8, a9, a10, a11, a12, a13, hret⟩ := fr
  exact h p l e R s m args below meth c bs wt bb cA D c0 s0 Z ⟨a1, a2, a3, a4, a5, a6, a7, a8, a9, a10, a11, a12, a13, fun r f' H' locs' lz pc' st' q => hret r f' H' locs' lz pc' st' (hQ _ _ q)⟩ H locs lz ms
theorem mlk_sp {k pc : Nat} {ins : Instr} {nx : Nat} (h : mlk k pc = some (ins, nx)) : k < 234 ∧ ∃ raw, decode (mt k).2.2.1 pc = .ok (raw, iln (nx - pc) raw) ∧ nx = pc + iln (nx - pc) raw ∧ rsv (mt k).1 (mt k).2.2.2.2.1 (decide ((mt k).2.2.2.2.2.2 = 2)) pc raw = some ins := by
  unfold mlk at h
  cases hf : (cds.getD k []).find? (fun e => e.1 == pc) with
  | none => rw [hf] at h; cases h
  | some e =>
    rw [hf] at h
    cases h
    have hm := List.mem_of_find?_eq_some hf
    have hp : e.1 = pc := by simpa using List.find?_some hf
    have hk : k < 234 := by
      rcases Nat.lt_or_ge k 234 with z | z
      · exact z
      · rw [List.getD_eq_getElem?_getD, List.getElem?_eq_none (by rw [tb_len]; exact z)] at hm
        simp at hm
    obtain ⟨h1, h2, h3⟩ := tb_ok k hk e hm
    subst hp
    refine ⟨hk, e.2.1, ?_, h2, h3⟩
    have e1 : e.2.2.2 - e.1 = iln (e.2.2.2 - e.1) e.2.1 := by omega
    rw [h1]
    congr 2
theorem okv_i {x : Int} (h : okv (0, x)) : r32 x := by
  rcases h with ⟨-, h⟩ | ⟨h, -⟩ | h
  · exact h
  · cases h
  · cases h
theorem okv_l {x : Int} (h : okv (1, x)) : r64 x := by
  rcases h with ⟨h, -⟩ | ⟨-, h⟩ | h
  · cases h
  · exact h
  · cases h
theorem vi {x : Int} (h : r32 x) : okv (0, x) := Or.inl ⟨rfl, h⟩
theorem vl {x : Int} (h : r64 x) : okv (1, x) := Or.inr (Or.inl ⟨rfl, h⟩)
theorem vr (x : Int) : okv (2, x) := Or.inr (Or.inr rfl)
theorem gt_in {p : Nat} {w : Cond} (h : wk p w) : w ∈ lw_tbl.filter goodWord := List.mem_filter.mpr ⟨List.mem_of_getElem? h.1, h.2⟩
theorem gw_ws {c : Nat} (hc : c < 10) : ∀ w ∈ u_ws (kN c) (kT c) (kF c), w ∈ lw_tbl.filter goodWord := fun w h => List.mem_filter.mpr (kT_ws c hc w h)
theorem fnd {α : Type} {l : List (Nat × α)} {i : Nat} {e : Nat × α} (h : l.find? (fun e => e.1 == i) = some e) : e ∈ l ∧ e.1 = i := ⟨List.mem_of_find?_eq_some h, by simpa using List.find?_some h⟩
theorem okst_get {sh : mSh} {f : mF} (hF : okF sh f) {o : Nat} {c n : Nat} (hq : sh[o]? = some (c, n)) {j : Nat} (hj : j < n) : okv (mtg c j, f o j) := hF o (c, n) hq j hj
theorem mws_cat {bs wt bb : Nat} (st : List mV) : ((st.map (mrv bs wt bb)).map fun v => v.category).sum = mws st := by
  unfold mws
  rw [List.map_map]
  congr 1
  apply List.map_congr_left
  intro v _
  exact mrv_cat v
theorem mtg_eq {c k : Nat} (hc : c < 10) : mtg c k = mgt (rtg (kY c k)) := by unfold mtg; rw [if_pos hc]
section MCG
variable {p : Program} {l : Launch} {e : Env} {R : Room} {s : State} {m : MethodId} {args : Array Value} {below : List Frame} {meth : Method} {c : Code} {H : Heap} {locs : List Loc} {cells slots : Nat} {Q : State → Prop}
theorem mcallG {A0 free : Nat → Prop} {mc ms pc : Nat} {ls : Array Slot} {rest st0 : List Value} {Qa : State → Outcome → State → Prop} (hr : va_Run p l e R s m args below meth c H locs cells slots mc ms (F0 m pc ls st0) rest Qa free) (hS : va_S A0 s.heap H locs) (hf : ∀ q, free q → A0 q) (hQ : ∀ st oc t, Qa st oc t → va_F A0 st t)
    (kk : ∀ (v : Option Value) (st₀ t : State) (H1 : Heap) (locs1 : List Loc), st₀.heap = H → t.heap = H1 → Qa st₀ (.returned v) t → va_S A0 s.heap H1 locs1 → W p l e R s m args below meth c H1 locs1 (cells + mc) (slots + ms) Q (F0 m (pc + 3) ls (v.toList ++ rest))) : W p l e R s m args below meth c H locs cells slots Q (F0 m pc ls st0) := by
  intro T hT X
  obtain ⟨v, st₀, t, T', L, h0, X', hL, e1, e2, hqa, st⟩ := hr T hT X
  obtain ⟨hz, hk⟩ := hQ _ _ _ hqa
  rw [h0] at hz hk
  obtain ⟨t2, a1, b1⟩ := kk v st₀ t T'.heap (locs ++ L) h0 e1.symm hqa
    ⟨Nat.le_trans hS.1 (by rw [e1]; exact hz), fun q h1 h2 => by rw [e1, hk q (Nat.lt_of_lt_of_le h1 hS.1) h2]; exact hS.2.1 q h1 h2, fun q hq => by
      rcases List.mem_append.mp hq with h | h
      · exact hS.2.2 q h
      · exact hf _ (hL q h)⟩ T' rfl X'
  exact ⟨t2, st t2 a1, b1⟩
end MCG
section MSZ
variable {p : Program} {l : Launch} {e : Env} {R : Room} {s : State} {m : MethodId} {args : Array Value} {below : List Frame} {meth : Method} {c : Code} {H : Heap} {locs : List Loc} {cells slots : Nat} {Q : State → Prop} {g : JFrame}
/-- no more cells than are counted -/
theorem W_size (k : H.size ≤ s.heap.size + cells → W p l e R s m args below meth c H locs cells slots Q g) : W p l e R s m args below meth c H locs cells slots Q g := fun T hT X => k (by have h := X.same.2.2.1; rw [← hT]; exact h) T hT X
theorem H_size {bs wt bb c0 s0 k : Nat} {cA : Nat → ClassId} {D : va_G} {fin : mSh} {ls st : List mV} {sh : mSh} {f : mF} {lz : Array Slot} (ms : mMS k bs wt bb cA D c0 s0 fin s ls st sh f H locs lz) (hsz : s.heap.size = bs + c0) (h : H.size ≤ s.heap.size + (sh.length - c0)) : H.size = bs + sh.length := by
  obtain ⟨hP, hS, -, -, -, -, -, -, hc0, -⟩ := ms
  have h1 := hS.1
  by_cases hz : sh.length = c0
  · omega
  · have hq : ∃ q, sh[sh.length - 1]? = some q := ⟨sh[sh.length - 1]'(by omega), List.getElem?_eq_getElem (by omega)⟩
    obtain ⟨q, hq⟩ := hq
    have h2 := (hP _ _ (mwo_at (cA := cA) (bs := bs) (wt := wt) (bb := bb) (f := f) hq)).lt
    simp only at h2
    omega
end MSZ
