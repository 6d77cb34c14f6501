/-! each instruction, against the JVM -/
def PC (X : mX) (raw : Instr) : Prop := ∀ (d : Nat) (fin : mSh) (k pc nx : Nat) (ins : Instr) (ls st : List mV) (sh : mSh) (f : mF) (Q : mQ), k < 234 → decode (mt k).2.2.1 pc = .ok (raw, iln (nx - pc) raw) → nx = pc + iln (nx - pc) raw →
  rsv (mt k).1 (mt k).2.2.2.2.1 (decide ((mt k).2.2.2.2.2.2 = 2)) pc raw = some ins → ex1 X (PW X) d fin k Q ins ls st sh f (fun ls st sh f => PW X d fin k nx ls st sh f Q) → PW X d fin k pc ls st sh f Q
theorem mtc {k : Nat} (hk : k < 234) : (mt k).1 < 13 := by
  rcases Nat.lt_or_ge k 233 with h | h
  · have := (mt_a k h).2.1
    omega
  · obtain rfl : k = 233 := by omega
    decide +kernel
theorem r0 : r32 0 := by unfold r32; omega
theorem mad_ne {bs wt bb : Nat} {x : Int} (h : x ≠ 0) : ∃ a, mad bs wt bb x = some a := by
  unfold mad
  rw [if_neg h]
  split
  · exact ⟨_, rfl⟩
  · split <;> exact ⟨_, rfl⟩
theorem div_t {a b : Int} (ha : r32 a) (hb : r32 b) (h : r32 (a.tdiv b)) : Int32.ofInt a / Int32.ofInt b = Int32.ofInt (a.tdiv b) := by
  apply Int32.toInt_inj.mp
  rw [Int32.toInt_div, ofi_t ha, ofi_t hb, ofi_t h]
  unfold r32 at h
  rw [Int.bmod_def]
  split <;> omega
section GO
variable {X : mX} {d : Nat} {fin : mSh} {k nx : Nat} {ls st st' : List mV} {sh : mSh} {f : mF} {Qm : mQ} {p : Program} {l : Launch} {e : Env} {R : Room} {s : State} {m : MethodId} {args : Array Value} {below : List Frame} {meth : Method} {c : Code} {bs wt bb : Nat} {cA : Nat → ClassId} {D : va_G} {c0 s0 : Nat} {Z : State → Prop} {H : Heap} {locs : List Loc} {lz : Array Slot}
theorem PW_go (h : PW X d fin k nx ls st' sh f Qm) (fr : mFR X d fin k Qm p l e R s m args below meth c bs wt bb cA D c0 s0 Z) (ms : mMS k bs wt bb cA D c0 s0 fin s ls st sh f H locs lz) (h1 : ∀ v ∈ st', okv v) : W p l e R s m args below meth c H locs (sh.length - c0) (mtot sh - s0) Z (F0 m nx lz (st'.map (mrv bs wt bb))) := by
  obtain ⟨a2, a3, a4, a5, a6, a7, a8⟩ := ms
  exact h p l e R s m args below meth c bs wt bb cA D c0 s0 Z fr H locs lz ⟨a2, a3, a4, a5, a6, h1, a8⟩
theorem PW_gl {ls' : List mV} {lz' : Array Slot} (h : PW X d fin k nx ls' st' sh f Qm) (fr : mFR X d fin k Qm p l e R s m args below meth c bs wt bb cA D c0 s0 Z) (ms : mMS k bs wt bb cA D c0 s0 fin s ls st sh f H locs lz) (h1 : ∀ v ∈ st', okv v) (h2 : ∀ v ∈ ls', v.1 = 3 ∨ okv v) (h3 : ls'.length = ls.length) (h4 : lv_has lz' (mt k).2.2.2.1 (mlv bs wt bb ls')) : W p l e R s m args below meth c H locs (sh.length - c0) (mtot sh - s0) Z (F0 m nx lz' (st'.map (mrv bs wt bb))) := by
  obtain ⟨a2, a3, a4, a5, a6, a7, a8, a9, a10⟩ := ms
  exact h p l e R s m args below meth c bs wt bb cA D c0 s0 Z fr H locs lz' ⟨a2, a3, a4, a5, h2, h1, h4, h3.trans a9, a10⟩
theorem PW_gm {f' : mF} {H' : Heap} {locs' : List Loc} (h : PW X d fin k nx ls st' sh f' Qm) (fr : mFR X d fin k Qm p l e R s m args below meth c bs wt bb cA D c0 s0 Z) (ms : mMS k bs wt bb cA D c0 s0 fin s ls st sh f H locs lz) (h1 : ∀ v ∈ st', okv v) (h3 : va_P D vwCl (mwo cA bs wt bb sh f') H') (h4 : va_S (fun q => bs ≤ q) s.heap H' locs') (h5 : okF sh f') : W p l e R s m args below meth c H' locs' (sh.length - c0) (mtot sh - s0) Z (F0 m nx lz (st'.map (mrv bs wt bb))) := by
  obtain ⟨a2, a3, a4, a5, a6, a7, a8, a9, a10⟩ := ms
  exact h p l e R s m args below meth c bs wt bb cA D c0 s0 Z fr H' locs' lz ⟨h3, h4, a4, h5, a6, h1, a8, a9, a10⟩
end GO
theorem fc1 {v : mV} {s : List mV} (h : ∀ w ∈ v :: s, okv w) : okv v ∧ ∀ w ∈ s, okv w := List.forall_mem_cons.mp h
theorem fc2 {v : mV} {s : List mV} (h1 : okv v) (h : ∀ w ∈ s, okv w) : ∀ w ∈ v :: s, okv w := List.forall_mem_cons.mpr ⟨h1, h⟩
theorem hset {ls : List mV} {i : Nat} {v : mV} (h : ∀ w ∈ ls, w.1 = 3 ∨ okv w) (hv : v.1 = 3 ∨ okv v) : ∀ w ∈ ls.set i v, w.1 = 3 ∨ okv w := by
  intro w hw
  rcases List.mem_or_eq_of_mem_set hw with z | rfl
  · exact h w z
  · exact hv
theorem hgt {bs wt bb : Nat} {lz : Array Slot} {nL : Nat} {ls : List mV} (hl : lv_has lz nL (mlv bs wt bb ls)) (hls : ∀ w ∈ ls, w.1 = 3 ∨ okv w) {i t : Nat} (ht : t < 3) (h : (mlg ls i).1 = t) : ∃ x, mlg ls i = (t, x) ∧ lz[i]? = some (.val (mrv bs wt bb (t, x))) ∧ okv (t, x) := by
  have h3 : (mlg ls i).1 ≠ 3 := by omega
  have hi := mlg_lt h3
  refine ⟨(mlg ls i).2, by rw [← h], ?_, ?_⟩
  · have := hl.2.2 _ (mlv_in (bs := bs) (wt := wt) (bb := bb) hi h3)
    rw [← h]
    exact this
  · rcases hls _ (mlg_mem hi) with z | z
    · exact absurd z h3
    · rw [← h]; exact z
theorem nar_i (x : Int32) : narrow .int (.int x) = .int x := rfl
theorem mtot_mono {q : Nat × Nat} {sh : mSh} : mtot sh ≤ mtot (sh ++ [q]) := by rw [mtot_push]; omega
set_option maxHeartbeats 4000000 in
theorem pc_iconst (X : mX) (n : Int) : PC X (.iconst n) := by
  intro d fin k pc nx ins ls st sh f Q hk hdg hnx hrs h p l e R s m args below meth c bs wt bb cA D c0 s0 Z fr H locs lz ms
  obtain ⟨-, hx, hb, hml, hown, hts, hini, hST, hsz, hd, hlo, hfc, hfs, hret⟩ := id fr
  obtain ⟨hP, hS, hSh, hF, hls, hst, hl, hln, hc0, hs0, hlf, hsf⟩ := id ms
  obtain ⟨hnw, ha5, ha2, hK, hZ, hT, hX, hbl, hbb, hx32, hxl⟩ := id hST
  have hD : va_D (fun q => bs ≤ q) (mwo cA bs wt bb sh f) := mwo_D
  obtain rfl : Instr.bipush n = ins := by simpa [rsv] using hrs
  obtain rfl : nx = pc + 1 := hnx
  change decode _ _ = .ok ((.iconst n), 1) at hdg
  obtain ⟨hr, h⟩ := h
  refine lv_iconst (v := Int32.ofInt n) hx hb hdg rfl ?_
  exact PW_go (st' := (0, n) :: st) h fr ms (fc2 (vi hr) hst)
set_option maxHeartbeats 4000000 in
theorem pc_bipush (X : mX) (n : Int) : PC X (.bipush n) := by
  intro d fin k pc nx ins ls st sh f Q hk hdg hnx hrs h p l e R s m args below meth c bs wt bb cA D c0 s0 Z fr H locs lz ms
  obtain ⟨-, hx, hb, hml, hown, hts, hini, hST, hsz, hd, hlo, hfc, hfs, hret⟩ := id fr
  obtain ⟨hP, hS, hSh, hF, hls, hst, hl, hln, hc0, hs0, hlf, hsf⟩ := id ms
  obtain ⟨hnw, ha5, ha2, hK, hZ, hT, hX, hbl, hbb, hx32, hxl⟩ := id hST
  have hD : va_D (fun q => bs ≤ q) (mwo cA bs wt bb sh f) := mwo_D
  obtain rfl : nx = pc + 2 := hnx
  change decode _ _ = .ok ((.bipush n), 2) at hdg
  have hr : -128 ≤ n ∧ n ≤ 127 := by
    by_cases hc : -128 ≤ n ∧ n ≤ 127
    · exact hc
    · simp [rsv, hc] at hrs
  obtain rfl : Instr.bipush n = ins := by simpa [rsv, hr] using hrs
  obtain ⟨hr2, h⟩ := h
  refine lv_bipush (v := Int32.ofInt n) hx hb hdg ?_ ?_
  · apply Int32.toInt_inj.mp
    rw [Int8.toInt_toInt32, ofi_t hr2, Int8.toInt_ofInt_of_le (by omega) (by omega)]
  exact PW_go (st' := (0, n) :: st) h fr ms (fc2 (vi hr2) hst)
set_option maxHeartbeats 4000000 in
theorem pc_sipush (X : mX) (n : Int) : PC X (.sipush n) := by
  intro d fin k pc nx ins ls st sh f Q hk hdg hnx hrs h p l e R s m args below meth c bs wt bb cA D c0 s0 Z fr H locs lz ms
  obtain ⟨-, hx, hb, hml, hown, hts, hini, hST, hsz, hd, hlo, hfc, hfs, hret⟩ := id fr
  obtain ⟨hP, hS, hSh, hF, hls, hst, hl, hln, hc0, hs0, hlf, hsf⟩ := id ms
  obtain ⟨hnw, ha5, ha2, hK, hZ, hT, hX, hbl, hbb, hx32, hxl⟩ := id hST
  have hD : va_D (fun q => bs ≤ q) (mwo cA bs wt bb sh f) := mwo_D
  obtain rfl : nx = pc + 3 := hnx
  change decode _ _ = .ok ((.sipush n), 3) at hdg
  have hr : -32768 ≤ n ∧ n ≤ 32767 := by
    by_cases hc : -32768 ≤ n ∧ n ≤ 32767
    · exact hc
    · simp [rsv, hc] at hrs
  obtain rfl : Instr.bipush n = ins := by simpa [rsv, hr] using hrs
  obtain ⟨hr2, h⟩ := h
  refine lv_sipush (v := Int32.ofInt n) hx hb hdg ?_ ?_
  · apply Int32.toInt_inj.mp
    rw [Int16.toInt_toInt32, ofi_t hr2, Int16.toInt_ofInt_of_le (by omega) (by omega)]
  exact PW_go (st' := (0, n) :: st) h fr ms (fc2 (vi hr2) hst)
set_option maxHeartbeats 4000000 in
theorem pc_ldc (X : mX) (i : Nat) : PC X (.ldc i) := by
  intro d fin k pc nx ins ls st sh f Q hk hdg hnx hrs h p l e R s m args below meth c bs wt bb cA D c0 s0 Z fr H locs lz ms
  obtain ⟨-, hx, hb, hml, hown, hts, hini, hST, hsz, hd, hlo, hfc, hfs, hret⟩ := id fr
  obtain ⟨hP, hS, hSh, hF, hls, hst, hl, hln, hc0, hs0, hlf, hsf⟩ := id ms
  obtain ⟨hnw, ha5, ha2, hK, hZ, hT, hX, hbl, hbb, hx32, hxl⟩ := id hST
  have hD : va_D (fun q => bs ≤ q) (mwo cA bs wt bb sh f) := mwo_D
  obtain rfl : nx = pc + 2 := hnx
  change decode _ _ = .ok ((.ldc i), 2) at hdg
  cases hfd : (CIs.getD (mt k).1 []).find? (fun e => e.1 == i) with
  | none => simp only [rsv, hfd, Option.map_none, Option.bind_none] at hrs; cases hrs
  | some en =>
  obtain ⟨hme, he1⟩ := fnd hfd
  subst he1
  have hok := CI_ok (mt k).1 (mtc hk) en hme
  obtain rfl : Instr.bipush en.2.1 = ins := by
    simp only [rsv, hfd, Option.map_some] at hrs
    exact Option.some.inj hrs
  obtain ⟨hr2, h⟩ := h
  refine lv_ldc hx hb hown (hts _ (gt_in hok.1)) hdg ?_
  exact PW_go (st' := (0, en.2.1) :: st) h fr ms (fc2 (vi hr2) hst)
set_option maxHeartbeats 4000000 in
theorem pc_ldc2 (X : mX) (i : Nat) : PC X (.ldc2_w i) := by
  intro d fin k pc nx ins ls st sh f Q hk hdg hnx hrs h p l e R s m args below meth c bs wt bb cA D c0 s0 Z fr H locs lz ms
  obtain ⟨-, hx, hb, hml, hown, hts, hini, hST, hsz, hd, hlo, hfc, hfs, hret⟩ := id fr
  obtain ⟨hP, hS, hSh, hF, hls, hst, hl, hln, hc0, hs0, hlf, hsf⟩ := id ms
  obtain ⟨hnw, ha5, ha2, hK, hZ, hT, hX, hbl, hbb, hx32, hxl⟩ := id hST
  have hD : va_D (fun q => bs ≤ q) (mwo cA bs wt bb sh f) := mwo_D
  obtain rfl : nx = pc + 3 := hnx
  change decode _ _ = .ok ((.ldc2_w i), 3) at hdg
  cases hfd : (CLs.getD (mt k).1 []).find? (fun e => e.1 == i) with
  | none => simp only [rsv, hfd, Option.map_none, Option.bind_none] at hrs; cases hrs
  | some en =>
  obtain ⟨hme, he1⟩ := fnd hfd
  subst he1
  have hok := CL_ok (mt k).1 (mtc hk) en hme
  obtain rfl : Instr.sipush en.2.1 = ins := by
    simp only [rsv, hfd, Option.map_some] at hrs
    exact Option.some.inj hrs
  obtain ⟨hr2, h⟩ := h
  refine lv_ldc2 hx hb hown (hts _ (gt_in hok.1)) hdg ?_
  exact PW_go (st' := (1, en.2.1) :: st) h fr ms (fc2 (vl hr2) hst)
set_option maxHeartbeats 4000000 in
theorem pc_lconst (X : mX) (n : Fin 2) : PC X (.lconst n) := by
  intro d fin k pc nx ins ls st sh f Q hk hdg hnx hrs h p l e R s m args below meth c bs wt bb cA D c0 s0 Z fr H locs lz ms
  obtain ⟨-, hx, hb, hml, hown, hts, hini, hST, hsz, hd, hlo, hfc, hfs, hret⟩ := id fr
  obtain ⟨hP, hS, hSh, hF, hls, hst, hl, hln, hc0, hs0, hlf, hsf⟩ := id ms
  obtain ⟨hnw, ha5, ha2, hK, hZ, hT, hX, hbl, hbb, hx32, hxl⟩ := id hST
  have hD : va_D (fun q => bs ≤ q) (mwo cA bs wt bb sh f) := mwo_D
  obtain rfl : Instr.sipush ((n : Nat) : Int) = ins := by simpa [rsv] using hrs
  obtain rfl : nx = pc + 1 := hnx
  change decode _ _ = .ok ((.lconst n), 1) at hdg
  obtain ⟨hr, h⟩ := h
  refine lv_lconst (v := Int64.ofInt ((n : Nat) : Int)) hx hb hdg ?_ ?_
  · exact (Int64.ofInt_eq_ofNat (n := (n : Nat))).symm
  exact PW_go (st' := (1, ((n : Nat) : Int)) :: st) h fr ms (fc2 (vl hr) hst)
set_option maxHeartbeats 4000000 in
theorem pc_iload_n (X : mX) (i : Fin 4) : PC X (.iload_n i) := by
  intro d fin k pc nx ins ls st sh f Q hk hdg hnx hrs h p l e R s m args below meth c bs wt bb cA D c0 s0 Z fr H locs lz ms
  obtain ⟨-, hx, hb, hml, hown, hts, hini, hST, hsz, hd, hlo, hfc, hfs, hret⟩ := id fr
  obtain ⟨hP, hS, hSh, hF, hls, hst, hl, hln, hc0, hs0, hlf, hsf⟩ := id ms
  obtain ⟨hnw, ha5, ha2, hK, hZ, hT, hX, hbl, hbb, hx32, hxl⟩ := id hST
  have hD : va_D (fun q => bs ≤ q) (mwo cA bs wt bb sh f) := mwo_D
  obtain rfl : Instr.iload (i : Nat) = ins := by simpa [rsv] using hrs
  obtain rfl : nx = pc + 1 := hnx
  change decode _ _ = .ok ((.iload_n i), 1) at hdg
  obtain ⟨ht, h⟩ := h
  obtain ⟨x, e1, e2, e3⟩ := hgt hl hls (by omega) ht
  rw [e1] at h
  refine lv_iload_n hx hb hdg rfl e2 ?_
  exact PW_go (st' := (0, x) :: st) h fr ms (fc2 e3 hst)
set_option maxHeartbeats 4000000 in
theorem pc_iload (X : mX) (i : Nat) : PC X (.iload i) := by
  intro d fin k pc nx ins ls st sh f Q hk hdg hnx hrs h p l e R s m args below meth c bs wt bb cA D c0 s0 Z fr H locs lz ms
  obtain ⟨-, hx, hb, hml, hown, hts, hini, hST, hsz, hd, hlo, hfc, hfs, hret⟩ := id fr
  obtain ⟨hP, hS, hSh, hF, hls, hst, hl, hln, hc0, hs0, hlf, hsf⟩ := id ms
  obtain ⟨hnw, ha5, ha2, hK, hZ, hT, hX, hbl, hbb, hx32, hxl⟩ := id hST
  have hD : va_D (fun q => bs ≤ q) (mwo cA bs wt bb sh f) := mwo_D
  obtain rfl : Instr.iload i = ins := by simpa [rsv] using hrs
  obtain rfl : nx = pc + 2 := hnx
  change decode _ _ = .ok ((.iload i), 2) at hdg
  obtain ⟨ht, h⟩ := h
  obtain ⟨x, e1, e2, e3⟩ := hgt hl hls (by omega) ht
  rw [e1] at h
  refine lv_iload hx hb hdg e2 ?_
  exact PW_go (st' := (0, x) :: st) h fr ms (fc2 e3 hst)
set_option maxHeartbeats 4000000 in
theorem pc_lload_n (X : mX) (i : Fin 4) : PC X (.lload_n i) := by
  intro d fin k pc nx ins ls st sh f Q hk hdg hnx hrs h p l e R s m args below meth c bs wt bb cA D c0 s0 Z fr H locs lz ms
  obtain ⟨-, hx, hb, hml, hown, hts, hini, hST, hsz, hd, hlo, hfc, hfs, hret⟩ := id fr
  obtain ⟨hP, hS, hSh, hF, hls, hst, hl, hln, hc0, hs0, hlf, hsf⟩ := id ms
  obtain ⟨hnw, ha5, ha2, hK, hZ, hT, hX, hbl, hbb, hx32, hxl⟩ := id hST
  have hD : va_D (fun q => bs ≤ q) (mwo cA bs wt bb sh f) := mwo_D
  obtain rfl : Instr.lload (i : Nat) = ins := by simpa [rsv] using hrs
  obtain rfl : nx = pc + 1 := hnx
  change decode _ _ = .ok ((.lload_n i), 1) at hdg
  obtain ⟨ht, h⟩ := h
  obtain ⟨x, e1, e2, e3⟩ := hgt hl hls (by omega) ht
  rw [e1] at h
  refine lv_lload_n hx hb hdg rfl e2 ?_
  exact PW_go (st' := (1, x) :: st) h fr ms (fc2 e3 hst)
set_option maxHeartbeats 4000000 in
theorem pc_lload (X : mX) (i : Nat) : PC X (.lload i) := by
  intro d fin k pc nx ins ls st sh f Q hk hdg hnx hrs h p l e R s m args below meth c bs wt bb cA D c0 s0 Z fr H locs lz ms
  obtain ⟨-, hx, hb, hml, hown, hts, hini, hST, hsz, hd, hlo, hfc, hfs, hret⟩ := id fr
  obtain ⟨hP, hS, hSh, hF, hls, hst, hl, hln, hc0, hs0, hlf, hsf⟩ := id ms
  obtain ⟨hnw, ha5, ha2, hK, hZ, hT, hX, hbl, hbb, hx32, hxl⟩ := id hST
  have hD : va_D (fun q => bs ≤ q) (mwo cA bs wt bb sh f) := mwo_D
  obtain rfl : Instr.lload i = ins := by simpa [rsv] using hrs
  obtain rfl : nx = pc + 2 := hnx
  change decode _ _ = .ok ((.lload i), 2) at hdg
  obtain ⟨ht, h⟩ := h
  obtain ⟨x, e1, e2, e3⟩ := hgt hl hls (by omega) ht
  rw [e1] at h
  refine lv_lload hx hb hdg e2 ?_
  exact PW_go (st' := (1, x) :: st) h fr ms (fc2 e3 hst)
set_option maxHeartbeats 4000000 in
theorem pc_aload_n (X : mX) (i : Fin 4) : PC X (.aload_n i) := by
  intro d fin k pc nx ins ls st sh f Q hk hdg hnx hrs h p l e R s m args below meth c bs wt bb cA D c0 s0 Z fr H locs lz ms
  obtain ⟨-, hx, hb, hml, hown, hts, hini, hST, hsz, hd, hlo, hfc, hfs, hret⟩ := id fr
  obtain ⟨hP, hS, hSh, hF, hls, hst, hl, hln, hc0, hs0, hlf, hsf⟩ := id ms
  obtain ⟨hnw, ha5, ha2, hK, hZ, hT, hX, hbl, hbb, hx32, hxl⟩ := id hST
  have hD : va_D (fun q => bs ≤ q) (mwo cA bs wt bb sh f) := mwo_D
  obtain rfl : Instr.aload (i : Nat) = ins := by simpa [rsv] using hrs
  obtain rfl : nx = pc + 1 := hnx
  change decode _ _ = .ok ((.aload_n i), 1) at hdg
  obtain ⟨ht, h⟩ := h
  obtain ⟨x, e1, e2, e3⟩ := hgt hl hls (by omega) ht
  rw [e1] at h
  rw [mrv_r] at e2
  cases hm : mad bs wt bb x with
  | none =>
    rw [hm] at e2
    have z := PW_go (st' := (2, x) :: st) h fr ms (fc2 e3 hst)
    simp only [List.map_cons, mrv_r, hm] at z
    exact lv_aload_nN hx hb hdg rfl e2 z
  | some a =>
    rw [hm] at e2
    have z := PW_go (st' := (2, x) :: st) h fr ms (fc2 e3 hst)
    simp only [List.map_cons, mrv_r, hm] at z
    exact lv_aload_n hx hb hdg rfl e2 z
set_option maxHeartbeats 4000000 in
theorem pc_aload (X : mX) (i : Nat) : PC X (.aload i) := by
  intro d fin k pc nx ins ls st sh f Q hk hdg hnx hrs h p l e R s m args below meth c bs wt bb cA D c0 s0 Z fr H locs lz ms
  obtain ⟨-, hx, hb, hml, hown, hts, hini, hST, hsz, hd, hlo, hfc, hfs, hret⟩ := id fr
  obtain ⟨hP, hS, hSh, hF, hls, hst, hl, hln, hc0, hs0, hlf, hsf⟩ := id ms
  obtain ⟨hnw, ha5, ha2, hK, hZ, hT, hX, hbl, hbb, hx32, hxl⟩ := id hST
  have hD : va_D (fun q => bs ≤ q) (mwo cA bs wt bb sh f) := mwo_D
  obtain rfl : Instr.aload i = ins := by simpa [rsv] using hrs
  obtain rfl : nx = pc + 2 := hnx
  change decode _ _ = .ok ((.aload i), 2) at hdg
  obtain ⟨ht, h⟩ := h
  obtain ⟨x, e1, e2, e3⟩ := hgt hl hls (by omega) ht
  rw [e1] at h
  rw [mrv_r] at e2
  cases hm : mad bs wt bb x with
  | none =>
    rw [hm] at e2
    have z := PW_go (st' := (2, x) :: st) h fr ms (fc2 e3 hst)
    simp only [List.map_cons, mrv_r, hm] at z
    exact lv_aloadN hx hb hdg e2 z
  | some a =>
    rw [hm] at e2
    have z := PW_go (st' := (2, x) :: st) h fr ms (fc2 e3 hst)
    simp only [List.map_cons, mrv_r, hm] at z
    exact lv_aload hx hb hdg e2 z
set_option maxHeartbeats 4000000 in
theorem pc_istore_n (X : mX) (i : Fin 4) : PC X (.istore_n i) := by
  intro d fin k pc nx ins ls st sh f Q hk hdg hnx hrs h p l e R s m args below meth c bs wt bb cA D c0 s0 Z fr H locs lz ms
  obtain ⟨-, hx, hb, hml, hown, hts, hini, hST, hsz, hd, hlo, hfc, hfs, hret⟩ := id fr
  obtain ⟨hP, hS, hSh, hF, hls, hst, hl, hln, hc0, hs0, hlf, hsf⟩ := id ms
  obtain ⟨hnw, ha5, ha2, hK, hZ, hT, hX, hbl, hbb, hx32, hxl⟩ := id hST
  have hD : va_D (fun q => bs ≤ q) (mwo cA bs wt bb sh f) := mwo_D
  obtain rfl : Instr.istore (i : Nat) = ins := by simpa [rsv] using hrs
  obtain rfl : nx = pc + 1 := hnx
  change decode _ _ = .ok ((.istore_n i), 1) at hdg
  have h2 := popI_sp h; clear h; obtain ⟨x, s_x, rfl, h⟩ := h2
  obtain ⟨hn, h⟩ := h
  obtain ⟨o_x, hst⟩ := fc1 hst
  simp only [List.map_cons, mrv_i, mrv_l]
  refine lv_istore_n hx hb hdg rfl hl (by rw [← hln]; exact hn.1) rfl (fun lz' hl' => ?_)
  exact PW_gl h fr ms hst (hset hls (Or.inr o_x)) (by rw [List.length_set]) (mlv_set1 (v := (0, x)) hn hl')
set_option maxHeartbeats 4000000 in
theorem pc_lstore_n (X : mX) (i : Fin 4) : PC X (.lstore_n i) := by
  intro d fin k pc nx ins ls st sh f Q hk hdg hnx hrs h p l e R s m args below meth c bs wt bb cA D c0 s0 Z fr H locs lz ms
  obtain ⟨-, hx, hb, hml, hown, hts, hini, hST, hsz, hd, hlo, hfc, hfs, hret⟩ := id fr
  obtain ⟨hP, hS, hSh, hF, hls, hst, hl, hln, hc0, hs0, hlf, hsf⟩ := id ms
  obtain ⟨hnw, ha5, ha2, hK, hZ, hT, hX, hbl, hbb, hx32, hxl⟩ := id hST
  have hD : va_D (fun q => bs ≤ q) (mwo cA bs wt bb sh f) := mwo_D
  obtain rfl : Instr.lstore (i : Nat) = ins := by simpa [rsv] using hrs
  obtain rfl : nx = pc + 1 := hnx
  change decode _ _ = .ok ((.lstore_n i), 1) at hdg
  have h2 := popL_sp h; clear h; obtain ⟨x, s_x, rfl, h⟩ := h2
  obtain ⟨hn, hn2, h⟩ := h
  obtain ⟨o_x, hst⟩ := fc1 hst
  simp only [List.map_cons, mrv_i, mrv_l]
  refine lv_lstore_n hx hb hdg rfl hl (by rw [← hln]; exact hn2) rfl (fun lz' hl' => ?_)
  exact PW_gl h fr ms hst (hset (hset hls (Or.inr o_x)) (Or.inl rfl)) (by rw [List.length_set, List.length_set]) (mlv_set2 (v := (1, x)) hn hn2 hl')
set_option maxHeartbeats 4000000 in
theorem pc_astore_n (X : mX) (i : Fin 4) : PC X (.astore_n i) := by
  intro d fin k pc nx ins ls st sh f Q hk hdg hnx hrs h p l e R s m args below meth c bs wt bb cA D c0 s0 Z fr H locs lz ms
  obtain ⟨-, hx, hb, hml, hown, hts, hini, hST, hsz, hd, hlo, hfc, hfs, hret⟩ := id fr
  obtain ⟨hP, hS, hSh, hF, hls, hst, hl, hln, hc0, hs0, hlf, hsf⟩ := id ms
  obtain ⟨hnw, ha5, ha2, hK, hZ, hT, hX, hbl, hbb, hx32, hxl⟩ := id hST
  have hD : va_D (fun q => bs ≤ q) (mwo cA bs wt bb sh f) := mwo_D
  obtain rfl : Instr.astore (i : Nat) = ins := by simpa [rsv] using hrs
  obtain rfl : nx = pc + 1 := hnx
  change decode _ _ = .ok ((.astore_n i), 1) at hdg
  have h2 := popR_sp h; clear h; obtain ⟨x, s_x, rfl, h⟩ := h2
  obtain ⟨hn, h⟩ := h
  obtain ⟨o_x, hst⟩ := fc1 hst
  rw [List.map_cons, mrv_r]
  have key : ∀ lz' : Array Slot, lv_has lz' (mt k).2.2.2.1 (((i : Nat), mrv bs wt bb (2, x)) :: (mlv bs wt bb ls).filter (fun q => !(q.1 == (i : Nat)) && !(q.1 + 1 == (i : Nat) && q.2.category == 2))) → W p l e R s m args below meth c H locs (sh.length - c0) (mtot sh - s0) Z (F0 m (pc + 1) lz' (s_x.map (mrv bs wt bb))) := fun lz' hl' => PW_gl h fr ms hst (hset hls (Or.inr o_x)) (by rw [List.length_set]) (mlv_set1 (v := (2, x)) hn hl')
  rw [mrv_r] at key
  cases hm : mad bs wt bb x with
  | none =>
    rw [hm] at key
    exact lv_astore_nN hx hb hdg rfl hl (by rw [← hln]; exact hn.1) rfl key
  | some a =>
    rw [hm] at key
    exact lv_astore_n hx hb hdg rfl hl (by rw [← hln]; exact hn.1) rfl key
set_option maxHeartbeats 4000000 in
theorem pc_istore (X : mX) (i : Nat) : PC X (.istore i) := by
  intro d fin k pc nx ins ls st sh f Q hk hdg hnx hrs h p l e R s m args below meth c bs wt bb cA D c0 s0 Z fr H locs lz ms
  obtain ⟨-, hx, hb, hml, hown, hts, hini, hST, hsz, hd, hlo, hfc, hfs, hret⟩ := id fr
  obtain ⟨hP, hS, hSh, hF, hls, hst, hl, hln, hc0, hs0, hlf, hsf⟩ := id ms
  obtain ⟨hnw, ha5, ha2, hK, hZ, hT, hX, hbl, hbb, hx32, hxl⟩ := id hST
  have hD : va_D (fun q => bs ≤ q) (mwo cA bs wt bb sh f) := mwo_D
  obtain rfl : Instr.istore i = ins := by simpa [rsv] using hrs
  obtain rfl : nx = pc + 2 := hnx
  change decode _ _ = .ok ((.istore i), 2) at hdg
  have h2 := popI_sp h; clear h; obtain ⟨x, s_x, rfl, h⟩ := h2
  obtain ⟨hn, h⟩ := h
  obtain ⟨o_x, hst⟩ := fc1 hst
  simp only [List.map_cons, mrv_i, mrv_l]
  refine lv_istore hx hb hdg hl (by rw [← hln]; exact hn.1) rfl (fun lz' hl' => ?_)
  exact PW_gl h fr ms hst (hset hls (Or.inr o_x)) (by rw [List.length_set]) (mlv_set1 (v := (0, x)) hn hl')
set_option maxHeartbeats 4000000 in
theorem pc_lstore (X : mX) (i : Nat) : PC X (.lstore i) := by
  intro d fin k pc nx ins ls st sh f Q hk hdg hnx hrs h p l e R s m args below meth c bs wt bb cA D c0 s0 Z fr H locs lz ms
  obtain ⟨-, hx, hb, hml, hown, hts, hini, hST, hsz, hd, hlo, hfc, hfs, hret⟩ := id fr
  obtain ⟨hP, hS, hSh, hF, hls, hst, hl, hln, hc0, hs0, hlf, hsf⟩ := id ms
  obtain ⟨hnw, ha5, ha2, hK, hZ, hT, hX, hbl, hbb, hx32, hxl⟩ := id hST
  have hD : va_D (fun q => bs ≤ q) (mwo cA bs wt bb sh f) := mwo_D
  obtain rfl : Instr.lstore i = ins := by simpa [rsv] using hrs
  obtain rfl : nx = pc + 2 := hnx
  change decode _ _ = .ok ((.lstore i), 2) at hdg
  have h2 := popL_sp h; clear h; obtain ⟨x, s_x, rfl, h⟩ := h2
  obtain ⟨hn, hn2, h⟩ := h
  obtain ⟨o_x, hst⟩ := fc1 hst
  simp only [List.map_cons, mrv_i, mrv_l]
  refine lv_lstore hx hb hdg hl (by rw [← hln]; exact hn2) rfl (fun lz' hl' => ?_)
  exact PW_gl h fr ms hst (hset (hset hls (Or.inr o_x)) (Or.inl rfl)) (by rw [List.length_set, List.length_set]) (mlv_set2 (v := (1, x)) hn hn2 hl')
set_option maxHeartbeats 4000000 in
theorem pc_astore (X : mX) (i : Nat) : PC X (.astore i) := by
  intro d fin k pc nx ins ls st sh f Q hk hdg hnx hrs h p l e R s m args below meth c bs wt bb cA D c0 s0 Z fr H locs lz ms
  obtain ⟨-, hx, hb, hml, hown, hts, hini, hST, hsz, hd, hlo, hfc, hfs, hret⟩ := id fr
  obtain ⟨hP, hS, hSh, hF, hls, hst, hl, hln, hc0, hs0, hlf, hsf⟩ := id ms
  obtain ⟨hnw, ha5, ha2, hK, hZ, hT, hX, hbl, hbb, hx32, hxl⟩ := id hST
  have hD : va_D (fun q => bs ≤ q) (mwo cA bs wt bb sh f) := mwo_D
  obtain rfl : Instr.astore i = ins := by simpa [rsv] using hrs
  obtain rfl : nx = pc + 2 := hnx
  change decode _ _ = .ok ((.astore i), 2) at hdg
  have h2 := popR_sp h; clear h; obtain ⟨x, s_x, rfl, h⟩ := h2
  obtain ⟨hn, h⟩ := h
  obtain ⟨o_x, hst⟩ := fc1 hst
  rw [List.map_cons, mrv_r]
  have key : ∀ lz' : Array Slot, lv_has lz' (mt k).2.2.2.1 ((i, mrv bs wt bb (2, x)) :: (mlv bs wt bb ls).filter (fun q => !(q.1 == i) && !(q.1 + 1 == i && q.2.category == 2))) → W p l e R s m args below meth c H locs (sh.length - c0) (mtot sh - s0) Z (F0 m (pc + 2) lz' (s_x.map (mrv bs wt bb))) := fun lz' hl' => PW_gl h fr ms hst (hset hls (Or.inr o_x)) (by rw [List.length_set]) (mlv_set1 (v := (2, x)) hn hl')
  rw [mrv_r] at key
  cases hm : mad bs wt bb x with
  | none =>
    rw [hm] at key
    exact lv_astoreN hx hb hdg hl (by rw [← hln]; exact hn.1) rfl key
  | some a =>
    rw [hm] at key
    exact lv_astore hx hb hdg hl (by rw [← hln]; exact hn.1) rfl key
set_option maxHeartbeats 4000000 in
theorem pc_iinc (X : mX) (i : Nat) (n : Int) : PC X (.iinc i n) := by
  intro d fin k pc nx ins ls st sh f Q hk hdg hnx hrs h p l e R s m args below meth c bs wt bb cA D c0 s0 Z fr H locs lz ms
  obtain ⟨-, hx, hb, hml, hown, hts, hini, hST, hsz, hd, hlo, hfc, hfs, hret⟩ := id fr
  obtain ⟨hP, hS, hSh, hF, hls, hst, hl, hln, hc0, hs0, hlf, hsf⟩ := id ms
  obtain ⟨hnw, ha5, ha2, hK, hZ, hT, hX, hbl, hbb, hx32, hxl⟩ := id hST
  have hD : va_D (fun q => bs ≤ q) (mwo cA bs wt bb sh f) := mwo_D
  obtain rfl : nx = pc + 3 := hnx
  change decode _ _ = .ok ((.iinc i n), 3) at hdg
  have hr : -128 ≤ n ∧ n ≤ 127 := by
    by_cases hc : -128 ≤ n ∧ n ≤ 127
    · exact hc
    · simp [rsv, hc] at hrs
  obtain rfl : Instr.iinc i n = ins := by simpa [rsv, hr] using hrs
  obtain ⟨ht, hn, hr2, h⟩ := h
  obtain ⟨x, e1, e2, e3⟩ := hgt hl hls (by omega) ht
  rw [e1] at h hr2
  have hmem := mlv_in (bs := bs) (wt := wt) (bb := bb) hn.1 (show (mlg ls i).1 ≠ 3 by omega)
  rw [e1] at hmem
  obtain ⟨j, hj⟩ := List.getElem?_of_mem hmem
  refine lv_iinc (v := Int32.ofInt (x + n)) hx hb hdg hl hj (by rw [Int32.ofInt_add]) (by rw [← hln]; exact hn.1) rfl (fun lz' hl' => ?_)
  exact PW_gl h fr ms hst (hset hls (Or.inr (vi hr2))) (by rw [List.length_set]) (mlv_set1 (v := (0, x + n)) hn hl')
set_option maxHeartbeats 4000000 in
theorem pc_iadd (X : mX) : PC X .iadd := by
  intro d fin k pc nx ins ls st sh f Q hk hdg hnx hrs h p l e R s m args below meth c bs wt bb cA D c0 s0 Z fr H locs lz ms
  obtain ⟨-, hx, hb, hml, hown, hts, hini, hST, hsz, hd, hlo, hfc, hfs, hret⟩ := id fr
  obtain ⟨hP, hS, hSh, hF, hls, hst, hl, hln, hc0, hs0, hlf, hsf⟩ := id ms
  obtain ⟨hnw, ha5, ha2, hK, hZ, hT, hX, hbl, hbb, hx32, hxl⟩ := id hST
  have hD : va_D (fun q => bs ≤ q) (mwo cA bs wt bb sh f) := mwo_D
  obtain rfl : Instr.iadd = ins := by simpa [rsv] using hrs
  obtain rfl : nx = pc + 1 := hnx
  change decode _ _ = .ok (.iadd, 1) at hdg
  have h2 := popI_sp h; clear h; obtain ⟨b, s_b, rfl, h⟩ := h2
  have h2 := popI_sp h; clear h; obtain ⟨a, s_a, rfl, h⟩ := h2
  obtain ⟨hr, h⟩ := h
  obtain ⟨o_b, hst⟩ := fc1 hst
  obtain ⟨o_a, hst⟩ := fc1 hst
  simp only [List.map_cons, mrv_i, mrv_l]
  refine lv_iadd hx hb hdg ?_
  rw [← Int32.ofInt_add]
  exact PW_go (st' := (0, a + b) :: s_a) h fr ms (fc2 (vi hr) hst)
set_option maxHeartbeats 4000000 in
theorem pc_isub (X : mX) : PC X .isub := by
  intro d fin k pc nx ins ls st sh f Q hk hdg hnx hrs h p l e R s m args below meth c bs wt bb cA D c0 s0 Z fr H locs lz ms
  obtain ⟨-, hx, hb, hml, hown, hts, hini, hST, hsz, hd, hlo, hfc, hfs, hret⟩ := id fr
  obtain ⟨hP, hS, hSh, hF, hls, hst, hl, hln, hc0, hs0, hlf, hsf⟩ := id ms
  obtain ⟨hnw, ha5, ha2, hK, hZ, hT, hX, hbl, hbb, hx32, hxl⟩ := id hST
  have hD : va_D (fun q => bs ≤ q) (mwo cA bs wt bb sh f) := mwo_D
  obtain rfl : Instr.isub = ins := by simpa [rsv] using hrs
  obtain rfl : nx = pc + 1 := hnx
  change decode _ _ = .ok (.isub, 1) at hdg
  have h2 := popI_sp h; clear h; obtain ⟨b, s_b, rfl, h⟩ := h2
  have h2 := popI_sp h; clear h; obtain ⟨a, s_a, rfl, h⟩ := h2
  obtain ⟨hr, h⟩ := h
  obtain ⟨o_b, hst⟩ := fc1 hst
  obtain ⟨o_a, hst⟩ := fc1 hst
  simp only [List.map_cons, mrv_i, mrv_l]
  refine lv_isub hx hb hdg ?_
  rw [← Int32.ofInt_sub]
  exact PW_go (st' := (0, a - b) :: s_a) h fr ms (fc2 (vi hr) hst)
set_option maxHeartbeats 4000000 in
theorem pc_imul (X : mX) : PC X .imul := by
  intro d fin k pc nx ins ls st sh f Q hk hdg hnx hrs h p l e R s m args below meth c bs wt bb cA D c0 s0 Z fr H locs lz ms
  obtain ⟨-, hx, hb, hml, hown, hts, hini, hST, hsz, hd, hlo, hfc, hfs, hret⟩ := id fr
  obtain ⟨hP, hS, hSh, hF, hls, hst, hl, hln, hc0, hs0, hlf, hsf⟩ := id ms
  obtain ⟨hnw, ha5, ha2, hK, hZ, hT, hX, hbl, hbb, hx32, hxl⟩ := id hST
  have hD : va_D (fun q => bs ≤ q) (mwo cA bs wt bb sh f) := mwo_D
  obtain rfl : Instr.imul = ins := by simpa [rsv] using hrs
  obtain rfl : nx = pc + 1 := hnx
  change decode _ _ = .ok (.imul, 1) at hdg
  have h2 := popI_sp h; clear h; obtain ⟨b, s_b, rfl, h⟩ := h2
  have h2 := popI_sp h; clear h; obtain ⟨a, s_a, rfl, h⟩ := h2
  obtain ⟨hr, h⟩ := h
  obtain ⟨o_b, hst⟩ := fc1 hst
  obtain ⟨o_a, hst⟩ := fc1 hst
  simp only [List.map_cons, mrv_i, mrv_l]
  refine lv_imul hx hb hdg ?_
  rw [← Int32.ofInt_mul]
  exact PW_go (st' := (0, a * b) :: s_a) h fr ms (fc2 (vi hr) hst)
set_option maxHeartbeats 4000000 in
theorem pc_idiv (X : mX) : PC X .idiv := by
  intro d fin k pc nx ins ls st sh f Q hk hdg hnx hrs h p l e R s m args below meth c bs wt bb cA D c0 s0 Z fr H locs lz ms
  obtain ⟨-, hx, hb, hml, hown, hts, hini, hST, hsz, hd, hlo, hfc, hfs, hret⟩ := id fr
  obtain ⟨hP, hS, hSh, hF, hls, hst, hl, hln, hc0, hs0, hlf, hsf⟩ := id ms
  obtain ⟨hnw, ha5, ha2, hK, hZ, hT, hX, hbl, hbb, hx32, hxl⟩ := id hST
  have hD : va_D (fun q => bs ≤ q) (mwo cA bs wt bb sh f) := mwo_D
  obtain rfl : Instr.idiv = ins := by simpa [rsv] using hrs
  obtain rfl : nx = pc + 1 := hnx
  change decode _ _ = .ok (.idiv, 1) at hdg
  have h2 := popI_sp h; clear h; obtain ⟨b, s_b, rfl, h⟩ := h2
  have h2 := popI_sp h; clear h; obtain ⟨a, s_a, rfl, h⟩ := h2
  obtain ⟨hb0, hr, h⟩ := h
  obtain ⟨o_b, hst⟩ := fc1 hst
  obtain ⟨o_a, hst⟩ := fc1 hst
  simp only [List.map_cons, mrv_i, mrv_l]
  refine lv_idiv hx hb hdg (fun z => hb0 ((ofi_eq (okv_i o_b) (by unfold r32; omega)).mp z)) ?_
  rw [div_t (okv_i o_a) (okv_i o_b) hr]
  exact PW_go (st' := (0, a.tdiv b) :: s_a) h fr ms (fc2 (vi hr) hst)
set_option maxHeartbeats 4000000 in
theorem pc_irem (X : mX) : PC X .irem := by
  intro d fin k pc nx ins ls st sh f Q hk hdg hnx hrs h p l e R s m args below meth c bs wt bb cA D c0 s0 Z fr H locs lz ms
  obtain ⟨-, hx, hb, hml, hown, hts, hini, hST, hsz, hd, hlo, hfc, hfs, hret⟩ := id fr
  obtain ⟨hP, hS, hSh, hF, hls, hst, hl, hln, hc0, hs0, hlf, hsf⟩ := id ms
  obtain ⟨hnw, ha5, ha2, hK, hZ, hT, hX, hbl, hbb, hx32, hxl⟩ := id hST
  have hD : va_D (fun q => bs ≤ q) (mwo cA bs wt bb sh f) := mwo_D
  obtain rfl : Instr.irem = ins := by simpa [rsv] using hrs
  obtain rfl : nx = pc + 1 := hnx
  change decode _ _ = .ok (.irem, 1) at hdg
  have h2 := popI_sp h; clear h; obtain ⟨b, s_b, rfl, h⟩ := h2
  have h2 := popI_sp h; clear h; obtain ⟨a, s_a, rfl, h⟩ := h2
  obtain ⟨hb0, hr1, hr, h⟩ := h
  obtain ⟨o_b, hst⟩ := fc1 hst
  obtain ⟨o_a, hst⟩ := fc1 hst
  simp only [List.map_cons, mrv_i, mrv_l]
  refine lv_irem hx hb hdg (fun z => hb0 ((ofi_eq (okv_i o_b) (by unfold r32; omega)).mp z)) ?_
  rw [div_t (okv_i o_a) (okv_i o_b) hr1, ← Int32.ofInt_mul, ← Int32.ofInt_sub, show a - a.tdiv b * b = a.tmod b by rw [Int.tmod_def, Int.mul_comm]]
  exact PW_go (st' := (0, a.tmod b) :: s_a) h fr ms (fc2 (vi hr) hst)
set_option maxHeartbeats 4000000 in
theorem pc_ineg (X : mX) : PC X .ineg := by
  intro d fin k pc nx ins ls st sh f Q hk hdg hnx hrs h p l e R s m args below meth c bs wt bb cA D c0 s0 Z fr H locs lz ms
  obtain ⟨-, hx, hb, hml, hown, hts, hini, hST, hsz, hd, hlo, hfc, hfs, hret⟩ := id fr
  obtain ⟨hP, hS, hSh, hF, hls, hst, hl, hln, hc0, hs0, hlf, hsf⟩ := id ms
  obtain ⟨hnw, ha5, ha2, hK, hZ, hT, hX, hbl, hbb, hx32, hxl⟩ := id hST
  have hD : va_D (fun q => bs ≤ q) (mwo cA bs wt bb sh f) := mwo_D
  obtain rfl : Instr.ineg = ins := by simpa [rsv] using hrs
  obtain rfl : nx = pc + 1 := hnx
  change decode _ _ = .ok (.ineg, 1) at hdg
  have h2 := popI_sp h; clear h; obtain ⟨a, s_a, rfl, h⟩ := h2
  obtain ⟨hr, h⟩ := h
  obtain ⟨o_a, hst⟩ := fc1 hst
  simp only [List.map_cons, mrv_i, mrv_l]
  refine lv_ineg hx hb hdg ?_
  first | rw [← Int32.ofInt_neg] | rw [show (0 : Int32) - Int32.ofInt a = Int32.ofInt (-a) by rw [Int32.ofInt_neg]; simp]
  exact PW_go (st' := (0, -a) :: s_a) h fr ms (fc2 (vi hr) hst)
set_option maxHeartbeats 4000000 in
theorem pc_iand (X : mX) : PC X .iand := by
  intro d fin k pc nx ins ls st sh f Q hk hdg hnx hrs h p l e R s m args below meth c bs wt bb cA D c0 s0 Z fr H locs lz ms
  obtain ⟨-, hx, hb, hml, hown, hts, hini, hST, hsz, hd, hlo, hfc, hfs, hret⟩ := id fr
  obtain ⟨hP, hS, hSh, hF, hls, hst, hl, hln, hc0, hs0, hlf, hsf⟩ := id ms
  obtain ⟨hnw, ha5, ha2, hK, hZ, hT, hX, hbl, hbb, hx32, hxl⟩ := id hST
  have hD : va_D (fun q => bs ≤ q) (mwo cA bs wt bb sh f) := mwo_D
  obtain rfl : Instr.iand = ins := by simpa [rsv] using hrs
  obtain rfl : nx = pc + 1 := hnx
  change decode _ _ = .ok (.iand, 1) at hdg
  have h2 := popI_sp h; clear h; obtain ⟨b, s_b, rfl, h⟩ := h2
  have h2 := popI_sp h; clear h; obtain ⟨a, s_a, rfl, h⟩ := h2
  obtain ⟨o_b, hst⟩ := fc1 hst
  obtain ⟨o_a, hst⟩ := fc1 hst
  simp only [List.map_cons, mrv_i, mrv_l]
  refine lv_iand hx hb hdg ?_
  have z := PW_go (st' := (0, (Int32.ofInt a &&& Int32.ofInt b).toInt) :: s_a) h fr ms (fc2 (vi (r32_t _)) hst)
  simp only [List.map_cons, mrv_i, Int32.ofInt_toInt] at z
  exact z
set_option maxHeartbeats 4000000 in
theorem pc_ior (X : mX) : PC X .ior := by
  intro d fin k pc nx ins ls st sh f Q hk hdg hnx hrs h p l e R s m args below meth c bs wt bb cA D c0 s0 Z fr H locs lz ms
  obtain ⟨-, hx, hb, hml, hown, hts, hini, hST, hsz, hd, hlo, hfc, hfs, hret⟩ := id fr
  obtain ⟨hP, hS, hSh, hF, hls, hst, hl, hln, hc0, hs0, hlf, hsf⟩ := id ms
  obtain ⟨hnw, ha5, ha2, hK, hZ, hT, hX, hbl, hbb, hx32, hxl⟩ := id hST
  have hD : va_D (fun q => bs ≤ q) (mwo cA bs wt bb sh f) := mwo_D
  obtain rfl : Instr.ior = ins := by simpa [rsv] using hrs
  obtain rfl : nx = pc + 1 := hnx
  change decode _ _ = .ok (.ior, 1) at hdg
  have h2 := popI_sp h; clear h; obtain ⟨b, s_b, rfl, h⟩ := h2
  have h2 := popI_sp h; clear h; obtain ⟨a, s_a, rfl, h⟩ := h2
  obtain ⟨o_b, hst⟩ := fc1 hst
  obtain ⟨o_a, hst⟩ := fc1 hst
  simp only [List.map_cons, mrv_i, mrv_l]
  refine lv_ior hx hb hdg ?_
  have z := PW_go (st' := (0, (Int32.ofInt a ||| Int32.ofInt b).toInt) :: s_a) h fr ms (fc2 (vi (r32_t _)) hst)
  simp only [List.map_cons, mrv_i, Int32.ofInt_toInt] at z
  exact z
set_option maxHeartbeats 4000000 in
theorem pc_ishl (X : mX) : PC X .ishl := by
  intro d fin k pc nx ins ls st sh f Q hk hdg hnx hrs h p l e R s m args below meth c bs wt bb cA D c0 s0 Z fr H locs lz ms
  obtain ⟨-, hx, hb, hml, hown, hts, hini, hST, hsz, hd, hlo, hfc, hfs, hret⟩ := id fr
  obtain ⟨hP, hS, hSh, hF, hls, hst, hl, hln, hc0, hs0, hlf, hsf⟩ := id ms
  obtain ⟨hnw, ha5, ha2, hK, hZ, hT, hX, hbl, hbb, hx32, hxl⟩ := id hST
  have hD : va_D (fun q => bs ≤ q) (mwo cA bs wt bb sh f) := mwo_D
  obtain rfl : Instr.ishl = ins := by simpa [rsv] using hrs
  obtain rfl : nx = pc + 1 := hnx
  change decode _ _ = .ok (.ishl, 1) at hdg
  have h2 := popI_sp h; clear h; obtain ⟨b, s_b, rfl, h⟩ := h2
  have h2 := popI_sp h; clear h; obtain ⟨a, s_a, rfl, h⟩ := h2
  obtain ⟨o_b, hst⟩ := fc1 hst
  obtain ⟨o_a, hst⟩ := fc1 hst
  simp only [List.map_cons, mrv_i, mrv_l]
  refine lv_ishl hx hb hdg ?_
  have z := PW_go (st' := (0, (Int32.ofInt a <<< (Int32.ofInt b &&& 31)).toInt) :: s_a) h fr ms (fc2 (vi (r32_t _)) hst)
  simp only [List.map_cons, mrv_i, Int32.ofInt_toInt] at z
  exact z
set_option maxHeartbeats 4000000 in
theorem pc_ishr (X : mX) : PC X .ishr := by
  intro d fin k pc nx ins ls st sh f Q hk hdg hnx hrs h p l e R s m args below meth c bs wt bb cA D c0 s0 Z fr H locs lz ms
  obtain ⟨-, hx, hb, hml, hown, hts, hini, hST, hsz, hd, hlo, hfc, hfs, hret⟩ := id fr
  obtain ⟨hP, hS, hSh, hF, hls, hst, hl, hln, hc0, hs0, hlf, hsf⟩ := id ms
  obtain ⟨hnw, ha5, ha2, hK, hZ, hT, hX, hbl, hbb, hx32, hxl⟩ := id hST
  have hD : va_D (fun q => bs ≤ q) (mwo cA bs wt bb sh f) := mwo_D
  obtain rfl : Instr.ishr = ins := by simpa [rsv] using hrs
  obtain rfl : nx = pc + 1 := hnx
  change decode _ _ = .ok (.ishr, 1) at hdg
  have h2 := popI_sp h; clear h; obtain ⟨b, s_b, rfl, h⟩ := h2
  have h2 := popI_sp h; clear h; obtain ⟨a, s_a, rfl, h⟩ := h2
  obtain ⟨o_b, hst⟩ := fc1 hst
  obtain ⟨o_a, hst⟩ := fc1 hst
  simp only [List.map_cons, mrv_i, mrv_l]
  refine lv_ishr hx hb hdg ?_
  have z := PW_go (st' := (0, (Int32.ofInt a >>> (Int32.ofInt b &&& 31)).toInt) :: s_a) h fr ms (fc2 (vi (r32_t _)) hst)
  simp only [List.map_cons, mrv_i, Int32.ofInt_toInt] at z
  exact z
set_option maxHeartbeats 4000000 in
theorem pc_i2l (X : mX) : PC X .i2l := by
  intro d fin k pc nx ins ls st sh f Q hk hdg hnx hrs h p l e R s m args below meth c bs wt bb cA D c0 s0 Z fr H locs lz ms
  obtain ⟨-, hx, hb, hml, hown, hts, hini, hST, hsz, hd, hlo, hfc, hfs, hret⟩ := id fr
  obtain ⟨hP, hS, hSh, hF, hls, hst, hl, hln, hc0, hs0, hlf, hsf⟩ := id ms
  obtain ⟨hnw, ha5, ha2, hK, hZ, hT, hX, hbl, hbb, hx32, hxl⟩ := id hST
  have hD : va_D (fun q => bs ≤ q) (mwo cA bs wt bb sh f) := mwo_D
  obtain rfl : Instr.i2l = ins := by simpa [rsv] using hrs
  obtain rfl : nx = pc + 1 := hnx
  change decode _ _ = .ok (.i2l, 1) at hdg
  have h2 := popI_sp h; clear h; obtain ⟨a, s_a, rfl, h⟩ := h2
  obtain ⟨o_a, hst⟩ := fc1 hst
  simp only [List.map_cons, mrv_i, mrv_l]
  refine lv_i2l (v := Int64.ofInt a) hx hb hdg ?_ ?_
  · apply Int64.toInt_inj.mp
    have := okv_i o_a
    rw [Int32.toInt_toInt64, ofi_t this, ofl_t (by unfold r32 at this; unfold r64; omega)]
  exact PW_go (st' := (1, a) :: s_a) h fr ms (fc2 (vl (by have := okv_i o_a; unfold r32 at this; unfold r64; omega)) hst)
set_option maxHeartbeats 4000000 in
theorem pc_l2i (X : mX) : PC X .l2i := by
  intro d fin k pc nx ins ls st sh f Q hk hdg hnx hrs h p l e R s m args below meth c bs wt bb cA D c0 s0 Z fr H locs lz ms
  obtain ⟨-, hx, hb, hml, hown, hts, hini, hST, hsz, hd, hlo, hfc, hfs, hret⟩ := id fr
  obtain ⟨hP, hS, hSh, hF, hls, hst, hl, hln, hc0, hs0, hlf, hsf⟩ := id ms
  obtain ⟨hnw, ha5, ha2, hK, hZ, hT, hX, hbl, hbb, hx32, hxl⟩ := id hST
  have hD : va_D (fun q => bs ≤ q) (mwo cA bs wt bb sh f) := mwo_D
  obtain rfl : Instr.l2i = ins := by simpa [rsv] using hrs
  obtain rfl : nx = pc + 1 := hnx
  change decode _ _ = .ok (.l2i, 1) at hdg
  have h2 := popL_sp h; clear h; obtain ⟨a, s_a, rfl, h⟩ := h2
  obtain ⟨o_a, hst⟩ := fc1 hst
  simp only [List.map_cons, mrv_i, mrv_l]
  refine lv_l2i hx hb hdg rfl ?_
  have z := PW_go (st' := (0, (Int64.ofInt a).toInt32.toInt) :: s_a) h fr ms (fc2 (vi (r32_t _)) hst)
  simp only [List.map_cons, mrv_i, Int32.ofInt_toInt] at z
  exact z
set_option maxHeartbeats 4000000 in
theorem pc_lcmp (X : mX) : PC X .lcmp := by
  intro d fin k pc nx ins ls st sh f Q hk hdg hnx hrs h p l e R s m args below meth c bs wt bb cA D c0 s0 Z fr H locs lz ms
  obtain ⟨-, hx, hb, hml, hown, hts, hini, hST, hsz, hd, hlo, hfc, hfs, hret⟩ := id fr
  obtain ⟨hP, hS, hSh, hF, hls, hst, hl, hln, hc0, hs0, hlf, hsf⟩ := id ms
  obtain ⟨hnw, ha5, ha2, hK, hZ, hT, hX, hbl, hbb, hx32, hxl⟩ := id hST
  have hD : va_D (fun q => bs ≤ q) (mwo cA bs wt bb sh f) := mwo_D
  obtain rfl : Instr.lcmp = ins := by simpa [rsv] using hrs
  obtain rfl : nx = pc + 1 := hnx
  change decode _ _ = .ok (.lcmp, 1) at hdg
  have h2 := popL_sp h; clear h; obtain ⟨b, s_b, rfl, h⟩ := h2
  have h2 := popL_sp h; clear h; obtain ⟨a, s_a, rfl, h⟩ := h2
  obtain ⟨o_b, hst⟩ := fc1 hst
  obtain ⟨o_a, hst⟩ := fc1 hst
  simp only [List.map_cons, mrv_i, mrv_l]
  refine W.lcmp hx hb hdg ?_
  have e0 : lg_cmp (Int64.ofInt a) (Int64.ofInt b) = Int32.ofInt (if b < a then 1 else if a = b then 0 else -1) := by
    have e1 := ofl_lt (okv_l o_b) (okv_l o_a)
    have e2 := ofl_eq (okv_l o_a) (okv_l o_b)
    unfold lg_cmp
    by_cases h1 : b < a
    · rw [if_pos (e1.mpr h1), if_pos h1]
      rfl
    · rw [if_neg (fun z => h1 (e1.mp z)), if_neg h1]
      by_cases h2 : a = b
      · rw [if_pos (e2.mpr h2), if_pos h2]
        rfl
      · rw [if_neg (fun z => h2 (e2.mp z)), if_neg h2]
        rfl
  rw [e0]
  exact PW_go (st' := (0, if b < a then 1 else if a = b then 0 else -1) :: s_a) h fr ms (fc2 (vi (by unfold r32; split <;> (try split) <;> omega)) hst)
set_option maxHeartbeats 4000000 in
theorem pc_ladd (X : mX) : PC X .ladd := by
  intro d fin k pc nx ins ls st sh f Q hk hdg hnx hrs h p l e R s m args below meth c bs wt bb cA D c0 s0 Z fr H locs lz ms
  obtain ⟨-, hx, hb, hml, hown, hts, hini, hST, hsz, hd, hlo, hfc, hfs, hret⟩ := id fr
  obtain ⟨hP, hS, hSh, hF, hls, hst, hl, hln, hc0, hs0, hlf, hsf⟩ := id ms
  obtain ⟨hnw, ha5, ha2, hK, hZ, hT, hX, hbl, hbb, hx32, hxl⟩ := id hST
  have hD : va_D (fun q => bs ≤ q) (mwo cA bs wt bb sh f) := mwo_D
  obtain rfl : Instr.ladd = ins := by simpa [rsv] using hrs
  obtain rfl : nx = pc + 1 := hnx
  change decode _ _ = .ok (.ladd, 1) at hdg
  have h2 := popL_sp h; clear h; obtain ⟨b, s_b, rfl, h⟩ := h2
  have h2 := popL_sp h; clear h; obtain ⟨a, s_a, rfl, h⟩ := h2
  obtain ⟨hr, h⟩ := h
  obtain ⟨o_b, hst⟩ := fc1 hst
  obtain ⟨o_a, hst⟩ := fc1 hst
  simp only [List.map_cons, mrv_i, mrv_l]
  refine lv_ladd hx hb hdg ?_
  rw [← Int64.ofInt_add]
  exact PW_go (st' := (1, a + b) :: s_a) h fr ms (fc2 (vl hr) hst)
set_option maxHeartbeats 4000000 in
theorem pc_lsub (X : mX) : PC X .lsub := by
  intro d fin k pc nx ins ls st sh f Q hk hdg hnx hrs h p l e R s m args below meth c bs wt bb cA D c0 s0 Z fr H locs lz ms
  obtain ⟨-, hx, hb, hml, hown, hts, hini, hST, hsz, hd, hlo, hfc, hfs, hret⟩ := id fr
  obtain ⟨hP, hS, hSh, hF, hls, hst, hl, hln, hc0, hs0, hlf, hsf⟩ := id ms
  obtain ⟨hnw, ha5, ha2, hK, hZ, hT, hX, hbl, hbb, hx32, hxl⟩ := id hST
  have hD : va_D (fun q => bs ≤ q) (mwo cA bs wt bb sh f) := mwo_D
  obtain rfl : Instr.lsub = ins := by simpa [rsv] using hrs
  obtain rfl : nx = pc + 1 := hnx
  change decode _ _ = .ok (.lsub, 1) at hdg
  have h2 := popL_sp h; clear h; obtain ⟨b, s_b, rfl, h⟩ := h2
  have h2 := popL_sp h; clear h; obtain ⟨a, s_a, rfl, h⟩ := h2
  obtain ⟨hr, h⟩ := h
  obtain ⟨o_b, hst⟩ := fc1 hst
  obtain ⟨o_a, hst⟩ := fc1 hst
  simp only [List.map_cons, mrv_i, mrv_l]
  refine lv_lsub hx hb hdg ?_
  rw [← Int64.ofInt_sub]
  exact PW_go (st' := (1, a - b) :: s_a) h fr ms (fc2 (vl hr) hst)
set_option maxHeartbeats 4000000 in
theorem pc_lmul (X : mX) : PC X .lmul := by
  intro d fin k pc nx ins ls st sh f Q hk hdg hnx hrs h p l e R s m args below meth c bs wt bb cA D c0 s0 Z fr H locs lz ms
  obtain ⟨-, hx, hb, hml, hown, hts, hini, hST, hsz, hd, hlo, hfc, hfs, hret⟩ := id fr
  obtain ⟨hP, hS, hSh, hF, hls, hst, hl, hln, hc0, hs0, hlf, hsf⟩ := id ms
  obtain ⟨hnw, ha5, ha2, hK, hZ, hT, hX, hbl, hbb, hx32, hxl⟩ := id hST
  have hD : va_D (fun q => bs ≤ q) (mwo cA bs wt bb sh f) := mwo_D
  obtain rfl : Instr.lmul = ins := by simpa [rsv] using hrs
  obtain rfl : nx = pc + 1 := hnx
  change decode _ _ = .ok (.lmul, 1) at hdg
  have h2 := popL_sp h; clear h; obtain ⟨b, s_b, rfl, h⟩ := h2
  have h2 := popL_sp h; clear h; obtain ⟨a, s_a, rfl, h⟩ := h2
  obtain ⟨hr, h⟩ := h
  obtain ⟨o_b, hst⟩ := fc1 hst
  obtain ⟨o_a, hst⟩ := fc1 hst
  simp only [List.map_cons, mrv_i, mrv_l]
  refine lv_lmul hx hb hdg ?_
  rw [← Int64.ofInt_mul]
  exact PW_go (st' := (1, a * b) :: s_a) h fr ms (fc2 (vl hr) hst)
set_option maxHeartbeats 4000000 in
theorem pc_land (X : mX) : PC X .land := by
  intro d fin k pc nx ins ls st sh f Q hk hdg hnx hrs h p l e R s m args below meth c bs wt bb cA D c0 s0 Z fr H locs lz ms
  obtain ⟨-, hx, hb, hml, hown, hts, hini, hST, hsz, hd, hlo, hfc, hfs, hret⟩ := id fr
  obtain ⟨hP, hS, hSh, hF, hls, hst, hl, hln, hc0, hs0, hlf, hsf⟩ := id ms
  obtain ⟨hnw, ha5, ha2, hK, hZ, hT, hX, hbl, hbb, hx32, hxl⟩ := id hST
  have hD : va_D (fun q => bs ≤ q) (mwo cA bs wt bb sh f) := mwo_D
  obtain rfl : Instr.land = ins := by simpa [rsv] using hrs
  obtain rfl : nx = pc + 1 := hnx
  change decode _ _ = .ok (.land, 1) at hdg
  have h2 := popL_sp h; clear h; obtain ⟨b, s_b, rfl, h⟩ := h2
  have h2 := popL_sp h; clear h; obtain ⟨a, s_a, rfl, h⟩ := h2
  obtain ⟨o_b, hst⟩ := fc1 hst
  obtain ⟨o_a, hst⟩ := fc1 hst
  simp only [List.map_cons, mrv_i, mrv_l]
  refine lv_land hx hb hdg ?_
  have z := PW_go (st' := (1, (Int64.ofInt a &&& Int64.ofInt b).toInt) :: s_a) h fr ms (fc2 (vl (r64_t _)) hst)
  simp only [List.map_cons, mrv_l, Int64.ofInt_toInt] at z
  exact z
set_option maxHeartbeats 4000000 in
theorem pc_lor (X : mX) : PC X .lor := by
  intro d fin k pc nx ins ls st sh f Q hk hdg hnx hrs h p l e R s m args below meth c bs wt bb cA D c0 s0 Z fr H locs lz ms
  obtain ⟨-, hx, hb, hml, hown, hts, hini, hST, hsz, hd, hlo, hfc, hfs, hret⟩ := id fr
  obtain ⟨hP, hS, hSh, hF, hls, hst, hl, hln, hc0, hs0, hlf, hsf⟩ := id ms
  obtain ⟨hnw, ha5, ha2, hK, hZ, hT, hX, hbl, hbb, hx32, hxl⟩ := id hST
  have hD : va_D (fun q => bs ≤ q) (mwo cA bs wt bb sh f) := mwo_D
  obtain rfl : Instr.lor = ins := by simpa [rsv] using hrs
  obtain rfl : nx = pc + 1 := hnx
  change decode _ _ = .ok (.lor, 1) at hdg
  have h2 := popL_sp h; clear h; obtain ⟨b, s_b, rfl, h⟩ := h2
  have h2 := popL_sp h; clear h; obtain ⟨a, s_a, rfl, h⟩ := h2
  obtain ⟨o_b, hst⟩ := fc1 hst
  obtain ⟨o_a, hst⟩ := fc1 hst
  simp only [List.map_cons, mrv_i, mrv_l]
  refine lv_lor hx hb hdg ?_
  have z := PW_go (st' := (1, (Int64.ofInt a ||| Int64.ofInt b).toInt) :: s_a) h fr ms (fc2 (vl (r64_t _)) hst)
  simp only [List.map_cons, mrv_l, Int64.ofInt_toInt] at z
  exact z
set_option maxHeartbeats 4000000 in
theorem pc_lshl (X : mX) : PC X .lshl := by
  intro d fin k pc nx ins ls st sh f Q hk hdg hnx hrs h p l e R s m args below meth c bs wt bb cA D c0 s0 Z fr H locs lz ms
  obtain ⟨-, hx, hb, hml, hown, hts, hini, hST, hsz, hd, hlo, hfc, hfs, hret⟩ := id fr
  obtain ⟨hP, hS, hSh, hF, hls, hst, hl, hln, hc0, hs0, hlf, hsf⟩ := id ms
  obtain ⟨hnw, ha5, ha2, hK, hZ, hT, hX, hbl, hbb, hx32, hxl⟩ := id hST
  have hD : va_D (fun q => bs ≤ q) (mwo cA bs wt bb sh f) := mwo_D
  obtain rfl : Instr.lshl = ins := by simpa [rsv] using hrs
  obtain rfl : nx = pc + 1 := hnx
  change decode _ _ = .ok (.lshl, 1) at hdg
  have h2 := popI_sp h; clear h; obtain ⟨b, s_b, rfl, h⟩ := h2
  have h2 := popL_sp h; clear h; obtain ⟨a, s_a, rfl, h⟩ := h2
  obtain ⟨o_b, hst⟩ := fc1 hst
  obtain ⟨o_a, hst⟩ := fc1 hst
  simp only [List.map_cons, mrv_i, mrv_l]
  refine lv_lshl hx hb hdg rfl ?_
  have z := PW_go (st' := (1, (Int64.ofInt a <<< ((Int32.ofInt b).toInt64 &&& 63)).toInt) :: s_a) h fr ms (fc2 (vl (r64_t _)) hst)
  simp only [List.map_cons, mrv_l, Int64.ofInt_toInt] at z
  exact z
set_option maxHeartbeats 4000000 in
theorem pc_lshr (X : mX) : PC X .lshr := by
  intro d fin k pc nx ins ls st sh f Q hk hdg hnx hrs h p l e R s m args below meth c bs wt bb cA D c0 s0 Z fr H locs lz ms
  obtain ⟨-, hx, hb, hml, hown, hts, hini, hST, hsz, hd, hlo, hfc, hfs, hret⟩ := id fr
  obtain ⟨hP, hS, hSh, hF, hls, hst, hl, hln, hc0, hs0, hlf, hsf⟩ := id ms
  obtain ⟨hnw, ha5, ha2, hK, hZ, hT, hX, hbl, hbb, hx32, hxl⟩ := id hST
  have hD : va_D (fun q => bs ≤ q) (mwo cA bs wt bb sh f) := mwo_D
  obtain rfl : Instr.lshr = ins := by simpa [rsv] using hrs
  obtain rfl : nx = pc + 1 := hnx
  change decode _ _ = .ok (.lshr, 1) at hdg
  have h2 := popI_sp h; clear h; obtain ⟨b, s_b, rfl, h⟩ := h2
  have h2 := popL_sp h; clear h; obtain ⟨a, s_a, rfl, h⟩ := h2
  obtain ⟨o_b, hst⟩ := fc1 hst
  obtain ⟨o_a, hst⟩ := fc1 hst
  simp only [List.map_cons, mrv_i, mrv_l]
  refine lv_lshr hx hb hdg rfl ?_
  have z := PW_go (st' := (1, (Int64.ofInt a >>> ((Int32.ofInt b).toInt64 &&& 63)).toInt) :: s_a) h fr ms (fc2 (vl (r64_t _)) hst)
  simp only [List.map_cons, mrv_l, Int64.ofInt_toInt] at z
  exact z
set_option maxHeartbeats 4000000 in
theorem pc_lushr (X : mX) : PC X .lushr := by
  intro d fin k pc nx ins ls st sh f Q hk hdg hnx hrs h p l e R s m args below meth c bs wt bb cA D c0 s0 Z fr H locs lz ms
  obtain ⟨-, hx, hb, hml, hown, hts, hini, hST, hsz, hd, hlo, hfc, hfs, hret⟩ := id fr
  obtain ⟨hP, hS, hSh, hF, hls, hst, hl, hln, hc0, hs0, hlf, hsf⟩ := id ms
  obtain ⟨hnw, ha5, ha2, hK, hZ, hT, hX, hbl, hbb, hx32, hxl⟩ := id hST
  have hD : va_D (fun q => bs ≤ q) (mwo cA bs wt bb sh f) := mwo_D
  obtain rfl : Instr.lushr = ins := by simpa [rsv] using hrs
  obtain rfl : nx = pc + 1 := hnx
  change decode _ _ = .ok (.lushr, 1) at hdg
  have h2 := popI_sp h; clear h; obtain ⟨b, s_b, rfl, h⟩ := h2
  have h2 := popL_sp h; clear h; obtain ⟨a, s_a, rfl, h⟩ := h2
  obtain ⟨o_b, hst⟩ := fc1 hst
  obtain ⟨o_a, hst⟩ := fc1 hst
  simp only [List.map_cons, mrv_i, mrv_l]
  refine lv_lushr hx hb hdg rfl ?_
  have z := PW_go (st' := (1, (((Int64.ofInt a).toUInt64 >>> ((Int32.ofInt b).toInt64.toUInt64 &&& Int64.toUInt64 63)).toInt64).toInt) :: s_a) h fr ms (fc2 (vl (r64_t _)) hst)
  simp only [List.map_cons, mrv_l, Int64.ofInt_toInt] at z
  exact z
set_option maxHeartbeats 4000000 in
theorem pc_null (X : mX) : PC X .aconst_null := by
  intro d fin k pc nx ins ls st sh f Q hk hdg hnx hrs h p l e R s m args below meth c bs wt bb cA D c0 s0 Z fr H locs lz ms
  obtain ⟨-, hx, hb, hml, hown, hts, hini, hST, hsz, hd, hlo, hfc, hfs, hret⟩ := id fr
  obtain ⟨hP, hS, hSh, hF, hls, hst, hl, hln, hc0, hs0, hlf, hsf⟩ := id ms
  obtain ⟨hnw, ha5, ha2, hK, hZ, hT, hX, hbl, hbb, hx32, hxl⟩ := id hST
  have hD : va_D (fun q => bs ≤ q) (mwo cA bs wt bb sh f) := mwo_D
  obtain rfl : Instr.aconst_null = ins := by simpa [rsv] using hrs
  obtain rfl : nx = pc + 1 := hnx
  change decode _ _ = .ok (.aconst_null, 1) at hdg
  refine lv_null hx hb hdg ?_
  exact PW_go (st' := (2, 0) :: st) h fr ms (fc2 (vr 0) hst)
set_option maxHeartbeats 4000000 in
theorem pc_dup (X : mX) : PC X .dup := by
  intro d fin k pc nx ins ls st sh f Q hk hdg hnx hrs h p l e R s m args below meth c bs wt bb cA D c0 s0 Z fr H locs lz ms
  obtain ⟨-, hx, hb, hml, hown, hts, hini, hST, hsz, hd, hlo, hfc, hfs, hret⟩ := id fr
  obtain ⟨hP, hS, hSh, hF, hls, hst, hl, hln, hc0, hs0, hlf, hsf⟩ := id ms
  obtain ⟨hnw, ha5, ha2, hK, hZ, hT, hX, hbl, hbb, hx32, hxl⟩ := id hST
  have hD : va_D (fun q => bs ≤ q) (mwo cA bs wt bb sh f) := mwo_D
  obtain rfl : Instr.dup = ins := by simpa [rsv] using hrs
  obtain rfl : nx = pc + 1 := hnx
  change decode _ _ = .ok (.dup, 1) at hdg
  have h2 := popV_sp h; clear h; obtain ⟨v, s1, rfl, hv, h⟩ := h2
  obtain ⟨o_v, hst⟩ := fc1 hst
  refine lv_dup hx hb hdg (by rw [mrv_cat, if_neg hv]) ?_
  exact PW_go (st' := v :: v :: s1) h fr ms (fc2 o_v (fc2 o_v hst))
set_option maxHeartbeats 4000000 in
theorem pc_dup2 (X : mX) : PC X .dup2 := by
  intro d fin k pc nx ins ls st sh f Q hk hdg hnx hrs h p l e R s m args below meth c bs wt bb cA D c0 s0 Z fr H locs lz ms
  obtain ⟨-, hx, hb, hml, hown, hts, hini, hST, hsz, hd, hlo, hfc, hfs, hret⟩ := id fr
  obtain ⟨hP, hS, hSh, hF, hls, hst, hl, hln, hc0, hs0, hlf, hsf⟩ := id ms
  obtain ⟨hnw, ha5, ha2, hK, hZ, hT, hX, hbl, hbb, hx32, hxl⟩ := id hST
  have hD : va_D (fun q => bs ≤ q) (mwo cA bs wt bb sh f) := mwo_D
  obtain rfl : Instr.dup2 = ins := by simpa [rsv] using hrs
  obtain rfl : nx = pc + 1 := hnx
  change decode _ _ = .ok (.dup2, 1) at hdg
  have h2 := popV_sp h; clear h; obtain ⟨v, s1, rfl, hv, h⟩ := h2
  have h2 := popV_sp h; clear h; obtain ⟨w, s2, rfl, hw, h⟩ := h2
  obtain ⟨o_v, hst⟩ := fc1 hst
  obtain ⟨o_w, hst⟩ := fc1 hst
  refine lv_dup2_11 hx hb hdg (by rw [mrv_cat, if_neg hv]) (by rw [mrv_cat, if_neg hw]) ?_
  exact PW_go (st' := v :: w :: v :: w :: s2) h fr ms (fc2 o_v (fc2 o_w (fc2 o_v (fc2 o_w hst))))
set_option maxHeartbeats 4000000 in
theorem pc_goto (X : mX) (n : Int) : PC X (.goto n) := by
  intro d fin k pc nx ins ls st sh f Q hk hdg hnx hrs h p l e R s m args below meth c bs wt bb cA D c0 s0 Z fr H locs lz ms
  obtain ⟨-, hx, hb, hml, hown, hts, hini, hST, hsz, hd, hlo, hfc, hfs, hret⟩ := id fr
  obtain ⟨hP, hS, hSh, hF, hls, hst, hl, hln, hc0, hs0, hlf, hsf⟩ := id ms
  obtain ⟨hnw, ha5, ha2, hK, hZ, hT, hX, hbl, hbb, hx32, hxl⟩ := id hST
  have hD : va_D (fun q => bs ≤ q) (mwo cA bs wt bb sh f) := mwo_D
  obtain rfl : nx = pc + 3 := hnx
  change decode _ _ = .ok ((.goto n), 3) at hdg
  have h0 : 0 ≤ (pc : Int) + n := by
    by_cases hc : 0 ≤ (pc : Int) + n
    · exact hc
    · simp [rsv, rjmp, hc] at hrs
  obtain rfl : Instr.goto (pc + n) = ins := by simpa [rsv, rjmp, h0] using hrs
  have ht : (pc : Int) + n = (((pc : Int) + n).toNat : Int) := (Int.toNat_of_nonneg h0).symm
  refine lv_goto hx hb hdg ht ?_
  exact PW_go h fr ms hst
set_option maxHeartbeats 4000000 in
theorem pc_if_eq (X : mX) (n : Int) : PC X (.ifCond .eq n) := by
  intro d fin k pc nx ins ls st sh f Q hk hdg hnx hrs h p l e R s m args below meth c bs wt bb cA D c0 s0 Z fr H locs lz ms
  obtain ⟨-, hx, hb, hml, hown, hts, hini, hST, hsz, hd, hlo, hfc, hfs, hret⟩ := id fr
  obtain ⟨hP, hS, hSh, hF, hls, hst, hl, hln, hc0, hs0, hlf, hsf⟩ := id ms
  obtain ⟨hnw, ha5, ha2, hK, hZ, hT, hX, hbl, hbb, hx32, hxl⟩ := id hST
  have hD : va_D (fun q => bs ≤ q) (mwo cA bs wt bb sh f) := mwo_D
  obtain rfl : nx = pc + 3 := hnx
  change decode _ _ = .ok ((.ifCond .eq n), 3) at hdg
  have h0 : 0 ≤ (pc : Int) + n := by
    by_cases hc : 0 ≤ (pc : Int) + n
    · exact hc
    · simp [rsv, rjmp, hc] at hrs
  obtain rfl : Instr.ifCond .eq (pc + n) = ins := by simpa [rsv, rjmp, h0] using hrs
  have ht : (pc : Int) + n = (((pc : Int) + n).toNat : Int) := (Int.toNat_of_nonneg h0).symm
  have h2 := popI_sp h; clear h; obtain ⟨x, s_x, rfl, h⟩ := h2
  obtain ⟨o_x, hst⟩ := fc1 hst
  simp only [List.map_cons, mrv_i, mrv_l]
  exact lv_if_eq hx hb hdg ht (fun z => PW_go (h.1 ((ofi_eq (okv_i o_x) r0).mp z)) fr ms hst) (fun z => PW_go (h.2 (fun q => z ((ofi_eq (okv_i o_x) r0).mpr q))) fr ms hst)
set_option maxHeartbeats 4000000 in
theorem pc_icmp_eq (X : mX) (n : Int) : PC X (.if_icmp .eq n) := by
  intro d fin k pc nx ins ls st sh f Q hk hdg hnx hrs h p l e R s m args below meth c bs wt bb cA D c0 s0 Z fr H locs lz ms
  obtain ⟨-, hx, hb, hml, hown, hts, hini, hST, hsz, hd, hlo, hfc, hfs, hret⟩ := id fr
  obtain ⟨hP, hS, hSh, hF, hls, hst, hl, hln, hc0, hs0, hlf, hsf⟩ := id ms
  obtain ⟨hnw, ha5, ha2, hK, hZ, hT, hX, hbl, hbb, hx32, hxl⟩ := id hST
  have hD : va_D (fun q => bs ≤ q) (mwo cA bs wt bb sh f) := mwo_D
  obtain rfl : nx = pc + 3 := hnx
  change decode _ _ = .ok ((.if_icmp .eq n), 3) at hdg
  have h0 : 0 ≤ (pc : Int) + n := by
    by_cases hc : 0 ≤ (pc : Int) + n
    · exact hc
    · simp [rsv, rjmp, hc] at hrs
  obtain rfl : Instr.if_icmp .eq (pc + n) = ins := by simpa [rsv, rjmp, h0] using hrs
  have ht : (pc : Int) + n = (((pc : Int) + n).toNat : Int) := (Int.toNat_of_nonneg h0).symm
  have h2 := popI_sp h; clear h; obtain ⟨y, s_y, rfl, h⟩ := h2
  have h2 := popI_sp h; clear h; obtain ⟨x, s_x, rfl, h⟩ := h2
  obtain ⟨o_y, hst⟩ := fc1 hst
  obtain ⟨o_x, hst⟩ := fc1 hst
  simp only [List.map_cons, mrv_i, mrv_l]
  exact lv_icmp_eq hx hb hdg ht (fun z => PW_go (h.1 ((ofi_eq (okv_i o_x) (okv_i o_y)).mp z)) fr ms hst) (fun z => PW_go (h.2 (fun q => z ((ofi_eq (okv_i o_x) (okv_i o_y)).mpr q))) fr ms hst)
set_option maxHeartbeats 4000000 in
theorem pc_if_ne (X : mX) (n : Int) : PC X (.ifCond .ne n) := by
  intro d fin k pc nx ins ls st sh f Q hk hdg hnx hrs h p l e R s m args below meth c bs wt bb cA D c0 s0 Z fr H locs lz ms
  obtain ⟨-, hx, hb, hml, hown, hts, hini, hST, hsz, hd, hlo, hfc, hfs, hret⟩ := id fr
  obtain ⟨hP, hS, hSh, hF, hls, hst, hl, hln, hc0, hs0, hlf, hsf⟩ := id ms
  obtain ⟨hnw, ha5, ha2, hK, hZ, hT, hX, hbl, hbb, hx32, hxl⟩ := id hST
  have hD : va_D (fun q => bs ≤ q) (mwo cA bs wt bb sh f) := mwo_D
  obtain rfl : nx = pc + 3 := hnx
  change decode _ _ = .ok ((.ifCond .ne n), 3) at hdg
  have h0 : 0 ≤ (pc : Int) + n := by
    by_cases hc : 0 ≤ (pc : Int) + n
    · exact hc
    · simp [rsv, rjmp, hc] at hrs
  obtain rfl : Instr.ifCond .ne (pc + n) = ins := by simpa [rsv, rjmp, h0] using hrs
  have ht : (pc : Int) + n = (((pc : Int) + n).toNat : Int) := (Int.toNat_of_nonneg h0).symm
  have h2 := popI_sp h; clear h; obtain ⟨x, s_x, rfl, h⟩ := h2
  obtain ⟨o_x, hst⟩ := fc1 hst
  simp only [List.map_cons, mrv_i, mrv_l]
  exact lv_if_ne hx hb hdg ht (fun z => PW_go (h.1 (fun q => z ((ofi_eq (okv_i o_x) r0).mpr q))) fr ms hst) (fun z => PW_go (h.2 (fun q => q ((ofi_eq (okv_i o_x) r0).mp z))) fr ms hst)
set_option maxHeartbeats 4000000 in
theorem pc_icmp_ne (X : mX) (n : Int) : PC X (.if_icmp .ne n) := by
  intro d fin k pc nx ins ls st sh f Q hk hdg hnx hrs h p l e R s m args below meth c bs wt bb cA D c0 s0 Z fr H locs lz ms
  obtain ⟨-, hx, hb, hml, hown, hts, hini, hST, hsz, hd, hlo, hfc, hfs, hret⟩ := id fr
  obtain ⟨hP, hS, hSh, hF, hls, hst, hl, hln, hc0, hs0, hlf, hsf⟩ := id ms
  obtain ⟨hnw, ha5, ha2, hK, hZ, hT, hX, hbl, hbb, hx32, hxl⟩ := id hST
  have hD : va_D (fun q => bs ≤ q) (mwo cA bs wt bb sh f) := mwo_D
  obtain rfl : nx = pc + 3 := hnx
  change decode _ _ = .ok ((.if_icmp .ne n), 3) at hdg
  have h0 : 0 ≤ (pc : Int) + n := by
    by_cases hc : 0 ≤ (pc : Int) + n
    · exact hc
    · simp [rsv, rjmp, hc] at hrs
  obtain rfl : Instr.if_icmp .ne (pc + n) = ins := by simpa [rsv, rjmp, h0] using hrs
  have ht : (pc : Int) + n = (((pc : Int) + n).toNat : Int) := (Int.toNat_of_nonneg h0).symm
  have h2 := popI_sp h; clear h; obtain ⟨y, s_y, rfl, h⟩ := h2
  have h2 := popI_sp h; clear h; obtain ⟨x, s_x, rfl, h⟩ := h2
  obtain ⟨o_y, hst⟩ := fc1 hst
  obtain ⟨o_x, hst⟩ := fc1 hst
  simp only [List.map_cons, mrv_i, mrv_l]
  exact lv_icmp_ne hx hb hdg ht (fun z => PW_go (h.1 (fun q => z ((ofi_eq (okv_i o_x) (okv_i o_y)).mpr q))) fr ms hst) (fun z => PW_go (h.2 (fun q => q ((ofi_eq (okv_i o_x) (okv_i o_y)).mp z))) fr ms hst)
set_option maxHeartbeats 4000000 in
theorem pc_if_lt (X : mX) (n : Int) : PC X (.ifCond .lt n) := by
  intro d fin k pc nx ins ls st sh f Q hk hdg hnx hrs h p l e R s m args below meth c bs wt bb cA D c0 s0 Z fr H locs lz ms
  obtain ⟨-, hx, hb, hml, hown, hts, hini, hST, hsz, hd, hlo, hfc, hfs, hret⟩ := id fr
  obtain ⟨hP, hS, hSh, hF, hls, hst, hl, hln, hc0, hs0, hlf, hsf⟩ := id ms
  obtain ⟨hnw, ha5, ha2, hK, hZ, hT, hX, hbl, hbb, hx32, hxl⟩ := id hST
  have hD : va_D (fun q => bs ≤ q) (mwo cA bs wt bb sh f) := mwo_D
  obtain rfl : nx = pc + 3 := hnx
  change decode _ _ = .ok ((.ifCond .lt n), 3) at hdg
  have h0 : 0 ≤ (pc : Int) + n := by
    by_cases hc : 0 ≤ (pc : Int) + n
    · exact hc
    · simp [rsv, rjmp, hc] at hrs
  obtain rfl : Instr.ifCond .lt (pc + n) = ins := by simpa [rsv, rjmp, h0] using hrs
  have ht : (pc : Int) + n = (((pc : Int) + n).toNat : Int) := (Int.toNat_of_nonneg h0).symm
  have h2 := popI_sp h; clear h; obtain ⟨x, s_x, rfl, h⟩ := h2
  obtain ⟨o_x, hst⟩ := fc1 hst
  simp only [List.map_cons, mrv_i, mrv_l]
  exact lv_if_lt hx hb hdg ht (fun z => PW_go (h.1 ((ofi_lt (okv_i o_x) r0).mp z)) fr ms hst) (fun z => PW_go (h.2 (fun q => z ((ofi_lt (okv_i o_x) r0).mpr q))) fr ms hst)
set_option maxHeartbeats 4000000 in
theorem pc_icmp_lt (X : mX) (n : Int) : PC X (.if_icmp .lt n) := by
  intro d fin k pc nx ins ls st sh f Q hk hdg hnx hrs h p l e R s m args below meth c bs wt bb cA D c0 s0 Z fr H locs lz ms
  obtain ⟨-, hx, hb, hml, hown, hts, hini, hST, hsz, hd, hlo, hfc, hfs, hret⟩ := id fr
  obtain ⟨hP, hS, hSh, hF, hls, hst, hl, hln, hc0, hs0, hlf, hsf⟩ := id ms
  obtain ⟨hnw, ha5, ha2, hK, hZ, hT, hX, hbl, hbb, hx32, hxl⟩ := id hST
  have hD : va_D (fun q => bs ≤ q) (mwo cA bs wt bb sh f) := mwo_D
  obtain rfl : nx = pc + 3 := hnx
  change decode _ _ = .ok ((.if_icmp .lt n), 3) at hdg
  have h0 : 0 ≤ (pc : Int) + n := by
    by_cases hc : 0 ≤ (pc : Int) + n
    · exact hc
    · simp [rsv, rjmp, hc] at hrs
  obtain rfl : Instr.if_icmp .lt (pc + n) = ins := by simpa [rsv, rjmp, h0] using hrs
  have ht : (pc : Int) + n = (((pc : Int) + n).toNat : Int) := (Int.toNat_of_nonneg h0).symm
  have h2 := popI_sp h; clear h; obtain ⟨y, s_y, rfl, h⟩ := h2
  have h2 := popI_sp h; clear h; obtain ⟨x, s_x, rfl, h⟩ := h2
  obtain ⟨o_y, hst⟩ := fc1 hst
  obtain ⟨o_x, hst⟩ := fc1 hst
  simp only [List.map_cons, mrv_i, mrv_l]
  exact lv_icmp_lt hx hb hdg ht (fun z => PW_go (h.1 ((ofi_lt (okv_i o_x) (okv_i o_y)).mp z)) fr ms hst) (fun z => PW_go (h.2 (fun q => z ((ofi_lt (okv_i o_x) (okv_i o_y)).mpr q))) fr ms hst)
set_option maxHeartbeats 4000000 in
theorem pc_if_ge (X : mX) (n : Int) : PC X (.ifCond .ge n) := by
  intro d fin k pc nx ins ls st sh f Q hk hdg hnx hrs h p l e R s m args below meth c bs wt bb cA D c0 s0 Z fr H locs lz ms
  obtain ⟨-, hx, hb, hml, hown, hts, hini, hST, hsz, hd, hlo, hfc, hfs, hret⟩ := id fr
  obtain ⟨hP, hS, hSh, hF, hls, hst, hl, hln, hc0, hs0, hlf, hsf⟩ := id ms
  obtain ⟨hnw, ha5, ha2, hK, hZ, hT, hX, hbl, hbb, hx32, hxl⟩ := id hST
  have hD : va_D (fun q => bs ≤ q) (mwo cA bs wt bb sh f) := mwo_D
  obtain rfl : nx = pc + 3 := hnx
  change decode _ _ = .ok ((.ifCond .ge n), 3) at hdg
  have h0 : 0 ≤ (pc : Int) + n := by
    by_cases hc : 0 ≤ (pc : Int) + n
    · exact hc
    · simp [rsv, rjmp, hc] at hrs
  obtain rfl : Instr.ifCond .ge (pc + n) = ins := by simpa [rsv, rjmp, h0] using hrs
  have ht : (pc : Int) + n = (((pc : Int) + n).toNat : Int) := (Int.toNat_of_nonneg h0).symm
  have h2 := popI_sp h; clear h; obtain ⟨x, s_x, rfl, h⟩ := h2
  obtain ⟨o_x, hst⟩ := fc1 hst
  simp only [List.map_cons, mrv_i, mrv_l]
  exact lv_if_ge hx hb hdg ht (fun z => PW_go (h.1 ((ofi_le r0 (okv_i o_x)).mp z)) fr ms hst) (fun z => PW_go (h.2 (fun q => z ((ofi_le r0 (okv_i o_x)).mpr q))) fr ms hst)
set_option maxHeartbeats 4000000 in
theorem pc_icmp_ge (X : mX) (n : Int) : PC X (.if_icmp .ge n) := by
  intro d fin k pc nx ins ls st sh f Q hk hdg hnx hrs h p l e R s m args below meth c bs wt bb cA D c0 s0 Z fr H locs lz ms
  obtain ⟨-, hx, hb, hml, hown, hts, hini, hST, hsz, hd, hlo, hfc, hfs, hret⟩ := id fr
  obtain ⟨hP, hS, hSh, hF, hls, hst, hl, hln, hc0, hs0, hlf, hsf⟩ := id ms
  obtain ⟨hnw, ha5, ha2, hK, hZ, hT, hX, hbl, hbb, hx32, hxl⟩ := id hST
  have hD : va_D (fun q => bs ≤ q) (mwo cA bs wt bb sh f) := mwo_D
  obtain rfl : nx = pc + 3 := hnx
  change decode _ _ = .ok ((.if_icmp .ge n), 3) at hdg
  have h0 : 0 ≤ (pc : Int) + n := by
    by_cases hc : 0 ≤ (pc : Int) + n
    · exact hc
    · simp [rsv, rjmp, hc] at hrs
  obtain rfl : Instr.if_icmp .ge (pc + n) = ins := by simpa [rsv, rjmp, h0] using hrs
  have ht : (pc : Int) + n = (((pc : Int) + n).toNat : Int) := (Int.toNat_of_nonneg h0).symm
  have h2 := popI_sp h; clear h; obtain ⟨y, s_y, rfl, h⟩ := h2
  have h2 := popI_sp h; clear h; obtain ⟨x, s_x, rfl, h⟩ := h2
  obtain ⟨o_y, hst⟩ := fc1 hst
  obtain ⟨o_x, hst⟩ := fc1 hst
  simp only [List.map_cons, mrv_i, mrv_l]
  exact lv_icmp_ge hx hb hdg ht (fun z => PW_go (h.1 ((ofi_le (okv_i o_y) (okv_i o_x)).mp z)) fr ms hst) (fun z => PW_go (h.2 (fun q => z ((ofi_le (okv_i o_y) (okv_i o_x)).mpr q))) fr ms hst)
set_option maxHeartbeats 4000000 in
theorem pc_if_gt (X : mX) (n : Int) : PC X (.ifCond .gt n) := by
  intro d fin k pc nx ins ls st sh f Q hk hdg hnx hrs h p l e R s m args below meth c bs wt bb cA D c0 s0 Z fr H locs lz ms
  obtain ⟨-, hx, hb, hml, hown, hts, hini, hST, hsz, hd, hlo, hfc, hfs, hret⟩ := id fr
  obtain ⟨hP, hS, hSh, hF, hls, hst, hl, hln, hc0, hs0, hlf, hsf⟩ := id ms
  obtain ⟨hnw, ha5, ha2, hK, hZ, hT, hX, hbl, hbb, hx32, hxl⟩ := id hST
  have hD : va_D (fun q => bs ≤ q) (mwo cA bs wt bb sh f) := mwo_D
  obtain rfl : nx = pc + 3 := hnx
  change decode _ _ = .ok ((.ifCond .gt n), 3) at hdg
  have h0 : 0 ≤ (pc : Int) + n := by
    by_cases hc : 0 ≤ (pc : Int) + n
    · exact hc
    · simp [rsv, rjmp, hc] at hrs
  obtain rfl : Instr.ifCond .gt (pc + n) = ins := by simpa [rsv, rjmp, h0] using hrs
  have ht : (pc : Int) + n = (((pc : Int) + n).toNat : Int) := (Int.toNat_of_nonneg h0).symm
  have h2 := popI_sp h; clear h; obtain ⟨x, s_x, rfl, h⟩ := h2
  obtain ⟨o_x, hst⟩ := fc1 hst
  simp only [List.map_cons, mrv_i, mrv_l]
  exact lv_if_gt hx hb hdg ht (fun z => PW_go (h.1 ((ofi_lt r0 (okv_i o_x)).mp z)) fr ms hst) (fun z => PW_go (h.2 (fun q => z ((ofi_lt r0 (okv_i o_x)).mpr q))) fr ms hst)
set_option maxHeartbeats 4000000 in
theorem pc_icmp_gt (X : mX) (n : Int) : PC X (.if_icmp .gt n) := by
  intro d fin k pc nx ins ls st sh f Q hk hdg hnx hrs h p l e R s m args below meth c bs wt bb cA D c0 s0 Z fr H locs lz ms
  obtain ⟨-, hx, hb, hml, hown, hts, hini, hST, hsz, hd, hlo, hfc, hfs, hret⟩ := id fr
  obtain ⟨hP, hS, hSh, hF, hls, hst, hl, hln, hc0, hs0, hlf, hsf⟩ := id ms
  obtain ⟨hnw, ha5, ha2, hK, hZ, hT, hX, hbl, hbb, hx32, hxl⟩ := id hST
  have hD : va_D (fun q => bs ≤ q) (mwo cA bs wt bb sh f) := mwo_D
  obtain rfl : nx = pc + 3 := hnx
  change decode _ _ = .ok ((.if_icmp .gt n), 3) at hdg
  have h0 : 0 ≤ (pc : Int) + n := by
    by_cases hc : 0 ≤ (pc : Int) + n
    · exact hc
    · simp [rsv, rjmp, hc] at hrs
  obtain rfl : Instr.if_icmp .gt (pc + n) = ins := by simpa [rsv, rjmp, h0] using hrs
  have ht : (pc : Int) + n = (((pc : Int) + n).toNat : Int) := (Int.toNat_of_nonneg h0).symm
  have h2 := popI_sp h; clear h; obtain ⟨y, s_y, rfl, h⟩ := h2
  have h2 := popI_sp h; clear h; obtain ⟨x, s_x, rfl, h⟩ := h2
  obtain ⟨o_y, hst⟩ := fc1 hst
  obtain ⟨o_x, hst⟩ := fc1 hst
  simp only [List.map_cons, mrv_i, mrv_l]
  exact lv_icmp_gt hx hb hdg ht (fun z => PW_go (h.1 ((ofi_lt (okv_i o_y) (okv_i o_x)).mp z)) fr ms hst) (fun z => PW_go (h.2 (fun q => z ((ofi_lt (okv_i o_y) (okv_i o_x)).mpr q))) fr ms hst)
set_option maxHeartbeats 4000000 in
theorem pc_if_le (X : mX) (n : Int) : PC X (.ifCond .le n) := by
  intro d fin k pc nx ins ls st sh f Q hk hdg hnx hrs h p l e R s m args below meth c bs wt bb cA D c0 s0 Z fr H locs lz ms
  obtain ⟨-, hx, hb, hml, hown, hts, hini, hST, hsz, hd, hlo, hfc, hfs, hret⟩ := id fr
  obtain ⟨hP, hS, hSh, hF, hls, hst, hl, hln, hc0, hs0, hlf, hsf⟩ := id ms
  obtain ⟨hnw, ha5, ha2, hK, hZ, hT, hX, hbl, hbb, hx32, hxl⟩ := id hST
  have hD : va_D (fun q => bs ≤ q) (mwo cA bs wt bb sh f) := mwo_D
  obtain rfl : nx = pc + 3 := hnx
  change decode _ _ = .ok ((.ifCond .le n), 3) at hdg
  have h0 : 0 ≤ (pc : Int) + n := by
    by_cases hc : 0 ≤ (pc : Int) + n
    · exact hc
    · simp [rsv, rjmp, hc] at hrs
  obtain rfl : Instr.ifCond .le (pc + n) = ins := by simpa [rsv, rjmp, h0] using hrs
  have ht : (pc : Int) + n = (((pc : Int) + n).toNat : Int) := (Int.toNat_of_nonneg h0).symm
  have h2 := popI_sp h; clear h; obtain ⟨x, s_x, rfl, h⟩ := h2
  obtain ⟨o_x, hst⟩ := fc1 hst
  simp only [List.map_cons, mrv_i, mrv_l]
  exact lv_if_le hx hb hdg ht (fun z => PW_go (h.1 ((ofi_le (okv_i o_x) r0).mp z)) fr ms hst) (fun z => PW_go (h.2 (fun q => z ((ofi_le (okv_i o_x) r0).mpr q))) fr ms hst)
set_option maxHeartbeats 4000000 in
theorem pc_icmp_le (X : mX) (n : Int) : PC X (.if_icmp .le n) := by
  intro d fin k pc nx ins ls st sh f Q hk hdg hnx hrs h p l e R s m args below meth c bs wt bb cA D c0 s0 Z fr H locs lz ms
  obtain ⟨-, hx, hb, hml, hown, hts, hini, hST, hsz, hd, hlo, hfc, hfs, hret⟩ := id fr
  obtain ⟨hP, hS, hSh, hF, hls, hst, hl, hln, hc0, hs0, hlf, hsf⟩ := id ms
  obtain ⟨hnw, ha5, ha2, hK, hZ, hT, hX, hbl, hbb, hx32, hxl⟩ := id hST
  have hD : va_D (fun q => bs ≤ q) (mwo cA bs wt bb sh f) := mwo_D
  obtain rfl : nx = pc + 3 := hnx
  change decode _ _ = .ok ((.if_icmp .le n), 3) at hdg
  have h0 : 0 ≤ (pc : Int) + n := by
    by_cases hc : 0 ≤ (pc : Int) + n
    · exact hc
    · simp [rsv, rjmp, hc] at hrs
  obtain rfl : Instr.if_icmp .le (pc + n) = ins := by simpa [rsv, rjmp, h0] using hrs
  have ht : (pc : Int) + n = (((pc : Int) + n).toNat : Int) := (Int.toNat_of_nonneg h0).symm
  have h2 := popI_sp h; clear h; obtain ⟨y, s_y, rfl, h⟩ := h2
  have h2 := popI_sp h; clear h; obtain ⟨x, s_x, rfl, h⟩ := h2
  obtain ⟨o_y, hst⟩ := fc1 hst
  obtain ⟨o_x, hst⟩ := fc1 hst
  simp only [List.map_cons, mrv_i, mrv_l]
  exact lv_icmp_le hx hb hdg ht (fun z => PW_go (h.1 ((ofi_le (okv_i o_x) (okv_i o_y)).mp z)) fr ms hst) (fun z => PW_go (h.2 (fun q => z ((ofi_le (okv_i o_x) (okv_i o_y)).mpr q))) fr ms hst)
set_option maxHeartbeats 4000000 in
theorem pc_ifnull (X : mX) (n : Int) : PC X (.ifnull n) := by
  intro d fin k pc nx ins ls st sh f Q hk hdg hnx hrs h p l e R s m args below meth c bs wt bb cA D c0 s0 Z fr H locs lz ms
  obtain ⟨-, hx, hb, hml, hown, hts, hini, hST, hsz, hd, hlo, hfc, hfs, hret⟩ := id fr
  obtain ⟨hP, hS, hSh, hF, hls, hst, hl, hln, hc0, hs0, hlf, hsf⟩ := id ms
  obtain ⟨hnw, ha5, ha2, hK, hZ, hT, hX, hbl, hbb, hx32, hxl⟩ := id hST
  have hD : va_D (fun q => bs ≤ q) (mwo cA bs wt bb sh f) := mwo_D
  obtain rfl : nx = pc + 3 := hnx
  change decode _ _ = .ok ((.ifnull n), 3) at hdg
  have h0 : 0 ≤ (pc : Int) + n := by
    by_cases hc : 0 ≤ (pc : Int) + n
    · exact hc
    · simp [rsv, rjmp, hc] at hrs
  obtain rfl : Instr.ifnull (pc + n) = ins := by simpa [rsv, rjmp, h0] using hrs
  have ht : (pc : Int) + n = (((pc : Int) + n).toNat : Int) := (Int.toNat_of_nonneg h0).symm
  have h2 := popR_sp h; clear h; obtain ⟨x, s_x, rfl, h⟩ := h2
  obtain ⟨o_x, hst2⟩ := fc1 hst
  rw [List.map_cons, mrv_r]
  by_cases hx0 : x = 0
  · subst hx0
    exact lv_ifnullN hx hb hdg ht (PW_go (h.1 rfl) fr ms hst2)
  · obtain ⟨a, ha⟩ := mad_ne (bs := bs) (wt := wt) (bb := bb) hx0
    rw [ha]
    exact lv_ifnull hx hb hdg (PW_go (h.2 hx0) fr ms hst2)
set_option maxHeartbeats 4000000 in
theorem pc_ifnonnull (X : mX) (n : Int) : PC X (.ifnonnull n) := by
  intro d fin k pc nx ins ls st sh f Q hk hdg hnx hrs h p l e R s m args below meth c bs wt bb cA D c0 s0 Z fr H locs lz ms
  obtain ⟨-, hx, hb, hml, hown, hts, hini, hST, hsz, hd, hlo, hfc, hfs, hret⟩ := id fr
  obtain ⟨hP, hS, hSh, hF, hls, hst, hl, hln, hc0, hs0, hlf, hsf⟩ := id ms
  obtain ⟨hnw, ha5, ha2, hK, hZ, hT, hX, hbl, hbb, hx32, hxl⟩ := id hST
  have hD : va_D (fun q => bs ≤ q) (mwo cA bs wt bb sh f) := mwo_D
  obtain rfl : nx = pc + 3 := hnx
  change decode _ _ = .ok ((.ifnonnull n), 3) at hdg
  have h0 : 0 ≤ (pc : Int) + n := by
    by_cases hc : 0 ≤ (pc : Int) + n
    · exact hc
    · simp [rsv, rjmp, hc] at hrs
  obtain rfl : Instr.ifnonnull (pc + n) = ins := by simpa [rsv, rjmp, h0] using hrs
  have ht : (pc : Int) + n = (((pc : Int) + n).toNat : Int) := (Int.toNat_of_nonneg h0).symm
  have h2 := popR_sp h; clear h; obtain ⟨x, s_x, rfl, h⟩ := h2
  obtain ⟨o_x, hst2⟩ := fc1 hst
  rw [List.map_cons, mrv_r]
  by_cases hx0 : x = 0
  · subst hx0
    exact lv_ifnonnullN hx hb hdg (PW_go (h.2 rfl) fr ms hst2)
  · obtain ⟨a, ha⟩ := mad_ne (bs := bs) (wt := wt) (bb := bb) hx0
    rw [ha]
    exact lv_ifnonnull hx hb hdg ht (PW_go (h.1 hx0) fr ms hst2)
set_option maxHeartbeats 4000000 in
theorem pc_tableswitch (X : mX) (df lo hi : Int) (os : Array Int) : PC X (.tableswitch df lo hi os) := by
  intro d fin k pc nx ins ls st sh f Q hk hdg hnx hrs h p l e R s m args below meth c bs wt bb cA D c0 s0 Z fr H locs lz ms
  obtain ⟨-, hx, hb, hml, hown, hts, hini, hST, hsz, hd, hlo, hfc, hfs, hret⟩ := id fr
  obtain ⟨hP, hS, hSh, hF, hls, hst, hl, hln, hc0, hs0, hlf, hsf⟩ := id ms
  obtain ⟨hnw, ha5, ha2, hK, hZ, hT, hX, hbl, hbb, hx32, hxl⟩ := id hST
  have hD : va_D (fun q => bs ≤ q) (mwo cA bs wt bb sh f) := mwo_D
  have h0 : 0 ≤ (pc : Int) + df ∧ os.all (fun o => decide (0 ≤ (pc : Int) + o)) = true := by
    by_cases hc : 0 ≤ (pc : Int) + df ∧ os.all (fun o => decide (0 ≤ (pc : Int) + o)) = true
    · exact hc
    · simp only [rsv, if_neg hc] at hrs
      cases hrs
  obtain rfl : Instr.tableswitch (pc + df) lo hi (os.map (fun o => pc + o)) = ins := by
    simp only [rsv, if_pos h0] at hrs
    exact Option.some.inj hrs
  have h2 := popI_sp h; clear h; obtain ⟨x, s_x, rfl, h⟩ := h2
  obtain ⟨o_x, hst⟩ := fc1 hst
  simp only [List.map_cons, mrv_i, mrv_l]
  have hxt := ofi_t (okv_i o_x)
  by_cases hin : lo ≤ x ∧ x ≤ hi
  · obtain ⟨o1, e1, h⟩ := h.2 hin.1 hin.2
    rw [Array.getElem?_map] at e1
    cases e2 : os[(x - lo).toNat]? with
    | none => rw [e2] at e1; cases e1
    | some o2 =>
      rw [e2] at e1
      obtain rfl : (pc : Int) + o2 = o1 := Option.some.inj e1
      have h02 : 0 ≤ (pc : Int) + o2 := by
        have := Array.all_eq_true.mp h0.2
        obtain ⟨hlt, he⟩ := Array.getElem?_eq_some_iff.mp e2
        have z := this _ hlt
        rw [he] at z
        simpa using z
      exact lv_tableIn hx hb hdg (by rw [hxt]; omega) (by rw [hxt]; omega) (by rw [hxt]; exact e2) (Int.toNat_of_nonneg h02).symm (PW_go h fr ms hst)
  · exact lv_tableOut hx hb hdg (by rw [hxt]; omega) (Int.toNat_of_nonneg h0.1).symm (PW_go (h.1 (by omega)) fr ms hst)
