/-! making cells -/
theorem dv_o {bs wt bb c j : Nat} (hc : c < 10) (hj : j < kF c) : defaultValue (kY c j) = vp_V ((List.range (kF c)).map (fun k => mrv bs wt bb (mtg c k, 0))) j := by
  unfold vp_V
  rw [List.getD_eq_getElem?_getD, List.getElem?_map, List.getElem?_range hj]
  show _ = mrv bs wt bb (mtg c j, 0)
  rw [mtg_eq hc]
  have := kT_tk c hc j hj
  cases hk : kY c j <;> rw [hk] at this <;> first | rfl | cases this
section MK
variable {X : mX} {d : Nat} {fin : mSh} {k nx : Nat} {ls st : List mV} {sh : mSh} {f : mF} {Qm : mQ} {p : Program} {l : Launch} {e : Env} {R : Room} {s : State} {m : MethodId} {args : Array Value} {below : List Frame} {meth : Method} {c : Code} {bs wt bb : Nat} {cA : Nat → ClassId} {D : va_G} {c0 s0 : Nat} {Z : State → Prop} {H : Heap} {locs : List Loc} {lz : Array Slot}
/-- behind a cell that was made -/
theorem PW_mk {q : Nat × Nat} {H1 : Heap} (h : PW X d fin k nx ls ((2, (sh.length : Int) + 1) :: st) (sh ++ [q]) (mze f sh.length) Qm) (fr : mFR X d fin k Qm p l e R s m args below meth c bs wt bb cA D c0 s0 Z) (ms : mMS k bs wt bb cA D c0 s0 fin s ls st sh f H locs lz) (hst : ∀ v ∈ st, okv v) (hH : H.size = bs + sh.length) (h1 : q.1 < 14) (h2 : q.1 < 10 → q.2 = kF q.1) (h3 : sh.length + 1 ≤ fin.length) (h4 : mtot sh + q.2 ≤ mtot fin) (z1 : H1.size = H.size + 1) (o1 : ∀ a, a < H.size → H1[a]? = H[a]?) (hc : va_at D vwCl (bs + sh.length, mce cA bs wt bb q (fun _ => 0)) H1) : W p l e R s m args below meth c H1 locs (sh.length - c0 + 1) (mtot sh - s0 + q.2) Z (F0 m nx lz (.ref H.size :: st.map (mrv bs wt bb))) := by
  obtain ⟨hP, hS, hSh, hF, hls, -, hl, hln, hc0, hs0, hlf, hsf⟩ := ms
  have hk : ∀ (k : Nat) (x : Nat × va_E), (mwo cA bs wt bb sh f)[k]? = some x → H1[x.1]? = H[x.1]? := fun k x hx => o1 x.1 ((hP k x hx).lt)
  have hP1 : va_P D vwCl (mwo cA bs wt bb (sh ++ [q]) (mze f sh.length)) H1 := by
    rw [mwo_push]
    refine (hP.kept hk).app (fun k x hx => ?_)
    have hz : k < 1 := (List.getElem?_eq_some_iff.mp hx).1
    rw [show k = 0 by omega] at hx
    cases hx
    exact hc
  have hS1 : va_S (fun q => bs ≤ q) s.heap H1 locs := ⟨Nat.le_trans hS.1 (by omega), fun x h1 h2 => (o1 x (Nat.lt_of_lt_of_le h1 hS.1)).trans (hS.2.1 x h1 h2), hS.2.2⟩
  have z := h p l e R s m args below meth c bs wt bb cA D c0 s0 Z fr H1 locs lz ⟨hP1, hS1, okSh_push hSh h1 h2, okF_push hF, hls, fc2 (vr _) hst, hl, hln, by simp; omega, by rw [mtot_push]; omega, by simp; omega, by rw [mtot_push]; omega⟩
  rw [List.map_cons, mrv_p (by omega), show bs + ((sh.length : Int) + 1 - 1).toNat = H.size by omega] at z
  exact W.cs (by simp; omega) (by rw [mtot_push]; omega) z
end MK
set_option maxHeartbeats 4000000 in
theorem pc_new (X : mX) (i : Nat) : PC X (.new i) := by
  intro d fin k pc nx ins ls st sh f Q hk hdg hnx hrs h p l e R s m args below meth c bs wt bb cA D c0 s0 Z fr H locs lz ms
  obtain ⟨-, hx, hb, hml, hown, hts, hini, hST, hsz, hd, hlo, hfc, hfs, hret⟩ := id fr
  obtain ⟨hP, hS, hSh, hF, hls, hst, hl, hln, hc0, hs0, hlf, hsf⟩ := id ms
  obtain ⟨hnw, ha5, ha2, hK, hZ, hT, hX, hbl, hbb, hx32, hxl⟩ := id hST
  have hD : va_D (fun q => bs ≤ q) (mwo cA bs wt bb sh f) := mwo_D
  obtain rfl : nx = pc + 3 := hnx
  change decode _ _ = .ok ((.new i), 3) at hdg
  cases hfd : (KLs.getD (mt k).1 []).find? (fun e => e.1 == i) with
  | none => simp only [rsv, hfd, Option.map_none, Option.bind_none] at hrs; cases hrs
  | some en =>
  obtain ⟨hme, he1⟩ := fnd hfd
  subst he1
  have hok := KL_ok (mt k).1 (mtc hk) en hme
  obtain rfl : Instr.new en.2.1 = ins := by
    simp only [rsv, hfd, Option.map_some] at hrs
    exact Option.some.inj hrs
  obtain ⟨-, h1, h2, h⟩ := h
  have hc10 := hok.2
  refine W_size (fun hsz2 => ?_)
  have hH := H_size ms hsz hsz2
  have hKn := hK.1 en.2.1 _ (vw_at en.2.1 hc10)
  refine W.newcK hx hb hown (hts _ (gt_in hok.1)) (hts _ (gt_in (ip_ok en.2.1 hc10).1)) (hts _ (gt_in (ip_ok en.2.1 hc10).2)) rfl hdg (by omega) (by omega) hKn.2.1 rfl (fun H1 kC hkC e1 z1 o1 => ?_)
  refine PW_mk (q := (en.2.1, kF en.2.1)) h fr ms hst hH (by show en.2.1 < 14; omega) (fun _ => rfl) h1 h2 z1 o1 ?_
  rw [← hH, mce_o hc10]
  exact ⟨_, vw_at en.2.1 hc10, (u_born (kY en.2.1) hts (gw_ws hc10) hKn hkC e1 (kT_ty en.2.1 hc10)).to (fun j hj => dv_o hc10 hj)⟩
set_option maxHeartbeats 4000000 in
theorem pc_newarray_int (X : mX) : PC X (.newarray .int) := by
  intro d fin k pc nx ins ls st sh f Q hk hdg hnx hrs h p l e R s m args below meth c bs wt bb cA D c0 s0 Z fr H locs lz ms
  obtain ⟨-, hx, hb, hml, hown, hts, hini, hST, hsz, hd, hlo, hfc, hfs, hret⟩ := id fr
  obtain ⟨hP, hS, hSh, hF, hls, hst, hl, hln, hc0, hs0, hlf, hsf⟩ := id ms
  obtain ⟨hnw, ha5, ha2, hK, hZ, hT, hX, hbl, hbb, hx32, hxl⟩ := id hST
  have hD : va_D (fun q => bs ≤ q) (mwo cA bs wt bb sh f) := mwo_D
  obtain rfl : Instr.newarray .int = ins := by simpa [rsv] using hrs
  obtain rfl : nx = pc + 2 := hnx
  change decode _ _ = .ok ((.newarray .int), 2) at hdg
  have h2 := popI_sp h; clear h; obtain ⟨n, s_n, rfl, h⟩ := h2
  obtain ⟨h0, h9, h1, h2, h⟩ := h
  obtain ⟨o_n, hst⟩ := fc1 hst
  rw [List.map_cons, mrv_i]
  refine W_size (fun hsz2 => ?_)
  have ms1 : mMS k bs wt bb cA D c0 s0 fin s ls s_n sh f H locs lz := ⟨hP, hS, hSh, hF, hls, hst, hl, hln, hc0, hs0, hlf, hsf⟩
  have hH := H_size ms1 hsz hsz2
  have hnt : (Int32.ofInt n).toNatClampNeg = n.toNat := Int32.toNatClampNeg_ofInt_of_le (by omega) (by omega)
  refine va_newaK hx hb (hts _ (gt_in sp_ok1.1)) rfl hdg rfl (fun q => ?_) hnt (show n.toNat * componentBytes .int ≤ 536870912 from ?_) (by omega) (by omega) rfl (fun H1 cA1 e1 z1 o1 hAr hNm => ?_)
  · rw [show (0 : Int32) = Int32.ofInt 0 by decide, ofi_lt (okv_i o_n) r0] at q
    omega
  · show n.toNat * 4 ≤ _
    omega
  · refine PW_mk (q := (10, n.toNat)) h fr ms1 hst hH (by show 10 < 14; omega) (fun z => absurd z (by show ¬ 10 < 10; omega)) h1 h2 z1 o1 ?_
    have hcc : cA1 = cA 10 := Option.some.inj (hNm.symm.trans (hK.2 0 _ rfl).2)
    rw [hcc] at e1
    rw [← hH, mce_10]
    exact e1
set_option maxHeartbeats 4000000 in
theorem pc_newarray_bool (X : mX) : PC X (.newarray .boolean) := by
  intro d fin k pc nx ins ls st sh f Q hk hdg hnx hrs h p l e R s m args below meth c bs wt bb cA D c0 s0 Z fr H locs lz ms
  obtain ⟨-, hx, hb, hml, hown, hts, hini, hST, hsz, hd, hlo, hfc, hfs, hret⟩ := id fr
  obtain ⟨hP, hS, hSh, hF, hls, hst, hl, hln, hc0, hs0, hlf, hsf⟩ := id ms
  obtain ⟨hnw, ha5, ha2, hK, hZ, hT, hX, hbl, hbb, hx32, hxl⟩ := id hST
  have hD : va_D (fun q => bs ≤ q) (mwo cA bs wt bb sh f) := mwo_D
  obtain rfl : Instr.newarray .boolean = ins := by simpa [rsv] using hrs
  obtain rfl : nx = pc + 2 := hnx
  change decode _ _ = .ok ((.newarray .boolean), 2) at hdg
  have h2 := popI_sp h; clear h; obtain ⟨n, s_n, rfl, h⟩ := h2
  obtain ⟨h0, h9, h1, h2, h⟩ := h
  obtain ⟨o_n, hst⟩ := fc1 hst
  rw [List.map_cons, mrv_i]
  refine W_size (fun hsz2 => ?_)
  have ms1 : mMS k bs wt bb cA D c0 s0 fin s ls s_n sh f H locs lz := ⟨hP, hS, hSh, hF, hls, hst, hl, hln, hc0, hs0, hlf, hsf⟩
  have hH := H_size ms1 hsz hsz2
  have hnt : (Int32.ofInt n).toNatClampNeg = n.toNat := Int32.toNatClampNeg_ofInt_of_le (by omega) (by omega)
  refine va_newaK hx hb (hts _ (gt_in sp_ok1.2)) rfl hdg rfl (fun q => ?_) hnt (show n.toNat * componentBytes .boolean ≤ 536870912 from ?_) (by omega) (by omega) rfl (fun H1 cA1 e1 z1 o1 hAr hNm => ?_)
  · rw [show (0 : Int32) = Int32.ofInt 0 by decide, ofi_lt (okv_i o_n) r0] at q
    omega
  · show n.toNat * 1 ≤ _
    omega
  · refine PW_mk (q := (11, n.toNat)) h fr ms1 hst hH (by show 11 < 14; omega) (fun z => absurd z (by show ¬ 11 < 10; omega)) h1 h2 z1 o1 ?_
    have hcc : cA1 = cA 11 := Option.some.inj (hNm.symm.trans (hK.2 1 _ rfl).2)
    rw [hcc] at e1
    rw [← hH, mce_11]
    exact e1
set_option maxHeartbeats 4000000 in
theorem pc_anewarray (X : mX) (i : Nat) : PC X (.anewarray i) := by
  intro d fin k pc nx ins ls st sh f Q hk hdg hnx hrs h p l e R s m args below meth c bs wt bb cA D c0 s0 Z fr H locs lz ms
  obtain ⟨-, hx, hb, hml, hown, hts, hini, hST, hsz, hd, hlo, hfc, hfs, hret⟩ := id fr
  obtain ⟨hP, hS, hSh, hF, hls, hst, hl, hln, hc0, hs0, hlf, hsf⟩ := id ms
  obtain ⟨hnw, ha5, ha2, hK, hZ, hT, hX, hbl, hbb, hx32, hxl⟩ := id hST
  have hD : va_D (fun q => bs ≤ q) (mwo cA bs wt bb sh f) := mwo_D
  obtain rfl : nx = pc + 3 := hnx
  change decode _ _ = .ok (.anewarray i, 3) at hdg
  have hw : ∃ en : Nat × Nat × Nat, (KLs.getD (mt k).1 []).find? (fun e => e.1 == i) = some en ∧ (en.2.1 = 5 ∨ en.2.1 = 2) := by
    cases hfd : (KLs.getD (mt k).1 []).find? (fun e => e.1 == i) with
    | none => simp only [rsv, hfd, Option.bind_none] at hrs; cases hrs
    | some en =>
      refine ⟨en, rfl, ?_⟩
      by_cases hc : en.2.1 = 5 ∨ en.2.1 = 2
      · exact hc
      · simp only [rsv, hfd, Option.bind_some, if_neg hc] at hrs
        cases hrs
  obtain ⟨en, hfd, hc52⟩ := hw
  obtain ⟨hme, he1⟩ := fnd hfd
  subst he1
  have hok := KL_ok (mt k).1 (mtc hk) en hme
  obtain rfl : Instr.anewarray en.2.1 = ins := by
    simp only [rsv, hfd, Option.bind_some, if_pos hc52] at hrs
    exact Option.some.inj hrs
  have h2 := popI_sp h; clear h; obtain ⟨n, s_n, rfl, h⟩ := h2
  obtain ⟨h0, h9, h1, h2, h⟩ := h
  obtain ⟨o_n, hst⟩ := fc1 hst
  rw [List.map_cons, mrv_i]
  refine W_size (fun hsz2 => ?_)
  have ms1 : mMS k bs wt bb cA D c0 s0 fin s ls s_n sh f H locs lz := ⟨hP, hS, hSh, hF, hls, hst, hl, hln, hc0, hs0, hlf, hsf⟩
  have hH := H_size ms1 hsz hsz2
  have hnt : (Int32.ofInt n).toNatClampNeg = n.toNat := Int32.toNatClampNeg_ofInt_of_le (by omega) (by omega)
  have hn0 : ¬ Int32.ofInt n < 0 := fun q => by
    rw [show (0 : Int32) = Int32.ofInt 0 by decide, ofi_lt (okv_i o_n) r0] at q
    omega
  rcases hc52 with hc5 | hc2
  · have hC : kN en.2.1 = RX5 := by rw [hc5]; rfl
    refine W.anew (C := RX5) hx hb hown (by have := hts _ (gt_in hok.1); rw [hC] at this; exact this) (va_AO.use ha5) rfl hdg rfl hn0 (by rw [hnt]; omega) (by omega) (by rw [hnt]; omega) (fun cA1 kA comp f1 f2 f3 f4 => ?_)
    have hcc : cA1 = cA 12 := by
      obtain ⟨_, _, _, _, _, q4⟩ := (hK.2 2 _ rfl).2
      exact Option.some.inj (f1.symm.trans q4)
    rw [hcc, hnt]
    have hcode : (if en.2.1 = 5 then 12 else 13) = 12 := by rw [hc5]; rfl
    rw [hcode] at h
    refine PW_mk (q := (12, n.toNat)) h fr ms1 hst hH (by show 12 < 14; omega) (fun z => absurd z (by show ¬ 12 < 10; omega)) h1 h2 (by rw [Array.size_push]) (fun a ha => by rw [Array.getElem?_push, if_neg (Nat.ne_of_lt ha)]) ?_
    rw [← hH, mce_12]
    show (H.push _)[H.size]? = some _
    rw [Array.getElem?_push_size, arrV_new]
    rfl
  · have hC : kN en.2.1 = RX2 := by rw [hc2]; rfl
    refine W.anew (C := RX2) hx hb hown (by have := hts _ (gt_in hok.1); rw [hC] at this; exact this) (va_AO.use ha2) rfl hdg rfl hn0 (by rw [hnt]; omega) (by omega) (by rw [hnt]; omega) (fun cA1 kA comp f1 f2 f3 f4 => ?_)
    have hcc : cA1 = cA 13 := by
      obtain ⟨_, _, _, _, _, q4⟩ := (hK.2 3 _ rfl).2
      exact Option.some.inj (f1.symm.trans q4)
    rw [hcc, hnt]
    have hcode : (if en.2.1 = 5 then 12 else 13) = 13 := by rw [hc2]; rfl
    rw [hcode] at h
    refine PW_mk (q := (13, n.toNat)) h fr ms1 hst hH (by show 13 < 14; omega) (fun z => absurd z (by show ¬ 13 < 10; omega)) h1 h2 (by rw [Array.size_push]) (fun a ha => by rw [Array.getElem?_push, if_neg (Nat.ne_of_lt ha)]) ?_
    rw [← hH, mce_13]
    show (H.push _)[H.size]? = some _
    rw [Array.getElem?_push_size, arrV_new]
    rfl
/-! calls -/
noncomputable def mW (y : Nat) : List Cond := Cond.code (mt y).2.1 (mt y).2.2.1 (mt y).2.2.2.1 (mt y).2.2.2.2.1 :: lw_tbl.filter goodWord
theorem mW_good {y : Nat} (hy : y < 233) : GoodIn (lw_tbl.filter goodWord) (mW y) := by
  intro w hw
  rcases List.mem_cons.mp hw with rfl | h
  · exact ⟨List.mem_filter.mpr ⟨List.mem_of_getElem? (mt_w y hy), rfl⟩, good_of_word rfl⟩
  · exact ⟨h, good_of_word (List.mem_filter.mp h).2⟩
theorem mt_mx : ∀ k, k < 233 → (mt k).2.2.2.1 < 50 := by decide +kernel
def mrm (d a b : Nat) : Room := { frames := d, cells := a, slots := b, locals := 100 * d }
def mPc (X : mX) (bs wt bb : Nat) (cA : Nat → ClassId) (D : va_G) (sh : mSh) (f : mF) (as : List mV) : Array Value → State → Prop := va_Pc (as.map (mrv bs wt bb)) (fun U => U.heap.size = bs + sh.length ∧ va_P D vwCl (mwo cA bs wt bb sh f) U.heap ∧ mST X bs wt bb cA D U)
def mQc (bs wt bb : Nat) (cA : Nat → ClassId) (D : va_G) (fin : mSh) (Q : mQ) : Array Value → State → Outcome → State → Prop := fun _ st oc t => (∃ (r : Option mV) (f' : mF), oc = .returned (r.map (mrv bs wt bb)) ∧ Q r f' ∧ (∀ v, r = some v → okv v) ∧ va_P D vwCl (mwo cA bs wt bb fin f') t.heap ∧ okF fin f' ∧ okSh fin) ∧ va_F (fun q => bs ≤ q) st t
theorem mST_same {X : mX} {bs wt bb : Nat} {cA : Nat → ClassId} {D : va_G} {U V : State} (hv : U.vm = V.vm) (hh : V.heap = U.heap) (h : mST X bs wt bb cA D U) : mST X bs wt bb cA D V := by
  obtain ⟨h1, h2, h3, h4, h5, h6, h7, h8, h9⟩ := h
  have hA : U.vm.Alike V.vm := by rw [hv]; exact Vm.Alike.refl _
  refine ⟨fun a i y h hm => va_Nw.same rfl hv (h1 a i y h hm), h2.moved hA, h3.moved hA, h4.moved hA, ?_, ?_, ?_, by rw [hh]; exact h8, h9⟩
  · rw [hh]; exact h5.moved hA
  · rw [hh]; exact h6.moved hA
  · rw [hh]; exact h7.moved hA
theorem mST_call {X : mX} {bs wt bb : Nat} {cA : Nat → ClassId} {D : va_G} {s U : State} {H : Heap} {locs : List Loc} (hS : va_S (fun q => bs ≤ q) s.heap H locs) (hU : U.heap = H) (hW : s.WarmedH U.vm) (h : mST X bs wt bb cA D s) : mST X bs wt bb cA D U := by
  obtain ⟨h1, h2, h3, h4, h5, h6, h7, h8, h9⟩ := h
  have hA := hW.alike
  have hk : ∀ a : Nat, a < s.heap.size → ¬ bs ≤ a → U.heap[a]? = s.heap[a]? := fun a q1 q2 => by rw [hU]; exact hS.2.1 a q1 q2
  refine ⟨fun a i y h hm => va_Nw.warmM hW (h1 a i y h hm), h2.moved hA, h3.moved hA, h4.moved hA, (h5.kept hk).moved hA, (h6.kept hk).moved hA, (h7.kept (hk bb h8 (by have := h9.1; omega))).moved hA, by rw [hU]; exact Nat.lt_of_lt_of_le h8 hS.1, h9⟩
theorem mPc_blind {X : mX} {bs wt bb : Nat} {cA : Nat → ClassId} {D : va_G} {sh : mSh} {f : mF} {as : List mV} : FrameBlind (mPc X bs wt bb cA D sh f as) := by
  intro a U g mk h
  obtain ⟨h1, h2, h3, h4⟩ := h
  exact ⟨h1, h2, h3, mST_same rfl rfl h4⟩
theorem fm_le {mx : Nat} {as : List mV} (h : (ment mx as).length = mx) : (as.flatMap (fun v => if v.1 = 1 then [v, (3, 0)] else [v])).length ≤ mx := by
  unfold ment at h
  rw [List.length_append, List.length_replicate] at h
  omega
theorem ment_ok {mx : Nat} {as : List mV} (h : ∀ v ∈ as, okv v) : ∀ v ∈ ment mx as, v.1 = 3 ∨ okv v := by
  intro v hv
  unfold ment at hv
  rcases List.mem_append.mp hv with z | z
  · obtain ⟨w, hw, hz⟩ := List.mem_flatMap.mp z
    split at hz
    · simp at hz
      rcases hz with rfl | rfl
      · exact Or.inr (h _ hw)
      · exact Or.inl rfl
    · simp at hz
      subst hz
      exact Or.inr (h _ hw)
  · rw [List.mem_replicate] at z
    rw [z.2]
    exact Or.inl rfl
theorem okv_3 {v : mV} (h : okv v) : v.1 ≠ 3 := by
  rcases h with ⟨h, -⟩ | ⟨h, -⟩ | h <;> omega
set_option maxHeartbeats 4000000 in
/-- what the machine says of a method is a contract of it -/
theorem PW_met {X : mX} {d : Nat} {fin : mSh} {y : Nat} {as : List mV} {sh : mSh} {f : mF} {Q : mQ} {l : Launch} {bs wt bb : Nat} {cA : Nat → ClassId} {D : va_G} (hy : y < 233) (hy3 : y < 229 ∨ y = 232) (h : PW X d fin y 0 (ment (mt y).2.2.2.1 as) [] sh f Q) (has : ∀ v ∈ as, okv v) (hent : (ment (mt y).2.2.2.1 as).length = (mt y).2.2.2.1) (hSh : okSh sh) (hF : okF sh f) (hl1 : sh.length ≤ fin.length) (hl2 : mtot sh ≤ mtot fin) :
    Met l (mt y).2.1 (mW y) (mrm d (fin.length - sh.length) (mtot fin - mtot sh)) (mPc X bs wt bb cA D sh f as) (mQc bs wt bb cA D fin Q) (fin.length - sh.length) (mtot fin - mtot sh) (fun q => bs ≤ q) := by
  refine Met.ofW (cc := (mt y).2.2.1) (maxL := (mt y).2.2.2.1) (ret := (mt y).2.2.2.2.1) (mt_c y hy hy3).1 rfl ?_
  intro p e s m args below meth c s₁ B hml hv
  obtain ⟨rfl, hsz, hP, hST⟩ := hv
  have hx := B.exec
  have hb := B.bytes
  have hr := B.returns
  have hts := atoms_spec (ws := mW y) B.pre
  have hown : s.vm.findClass (kN (mt y).1) = some m.cls := by rw [← (mt_a y hy).1]; exact findClass_of_methodNamed B.named
  have hlocks := B.notSynchronized
  have hnm := (name_of_methodNamed B.named B.method).1
  rw [lg_entry_eq]
  refine W.cs (Nat.sub_self sh.length).symm (Nat.sub_self (mtot sh)).symm ?_
  refine h p l e _ s m _ below meth c bs wt bb cA D sh.length (mtot sh) _ ⟨by omega, hx, hb, hml, hown, fun w hw => hts w (List.mem_cons_of_mem _ hw), fun hk => hnm.trans (mt_h y hy hk).1, hST, hsz, Nat.le_refl _, Nat.le_refl _, Nat.le_refl _, Nat.le_refl _, ?_⟩ s.heap [] _ ⟨hP, va_S.rf, hSh, hF, ment_ok has, (fun v hv => by cases hv), ment_has (fun v hv => okv_3 (has v hv)) (fm_le hent), hent, Nat.le_refl _, Nat.le_refl _, hl1, hl2⟩
  intro r f' H' locs' lz pc' st' hq hP' hS' hF' hSh' hrt
  have hfr : ∀ q ∈ locs', bs ≤ q.base := hS'.2.2
  rcases hrt with ⟨x, rfl, hr32, rfl, hdg, hty⟩ | ⟨x, rfl, hr64, rfl, hdg, hty⟩ | ⟨x, rfl, rfl, hdg, hty⟩ | ⟨rfl, rfl, hdg, hty⟩
  · have hqc : ∀ t : State, t.heap = H' → s.WarmedH t.vm → mQc bs wt bb cA D fin Q (as.map (mrv bs wt bb)).toArray s (.returned (some (.int (Int32.ofInt x)))) t := fun t ht _ => ⟨⟨some (0, x), f', rfl, hq, (fun v hv => by cases hv; exact vi hr32), by rw [ht]; exact hP', hF', hSh'⟩, hS'.F ht⟩
    rcases hty with hty | ⟨hty, hz⟩
    · exact W.iret hx hb (hr.trans hty) hqc hfr hdg
    · exact W.zret hx hb (hr.trans hty) (by rcases hz with rfl | rfl <;> decide) hqc hfr hdg
  · exact W.lret hx hb (hr.trans hty) (fun t ht _ => ⟨⟨some (1, x), f', rfl, hq, (fun v hv => by cases hv; exact vl hr64), by rw [ht]; exact hP', hF', hSh'⟩, hS'.F ht⟩) hfr hdg
  · have hty2 : ∃ rt, (mt y).2.2.2.2.1 = some rt ∧ ((∃ n, rt = .object n) ∨ ∃ t, rt = .array t) := by
      unfold rtr at hty
      split at hty
      · rename_i e1; exact ⟨_, e1, Or.inl ⟨_, rfl⟩⟩
      · rename_i e1; exact ⟨_, e1, Or.inr ⟨_, rfl⟩⟩
      · cases hty
    obtain ⟨rt, e1, e2⟩ := hty2
    have hv : mrv bs wt bb (2, x) = .null ∨ ∃ a, mrv bs wt bb (2, x) = .ref a := by
      rw [mrv_r]
      cases mad bs wt bb x with
      | none => exact Or.inl rfl
      | some a => exact Or.inr ⟨a, rfl⟩
    exact W.aret hx hb (hr.trans e1) e2 hv (fun t ht _ => ⟨⟨some (2, x), f', rfl, hq, (fun v hv => by cases hv; exact vr x), by rw [ht]; exact hP', hF', hSh'⟩, hS'.F ht⟩) hfr hdg
  · exact W.vret hx hb (hr.trans hty) (fun t ht _ => ⟨⟨none, f', rfl, hq, (fun v hv => by cases hv), by rw [ht]; exact hP', hF', hSh'⟩, hS'.F ht⟩) hfr hdg
section CB
variable {X : mX} {d : Nat} {fin : mSh} {k nx : Nat} {ls st : List mV} {sh : mSh} {f : mF} {Qm : mQ} {p : Program} {l : Launch} {e : Env} {R : Room} {s : State} {m : MethodId} {args : Array Value} {below : List Frame} {meth : Method} {c : Code} {bs wt bb : Nat} {cA : Nat → ClassId} {D : va_G} {c0 s0 : Nat} {Z : State → Prop} {H : Heap} {locs : List Loc} {lz : Array Slot}
/-- behind a call -/
theorem PW_bk {pc : Nat} {rest : List mV} {fin' : mSh} {as : Array Value} {st0 : List Value} (fr : mFR X d fin k Qm p l e R s m args below meth c bs wt bb cA D c0 s0 Z) (ms : mMS k bs wt bb cA D c0 s0 fin s ls st sh f H locs lz) (hrest : ∀ v ∈ rest, okv v) (h1 : sh.length ≤ fin'.length) (h2 : mtot sh ≤ mtot fin') (h3 : fin'.length ≤ fin.length) (h4 : mtot fin' ≤ mtot fin)
    (hr : va_Run p l e R s m args below meth c H locs (sh.length - c0) (mtot sh - s0) (fin'.length - sh.length) (mtot fin' - mtot sh) (F0 m pc lz st0) (rest.map (mrv bs wt bb)) (mQc bs wt bb cA D fin' (fun r f' => PW X d fin k (pc + 3) ls (r.toList ++ rest) fin' f' Qm) as) (fun q => bs ≤ q)) :
    W p l e R s m args below meth c H locs (sh.length - c0) (mtot sh - s0) Z (F0 m pc lz st0) := by
  obtain ⟨hP, hS, hSh, hF, hls, -, hl, hln, hc0, hs0, hlf, hsf⟩ := ms
  refine mcallG hr hS (fun q h => h) (fun st oc t h => h.2) (fun v st₀ t H1 locs1 hst0 ht hqa hS1 => ?_)
  obtain ⟨⟨r, f', hoc, hq, hok, hP1, hF1, hSh1⟩, -⟩ := hqa
  have hv : v = r.map (mrv bs wt bb) := by cases hoc; rfl
  subst hv
  rw [ht] at hP1
  have z := hq p l e R s m args below meth c bs wt bb cA D c0 s0 Z fr H1 locs1 lz ⟨hP1, hS1, hSh1, hF1, hls, fun w hw => by
    rcases List.mem_append.mp hw with q | q
    · cases r with
      | none => cases q
      | some v => simp at q; subst q; exact hok _ rfl
    · exact hrest w q, hl, hln, by omega, by omega, h3, h4⟩
  refine W.cs (cells' := fin'.length - c0) (slots' := mtot fin' - s0) (by omega) (by omega) ?_
  cases r with
  | none => exact z
  | some v => exact z
theorem mcb {own : String} {index y a b : Nat} (hts : ∀ w ∈ lw_tbl.filter goodWord, w.before args s = true) (hy : y < 233) (hd1 : 1 ≤ d) (hd : d ≤ R.frames) (hlo : 100 * d ≤ R.locals) (hl : (Cond.methodLink own index (mt y).2.1).before args s = true) (hy3 : y < 229 ∨ y = 232) : CallB R s args own index (mt y).2.1 (mt y).2.2.1 (mt y).2.2.2.1 (mt y).2.2.2.2.1 (mW y) (mrm (d - 1) a b) a b (mt y).2.2.2.2.2.1 := by
  have hmx := mt_mx y hy
  refine callB_of (mt y).2.2.2.2.2.1 hts (mW_good hy) rfl rfl rfl (by rw [(mt_a y hy).1]; exact hts _ (gt_in (mt_d y hy))) hl ⟨(mt_c y hy hy3).2.1, (mt_c y hy hy3).2.2, mt_b y hy⟩ ⟨by show d - 1 + 1 ≤ _; omega, by show 8 + (_ + 11) + 100 * (d - 1) ≤ _; omega⟩
end CB
theorem rc_sp {own i kd n : Nat} (h : rcall own i kd = some n) : ∃ e, (MLs.getD own []).find? (fun e => e.1 == i) = some e ∧ e.2.1 < 233 ∧ (mt e.2.1).2.2.2.2.2.2 = kd ∧ n = e.2.1 * 1000000 + (mt e.2.1).1 * 10000 + (mt e.2.1).2.2.2.1 * 100 + ((mt e.2.1).2.2.2.2.2.1 + if kd = 1 then 0 else 1) := by
  unfold rcall at h
  cases hf : (MLs.getD own []).find? (fun e => e.1 == i) with
  | none => rw [hf] at h; cases h
  | some e =>
    rw [hf] at h
    simp only [Option.bind_some] at h
    split at h
    · rename_i hc
      cases h
      exact ⟨e, rfl, hc.1, hc.2, rfl⟩
    · cases h
theorem cd_n {a b c n : Nat} (h1 : b < 100) (h2 : c < 100) (h3 : n < 100) : (a * 1000000 + b * 10000 + c * 100 + n) % 100 = n ∧ (a * 1000000 + b * 10000 + c * 100 + n) / 100 % 100 = c ∧ (a * 1000000 + b * 10000 + c * 100 + n) / 10000 % 100 = b ∧ (a * 1000000 + b * 10000 + c * 100 + n) / 1000000 = a := by
  refine ⟨?_, ?_, ?_, ?_⟩ <;> omega
theorem tk_len {st : List mV} {n : Nat} (h : n ≤ st.length) : (st.take n).reverse.length = n := by simp; omega
theorem tk_st {st : List mV} {n : Nat} {as : List mV} (h : (st.take n).reverse = as) : st = as.reverse ++ st.drop n := by
  rw [← h, List.reverse_reverse, List.take_append_drop]
set_option maxHeartbeats 4000000 in
theorem pc_invokevirtual (X : mX) (i : Nat) : PC X (.invokevirtual i) := by
  intro d fin k pc nx ins ls st sh f Q hk hdg hnx hrs h p l e R s m args below meth c bs wt bb cA D c0 s0 Z fr H locs lz ms
  obtain ⟨-, hx, hb, hml, hown, hts, hini, hST, hsz, hd, hlo, hfc, hfs, hret⟩ := id fr
  obtain ⟨hP, hS, hSh, hF, hls, hst, hl, hln, hc0, hs0, hlf, hsf⟩ := id ms
  obtain ⟨hnw, ha5, ha2, hK, hZ, hT, hX, hbl, hbb, hx32, hxl⟩ := id hST
  have hD : va_D (fun q => bs ≤ q) (mwo cA bs wt bb sh f) := mwo_D
  obtain rfl : nx = pc + 3 := hnx
  change decode _ _ = .ok ((.invokevirtual i), 3) at hdg
  have hw : ∃ n, rcall (mt k).1 i 0 = some n ∧ Instr.invokevirtual n = ins := by
    cases hrc : rcall (mt k).1 i 0 with
    | none => simp [rsv, hrc] at hrs
    | some n => exact ⟨n, rfl, by simpa [rsv, hrc] using hrs⟩
  obtain ⟨n, hrc, rfl⟩ := hw
  simp only [ex1, mcl] at h
  obtain ⟨en, hfd, hy, hkd, hcode⟩ := rc_sp hrc
  obtain ⟨hme, he1⟩ := fnd hfd
  subst he1
  have hmt := mt_a en.2.1 hy
  have hy3 : en.2.1 < 229 ∨ en.2.1 = 232 := by
    rcases Nat.lt_or_ge en.2.1 229 with z | z
    · exact Or.inl z
    · exfalso
      have hh : ∀ k, k < 233 → 229 ≤ k → (mt k).2.2.2.2.2.2 = 1 := by decide +kernel
      rw [hh _ hy z] at hkd
      cases hkd
  have hmx := mt_mx en.2.1 hy
  obtain ⟨q1, q2, q3, q4⟩ := cd_n (a := en.2.1) (b := (mt en.2.1).1) (c := (mt en.2.1).2.2.2.1) (n := (mt en.2.1).2.2.2.2.2.1 + (if 0 = 1 then 0 else 1)) (by omega) (by omega) (by have := hmt.2.2.2.1; split <;> omega)
  rw [← hcode] at q1 q2 q3 q4
  obtain ⟨g1, g2, g3, g4, g5, fin', g6, g7, g8, g9, h⟩ := h
  rw [q4, q2] at h
  rw [q2] at g5
  have hlen := tk_len g1
  generalize has : (st.take (n % 100)).reverse = as at h g4 g5 hlen
  have hstk := tk_st has
  generalize hre : st.drop (n % 100) = rest at h g2 hstk
  rw [q1] at hlen
  have hokA : ∀ v ∈ as, okv v := fun v hv => hst v (by rw [hstk]; exact List.mem_append_left _ (List.mem_reverse.mpr hv))
  have hokR : ∀ v ∈ rest, okv v := fun v hv => hst v (by rw [hstk]; exact List.mem_append_right _ hv)
  refine W_size (fun hsz2 => ?_)
  have hH := H_size ms hsz hsz2
  have hM := PW_met (l := l) (bs := bs) (wt := wt) (bb := bb) (cA := cA) (D := D) hy hy3 h hokA g5 hSh hF g6 g7
  have hPc : ∀ U : State, U.heap = H → s.WarmedH U.vm → mPc X bs wt bb cA D sh f as (as.map (mrv bs wt bb)).toArray U := fun U hU hW => ⟨rfl, by rw [hU]; exact hH, by rw [hU]; exact hP, mST_call hS hU hW hST⟩
  refine PW_bk fr ms hokR g6 g7 g8 g9 (as := (as.map (mrv bs wt bb)).toArray) ?_
  have hrW : 2 * (F0 m pc lz (st.map (mrv bs wt bb))).monitorRoom + ((rest.map (mrv bs wt bb)).map fun v => v.category).sum ≤ 8 := lv_room (by rw [mws_cat]; exact g2)
  have hfit : sh.length - c0 + (fin'.length - sh.length) ≤ R.cells ∧ mtot sh - s0 + (mtot fin' - mtot sh) ≤ R.slots := ⟨by omega, by omega⟩
  have h999 : en.2.1 ≠ 999 := by omega
  have hnest : en.2.2.1 = 0 := by
    rcases (ML_ok1 _ (mtc hk) en hme h999).2 with z | z
    · exact z
    · have := (ML_ok3 _ (mtc hk) en hme h999 z).1
      omega
  have hl1 := hts _ (gt_in (ML_ok2 _ (mtc hk) en hme h999 hnest))
  obtain ⟨hsl, hc10⟩ := mt_g en.2.1 hy hkd
  match as, g4, hlen, hstk, hM, hPc with
  | [], g4, _, _, _, _ => exact g4.elim
  | (0, a) :: t, g4, _, _, _, _ => exact g4.elim
  | (1, a) :: t, g4, _, _, _, _ => exact g4.elim
  | (q + 3, a) :: t, g4, _, _, _, _ => exact g4.elim
  | (2, a) :: t, g4, hlen, hstk, hM, hPc =>
    change mis sh a (n / 10000 % 100) at g4
    rw [q3] at g4
    obtain ⟨nn, hq, -⟩ := mis_at (by omega) g4
    have he := mwo_at (cA := cA) (bs := bs) (wt := wt) (bb := bb) (f := f) hq
    rw [mce_o hc10] at he
    have hrv : mrv bs wt bb (2, a) = .ref (bs + (a - 1).toNat) := mrv_p g4.1
    have hPc2 : ∀ U : State, U.heap = H → s.WarmedH U.vm → mPc X bs wt bb cA D sh f ((2, a) :: t) (Value.ref (bs + (a - 1).toNat) :: t.map (mrv bs wt bb)).toArray U := by rw [← hrv]; exact hPc
    rw [List.map_cons, hrv]
    exact va_runV (As := t.map (mrv bs wt bb)) (C := kN (mt en.2.1).1) ⟨hx, hb, hml, hown, hts⟩ hM ⟨mcb hts hy g3 hd hlo hl1 hy3, hts _ (gt_in (mt_f en.2.1 hy (by omega))), hts _ (gt_in hsl)⟩ ⟨mPc_blind, va_recv hK hP (vw_at _ hc10) he, hPc2⟩ rfl (by simp at hlen ⊢; exact hlen) hl.1 (by rw [hstk]; simp [hrv]) hrW hdg hfit
set_option maxHeartbeats 4000000 in
theorem pc_invokestatic (X : mX) (i : Nat) : PC X (.invokestatic i) := by
  intro d fin k pc nx ins ls st sh f Q hk hdg hnx hrs h p l e R s m args below meth c bs wt bb cA D c0 s0 Z fr H locs lz ms
  obtain ⟨-, hx, hb, hml, hown, hts, hini, hST, hsz, hd, hlo, hfc, hfs, hret⟩ := id fr
  obtain ⟨hP, hS, hSh, hF, hls, hst, hl, hln, hc0, hs0, hlf, hsf⟩ := id ms
  obtain ⟨hnw, ha5, ha2, hK, hZ, hT, hX, hbl, hbb, hx32, hxl⟩ := id hST
  have hD : va_D (fun q => bs ≤ q) (mwo cA bs wt bb sh f) := mwo_D
  obtain rfl : nx = pc + 3 := hnx
  change decode _ _ = .ok ((.invokestatic i), 3) at hdg
  have hml0 : ∀ en, (MLs.getD (mt k).1 []).find? (fun e => e.1 == i) = some en → en.2.1 < 233 → (mt en.2.1).2.2.2.2.2.2 = 1 → (Cond.methodLink (kN (mt k).1) i (mt en.2.1).2.1).before args s = true := by
    intro en hfd hy hkd
    obtain ⟨hme, he1⟩ := fnd hfd
    subst he1
    have h999 : en.2.1 ≠ 999 := by omega
    have hnest : en.2.2.1 = 0 := by
      rcases (ML_ok1 _ (mtc hk) en hme h999).2 with z | z
      · exact z
      · have := (ML_ok3 _ (mtc hk) en hme h999 z).1
        omega
    exact hts _ (gt_in (ML_ok2 _ (mtc hk) en hme h999 hnest))
  have kd1 : ∀ k, k < 233 → 229 ≤ k → (mt k).2.2.2.2.2.2 = 1 := by decide +kernel
  cases hf0 : (MLs.getD (mt k).1 []).find? (fun e => e.1 == i) with
  | none => simp only [rsv, hf0, rcall, Option.map_none, Option.bind_none] at hrs; exact absurd hrs (by simp)
  | some en0 =>
  have hmlx : lz.size = (mt k).2.2.2.1 := hl.1
  by_cases h229 : en0.2.1 = 229
  · obtain rfl : Instr.lneg = ins := by simpa only [rsv, hf0, Option.map_some, h229, Option.some.injEq, if_true, if_false, show (230 : Nat) = 229 ↔ False by decide, show (231 : Nat) = 229 ↔ False by decide, show (231 : Nat) = 230 ↔ False by decide] using hrs
    have h2 := popI_sp h; clear h; obtain ⟨a, s_a, rfl, h⟩ := h2
    obtain ⟨hr, hd1, hw8, h⟩ := h
    obtain ⟨o_a, hst⟩ := fc1 hst
    have hl1 := hml0 en0 hf0 (by omega) (kd1 _ (by omega) (by omega))
    rw [h229, mm_1.2] at hl1
    rw [List.map_cons, mrv_i]
    refine va_mabs hx hb (by rw [hml, hmlx]) hown hl1 (hts _ (gt_in mm_4.2.1)) (hts _ (gt_in mm_4.1)) (hts _ (gt_in ⟨mm_1.1, rfl⟩)) (by omega) (by rw [mws_cat]; omega) (by omega) (by omega) hdg ?_
    have e0 : (if (0 : Int32) ≤ Int32.ofInt a then Int32.ofInt a else 0 - Int32.ofInt a) = Int32.ofInt (if 0 ≤ a then a else -a) := by
      have e1 : (0 : Int32) ≤ Int32.ofInt a ↔ 0 ≤ a := by
        rw [show (0 : Int32) = Int32.ofInt 0 by decide]
        exact ofi_le r0 (okv_i o_a)
      by_cases h1 : 0 ≤ a
      · rw [if_pos (e1.mpr h1), if_pos h1]
      · rw [if_neg (fun z => h1 (e1.mp z)), if_neg h1, Int32.ofInt_neg]
        simp
    rw [e0]
    exact PW_go (st' := (0, if 0 ≤ a then a else -a) :: s_a) h fr ms (fc2 (vi (by have := okv_i o_a; unfold r32 at hr this ⊢; split <;> omega)) hst)
  · by_cases h230 : en0.2.1 = 230
    · obtain rfl : Instr.ixor = ins := by simpa only [rsv, hf0, Option.map_some, h229, h230, Option.some.injEq, if_true, if_false, show (230 : Nat) = 229 ↔ False by decide, show (231 : Nat) = 229 ↔ False by decide, show (231 : Nat) = 230 ↔ False by decide] using hrs
      have h2 := popI_sp h; clear h; obtain ⟨b, s_b, rfl, h⟩ := h2
      have h2 := popI_sp h; clear h; obtain ⟨a, s_a, rfl, h⟩ := h2
      obtain ⟨hd1, hw8, h⟩ := h
      obtain ⟨o_b, hst⟩ := fc1 hst
      obtain ⟨o_a, hst⟩ := fc1 hst
      have hl1 := hml0 en0 hf0 (by omega) (kd1 _ (by omega) (by omega))
      rw [h230, mm_2.2] at hl1
      rw [List.map_cons, List.map_cons, mrv_i, mrv_i]
      refine va_mmax hx hb (by rw [hml, hmlx]) hown hl1 (hts _ (gt_in mm_4.2.2.1)) (hts _ (gt_in mm_4.1)) (hts _ (gt_in ⟨mm_2.1, rfl⟩)) (by omega) (by rw [mws_cat]; omega) (by omega) (by omega) hdg ?_
      have e0 : (if Int32.ofInt a < Int32.ofInt b then Int32.ofInt b else Int32.ofInt a) = Int32.ofInt (max a b) := by
        have e1 := ofi_lt (okv_i o_a) (okv_i o_b)
        by_cases h1 : a < b
        · rw [if_pos (e1.mpr h1), Int.max_eq_right (by omega)]
        · rw [if_neg (fun z => h1 (e1.mp z)), Int.max_eq_left (by omega)]
      rw [e0]
      exact PW_go (st' := (0, max a b) :: s_a) h fr ms (fc2 (vi (by have h1 := okv_i o_a; have h2 := okv_i o_b; unfold r32 at h1 h2 ⊢; omega)) hst)
    · by_cases h231 : en0.2.1 = 231
      · obtain rfl : Instr.lxor = ins := by simpa only [rsv, hf0, Option.map_some, h229, h230, h231, Option.some.injEq, if_true, if_false, show (230 : Nat) = 229 ↔ False by decide, show (231 : Nat) = 229 ↔ False by decide, show (231 : Nat) = 230 ↔ False by decide] using hrs
        have h2 := popI_sp h; clear h; obtain ⟨b, s_b, rfl, h⟩ := h2
        have h2 := popI_sp h; clear h; obtain ⟨a, s_a, rfl, h⟩ := h2
        obtain ⟨hd1, hw8, h⟩ := h
        obtain ⟨o_b, hst⟩ := fc1 hst
        obtain ⟨o_a, hst⟩ := fc1 hst
        have hl1 := hml0 en0 hf0 (by omega) (kd1 _ (by omega) (by omega))
        rw [h231, mm_3.2] at hl1
        rw [List.map_cons, List.map_cons, mrv_i, mrv_i]
        refine va_mmin hx hb (by rw [hml, hmlx]) hown hl1 (hts _ (gt_in mm_4.2.2.2)) (hts _ (gt_in mm_4.1)) (hts _ (gt_in ⟨mm_3.1, rfl⟩)) (by omega) (by rw [mws_cat]; omega) (by omega) (by omega) hdg ?_
        have e0 : (if Int32.ofInt b < Int32.ofInt a then Int32.ofInt b else Int32.ofInt a) = Int32.ofInt (min a b) := by
          have e1 := ofi_lt (okv_i o_b) (okv_i o_a)
          by_cases h1 : b < a
          · rw [if_pos (e1.mpr h1), Int.min_eq_right (by omega)]
          · rw [if_neg (fun z => h1 (e1.mp z)), Int.min_eq_left (by omega)]
        rw [e0]
        exact PW_go (st' := (0, min a b) :: s_a) h fr ms (fc2 (vi (by have h1 := okv_i o_a; have h2 := okv_i o_b; unfold r32 at h1 h2 ⊢; omega)) hst)
      · have hw : ∃ n, rcall (mt k).1 i 1 = some n ∧ Instr.invokestatic n = ins := by
          cases hrc : rcall (mt k).1 i 1 with
          | none => simp only [rsv, hf0, hrc, Option.map_some, Option.map_none, Option.some.injEq, h229, h230, h231, if_false] at hrs; cases hrs
          | some n => exact ⟨n, rfl, by simpa only [rsv, hf0, hrc, Option.map_some, Option.some.injEq, h229, h230, h231, if_false] using hrs⟩
        obtain ⟨n, hrc, rfl⟩ := hw
        simp only [ex1, mcl] at h
        obtain ⟨en, hfd, hy, hkd, hcode⟩ := rc_sp hrc
        obtain ⟨hme, he1⟩ := fnd hfd
        have hl1 := hml0 en hfd hy hkd
        cases hf0.symm.trans hfd
        subst he1
        have hmt := mt_a en0.2.1 hy
        have hy3 : en0.2.1 < 229 ∨ en0.2.1 = 232 := by omega
        have hmx := mt_mx en0.2.1 hy
        obtain ⟨q1, q2, q3, q4⟩ := cd_n (a := en0.2.1) (b := (mt en0.2.1).1) (c := (mt en0.2.1).2.2.2.1) (n := (mt en0.2.1).2.2.2.2.2.1 + (if 1 = 1 then 0 else 1)) (by omega) (by omega) (by have := hmt.2.2.2.1; split <;> omega)
        rw [← hcode] at q1 q2 q3 q4
        obtain ⟨g1, g2, g3, g4, g5, fin', g6, g7, g8, g9, h⟩ := h
        rw [q4, q2] at h
        rw [q2] at g5
        have hlen := tk_len g1
        generalize has : (st.take (n % 100)).reverse = as at h g4 g5 hlen
        have hstk := tk_st has
        generalize hre : st.drop (n % 100) = rest at h g2 hstk
        rw [q1] at hlen
        have hokA : ∀ v ∈ as, okv v := fun v hv => hst v (by rw [hstk]; exact List.mem_append_left _ (List.mem_reverse.mpr hv))
        have hokR : ∀ v ∈ rest, okv v := fun v hv => hst v (by rw [hstk]; exact List.mem_append_right _ hv)
        refine W_size (fun hsz2 => ?_)
        have hH := H_size ms hsz hsz2
        have hM := PW_met (l := l) (bs := bs) (wt := wt) (bb := bb) (cA := cA) (D := D) hy hy3 h hokA g5 hSh hF g6 g7
        have hPc : ∀ U : State, U.heap = H → s.WarmedH U.vm → mPc X bs wt bb cA D sh f as (as.map (mrv bs wt bb)).toArray U := fun U hU hW => ⟨rfl, by rw [hU]; exact hH, by rw [hU]; exact hP, mST_call hS hU hW hST⟩
        refine PW_bk fr ms hokR g6 g7 g8 g9 (as := (as.map (mrv bs wt bb)).toArray) ?_
        have hrW : 2 * (F0 m pc lz (st.map (mrv bs wt bb))).monitorRoom + ((rest.map (mrv bs wt bb)).map fun v => v.category).sum ≤ 8 := lv_room (by rw [mws_cat]; exact g2)
        have hfit : sh.length - c0 + (fin'.length - sh.length) ≤ R.cells ∧ mtot sh - s0 + (mtot fin' - mtot sh) ≤ R.slots := ⟨by omega, by omega⟩
        exact va_runS (As := as.map (mrv bs wt bb)) ⟨hx, hb, hml, hown, hts⟩ hM ⟨mcb hts hy g3 hd hlo hl1 hy3, hts _ (gt_in (mt_e en0.2.1 hy hkd))⟩ ⟨mPc_blind, hPc⟩ rfl (by simp at hlen ⊢; exact hlen) hl.1 (by rw [hstk]; simp) hrW hdg hfit
set_option maxHeartbeats 4000000 in
theorem pc_invokespecial (X : mX) (i : Nat) : PC X (.invokespecial i) := by
  intro d fin k pc nx ins ls st sh f Q hk hdg hnx hrs h p l e R s m args below meth c bs wt bb cA D c0 s0 Z fr H locs lz ms
  obtain ⟨-, hx, hb, hml, hown, hts, hini, hST, hsz, hd, hlo, hfc, hfs, hret⟩ := id fr
  obtain ⟨hP, hS, hSh, hF, hls, hst, hl, hln, hc0, hs0, hlf, hsf⟩ := id ms
  obtain ⟨hnw, ha5, ha2, hK, hZ, hT, hX, hbl, hbb, hx32, hxl⟩ := id hST
  have hD : va_D (fun q => bs ≤ q) (mwo cA bs wt bb sh f) := mwo_D
  obtain rfl : nx = pc + 3 := hnx
  change decode _ _ = .ok ((.invokespecial i), 3) at hdg
  cases hf0 : (MLs.getD (mt k).1 []).find? (fun e => e.1 == i) with
  | none => simp only [rsv, hf0, rcall, Option.map_none, Option.bind_none] at hrs; exact absurd hrs (by simp)
  | some en0 =>
  by_cases h999 : en0.2.1 = 999
  · obtain rfl : Instr.pop = ins := by simpa only [rsv, hf0, Option.map_some, h999, if_true, Option.some.injEq] using hrs
    obtain ⟨hme, he1⟩ := fnd hf0
    subst he1
    have h2 := popR_sp h; clear h; obtain ⟨a, s_a, rfl, h⟩ := h2
    obtain ⟨ha, hd1, hw8, h⟩ := h
    obtain ⟨o_a, hst⟩ := fc1 hst
    rw [List.map_cons, mrv_p ha]
    exact W.objInit hx hb hown (hts _ (gt_in (ML_ok0 _ (mtc hk) en0 hme h999))) (hts _ (gt_in sp_ok2)) (hts _ (gt_in ⟨sp_ok3, rfl⟩)) rfl (hl.1.trans hml.symm) rfl hdg (by omega) (by have := lv_room (m := m) (pc := pc) (ls := lz) (rest := Value.ref (bs + (a - 1).toNat) :: s_a.map (mrv bs wt bb)) (st := s_a.map (mrv bs wt bb)) (by rw [mws_cat]; exact hw8); omega) (PW_go h fr ms hst)
  · have hw : ∃ n, rcall (mt k).1 i 2 = some n ∧ Instr.invokespecial n = ins := by
      cases hrc : rcall (mt k).1 i 2 with
      | none => simp only [rsv, hf0, hrc, Option.map_some, Option.map_none, Option.some.injEq, h999, if_false] at hrs; cases hrs
      | some n => exact ⟨n, rfl, by simpa only [rsv, hf0, hrc, Option.map_some, Option.some.injEq, h999, if_false] using hrs⟩
    obtain ⟨n, hrc, rfl⟩ := hw
    simp only [ex1, mcl] at h
    obtain ⟨en, hfd, hy, hkd, hcode⟩ := rc_sp hrc
    obtain ⟨hme, he1⟩ := fnd hfd
    cases hf0.symm.trans hfd
    subst he1
    have hmt := mt_a en0.2.1 hy
    have hy3 : en0.2.1 < 229 ∨ en0.2.1 = 232 := by
      rcases Nat.lt_or_ge en0.2.1 229 with z | z
      · exact Or.inl z
      · exfalso
        have hh : ∀ k, k < 233 → 229 ≤ k → (mt k).2.2.2.2.2.2 = 1 := by decide +kernel
        rw [hh _ hy z] at hkd
        cases hkd
    have hmx := mt_mx en0.2.1 hy
    obtain ⟨q1, q2, q3, q4⟩ := cd_n (a := en0.2.1) (b := (mt en0.2.1).1) (c := (mt en0.2.1).2.2.2.1) (n := (mt en0.2.1).2.2.2.2.2.1 + (if 2 = 1 then 0 else 1)) (by omega) (by omega) (by have := hmt.2.2.2.1; split <;> omega)
    rw [← hcode] at q1 q2 q3 q4
    obtain ⟨g1, g2, g3, g4, g5, fin', g6, g7, g8, g9, h⟩ := h
    rw [q4, q2] at h
    rw [q2] at g5
    have hlen := tk_len g1
    generalize has : (st.take (n % 100)).reverse = as at h g4 g5 hlen
    have hstk := tk_st has
    generalize hre : st.drop (n % 100) = rest at h g2 hstk
    rw [q1] at hlen
    have hokA : ∀ v ∈ as, okv v := fun v hv => hst v (by rw [hstk]; exact List.mem_append_left _ (List.mem_reverse.mpr hv))
    have hokR : ∀ v ∈ rest, okv v := fun v hv => hst v (by rw [hstk]; exact List.mem_append_right _ hv)
    refine W_size (fun hsz2 => ?_)
    have hH := H_size ms hsz hsz2
    have hM := PW_met (l := l) (bs := bs) (wt := wt) (bb := bb) (cA := cA) (D := D) hy hy3 h hokA g5 hSh hF g6 g7
    have hPc : ∀ U : State, U.heap = H → s.WarmedH U.vm → mPc X bs wt bb cA D sh f as (as.map (mrv bs wt bb)).toArray U := fun U hU hW => ⟨rfl, by rw [hU]; exact hH, by rw [hU]; exact hP, mST_call hS hU hW hST⟩
    refine PW_bk fr ms hokR g6 g7 g8 g9 (as := (as.map (mrv bs wt bb)).toArray) ?_
    have hrW : 2 * (F0 m pc lz (st.map (mrv bs wt bb))).monitorRoom + ((rest.map (mrv bs wt bb)).map fun v => v.category).sum ≤ 8 := lv_room (by rw [mws_cat]; exact g2)
    have hfit : sh.length - c0 + (fin'.length - sh.length) ≤ R.cells ∧ mtot sh - s0 + (mtot fin' - mtot sh) ≤ R.slots := ⟨by omega, by omega⟩
    obtain ⟨hnm, hrn, hc10⟩ := mt_h en0.2.1 hy hkd
    match as, g4, hlen, hstk, hM, hPc with
    | [], g4, _, _, _, _ => exact g4.elim
    | (0, a) :: t, g4, _, _, _, _ => exact g4.elim
    | (1, a) :: t, g4, _, _, _, _ => exact g4.elim
    | (q + 3, a) :: t, g4, _, _, _, _ => exact g4.elim
    | (2, a) :: t, g4, hlen, hstk, hM, hPc =>
      have ha1 : 1 ≤ a := g4
      have hrv : mrv bs wt bb (2, a) = .ref (bs + (a - 1).toNat) := mrv_p ha1
      have hPc2 : ∀ U : State, U.heap = H → s.WarmedH U.vm → mPc X bs wt bb cA D sh f ((2, a) :: t) (Value.ref (bs + (a - 1).toNat) :: t.map (mrv bs wt bb)).toArray U := by rw [← hrv]; exact hPc
      rw [List.map_cons, hrv]
      have hcb := fun hl1 => mcb (R := R) (s := s) (args := args) (own := kN (mt k).1) (index := en0.1) (a := fin'.length - sh.length) (b := mtot fin' - mtot sh) hts hy g3 hd hlo hl1 hy3
      rcases (ML_ok1 _ (mtc hk) en0 hme h999).2 with z | z
      · have hcb := hcb (hts _ (gt_in (ML_ok2 _ (mtc hk) en0 hme h999 z)))
        rw [hrn] at hcb
        exact va_runI (As := t.map (mrv bs wt bb)) ⟨hx, hb, hml, hown, hts⟩ hM ⟨hcb, hnm, hts _ (gt_in (mt_f en0.2.1 hy (by omega)))⟩ ⟨mPc_blind, hPc2⟩ rfl (by simp at hlen ⊢; exact hlen) hl.1 (by rw [hstk]; simp [hrv]) hrW hdg hfit
      · have hnst := hnw _ _ _ _ (List.mem_of_getElem? (ML_ok3 _ (mtc hk) en0 hme h999 z).2)
        have hcn := va_cnB (R := R) (bytes := (mt en0.2.1).2.2.1) (maxL := (mt en0.2.1).2.2.2.1) (ret := (mt en0.2.1).2.2.2.2.1) (rm := mrm (d - 1) (fin'.length - sh.length) (mtot fin' - mtot sh)) (mt en0.2.1).2.2.2.2.2.1 hts (mW_good hy) rfl rfl rfl hnst (by rw [(mt_a en0.2.1 hy).1]; exact hts _ (gt_in (mt_d en0.2.1 hy))) ⟨(mt_c en0.2.1 hy hy3).2.1, (mt_c en0.2.1 hy hy3).2.2, mt_b en0.2.1 hy⟩ ⟨by show d - 1 + 1 ≤ _; omega, by show 8 + (_ + 11) + 100 * (d - 1) ≤ _; omega⟩
        rw [hrn] at hcn
        exact va_runIN (As := t.map (mrv bs wt bb)) ⟨hx, hb, hml, hown, hts⟩ hM ⟨hcn, hnm, hts _ (gt_in (mt_f en0.2.1 hy (by omega)))⟩ ⟨mPc_blind, hPc2⟩ rfl (by simp at hlen ⊢; exact hlen) hl.1 (by rw [hstk]; simp [hrv]) hrW hdg hfit
