/-! memory, calls, returns -/
theorem mce_o {cA : Nat → ClassId} {bs wt bb c n : Nat} {g : Nat → Int} (hc : c < 10) : mce cA bs wt bb (c, n) g = .inr (c, (List.range n).map (fun k => mrv bs wt bb (mtg c k, g k))) := by unfold mce; rw [if_pos hc]
theorem mce_10 {cA : Nat → ClassId} {bs wt bb n : Nat} {g : Nat → Int} : mce cA bs wt bb (10, n) g = .inl (cA 10, (n, .inl (fun j => Int32.ofInt (g j)))) := rfl
theorem mce_11 {cA : Nat → ClassId} {bs wt bb n : Nat} {g : Nat → Int} : mce cA bs wt bb (11, n) g = .inl (cA 11, (n, .inl (fun j => Int32.ofInt (g j)))) := rfl
theorem mce_12 {cA : Nat → ClassId} {bs wt bb n : Nat} {g : Nat → Int} : mce cA bs wt bb (12, n) g = .inl (cA 12, (n, .inr (.inr (.inr (.inr (fun j => mad bs wt bb (g j))))))) := rfl
theorem mce_13 {cA : Nat → ClassId} {bs wt bb n : Nat} {g : Nat → Int} : mce cA bs wt bb (13, n) g = .inl (cA 13, (n, .inr (.inr (.inr (.inr (fun j => mad bs wt bb (g j))))))) := rfl
theorem mce_set {cA : Nat → ClassId} {bs wt bb c n k : Nat} {g : Nat → Int} {x : Int} (hc : c < 10) : mce cA bs wt bb (c, n) (fun j => if j = k then x else g j) = .inr (c, ((List.range n).map (fun k => mrv bs wt bb (mtg c k, g k))).set k (mrv bs wt bb (mtg c k, x))) := by
  rw [mce_o hc]
  congr 2
  apply List.ext_getElem?
  intro i
  rw [List.getElem?_set]
  by_cases hi : k = i
  · subst hi
    by_cases hn : k < n
    · simp [hn]
    · simp [hn]
  · simp only [List.getElem?_map, hi, if_false]
    cases hr : (List.range n)[i]? with
    | none => rfl
    | some j =>
      have : j = i := by
        have := List.getElem?_eq_some_iff.mp hr
        obtain ⟨h1, h2⟩ := this
        simpa using h2.symm
      subst this
      simp [Ne.symm hi]
theorem upd_of {g : Nat → Int} {i : Int} {x : Int} {j : Nat} (hj : (Int32.ofInt i).toNatClampNeg = j) : upd (fun q => Int32.ofInt (g q)) (Int32.ofInt i).toNatClampNeg (Int32.ofInt x) = fun q => Int32.ofInt (if q = j then x else g q) := by
  rw [hj]
  funext q
  unfold upd
  split <;> rfl
theorem upr_of {bs wt bb : Nat} {g : Nat → Int} {i x : Int} {j : Nat} (hx : 1 ≤ x) (hj : (Int32.ofInt i).toNatClampNeg = j) : va_up (fun q => mad bs wt bb (g q)) (Int32.ofInt i).toNatClampNeg (some (bs + (x - 1).toNat)) = fun q => mad bs wt bb (if q = j then x else g q) := by
  rw [hj]
  funext q
  unfold va_up
  split
  · exact (mad_pos hx).symm
  · rfl
theorem okSh_n {sh : mSh} (h : okSh sh) {o c n : Nat} (hq : sh[o]? = some (c, n)) (hc : c < 10) : n = kF c := (h _ (List.mem_of_getElem? hq)).2 hc
theorem put_ok {bs wt bb : Nat} {ty : FieldType} {x : Int} (hk : tyk ty = true) (hz : rtg ty = 3 → x = 0 ∨ x = 1) : narrow ty (mrv bs wt bb (mgt (rtg ty), x)) = mrv bs wt bb (mgt (rtg ty), x) ∧ fits ty (mrv bs wt bb (mgt (rtg ty), x)) = true := by
  cases ty with
  | int => exact ⟨rfl, rfl⟩
  | long => exact ⟨rfl, rfl⟩
  | boolean =>
    rcases hz rfl with rfl | rfl
    · exact ⟨show Value.int (Int32.ofInt 0 &&& 1) = Value.int (Int32.ofInt 0) by decide, show (Int32.ofInt 0 == 0 || Int32.ofInt 0 == 1) = true by decide⟩
    · exact ⟨show Value.int (Int32.ofInt 1 &&& 1) = Value.int (Int32.ofInt 1) by decide, show (Int32.ofInt 1 == 0 || Int32.ofInt 1 == 1) = true by decide⟩
  | object n =>
    show narrow _ (va_rf (mad bs wt bb x)) = va_rf (mad bs wt bb x) ∧ fits _ (va_rf (mad bs wt bb x)) = true
    cases mad bs wt bb x <;> exact ⟨rfl, rfl⟩
  | array n =>
    show narrow _ (va_rf (mad bs wt bb x)) = va_rf (mad bs wt bb x) ∧ fits _ (va_rf (mad bs wt bb x)) = true
    cases mad bs wt bb x <;> exact ⟨rfl, rfl⟩
  | _ => cases hk
set_option maxHeartbeats 4000000 in
theorem pc_getfield (X : mX) (i : Nat) : PC X (.getfield i) := by
  intro d fin k pc nx ins ls st sh f Q hk hdg hnx hrs h p l e R s m args below meth c bs wt bb cA D c0 s0 Z fr H locs lz ms
  obtain ⟨-, hx, hb, hml, hown, hts, hini, hST, hsz, hd, hlo, hfc, hfs, hret⟩ := id fr
  obtain ⟨hP, hS, hSh, hF, hls, hst, hl, hln, hc0, hs0, hlf, hsf⟩ := id ms
  obtain ⟨hnw, ha5, ha2, hK, hZ, hT, hX, hbl, hbb, hx32, hxl⟩ := id hST
  have hD : va_D (fun q => bs ≤ q) (mwo cA bs wt bb sh f) := mwo_D
  obtain rfl : nx = pc + 3 := hnx
  change decode _ _ = .ok ((.getfield i), 3) at hdg
  cases hfd : (FLs.getD (mt k).1 []).find? (fun e => e.1 == i) with
  | none => simp only [rsv, hfd, Option.map_none, Option.bind_none] at hrs; cases hrs
  | some en =>
  obtain ⟨hme, he1⟩ := fnd hfd
  subst he1
  have hok := FL_ok (mt k).1 (mtc hk) en hme
  obtain rfl : Instr.getfield ((100 * en.2.1 + en.2.2.1) * 4 + rtg (kY en.2.1 en.2.2.1)) = ins := by
    simp only [rsv, hfd, Option.map_some] at hrs
    exact Option.some.inj hrs
  obtain ⟨hw, hsl, hT1, hc10, hs100⟩ := hok
  have hrl := rtg_lt (kY en.2.1 en.2.2.1)
  have n1 : ((100 * en.2.1 + en.2.2.1) * 4 + rtg (kY en.2.1 en.2.2.1)) % 4 = rtg (kY en.2.1 en.2.2.1) := by omega
  have n2 : ((100 * en.2.1 + en.2.2.1) * 4 + rtg (kY en.2.1 en.2.2.1)) / 4 % 100 = en.2.2.1 := by omega
  have n3 : ((100 * en.2.1 + en.2.2.1) * 4 + rtg (kY en.2.1 en.2.2.1)) / 400 = en.2.1 := by omega
  have h2 := popR_sp h; clear h; obtain ⟨a, s_a, rfl, h⟩ := h2
  rw [n1, n2, n3, ← mtg_eq hc10] at h
  obtain ⟨hm, h⟩ := h
  obtain ⟨o_a, hst⟩ := fc1 hst
  obtain ⟨n, hq, hn⟩ := mis_at (by omega) hm
  have hn := okSh_n hSh hq hc10
  subst hn
  have he := mwo_at (cA := cA) (bs := bs) (wt := wt) (bb := bb) (f := f) hq
  rw [mce_o hc10] at he
  rw [List.map_cons, mrv_p hm.1]
  refine va_get hx hb hts (gw_ws hc10) hown hK hP _ he (vw_at en.2.1 hc10) en.2.2.1 hsl (hts _ (gt_in hw)) (fun x hx => by rw [hT1] at hx; exact hx) (v := mrv bs wt bb (mtg en.2.1 en.2.2.1, f (mix a) en.2.2.1)) ?_ hdg ?_
  · rw [List.getElem?_map, List.getElem?_range hsl]
    rfl
  exact PW_go (st' := (mtg en.2.1 en.2.2.1, f (mix a) en.2.2.1) :: s_a) h fr ms (fc2 (okst_get hF hq hsl) hst)
set_option maxHeartbeats 4000000 in
theorem pc_putfield (X : mX) (i : Nat) : PC X (.putfield i) := by
  intro d fin k pc nx ins ls st sh f Q hk hdg hnx hrs h p l e R s m args below meth c bs wt bb cA D c0 s0 Z fr H locs lz ms
  obtain ⟨-, hx, hb, hml, hown, hts, hini, hST, hsz, hd, hlo, hfc, hfs, hret⟩ := id fr
  obtain ⟨hP, hS, hSh, hF, hls, hst, hl, hln, hc0, hs0, hlf, hsf⟩ := id ms
  obtain ⟨hnw, ha5, ha2, hK, hZ, hT, hX, hbl, hbb, hx32, hxl⟩ := id hST
  have hD : va_D (fun q => bs ≤ q) (mwo cA bs wt bb sh f) := mwo_D
  obtain rfl : nx = pc + 3 := hnx
  change decode _ _ = .ok ((.putfield i), 3) at hdg
  cases hfd : (FLs.getD (mt k).1 []).find? (fun e => e.1 == i) with
  | none => simp only [rsv, hfd, Option.map_none, Option.bind_none] at hrs; cases hrs
  | some en =>
  obtain ⟨hme, he1⟩ := fnd hfd
  subst he1
  have hok := FL_ok (mt k).1 (mtc hk) en hme
  obtain ⟨hw, hsl, hT1, hc10, hs100⟩ := hok
  have hfin : (kT en.2.1 en.2.2.1).2.2.2 = false ∨ ((mt k).2.2.2.2.2.2 = 2 ∧ en.2.1 = (mt k).1) := by
    by_cases hc : (kT en.2.1 en.2.2.1).2.2.2 = false ∨ (decide ((mt k).2.2.2.2.2.2 = 2) = true ∧ en.2.1 = (mt k).1)
    · simpa using hc
    · simp only [rsv, hfd, Option.bind_some, if_neg hc] at hrs
      cases hrs
  have hfin2 : (kT en.2.1 en.2.2.1).2.2.2 = false ∨ (decide ((mt k).2.2.2.2.2.2 = 2) = true ∧ en.2.1 = (mt k).1) := by simpa using hfin
  obtain rfl : Instr.putfield ((100 * en.2.1 + en.2.2.1) * 4 + rtg (kY en.2.1 en.2.2.1)) = ins := by
    simp only [rsv, hfd, Option.bind_some, if_pos hfin2] at hrs
    exact Option.some.inj hrs
  have hrl := rtg_lt (kY en.2.1 en.2.2.1)
  have n1 : ((100 * en.2.1 + en.2.2.1) * 4 + rtg (kY en.2.1 en.2.2.1)) % 4 = rtg (kY en.2.1 en.2.2.1) := by omega
  have n2 : ((100 * en.2.1 + en.2.2.1) * 4 + rtg (kY en.2.1 en.2.2.1)) / 4 % 100 = en.2.2.1 := by omega
  have n3 : ((100 * en.2.1 + en.2.2.1) * 4 + rtg (kY en.2.1 en.2.2.1)) / 400 = en.2.1 := by omega
  have h2 := popN_sp h; clear h; obtain ⟨x, s_x, rfl, h⟩ := h2
  have h2 := popR_sp h; clear h; obtain ⟨a, s_a, rfl, h⟩ := h2
  rw [n1, ← mtg_eq hc10] at hst
  rw [n1, n2, n3] at h
  obtain ⟨hm, hz, h⟩ := h
  rw [n1, ← mtg_eq hc10]
  obtain ⟨o_x, hst⟩ := fc1 hst
  obtain ⟨o_a, hst⟩ := fc1 hst
  obtain ⟨n, hq, hn⟩ := mis_at (by omega) hm
  have hn := okSh_n hSh hq hc10
  subst hn
  have he := mwo_at (cA := cA) (bs := bs) (wt := wt) (bb := bb) (f := f) hq
  rw [mce_o hc10] at he
  rw [List.map_cons, List.map_cons, mrv_p hm.1]
  have hpo := put_ok (bs := bs) (wt := wt) (bb := bb) (x := x) (kT_tk en.2.1 hc10 en.2.2.1 hsl) hz
  rw [← mtg_eq hc10] at hpo
  have hws : ∀ (H1 : Heap) (locs1 : List Loc), va_P D vwCl ((mwo cA bs wt bb sh f).set (a - 1).toNat (bs + (a - 1).toNat, .inr (en.2.1, ((List.range (kF en.2.1)).map (fun k => mrv bs wt bb (mtg en.2.1 k, f (a - 1).toNat k))).set en.2.2.1 (mrv bs wt bb (mtg en.2.1 en.2.2.1, x))))) H1 → va_S (fun q => bs ≤ q) s.heap H1 locs1 → W p l e R s m args below meth c H1 locs1 (sh.length - c0) (mtot sh - s0) Z (F0 m (pc + 3) lz (s_a.map (mrv bs wt bb))) := by
    intro H1 locs1 g1 g2
    rw [← mce_set hc10, mwo_set hq] at g1
    exact PW_gm h fr ms hst g1 g2 (okF_up hF hq o_x)
  rcases hfin with hf1 | ⟨hf1, hf2⟩
  · exact va_put hx hb hts (gw_ws hc10) (kY en.2.1) (kT_ty en.2.1 hc10) (kT_nm en.2.1 hc10) hown hK hP hD hS _ he (vw_at en.2.1 hc10) en.2.2.1 hsl (hts _ (gt_in hw)) (fun x hx => by rw [hT1] at hx; exact hx) hf1 (kT_ty en.2.1 hc10 _ hsl) hpo.1 hpo.2 (by simpa using hsl) hdg (fun H1 locs1 g1 _ g2 => hws H1 locs1 g1 g2)
  · cases hff : (kT en.2.1 en.2.2.1).2.2.2 with
    | false => exact va_put hx hb hts (gw_ws hc10) (kY en.2.1) (kT_ty en.2.1 hc10) (kT_nm en.2.1 hc10) hown hK hP hD hS _ he (vw_at en.2.1 hc10) en.2.2.1 hsl (hts _ (gt_in hw)) (fun x hx => by rw [hT1] at hx; exact hx) hff (kT_ty en.2.1 hc10 _ hsl) hpo.1 hpo.2 (by simpa using hsl) hdg (fun H1 locs1 g1 _ g2 => hws H1 locs1 g1 g2)
    | true => exact va_putF hx hb hts (gw_ws hc10) (kY en.2.1) (kT_ty en.2.1 hc10) (kT_nm en.2.1 hc10) hown hK hP hD hS _ he (vw_at en.2.1 hc10) en.2.2.1 hsl (hts _ (gt_in hw)) (fun x hx => by rw [hT1] at hx; exact hx) hff (hini hf1) (by rw [hT1, hf2]) (kT_ty en.2.1 hc10 _ hsl) hpo.1 hpo.2 (by simpa using hsl) hdg (fun H1 locs1 g1 _ g2 => hws H1 locs1 g1 g2)
set_option maxHeartbeats 4000000 in
theorem pc_iaload (X : mX) : PC X .iaload := by
  intro d fin k pc nx ins ls st sh f Q hk hdg hnx hrs h p l e R s m args below meth c bs wt bb cA D c0 s0 Z fr H locs lz ms
  obtain ⟨-, hx, hb, hml, hown, hts, hini, hST, hsz, hd, hlo, hfc, hfs, hret⟩ := id fr
  obtain ⟨hP, hS, hSh, hF, hls, hst, hl, hln, hc0, hs0, hlf, hsf⟩ := id ms
  obtain ⟨hnw, ha5, ha2, hK, hZ, hT, hX, hbl, hbb, hx32, hxl⟩ := id hST
  have hD : va_D (fun q => bs ≤ q) (mwo cA bs wt bb sh f) := mwo_D
  obtain rfl : nx = pc + 1 := hnx
  change decode _ _ = .ok (.iaload, 1) at hdg
  by_cases hw : (mt k).1 = 12
  · obtain rfl : Instr.saload = ins := by simpa [rsv, hw] using hrs
    have h2 := popI_sp h; clear h; obtain ⟨i, s_i, rfl, h⟩ := h2
    have h2 := popR_sp h; clear h; obtain ⟨a, s_a, rfl, h⟩ := h2
    obtain ⟨ha, h1, h2, h⟩ := h
    subst ha
    obtain ⟨o_i, hst⟩ := fc1 hst
    obtain ⟨o_a, hst⟩ := fc1 hst
    obtain ⟨hv1, hv2⟩ := vin (okv_i o_i) h1 h2
    rw [List.map_cons, List.map_cons, mrv_i]
    refine va_sld hx hb hX hbl (by omega) hS hv1 hdg ?_
    rw [hv2]
    exact PW_go (st' := (0, X.2 i.toNat) :: s_a) h fr ms (fc2 (vi (hx32 _)) hst)
  · obtain rfl : Instr.iaload = ins := by simpa [rsv, hw] using hrs
    have h2 := popI_sp h; clear h; obtain ⟨i, s_i, rfl, h⟩ := h2
    have h2 := popR_sp h; clear h; obtain ⟨a, s_a, rfl, h⟩ := h2
    obtain ⟨hm, h1, h2, h⟩ := h
    obtain ⟨o_i, hst⟩ := fc1 hst
    obtain ⟨o_a, hst⟩ := fc1 hst
    obtain ⟨n, hq, hn⟩ := mis_at (by omega) hm
    rw [hn] at h2
    have he := mwo_at (cA := cA) (bs := bs) (wt := wt) (bb := bb) (f := f) hq
    rw [mce_10] at he
    obtain ⟨hv1, hv2⟩ := vin (okv_i o_i) h1 h2
    rw [List.map_cons, List.map_cons, mrv_p hm.1, mrv_i]
    refine va_iald hx hb hK hP _ 0 he rfl hv1 hdg ?_
    rw [hv2]
    exact PW_go (st' := (0, f (mix a) i.toNat) :: s_a) h fr ms (fc2 (okst_get hF hq (by omega)) hst)
set_option maxHeartbeats 4000000 in
theorem pc_baload (X : mX) : PC X .baload := by
  intro d fin k pc nx ins ls st sh f Q hk hdg hnx hrs h p l e R s m args below meth c bs wt bb cA D c0 s0 Z fr H locs lz ms
  obtain ⟨-, hx, hb, hml, hown, hts, hini, hST, hsz, hd, hlo, hfc, hfs, hret⟩ := id fr
  obtain ⟨hP, hS, hSh, hF, hls, hst, hl, hln, hc0, hs0, hlf, hsf⟩ := id ms
  obtain ⟨hnw, ha5, ha2, hK, hZ, hT, hX, hbl, hbb, hx32, hxl⟩ := id hST
  have hD : va_D (fun q => bs ≤ q) (mwo cA bs wt bb sh f) := mwo_D
  obtain rfl : Instr.baload = ins := by simpa [rsv] using hrs
  obtain rfl : nx = pc + 1 := hnx
  change decode _ _ = .ok (.baload, 1) at hdg
  have h2 := popI_sp h; clear h; obtain ⟨i, s_i, rfl, h⟩ := h2
  have h2 := popR_sp h; clear h; obtain ⟨a, s_a, rfl, h⟩ := h2
  obtain ⟨hm, h1, h2, h⟩ := h
  obtain ⟨o_i, hst⟩ := fc1 hst
  obtain ⟨o_a, hst⟩ := fc1 hst
  obtain ⟨n, hq, hn⟩ := mis_at (by omega) hm
  rw [hn] at h2
  have he := mwo_at (cA := cA) (bs := bs) (wt := wt) (bb := bb) (f := f) hq
  rw [mce_11] at he
  obtain ⟨hv1, hv2⟩ := vin (okv_i o_i) h1 h2
  rw [List.map_cons, List.map_cons, mrv_p hm.1, mrv_i]
  refine va_zald hx hb hK hP _ 1 he rfl hv1 hdg ?_
  rw [hv2]
  exact PW_go (st' := (0, f (mix a) i.toNat) :: s_a) h fr ms (fc2 (okst_get hF hq (by omega)) hst)
set_option maxHeartbeats 4000000 in
theorem pc_aaload (X : mX) : PC X .aaload := by
  intro d fin k pc nx ins ls st sh f Q hk hdg hnx hrs h p l e R s m args below meth c bs wt bb cA D c0 s0 Z fr H locs lz ms
  obtain ⟨-, hx, hb, hml, hown, hts, hini, hST, hsz, hd, hlo, hfc, hfs, hret⟩ := id fr
  obtain ⟨hP, hS, hSh, hF, hls, hst, hl, hln, hc0, hs0, hlf, hsf⟩ := id ms
  obtain ⟨hnw, ha5, ha2, hK, hZ, hT, hX, hbl, hbb, hx32, hxl⟩ := id hST
  have hD : va_D (fun q => bs ≤ q) (mwo cA bs wt bb sh f) := mwo_D
  obtain rfl : Instr.aaload = ins := by simpa [rsv] using hrs
  obtain rfl : nx = pc + 1 := hnx
  change decode _ _ = .ok (.aaload, 1) at hdg
  have h2 := popI_sp h; clear h; obtain ⟨i, s_i, rfl, h⟩ := h2
  have h2 := popR_sp h; clear h; obtain ⟨a, s_a, rfl, h⟩ := h2
  obtain ⟨hm, h1, h2, h⟩ := h
  obtain ⟨o_i, hst⟩ := fc1 hst
  obtain ⟨o_a, hst⟩ := fc1 hst
  rcases hm with hm | hm
  · obtain ⟨n, hq, hn⟩ := mis_at (by omega) hm
    rw [hn] at h2
    have he := mwo_at (cA := cA) (bs := bs) (wt := wt) (bb := bb) (f := f) hq
    rw [mce_12] at he
    obtain ⟨hv1, hv2⟩ := vin (okv_i o_i) h1 h2
    rw [List.map_cons, List.map_cons, mrv_p hm.1, mrv_i]
    refine va_aldq hx hb hK hP _ 2 he rfl hv1 hdg ?_
    rw [hv2]
    exact PW_go (st' := (2, f (mix a) i.toNat) :: s_a) h fr ms (fc2 (vr _) hst)
  · obtain ⟨n, hq, hn⟩ := mis_at (by omega) hm
    rw [hn] at h2
    have he := mwo_at (cA := cA) (bs := bs) (wt := wt) (bb := bb) (f := f) hq
    rw [mce_13] at he
    obtain ⟨hv1, hv2⟩ := vin (okv_i o_i) h1 h2
    rw [List.map_cons, List.map_cons, mrv_p hm.1, mrv_i]
    refine va_aldq hx hb hK hP _ 3 he rfl hv1 hdg ?_
    rw [hv2]
    exact PW_go (st' := (2, f (mix a) i.toNat) :: s_a) h fr ms (fc2 (vr _) hst)
set_option maxHeartbeats 4000000 in
theorem pc_laload (X : mX) : PC X .laload := by
  intro d fin k pc nx ins ls st sh f Q hk hdg hnx hrs h p l e R s m args below meth c bs wt bb cA D c0 s0 Z fr H locs lz ms
  obtain ⟨-, hx, hb, hml, hown, hts, hini, hST, hsz, hd, hlo, hfc, hfs, hret⟩ := id fr
  obtain ⟨hP, hS, hSh, hF, hls, hst, hl, hln, hc0, hs0, hlf, hsf⟩ := id ms
  obtain ⟨hnw, ha5, ha2, hK, hZ, hT, hX, hbl, hbb, hx32, hxl⟩ := id hST
  have hD : va_D (fun q => bs ≤ q) (mwo cA bs wt bb sh f) := mwo_D
  obtain rfl : Instr.laload = ins := by simpa [rsv] using hrs
  obtain rfl : nx = pc + 1 := hnx
  change decode _ _ = .ok (.laload, 1) at hdg
  have h2 := popI_sp h; clear h; obtain ⟨i, s_i, rfl, h⟩ := h2
  have h2 := popR_sp h; clear h; obtain ⟨a, s_a, rfl, h⟩ := h2
  obtain ⟨ha, h1, h2, h⟩ := h
  subst ha
  obtain ⟨o_i, hst⟩ := fc1 hst
  obtain ⟨o_a, hst⟩ := fc1 hst
  obtain ⟨hv1, hv2⟩ := vin (n := 5) (okv_i o_i) h1 (by omega)
  rw [List.map_cons, List.map_cons, mrv_i]
  refine va_tl hx hb hT hS hv1 (v := .long (Int64.ofInt (mwl i.toNat))) (by rw [hv2]) hdg ?_
  exact PW_go (st' := (1, mwl i.toNat) :: s_a) h fr ms (fc2 (vl (by unfold r64 mwl; split <;> omega)) hst)
set_option maxHeartbeats 4000000 in
theorem pc_arraylength (X : mX) : PC X .arraylength := by
  intro d fin k pc nx ins ls st sh f Q hk hdg hnx hrs h p l e R s m args below meth c bs wt bb cA D c0 s0 Z fr H locs lz ms
  obtain ⟨-, hx, hb, hml, hown, hts, hini, hST, hsz, hd, hlo, hfc, hfs, hret⟩ := id fr
  obtain ⟨hP, hS, hSh, hF, hls, hst, hl, hln, hc0, hs0, hlf, hsf⟩ := id ms
  obtain ⟨hnw, ha5, ha2, hK, hZ, hT, hX, hbl, hbb, hx32, hxl⟩ := id hST
  have hD : va_D (fun q => bs ≤ q) (mwo cA bs wt bb sh f) := mwo_D
  obtain rfl : nx = pc + 1 := hnx
  change decode _ _ = .ok (.arraylength, 1) at hdg
  by_cases hw : (mt k).1 = 12
  · obtain rfl : Instr.i2s = ins := by simpa [rsv, hw] using hrs
    have h2 := popR_sp h; clear h; obtain ⟨a, s_a, rfl, h⟩ := h2
    obtain ⟨ha, h⟩ := h
    subst ha
    obtain ⟨o_a, hst⟩ := fc1 hst
    rw [List.map_cons]
    refine va_slen hx hb hX hbl (by omega) hS hdg ?_
    rw [← Int32.ofInt_eq_ofNat]
    exact PW_go (st' := (0, (X.1 : Int)) :: s_a) h fr ms (fc2 (vi (by unfold r32; omega)) hst)
  · by_cases hw2 : (mt k).1 = 4
    · obtain rfl : Instr.i2c = ins := by simpa [rsv, hw2] using hrs
      have h2 := popR_sp h; clear h; obtain ⟨a, s_a, rfl, h⟩ := h2
      obtain ⟨ha, h⟩ := h
      subst ha
      obtain ⟨o_a, hst⟩ := fc1 hst
      rw [List.map_cons]
      refine va_tlen hx hb hT hS (v := Int32.ofInt 5) (by decide) hdg ?_
      exact PW_go (st' := (0, 5) :: s_a) h fr ms (fc2 (vi (by unfold r32; omega)) hst)
    · obtain rfl : Instr.arraylength = ins := by simpa [rsv, hw, hw2] using hrs
      have h2 := popR_sp h; clear h; obtain ⟨a, s_a, rfl, h⟩ := h2
      obtain ⟨hm, hr, h⟩ := h
      obtain ⟨o_a, hst⟩ := fc1 hst
      obtain ⟨n, hq, hn⟩ := mis_at (by omega) hm
      have he := mwo_at (cA := cA) (bs := bs) (wt := wt) (bb := bb) (f := f) hq
      rw [mce_10] at he
      rw [List.map_cons, mrv_p hm.1]
      refine va_alen hx hb hK hP _ 0 he (ty := .int) rfl (v := Int32.ofInt (mln sh a)) (by rw [hn, Int32.ofInt_eq_ofNat]) hdg ?_
      exact PW_go (st' := (0, mln sh a) :: s_a) h fr ms (fc2 (vi hr) hst)
set_option maxHeartbeats 4000000 in
theorem pc_iastore (X : mX) : PC X .iastore := by
  intro d fin k pc nx ins ls st sh f Q hk hdg hnx hrs h p l e R s m args below meth c bs wt bb cA D c0 s0 Z fr H locs lz ms
  obtain ⟨-, hx, hb, hml, hown, hts, hini, hST, hsz, hd, hlo, hfc, hfs, hret⟩ := id fr
  obtain ⟨hP, hS, hSh, hF, hls, hst, hl, hln, hc0, hs0, hlf, hsf⟩ := id ms
  obtain ⟨hnw, ha5, ha2, hK, hZ, hT, hX, hbl, hbb, hx32, hxl⟩ := id hST
  have hD : va_D (fun q => bs ≤ q) (mwo cA bs wt bb sh f) := mwo_D
  obtain rfl : Instr.iastore = ins := by simpa [rsv] using hrs
  obtain rfl : nx = pc + 1 := hnx
  change decode _ _ = .ok (.iastore, 1) at hdg
  have h2 := popI_sp h; clear h; obtain ⟨x, s_x, rfl, h⟩ := h2
  have h2 := popI_sp h; clear h; obtain ⟨i, s_i, rfl, h⟩ := h2
  have h2 := popR_sp h; clear h; obtain ⟨a, s_a, rfl, h⟩ := h2
  obtain ⟨hm, h1, h2, h⟩ := h
  obtain ⟨o_x, hst⟩ := fc1 hst
  obtain ⟨o_i, hst⟩ := fc1 hst
  obtain ⟨o_a, hst⟩ := fc1 hst
  obtain ⟨n, hq, hn⟩ := mis_at (by omega) hm
  rw [hn] at h2
  have he := mwo_at (cA := cA) (bs := bs) (wt := wt) (bb := bb) (f := f) hq
  rw [mce_10] at he
  obtain ⟨hv1, hv2⟩ := vin (okv_i o_i) h1 h2
  rw [List.map_cons, List.map_cons, List.map_cons, mrv_p hm.1, mrv_i, mrv_i]
  refine va_iast hx hb hK hP hD hS _ 0 he rfl hv1 hdg (fun H1 locs1 g1 _ g2 => ?_)
  rw [upd_of hv2, ← mce_10 (cA := cA) (bs := bs) (wt := wt) (bb := bb) (g := fun q => if q = i.toNat then x else f (a - 1).toNat q), mwo_set hq] at g1
  exact PW_gm h fr ms hst g1 g2 (okF_up hF hq (by show okv (0, x); exact o_x))
set_option maxHeartbeats 4000000 in
theorem pc_bastore (X : mX) : PC X .bastore := by
  intro d fin k pc nx ins ls st sh f Q hk hdg hnx hrs h p l e R s m args below meth c bs wt bb cA D c0 s0 Z fr H locs lz ms
  obtain ⟨-, hx, hb, hml, hown, hts, hini, hST, hsz, hd, hlo, hfc, hfs, hret⟩ := id fr
  obtain ⟨hP, hS, hSh, hF, hls, hst, hl, hln, hc0, hs0, hlf, hsf⟩ := id ms
  obtain ⟨hnw, ha5, ha2, hK, hZ, hT, hX, hbl, hbb, hx32, hxl⟩ := id hST
  have hD : va_D (fun q => bs ≤ q) (mwo cA bs wt bb sh f) := mwo_D
  obtain rfl : Instr.bastore = ins := by simpa [rsv] using hrs
  obtain rfl : nx = pc + 1 := hnx
  change decode _ _ = .ok (.bastore, 1) at hdg
  have h2 := popI_sp h; clear h; obtain ⟨x, s_x, rfl, h⟩ := h2
  have h2 := popI_sp h; clear h; obtain ⟨i, s_i, rfl, h⟩ := h2
  have h2 := popR_sp h; clear h; obtain ⟨a, s_a, rfl, h⟩ := h2
  obtain ⟨hm, hz, h1, h2, h⟩ := h
  obtain ⟨o_x, hst⟩ := fc1 hst
  obtain ⟨o_i, hst⟩ := fc1 hst
  obtain ⟨o_a, hst⟩ := fc1 hst
  obtain ⟨n, hq, hn⟩ := mis_at (by omega) hm
  rw [hn] at h2
  have he := mwo_at (cA := cA) (bs := bs) (wt := wt) (bb := bb) (f := f) hq
  rw [mce_11] at he
  obtain ⟨hv1, hv2⟩ := vin (okv_i o_i) h1 h2
  rw [List.map_cons, List.map_cons, List.map_cons, mrv_p hm.1, mrv_i, mrv_i]
  refine va_zast hx hb hK hP hD hS _ 1 he rfl hv1 hdg (fun H1 locs1 g1 _ g2 => ?_)
  rw [show vp_nar .boolean (Int32.ofInt x) = Int32.ofInt x by rcases hz with rfl | rfl <;> decide] at g1
  rw [upd_of hv2, ← mce_11 (cA := cA) (bs := bs) (wt := wt) (bb := bb) (g := fun q => if q = i.toNat then x else f (a - 1).toNat q), mwo_set hq] at g1
  exact PW_gm h fr ms hst g1 g2 (okF_up hF hq (by show okv (0, x); exact o_x))
set_option maxHeartbeats 4000000 in
theorem pc_aastore (X : mX) : PC X .aastore := by
  intro d fin k pc nx ins ls st sh f Q hk hdg hnx hrs h p l e R s m args below meth c bs wt bb cA D c0 s0 Z fr H locs lz ms
  obtain ⟨-, hx, hb, hml, hown, hts, hini, hST, hsz, hd, hlo, hfc, hfs, hret⟩ := id fr
  obtain ⟨hP, hS, hSh, hF, hls, hst, hl, hln, hc0, hs0, hlf, hsf⟩ := id ms
  obtain ⟨hnw, ha5, ha2, hK, hZ, hT, hX, hbl, hbb, hx32, hxl⟩ := id hST
  have hD : va_D (fun q => bs ≤ q) (mwo cA bs wt bb sh f) := mwo_D
  obtain rfl : Instr.aastore = ins := by simpa [rsv] using hrs
  obtain rfl : nx = pc + 1 := hnx
  change decode _ _ = .ok (.aastore, 1) at hdg
  have h2 := popR_sp h; clear h; obtain ⟨x, s_x, rfl, h⟩ := h2
  have h2 := popI_sp h; clear h; obtain ⟨i, s_i, rfl, h⟩ := h2
  have h2 := popR_sp h; clear h; obtain ⟨a, s_a, rfl, h⟩ := h2
  obtain ⟨hm, h1, h2, h⟩ := h
  obtain ⟨o_x, hst⟩ := fc1 hst
  obtain ⟨o_i, hst⟩ := fc1 hst
  obtain ⟨o_a, hst⟩ := fc1 hst
  rcases hm with ⟨hm, hmx⟩ | ⟨hm, hmx⟩
  · obtain ⟨n, hq, hn⟩ := mis_at (by omega) hm
    obtain ⟨nx, hqx, -⟩ := mis_at (by omega) hmx
    rw [hn] at h2
    have he := mwo_at (cA := cA) (bs := bs) (wt := wt) (bb := bb) (f := f) hq
    rw [mce_12] at he
    have hex := mwo_at (cA := cA) (bs := bs) (wt := wt) (bb := bb) (f := f) hqx
    rw [mce_o (by omega)] at hex
    obtain ⟨hv1, hv2⟩ := vin (okv_i o_i) h1 h2
    rw [List.map_cons, List.map_cons, List.map_cons, mrv_p hm.1, mrv_i, mrv_p hmx.1]
    refine va_astq hx hb hK hP hD hS _ 2 _ 5 (r := (kN 5, kT 5, kF 5)) he rfl hex (vw_at 5 (by omega)) hv1 hdg (fun H1 locs1 g1 _ g2 => ?_)
    rw [upr_of hmx.1 hv2] at g1
    rw [← mce_12 (cA := cA) (bs := bs) (wt := wt) (bb := bb) (g := fun q => if q = i.toNat then x else f (a - 1).toNat q), mwo_set hq] at g1
    exact PW_gm h fr ms hst g1 g2 (okF_up hF hq (by show okv (2, x); exact o_x))
  · obtain ⟨n, hq, hn⟩ := mis_at (by omega) hm
    obtain ⟨nx, hqx, -⟩ := mis_at (by omega) hmx
    rw [hn] at h2
    have he := mwo_at (cA := cA) (bs := bs) (wt := wt) (bb := bb) (f := f) hq
    rw [mce_13] at he
    have hex := mwo_at (cA := cA) (bs := bs) (wt := wt) (bb := bb) (f := f) hqx
    rw [mce_o (by omega)] at hex
    obtain ⟨hv1, hv2⟩ := vin (okv_i o_i) h1 h2
    rw [List.map_cons, List.map_cons, List.map_cons, mrv_p hm.1, mrv_i, mrv_p hmx.1]
    refine va_astq hx hb hK hP hD hS _ 3 _ 2 (r := (kN 2, kT 2, kF 2)) he rfl hex (vw_at 2 (by omega)) hv1 hdg (fun H1 locs1 g1 _ g2 => ?_)
    rw [upr_of hmx.1 hv2] at g1
    rw [← mce_13 (cA := cA) (bs := bs) (wt := wt) (bb := bb) (g := fun q => if q = i.toNat then x else f (a - 1).toNat q), mwo_set hq] at g1
    exact PW_gm h fr ms hst g1 g2 (okF_up hF hq (by show okv (2, x); exact o_x))
set_option maxHeartbeats 4000000 in
theorem pc_getstatic (X : mX) (i : Nat) : PC X (.getstatic i) := by
  intro d fin k pc nx ins ls st sh f Q hk hdg hnx hrs h p l e R s m args below meth c bs wt bb cA D c0 s0 Z fr H locs lz ms
  obtain ⟨-, hx, hb, hml, hown, hts, hini, hST, hsz, hd, hlo, hfc, hfs, hret⟩ := id fr
  obtain ⟨hP, hS, hSh, hF, hls, hst, hl, hln, hc0, hs0, hlf, hsf⟩ := id ms
  obtain ⟨hnw, ha5, ha2, hK, hZ, hT, hX, hbl, hbb, hx32, hxl⟩ := id hST
  have hD : va_D (fun q => bs ≤ q) (mwo cA bs wt bb sh f) := mwo_D
  obtain rfl : nx = pc + 3 := hnx
  change decode _ _ = .ok ((.getstatic i), 3) at hdg
  have hw : (mt k).1 = 4 ∧ i = 86 := by
    by_cases hc : (mt k).1 = 4 ∧ i = 86
    · exact hc
    · simp only [rsv, if_neg hc] at hrs
      cases hrs
  obtain rfl : Instr.getstatic 0 = ins := by simpa [rsv, hw] using hrs
  obtain ⟨hw1, rfl⟩ := hw
  rw [hw1] at hown
  refine va_gets hx hb hZ hS hown (hts _ (gt_in sp_ok6.1)) (fun x hx => hx) hdg ?_
  exact PW_go (st' := (2, -1) :: st) h fr ms (fc2 (vr _) hst)
set_option maxHeartbeats 4000000 in
theorem pc_ireturn (X : mX) : PC X .ireturn := by
  intro d fin k pc nx ins ls st sh f Q hk hdg hnx hrs h p l e R s m args below meth c bs wt bb cA D c0 s0 Z fr H locs lz ms
  obtain ⟨-, hx, hb, hml, hown, hts, hini, hST, hsz, hd, hlo, hfc, hfs, hret⟩ := id fr
  obtain ⟨hP, hS, hSh, hF, hls, hst, hl, hln, hc0, hs0, hlf, hsf⟩ := id ms
  obtain ⟨hnw, ha5, ha2, hK, hZ, hT, hX, hbl, hbb, hx32, hxl⟩ := id hST
  have hD : va_D (fun q => bs ≤ q) (mwo cA bs wt bb sh f) := mwo_D
  obtain rfl : nx = pc + 1 := hnx
  change decode _ _ = .ok (.ireturn, 1) at hdg
  by_cases hzb : (mt k).2.2.2.2.1 = some .boolean
  · obtain rfl : Instr.dreturn = ins := by simpa [rsv, hzb] using hrs
    have h2 := popI_sp h; clear h; obtain ⟨x, s_x, rfl, h⟩ := h2
    obtain ⟨hz, rfl, rfl, hq⟩ := h
    obtain ⟨o_x, hst⟩ := fc1 hst
    exact hret _ _ H locs lz pc _ hq hP hS hF hSh (Or.inl ⟨x, rfl, okv_i o_x, rfl, hdg, Or.inr ⟨hzb, hz⟩⟩)
  · have hzi : (mt k).2.2.2.2.1 = some .int := by
      by_cases hc : (mt k).2.2.2.2.1 = some .int
      · exact hc
      · simp [rsv, hzb, hc] at hrs
    obtain rfl : Instr.ireturn = ins := by simpa [rsv, hzi] using hrs
    have h2 := popI_sp h; clear h; obtain ⟨x, s_x, rfl, h⟩ := h2
    obtain ⟨rfl, rfl, hq⟩ := h
    obtain ⟨o_x, hst⟩ := fc1 hst
    exact hret _ _ H locs lz pc _ hq hP hS hF hSh (Or.inl ⟨x, rfl, okv_i o_x, rfl, hdg, Or.inl hzi⟩)
set_option maxHeartbeats 4000000 in
theorem pc_lreturn (X : mX) : PC X .lreturn := by
  intro d fin k pc nx ins ls st sh f Q hk hdg hnx hrs h p l e R s m args below meth c bs wt bb cA D c0 s0 Z fr H locs lz ms
  obtain ⟨-, hx, hb, hml, hown, hts, hini, hST, hsz, hd, hlo, hfc, hfs, hret⟩ := id fr
  obtain ⟨hP, hS, hSh, hF, hls, hst, hl, hln, hc0, hs0, hlf, hsf⟩ := id ms
  obtain ⟨hnw, ha5, ha2, hK, hZ, hT, hX, hbl, hbb, hx32, hxl⟩ := id hST
  have hD : va_D (fun q => bs ≤ q) (mwo cA bs wt bb sh f) := mwo_D
  obtain rfl : nx = pc + 1 := hnx
  change decode _ _ = .ok (.lreturn, 1) at hdg
  have hzb : (mt k).2.2.2.2.1 = some .long := by
    by_cases hc : (mt k).2.2.2.2.1 = some .long
    · exact hc
    · simp [rsv, hc] at hrs
  obtain rfl : Instr.lreturn = ins := by simpa [rsv, hzb] using hrs
  have h2 := popL_sp h; clear h; obtain ⟨x, s_x, rfl, h⟩ := h2
  obtain ⟨rfl, rfl, hq⟩ := h
  obtain ⟨o_x, hst⟩ := fc1 hst
  exact hret _ _ H locs lz pc _ hq hP hS hF hSh (Or.inr (Or.inl ⟨x, rfl, okv_l o_x, rfl, hdg, hzb⟩))
set_option maxHeartbeats 4000000 in
theorem pc_areturn (X : mX) : PC X .areturn := by
  intro d fin k pc nx ins ls st sh f Q hk hdg hnx hrs h p l e R s m args below meth c bs wt bb cA D c0 s0 Z fr H locs lz ms
  obtain ⟨-, hx, hb, hml, hown, hts, hini, hST, hsz, hd, hlo, hfc, hfs, hret⟩ := id fr
  obtain ⟨hP, hS, hSh, hF, hls, hst, hl, hln, hc0, hs0, hlf, hsf⟩ := id ms
  obtain ⟨hnw, ha5, ha2, hK, hZ, hT, hX, hbl, hbb, hx32, hxl⟩ := id hST
  have hD : va_D (fun q => bs ≤ q) (mwo cA bs wt bb sh f) := mwo_D
  obtain rfl : nx = pc + 1 := hnx
  change decode _ _ = .ok (.areturn, 1) at hdg
  have hzb : rtr (mt k).2.2.2.2.1 = true := by
    by_cases hc : rtr (mt k).2.2.2.2.1 = true
    · exact hc
    · simp [rsv, hc] at hrs
  obtain rfl : Instr.areturn = ins := by simpa [rsv, hzb] using hrs
  have h2 := popR_sp h; clear h; obtain ⟨x, s_x, rfl, h⟩ := h2
  obtain ⟨rfl, rfl, hq⟩ := h
  obtain ⟨o_x, hst⟩ := fc1 hst
  exact hret _ _ H locs lz pc _ hq hP hS hF hSh (Or.inr (Or.inr (Or.inl ⟨x, rfl, rfl, hdg, hzb⟩)))
set_option maxHeartbeats 4000000 in
theorem pc_return (X : mX) : PC X .return_ := by
  intro d fin k pc nx ins ls st sh f Q hk hdg hnx hrs h p l e R s m args below meth c bs wt bb cA D c0 s0 Z fr H locs lz ms
  obtain ⟨-, hx, hb, hml, hown, hts, hini, hST, hsz, hd, hlo, hfc, hfs, hret⟩ := id fr
  obtain ⟨hP, hS, hSh, hF, hls, hst, hl, hln, hc0, hs0, hlf, hsf⟩ := id ms
  obtain ⟨hnw, ha5, ha2, hK, hZ, hT, hX, hbl, hbb, hx32, hxl⟩ := id hST
  have hD : va_D (fun q => bs ≤ q) (mwo cA bs wt bb sh f) := mwo_D
  obtain rfl : nx = pc + 1 := hnx
  change decode _ _ = .ok (.return_, 1) at hdg
  have hzb : (mt k).2.2.2.2.1 = none := by
    by_cases hc : (mt k).2.2.2.2.1 = none
    · exact hc
    · simp [rsv, hc] at hrs
  obtain rfl : Instr.return_ = ins := by simpa [rsv, hzb] using hrs
  obtain ⟨rfl, rfl, hq⟩ := h
  exact hret _ _ H locs lz pc _ hq hP hS hF hSh (Or.inr (Or.inr (Or.inr ⟨rfl, rfl, hdg, hzb⟩)))
