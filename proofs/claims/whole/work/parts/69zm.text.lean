/-! a text, token by token -/
def isL (tx : Nat → Int) (k : Nat) : Bool := decide (97 ≤ tx k ∧ tx k ≤ 122)
def isF (tx : Nat → Int) (k : Nat) : Bool := decide (48 ≤ tx k ∧ tx k ≤ 57)
def isB (tx : Nat → Int) (k : Nat) : Bool := decide (tx k = 32)
def rune (q : Nat → Bool) : Nat → Nat → Nat
  | 0, p => p
  | t + 1, p => if q p = true then rune q t (p + 1) else p
theorem rune_s {q : Nat → Bool} : ∀ t p, p ≤ rune q t p ∧ rune q t p ≤ p + t ∧ (∀ k, p ≤ k → k < rune q t p → q k = true) ∧ (rune q t p < p + t → q (rune q t p) = false) := by
  intro t
  induction t with
  | zero => intro p; exact ⟨Nat.le_refl _, Nat.le_refl _, fun k h1 h2 => absurd h2 (Nat.not_lt.2 h1), fun h => absurd h (Nat.lt_irrefl _)⟩
  | succ t ih =>
    intro p
    by_cases h : q p = true
    · have e : rune q (t + 1) p = rune q t (p + 1) := if_pos h
      rw [e]
      obtain ⟨a, b, c, z⟩ := ih (p + 1)
      refine ⟨by omega, by omega, fun k h1 h2 => ?_, fun h2 => z (by omega)⟩
      by_cases hk : k = p
      · rw [hk]; exact h
      · exact c k (by omega) h2
    · have e : rune q (t + 1) p = p := if_neg h
      rw [e]
      refine ⟨Nat.le_refl _, by omega, fun k h1 h2 => absurd h2 (by omega), fun _ => ?_⟩
      cases hq : q p
      · rfl
      · exact absurd hq h
def lend (tx : Nat → Int) (n p : Nat) : Nat := rune (isL tx) (n - p) p
def fend (tx : Nat → Int) (n p : Nat) : Nat := rune (isF tx) (n - p) p
def bend (tx : Nat → Int) (n p : Nat) : Nat := rune (isB tx) (n - p) p
theorem lend_s {tx : Nat → Int} {n p : Nat} (hp : p ≤ n) : p ≤ lend tx n p ∧ lend tx n p ≤ n ∧ (∀ k, p ≤ k → k < lend tx n p → 97 ≤ tx k ∧ tx k ≤ 122) ∧ (lend tx n p < n → ¬ (97 ≤ tx (lend tx n p) ∧ tx (lend tx n p) ≤ 122)) := by
  obtain ⟨a, b, c, z⟩ := rune_s (q := isL tx) (n - p) p
  exact ⟨a, by unfold lend; omega, fun k h1 h2 => of_decide_eq_true (c k h1 h2), fun h => of_decide_eq_false (z (by unfold lend at h; omega))⟩
theorem fend_s {tx : Nat → Int} {n p : Nat} (hp : p ≤ n) : p ≤ fend tx n p ∧ fend tx n p ≤ n ∧ (∀ k, p ≤ k → k < fend tx n p → 48 ≤ tx k ∧ tx k ≤ 57) ∧ (fend tx n p < n → ¬ (48 ≤ tx (fend tx n p) ∧ tx (fend tx n p) ≤ 57)) := by
  obtain ⟨a, b, c, z⟩ := rune_s (q := isF tx) (n - p) p
  exact ⟨a, by unfold fend; omega, fun k h1 h2 => of_decide_eq_true (c k h1 h2), fun h => of_decide_eq_false (z (by unfold fend at h; omega))⟩
theorem bend_s {tx : Nat → Int} {n p : Nat} (hp : p ≤ n) : p ≤ bend tx n p ∧ bend tx n p ≤ n ∧ (∀ k, p ≤ k → k < bend tx n p → tx k = 32) ∧ (bend tx n p < n → ¬ tx (bend tx n p) = 32) := by
  obtain ⟨a, b, c, z⟩ := rune_s (q := isB tx) (n - p) p
  exact ⟨a, by unfold bend; omega, fun k h1 h2 => of_decide_eq_true (c k h1 h2), fun h => of_decide_eq_false (z (by unfold bend at h; omega))⟩
theorem bend_at {tx : Nat → Int} {n p : Nat} (h : n ≤ p ∨ ¬ tx p = 32) : bend tx n p = p := by
  unfold bend
  by_cases hp : n ≤ p
  · rw [show n - p = 0 by omega]
    rfl
  · obtain ⟨m, hm⟩ : ∃ m, n - p = m + 1 := ⟨n - p - 1, by omega⟩
    rw [hm]
    exact if_neg (fun z => (h.resolve_left hp) (of_decide_eq_true z))
theorem lend_1 {tx : Nat → Int} {n p : Nat} (hp : p < n) (h : 97 ≤ tx p ∧ tx p ≤ 122) : p < lend tx n p := by
  obtain ⟨a, b, c, z⟩ := lend_s (tx := tx) (Nat.le_of_lt hp)
  by_cases e : lend tx n p = p
  · rw [e] at z
    exact absurd h (z hp)
  · omega
theorem fend_1 {tx : Nat → Int} {n p : Nat} (hp : p < n) (h : 48 ≤ tx p ∧ tx p ≤ 57) : p < fend tx n p := by
  obtain ⟨a, b, c, z⟩ := fend_s (tx := tx) (Nat.le_of_lt hp)
  by_cases e : fend tx n p = p
  · rw [e] at z
    exact absurd h (z hp)
  · omega
def WC (tx : Nat → Int) (p e : Nat) : Int := wc (fun i => tx (p + i)) (e - p)
def num (tx : Nat → Int) (p m : Nat) : Int := if m = 2 then (tx p - 48) * 10 + tx (p + 1) - 48 else tx p - 48
def rfr (fr : Nat → Int) (k : Nat) (v : Int) : Nat → Int := fun j => if j = k then v else fr j
theorem rfr_e {fr : Nat → Int} {k : Nat} {v : Int} : rfr fr k v k = v := if_pos rfl
theorem rfr_n {fr : Nat → Int} {k j : Nat} {v : Int} (h : j ≠ k) : rfr fr k v j = fr j := if_neg h
/-- one token: stage 0 before a clause, 1 before its number, 2 before a word, 3 behind one -/
def RDs (tx : Nat → Int) (n : Nat) (K : Nat → Int → (Nat → Int) → Nat → Int → Int × Int × Int × (Nat → Int)) (p : Nat) (st : Int) (fr : Nat → Int) (cw : Nat) (cl : Int) : Int × Int × Int × (Nat → Int) :=
  if n ≤ p then (if st = 0 then (0, -1, cl, fr) else (1, (n : Int), cl, fr))
  else if 97 ≤ tx p ∧ tx p ≤ 122 then
    (if st = 0 ∧ WC tx p (lend tx n p) = 512736125800 then K (lend tx n p) 1 fr cw cl
    else if st = 2 ∧ wof (WC tx p (lend tx n p)) ≠ -1 then
      (if bitO (fr cw) (wof (WC tx p (lend tx n p))) = 0 then K (lend tx n p) 3 (rfr fr cw (orO (fr cw) (wof (WC tx p (lend tx n p))))) cw cl else (4, (p : Int), cl, fr))
    else (1, (p : Int), cl, fr))
  else if 48 ≤ tx p ∧ tx p ≤ 57 then
    (if st = 1 then
      (if 2 < fend tx n p - p ∨ 12 ≤ num tx p (fend tx n p - p) then (2, (p : Int), cl, fr)
      else if fr (num tx p (fend tx n p - p)).toNat ≠ -1 then (3, (p : Int), cl, fr)
      else K (fend tx n p) 2 (rfr fr (num tx p (fend tx n p - p)).toNat 0) (num tx p (fend tx n p - p)).toNat cl)
    else (1, (p : Int), cl, fr))
  else if tx p = 32 then K (p + 1) st fr cw cl
  else if st = 3 ∧ tx p = 44 then K (p + 1) 2 fr cw cl
  else if st = 3 ∧ tx p = 59 then K (p + 1) 0 fr cw (cl + 1)
  else (1, (p : Int), cl, fr)
def RD (tx : Nat → Int) (n : Nat) : Nat → Nat → Int → (Nat → Int) → Nat → Int → Int × Int × Int × (Nat → Int)
  | 0, _, _, fr, _, cl => (1, 0, cl, fr)
  | t + 1, p, st, fr, cw, cl => RDs tx n (RD tx n t) p st fr cw cl
theorem rd_e0 {tx : Nat → Int} {n t p : Nat} {fr : Nat → Int} {cw : Nat} {cl : Int} (h : n ≤ p) : RD tx n (t + 1) p 0 fr cw cl = (0, -1, cl, fr) := by
  show RDs tx n (RD tx n t) p 0 fr cw cl = _
  unfold RDs
  rw [if_pos h, if_pos rfl]
theorem rd_e1 {tx : Nat → Int} {n t p : Nat} {st : Int} {fr : Nat → Int} {cw : Nat} {cl : Int} (h : n ≤ p) (hs : ¬ st = 0) : RD tx n (t + 1) p st fr cw cl = (1, (n : Int), cl, fr) := by
  show RDs tx n (RD tx n t) p st fr cw cl = _
  unfold RDs
  rw [if_pos h, if_neg hs]
theorem rd_w0 {tx : Nat → Int} {n t p : Nat} {st : Int} {fr : Nat → Int} {cw : Nat} {cl : Int} (h : p < n) (hl : 97 ≤ tx p ∧ tx p ≤ 122) (hw : st = 0 ∧ WC tx p (lend tx n p) = 512736125800) : RD tx n (t + 1) p st fr cw cl = RD tx n t (lend tx n p) 1 fr cw cl := by
  show RDs tx n (RD tx n t) p st fr cw cl = _
  unfold RDs
  rw [if_neg (Nat.not_le.2 h), if_pos hl, if_pos hw]
theorem rd_w2 {tx : Nat → Int} {n t p : Nat} {st : Int} {fr : Nat → Int} {cw : Nat} {cl : Int} (h : p < n) (hl : 97 ≤ tx p ∧ tx p ≤ 122) (hw : st = 2 ∧ wof (WC tx p (lend tx n p)) ≠ -1) (hb : bitO (fr cw) (wof (WC tx p (lend tx n p))) = 0) : RD tx n (t + 1) p st fr cw cl = RD tx n t (lend tx n p) 3 (rfr fr cw (orO (fr cw) (wof (WC tx p (lend tx n p))))) cw cl := by
  show RDs tx n (RD tx n t) p st fr cw cl = _
  unfold RDs
  rw [if_neg (Nat.not_le.2 h), if_pos hl, if_neg (fun x => by omega), if_pos hw, if_pos hb]
theorem rd_w4 {tx : Nat → Int} {n t p : Nat} {st : Int} {fr : Nat → Int} {cw : Nat} {cl : Int} (h : p < n) (hl : 97 ≤ tx p ∧ tx p ≤ 122) (hw : st = 2 ∧ wof (WC tx p (lend tx n p)) ≠ -1) (hb : ¬ bitO (fr cw) (wof (WC tx p (lend tx n p))) = 0) : RD tx n (t + 1) p st fr cw cl = (4, (p : Int), cl, fr) := by
  show RDs tx n (RD tx n t) p st fr cw cl = _
  unfold RDs
  rw [if_neg (Nat.not_le.2 h), if_pos hl, if_neg (fun x => by omega), if_pos hw, if_neg hb]
theorem rd_wx {tx : Nat → Int} {n t p : Nat} {st : Int} {fr : Nat → Int} {cw : Nat} {cl : Int} (h : p < n) (hl : 97 ≤ tx p ∧ tx p ≤ 122) (hw : ¬ (st = 0 ∧ WC tx p (lend tx n p) = 512736125800)) (hx : ¬ (st = 2 ∧ wof (WC tx p (lend tx n p)) ≠ -1)) : RD tx n (t + 1) p st fr cw cl = (1, (p : Int), cl, fr) := by
  show RDs tx n (RD tx n t) p st fr cw cl = _
  unfold RDs
  rw [if_neg (Nat.not_le.2 h), if_pos hl, if_neg hw, if_neg hx]
theorem rd_n1 {tx : Nat → Int} {n t p : Nat} {st : Int} {fr : Nat → Int} {cw : Nat} {cl : Int} (h : p < n) (hf : 48 ≤ tx p ∧ tx p ≤ 57) (hs : ¬ st = 1) : RD tx n (t + 1) p st fr cw cl = (1, (p : Int), cl, fr) := by
  show RDs tx n (RD tx n t) p st fr cw cl = _
  unfold RDs
  rw [if_neg (Nat.not_le.2 h), if_neg (fun x => by omega), if_pos hf, if_neg hs]
theorem rd_n2 {tx : Nat → Int} {n t p : Nat} {fr : Nat → Int} {cw : Nat} {cl : Int} (h : p < n) (hf : 48 ≤ tx p ∧ tx p ≤ 57) (hg : 2 < fend tx n p - p ∨ 12 ≤ num tx p (fend tx n p - p)) : RD tx n (t + 1) p 1 fr cw cl = (2, (p : Int), cl, fr) := by
  show RDs tx n (RD tx n t) p 1 fr cw cl = _
  unfold RDs
  rw [if_neg (Nat.not_le.2 h), if_neg (fun x => by omega), if_pos hf, if_pos rfl, if_pos hg]
theorem rd_n3 {tx : Nat → Int} {n t p : Nat} {fr : Nat → Int} {cw : Nat} {cl : Int} (h : p < n) (hf : 48 ≤ tx p ∧ tx p ≤ 57) (hg : ¬ (2 < fend tx n p - p ∨ 12 ≤ num tx p (fend tx n p - p))) (hr : fr (num tx p (fend tx n p - p)).toNat ≠ -1) : RD tx n (t + 1) p 1 fr cw cl = (3, (p : Int), cl, fr) := by
  show RDs tx n (RD tx n t) p 1 fr cw cl = _
  unfold RDs
  rw [if_neg (Nat.not_le.2 h), if_neg (fun x => by omega), if_pos hf, if_pos rfl, if_neg hg, if_pos hr]
theorem rd_n0 {tx : Nat → Int} {n t p : Nat} {fr : Nat → Int} {cw : Nat} {cl : Int} (h : p < n) (hf : 48 ≤ tx p ∧ tx p ≤ 57) (hg : ¬ (2 < fend tx n p - p ∨ 12 ≤ num tx p (fend tx n p - p))) (hr : fr (num tx p (fend tx n p - p)).toNat = -1) : RD tx n (t + 1) p 1 fr cw cl = RD tx n t (fend tx n p) 2 (rfr fr (num tx p (fend tx n p - p)).toNat 0) (num tx p (fend tx n p - p)).toNat cl := by
  show RDs tx n (RD tx n t) p 1 fr cw cl = _
  unfold RDs
  rw [if_neg (Nat.not_le.2 h), if_neg (fun x => by omega), if_pos hf, if_pos rfl, if_neg hg, if_neg (fun x => x hr)]
theorem rd_b {tx : Nat → Int} {n t p : Nat} {st : Int} {fr : Nat → Int} {cw : Nat} {cl : Int} (h : p < n) (hb : tx p = 32) : RD tx n (t + 1) p st fr cw cl = RD tx n t (p + 1) st fr cw cl := by
  show RDs tx n (RD tx n t) p st fr cw cl = _
  unfold RDs
  rw [if_neg (Nat.not_le.2 h), if_neg (fun x => by omega), if_neg (fun x => by omega), if_pos hb]
theorem rd_c {tx : Nat → Int} {n t p : Nat} {st : Int} {fr : Nat → Int} {cw : Nat} {cl : Int} (h : p < n) (hc : st = 3 ∧ tx p = 44) : RD tx n (t + 1) p st fr cw cl = RD tx n t (p + 1) 2 fr cw cl := by
  show RDs tx n (RD tx n t) p st fr cw cl = _
  unfold RDs
  rw [if_neg (Nat.not_le.2 h), if_neg (fun x => by omega), if_neg (fun x => by omega), if_neg (fun x => by omega), if_pos hc]
theorem rd_s {tx : Nat → Int} {n t p : Nat} {st : Int} {fr : Nat → Int} {cw : Nat} {cl : Int} (h : p < n) (hc : st = 3 ∧ tx p = 59) : RD tx n (t + 1) p st fr cw cl = RD tx n t (p + 1) 0 fr cw (cl + 1) := by
  show RDs tx n (RD tx n t) p st fr cw cl = _
  unfold RDs
  rw [if_neg (Nat.not_le.2 h), if_neg (fun x => by omega), if_neg (fun x => by omega), if_neg (fun x => by omega), if_neg (fun x => by omega), if_pos hc]
theorem rd_x {tx : Nat → Int} {n t p : Nat} {st : Int} {fr : Nat → Int} {cw : Nat} {cl : Int} (h : p < n) (hl : ¬ (97 ≤ tx p ∧ tx p ≤ 122)) (hf : ¬ (48 ≤ tx p ∧ tx p ≤ 57)) (hb : ¬ tx p = 32) (hc : ¬ (st = 3 ∧ tx p = 44)) (hs : ¬ (st = 3 ∧ tx p = 59)) : RD tx n (t + 1) p st fr cw cl = (1, (p : Int), cl, fr) := by
  show RDs tx n (RD tx n t) p st fr cw cl = _
  unfold RDs
  rw [if_neg (Nat.not_le.2 h), if_neg hl, if_neg hf, if_neg hb, if_neg hc, if_neg hs]
/-- blanks are left -/
theorem rd_bl {tx : Nat → Int} {n : Nat} {st : Int} {fr : Nat → Int} {cw : Nat} {cl : Int} : ∀ j t p, (∀ k, p ≤ k → k < p + j → k < n ∧ tx k = 32) → RD tx n (t + j) p st fr cw cl = RD tx n t (p + j) st fr cw cl := by
  intro j
  induction j with
  | zero => exact fun _ _ _ => rfl
  | succ j ih =>
    intro t p h
    have h0 := h p (by omega) (by omega)
    rw [show t + (j + 1) = (t + j) + 1 by omega, rd_b h0.1 h0.2, ih t (p + 1) (fun k h1 h2 => h k (by omega) (by omega)), show p + 1 + j = p + (j + 1) by omega]
/-- from a place on to the first that is no blank -/
theorem rd_go {tx : Nat → Int} {n t p : Nat} {st : Int} {fr : Nat → Int} {cw : Nat} {cl : Int} (hp : p ≤ n) (ht : n < t + p) : ∃ t', RD tx n (t' + 1) (bend tx n p) st fr cw cl = RD tx n t p st fr cw cl ∧ n < t' + 1 + bend tx n p := by
  obtain ⟨a, b, c, z⟩ := bend_s (tx := tx) hp
  obtain ⟨j, hj⟩ : ∃ j, bend tx n p = p + j := ⟨bend tx n p - p, by omega⟩
  obtain ⟨t', ht'⟩ : ∃ t', t = (t' + 1) + j := ⟨t - j - 1, by omega⟩
  refine ⟨t', ?_, by omega⟩
  rw [ht', rd_bl j (t' + 1) p (fun k h1 h2 => ⟨by omega, c k h1 (by omega)⟩), hj]
