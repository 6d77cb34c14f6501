/-! bytes of a long, bits of an int -/
theorem lo8 : ∀ i : Fin 32, (Int32.ofInt 255).toBitVec.getLsbD i.val = decide (i.val < 8) := by decide +kernel
theorem lo8l : ∀ i : Fin 32, (Int64.ofInt 255).toBitVec.getLsbD i.val = decide (i.val < 8) := by decide +kernel
theorem lo8k {i : Nat} (h : i < 32) : (Int32.ofInt 255).toBitVec.getLsbD i = decide (i < 8) := lo8 ⟨i, h⟩
theorem lo8lk {i : Nat} (h : i < 32) : (Int64.ofInt 255).toBitVec.getLsbD i = decide (i < 8) := lo8l ⟨i, h⟩
theorem sh_u : ∀ k : Fin 8, (((Int32.ofInt (8 * (k.val : Int))).toInt64.toUInt64 &&& Int64.toUInt64 63).toBitVec % 64).toNat = 8 * k.val := by decide +kernel
theorem sh_s : ∀ k : Fin 8, (((Int32.ofInt (8 * (k.val : Int))).toInt64 &&& 63).toBitVec.smod 64).toNat = 8 * k.val := by decide +kernel
theorem sh_uk {k : Nat} (h : k < 8) : (((Int32.ofInt (8 * (k : Int))).toInt64.toUInt64 &&& Int64.toUInt64 63).toBitVec % 64).toNat = 8 * k := sh_u ⟨k, h⟩
theorem sh_sk {k : Nat} (h : k < 8) : (((Int32.ofInt (8 * (k : Int))).toInt64 &&& 63).toBitVec.smod 64).toNat = 8 * k := sh_s ⟨k, h⟩
def byt (x : Int) (k : Nat) : Int := (Int32.ofInt ((Int64.ofInt (((Int64.ofInt x).toUInt64 >>> ((Int32.ofInt (8 * (k : Int))).toInt64.toUInt64 &&& Int64.toUInt64 63)).toInt64.toInt)).toInt32.toInt) &&& Int32.ofInt 255).toInt
theorem byt_b1 (y : Int64) {k i : Nat} (hk : k < 8) : (y.toUInt64 >>> ((Int32.ofInt (8 * (k : Int))).toInt64.toUInt64 &&& Int64.toUInt64 63)).toInt64.toBitVec.getLsbD i = y.toBitVec.getLsbD (8 * k + i) := by
  show (y.toUInt64 >>> ((Int32.ofInt (8 * (k : Int))).toInt64.toUInt64 &&& Int64.toUInt64 63)).toBitVec.getLsbD i = _
  rw [UInt64.toBitVec_shiftRight]
  show (y.toUInt64.toBitVec >>> (((Int32.ofInt (8 * (k : Int))).toInt64.toUInt64 &&& Int64.toUInt64 63).toBitVec % 64).toNat).getLsbD i = _
  rw [sh_uk hk, BitVec.getLsbD_ushiftRight]
  rfl
theorem byt_b2 (y : Int64) {k i : Nat} (hk : k < 8) (hi : i < 8) : (y >>> ((Int32.ofInt (8 * (k : Int))).toInt64 &&& 63)).toBitVec.getLsbD i = y.toBitVec.getLsbD (8 * k + i) := by
  rw [Int64.toBitVec_shiftRight]
  show (y.toBitVec.sshiftRight (((Int32.ofInt (8 * (k : Int))).toInt64 &&& 63).toBitVec.smod 64).toNat).getLsbD i = _
  rw [sh_sk hk, BitVec.getLsbD_sshiftRight, if_pos (by omega), decide_eq_false (by omega)]
  rfl
theorem byt_m {x : Int} {k : Nat} (hk : k < 8) : (Int64.ofInt ((Int64.ofInt ((Int64.ofInt x >>> ((Int32.ofInt (8 * (k : Int))).toInt64 &&& 63)).toInt) &&& Int64.ofInt 255).toInt)).toInt32.toInt = byt x k := by
  unfold byt
  simp only [Int64.ofInt_toInt, Int32.ofInt_toInt]
  apply congrArg Int32.toInt
  apply Int32.toBitVec_inj.1
  apply BitVec.eq_of_getLsbD_eq
  intro i hi
  rw [Int32.toBitVec_and, BitVec.getLsbD_and, Int64.toBitVec_toInt32, Int64.toBitVec_toInt32, BitVec.getLsbD_signExtend, BitVec.getLsbD_signExtend, Int64.toBitVec_and, BitVec.getLsbD_and, lo8k hi, lo8lk hi, decide_eq_true hi, if_pos (by omega), if_pos (by omega)]
  by_cases h8 : i < 8
  · rw [byt_b1 _ hk, byt_b2 _ hk h8]
    rfl
  · rw [decide_eq_false h8, Bool.and_false, Bool.and_false, Bool.and_false]
theorem and8 (z : Int32) : 0 ≤ (z &&& Int32.ofInt 255).toInt ∧ (z &&& Int32.ofInt 255).toInt ≤ 255 := by
  have h : (z &&& Int32.ofInt 255).toBitVec.toNat ≤ 255 := by
    rw [Int32.toBitVec_and, BitVec.toNat_and]
    exact Nat.le_trans (Nat.and_le_right (n := z.toBitVec.toNat)) (by decide)
  have e : (z &&& Int32.ofInt 255).toInt = ((z &&& Int32.ofInt 255).toBitVec.toNat : Int) := by
    show (z &&& Int32.ofInt 255).toBitVec.toInt = _
    rw [BitVec.toInt_eq_toNat_cond, if_pos (by omega)]
  omega
theorem byt_b {x : Int} {k : Nat} : 0 ≤ byt x k ∧ byt x k ≤ 255 := and8 _
/-! bits of a set -/
theorem sh_w : ∀ k : Fin 12, (((Int32.ofInt (k.val : Int)) &&& 31).toBitVec.smod 32).toNat = k.val := by decide +kernel
theorem sh_wk {k : Nat} (h : k < 12) : (((Int32.ofInt (k : Int)) &&& 31).toBitVec.smod 32).toNat = k := sh_w ⟨k, h⟩
theorem one_b : ∀ i : Fin 32, (Int32.ofInt 1).toBitVec.getLsbD i.val = decide (i.val = 0) := by decide +kernel
theorem one_bk {i : Nat} (h : i < 32) : (Int32.ofInt 1).toBitVec.getLsbD i = decide (i = 0) := one_b ⟨i, h⟩
theorem nil_b : ∀ i : Fin 32, (Int32.ofInt 0).toBitVec.getLsbD i.val = false := by decide +kernel
theorem nil_bk {i : Nat} (h : i < 32) : (Int32.ofInt 0).toBitVec.getLsbD i = false := nil_b ⟨i, h⟩
theorem sh_1 : ∀ j k : Fin 12, (Int32.ofInt 1 <<< (Int32.ofInt (k.val : Int) &&& 31)).toBitVec.getLsbD j.val = decide (j.val = k.val) := by decide +kernel
theorem sh_1k {j k : Nat} (hj : j < 12) (hk : k < 12) : (Int32.ofInt 1 <<< (Int32.ofInt (k : Int) &&& 31)).toBitVec.getLsbD j = decide (j = k) := sh_1 ⟨j, hj⟩ ⟨k, hk⟩
theorem bt1 (x : Int32) {k : Nat} (hk : k < 12) : (Int32.ofInt ((Int32.ofInt x.toInt >>> (Int32.ofInt (k : Int) &&& 31)).toInt) &&& Int32.ofInt 1).toInt = if x.toBitVec.getLsbD k = true then 1 else 0 := by
  rw [Int32.ofInt_toInt, Int32.ofInt_toInt]
  have e : (x >>> (Int32.ofInt (k : Int) &&& 31)).toBitVec.getLsbD 0 = x.toBitVec.getLsbD k := by
    rw [Int32.toBitVec_shiftRight]
    show (x.toBitVec.sshiftRight (((Int32.ofInt (k : Int)) &&& 31).toBitVec.smod 32).toNat).getLsbD 0 = _
    rw [sh_wk hk, BitVec.getLsbD_sshiftRight, if_pos (by omega), Nat.add_zero]
    rfl
  by_cases hb : x.toBitVec.getLsbD k = true
  · have h : ((x >>> (Int32.ofInt (k : Int) &&& 31)) &&& Int32.ofInt 1) = Int32.ofInt 1 := by
      apply Int32.toBitVec_inj.1
      apply BitVec.eq_of_getLsbD_eq
      intro i hi
      rw [Int32.toBitVec_and, BitVec.getLsbD_and, one_bk hi]
      by_cases h0 : i = 0
      · subst h0
        rw [e, hb]
        rfl
      · rw [decide_eq_false h0, Bool.and_false]
    rw [h, if_pos hb]
    rfl
  · have h : ((x >>> (Int32.ofInt (k : Int) &&& 31)) &&& Int32.ofInt 1) = Int32.ofInt 0 := by
      apply Int32.toBitVec_inj.1
      apply BitVec.eq_of_getLsbD_eq
      intro i hi
      rw [Int32.toBitVec_and, BitVec.getLsbD_and, one_bk hi, nil_bk hi]
      by_cases h0 : i = 0
      · subst h0
        rw [e, show x.toBitVec.getLsbD k = false by simpa using hb]
        rfl
      · rw [decide_eq_false h0, Bool.and_false]
    rw [h, if_neg hb]
    rfl
theorem bto (x : Int32) {j k : Nat} (hj : j < 12) (hk : k < 12) : (Int32.ofInt x.toInt ||| Int32.ofInt ((Int32.ofInt 1 <<< (Int32.ofInt (k : Int) &&& 31)).toInt)).toBitVec.getLsbD j = (x.toBitVec.getLsbD j || decide (j = k)) := by
  rw [Int32.ofInt_toInt, Int32.ofInt_toInt, Int32.toBitVec_or, BitVec.getLsbD_or, sh_1k hj hk]
def bitO (x w : Int) : Int := (Int32.ofInt ((Int32.ofInt x >>> (Int32.ofInt w &&& 31)).toInt) &&& Int32.ofInt 1).toInt
def orO (x w : Int) : Int := (Int32.ofInt x ||| Int32.ofInt ((Int32.ofInt 1 <<< (Int32.ofInt w &&& 31)).toInt)).toInt
theorem wo_d : ∀ x : Fin 32, ∀ w : Fin 5, (bitO (x.val : Int) (w.val : Int) = 0 ∨ bitO (x.val : Int) (w.val : Int) = 1) ∧ 0 ≤ orO (x.val : Int) (w.val : Int) ∧ orO (x.val : Int) (w.val : Int) ≤ 31 := by decide +kernel
theorem wo_b {x w : Int} (hx : 0 ≤ x ∧ x ≤ 31) (hw : 0 ≤ w ∧ w ≤ 4) : (bitO x w = 0 ∨ bitO x w = 1) ∧ 0 ≤ orO x w ∧ orO x w ≤ 31 := by
  obtain ⟨a, rfl⟩ : ∃ a : Nat, x = (a : Int) := ⟨x.toNat, by omega⟩
  obtain ⟨b, rfl⟩ : ∃ b : Nat, w = (b : Int) := ⟨w.toNat, by omega⟩
  exact wo_d ⟨a, by omega⟩ ⟨b, by omega⟩
