/-! the memory behind the constructors: what is a reference is known; fl g: the rest as g has it -/
def isr (o k : Nat) : Bool := mtg (SH.getD o (99, 0)).1 k == 2
def f0r (o k : Nat) : Int := if (SH.getD o (99, 0)).2 ≤ k then 0 else match (SH.getD o (99, 0)).1 with
  | 8 => [2, 3, 6, 9, 12, 44, 50, 54, 55, 56].getD k 0
  | 12 => 57 + 5 * (k : Int)
  | 13 => 20 + 6 * (k : Int)
  | 6 => [0, 0, 4, 5].getD k 0
  | 0 => 7 + (k : Int)
  | 7 => 10 + (k : Int)
  | 3 => if k = 0 then 13 else 10 + (k : Int)
  | 2 => if k = 1 then (o : Int) + 2 else (o : Int) + (k : Int) - 4
  | 1 => 43 + (k : Int)
  | 4 => if k = 0 then 51 else 49 + (k : Int)
  | 5 => (o : Int) + (k : Int) - 1
  | 9 => [88, 89, 90, 91, 92, 0, 0, 93, 94, 95, 96, 97, 98, 99, 100, 101, 102, 103, 104, 105, 0, 106, 0, 107, 0, 108, 109, 110, 0, 111, 112, 113, 114, 115, 116, 117, 0, 0, 0, 118, 119, 120, 0, 121, 0, 0, 122, 123, 0, 0, 0, 0].getD k 0
  | _ => 0
def fl (g : mF) : mF := fun o k => if isr o k = true then f0r o k else g o k
theorem fl_d {g : mF} {o k : Nat} (h : isr o k = false) : fl g o k = g o k := by unfold fl; rw [h]; rfl
theorem fl_r {g : mF} {o k : Nat} (h : isr o k = true) : fl g o k = f0r o k := by unfold fl; rw [if_pos h]
theorem fl_up {g : mF} {o k : Nat} {v : Int} (h : isr o k = false) : mup (fl g) o k v = fl (mup g o k v) := by
  funext a b
  unfold mup fl
  by_cases hc : a = o ∧ b = k
  · obtain ⟨rfl, rfl⟩ := hc
    rw [h]
    simp
  · simp only [if_neg hc]
theorem mup_o {g : mF} {o k a : Nat} {v : Int} (h : a ≠ o) : mup g o k v a = g a := by
  funext b
  unfold mup
  rw [if_neg (fun z => h z.1)]
theorem mup_s {g : mF} {o k b : Nat} {v : Int} : mup g o k v o b = if b = k then v else g o b := by
  unfold mup
  by_cases h : b = k
  · simp [h]
  · simp [h]
theorem mi_1 : mis SH 1 8 := ⟨by decide, rfl⟩
theorem fl_1_0 (g : mF) : fl g (mix 1) 0 = 2 := rfl
theorem fl_1_1 (g : mF) : fl g (mix 1) 1 = 3 := rfl
theorem fl_1_2 (g : mF) : fl g (mix 1) 2 = 6 := rfl
theorem fl_1_3 (g : mF) : fl g (mix 1) 3 = 9 := rfl
theorem fl_1_4 (g : mF) : fl g (mix 1) 4 = 12 := rfl
theorem fl_1_5 (g : mF) : fl g (mix 1) 5 = 44 := rfl
theorem fl_1_6 (g : mF) : fl g (mix 1) 6 = 50 := rfl
theorem fl_1_7 (g : mF) : fl g (mix 1) 7 = 54 := rfl
theorem fl_1_8 (g : mF) : fl g (mix 1) 8 = 55 := rfl
theorem fl_1_9 (g : mF) : fl g (mix 1) 9 = 56 := rfl
theorem fl_1_10 (g : mF) : fl g (mix 1) 10 = g 0 10 := rfl
theorem up_1_10 (g : mF) (v : Int) : mup (fl g) (mix 1) 10 v = fl (mup g 0 10 v) := fl_up rfl
theorem mi_2 : mis SH 2 12 := ⟨by decide, rfl⟩
theorem ml_2 : mln SH 2 = 6 := rfl
theorem fl_2 (g : mF) {i : Nat} (h : i < 6) : fl g (mix 2) i = 57 + 5 * (i : Int) := by
  match i, h with
  | 0, _ => rfl
  | 1, _ => rfl
  | 2, _ => rfl
  | 3, _ => rfl
  | 4, _ => rfl
  | 5, _ => rfl
theorem mi_3 : mis SH 3 6 := ⟨by decide, rfl⟩
theorem fl_3_0 (g : mF) : fl g (mix 3) 0 = g 2 0 := rfl
theorem up_3_0 (g : mF) (v : Int) : mup (fl g) (mix 3) 0 v = fl (mup g 2 0 v) := fl_up rfl
theorem fl_3_1 (g : mF) : fl g (mix 3) 1 = g 2 1 := rfl
theorem up_3_1 (g : mF) (v : Int) : mup (fl g) (mix 3) 1 v = fl (mup g 2 1 v) := fl_up rfl
theorem fl_3_2 (g : mF) : fl g (mix 3) 2 = 4 := rfl
theorem fl_3_3 (g : mF) : fl g (mix 3) 3 = 5 := rfl
theorem fl_3_4 (g : mF) : fl g (mix 3) 4 = g 2 4 := rfl
theorem up_3_4 (g : mF) (v : Int) : mup (fl g) (mix 3) 4 v = fl (mup g 2 4 v) := fl_up rfl
theorem fl_3_5 (g : mF) : fl g (mix 3) 5 = g 2 5 := rfl
theorem up_3_5 (g : mF) (v : Int) : mup (fl g) (mix 3) 5 v = fl (mup g 2 5 v) := fl_up rfl
theorem fl_3_6 (g : mF) : fl g (mix 3) 6 = g 2 6 := rfl
theorem up_3_6 (g : mF) (v : Int) : mup (fl g) (mix 3) 6 v = fl (mup g 2 6 v) := fl_up rfl
theorem fl_3_7 (g : mF) : fl g (mix 3) 7 = g 2 7 := rfl
theorem up_3_7 (g : mF) (v : Int) : mup (fl g) (mix 3) 7 v = fl (mup g 2 7 v) := fl_up rfl
theorem fl_3_8 (g : mF) : fl g (mix 3) 8 = g 2 8 := rfl
theorem up_3_8 (g : mF) (v : Int) : mup (fl g) (mix 3) 8 v = fl (mup g 2 8 v) := fl_up rfl
theorem mi_4 : mis SH 4 10 := ⟨by decide, rfl⟩
theorem ml_4 : mln SH 4 = 36 := rfl
theorem fl_4 (g : mF) (i : Nat) : fl g (mix 4) i = g 3 i := rfl
theorem up_4 (g : mF) (i : Nat) (v : Int) : mup (fl g) (mix 4) i v = fl (mup g 3 i v) := fl_up rfl
theorem mi_5 : mis SH 5 10 := ⟨by decide, rfl⟩
theorem ml_5 : mln SH 5 = 36 := rfl
theorem fl_5 (g : mF) (i : Nat) : fl g (mix 5) i = g 4 i := rfl
theorem up_5 (g : mF) (i : Nat) (v : Int) : mup (fl g) (mix 5) i v = fl (mup g 4 i v) := fl_up rfl
theorem mi_6 : mis SH 6 0 := ⟨by decide, rfl⟩
theorem fl_6_0 (g : mF) : fl g (mix 6) 0 = 7 := rfl
theorem fl_6_1 (g : mF) : fl g (mix 6) 1 = 8 := rfl
theorem fl_6_2 (g : mF) : fl g (mix 6) 2 = g 5 2 := rfl
theorem up_6_2 (g : mF) (v : Int) : mup (fl g) (mix 6) 2 v = fl (mup g 5 2 v) := fl_up rfl
theorem mi_7 : mis SH 7 10 := ⟨by decide, rfl⟩
theorem ml_7 : mln SH 7 = 8 := rfl
theorem fl_7 (g : mF) (i : Nat) : fl g (mix 7) i = g 6 i := rfl
theorem up_7 (g : mF) (i : Nat) (v : Int) : mup (fl g) (mix 7) i v = fl (mup g 6 i v) := fl_up rfl
theorem mi_8 : mis SH 8 10 := ⟨by decide, rfl⟩
theorem ml_8 : mln SH 8 = 100 := rfl
theorem fl_8 (g : mF) (i : Nat) : fl g (mix 8) i = g 7 i := rfl
theorem up_8 (g : mF) (i : Nat) (v : Int) : mup (fl g) (mix 8) i v = fl (mup g 7 i v) := fl_up rfl
theorem mi_9 : mis SH 9 7 := ⟨by decide, rfl⟩
theorem fl_9_0 (g : mF) : fl g (mix 9) 0 = 10 := rfl
theorem fl_9_1 (g : mF) : fl g (mix 9) 1 = 11 := rfl
theorem mi_10 : mis SH 10 10 := ⟨by decide, rfl⟩
theorem ml_10 : mln SH 10 = 32 := rfl
theorem fl_10 (g : mF) (i : Nat) : fl g (mix 10) i = g 9 i := rfl
theorem up_10 (g : mF) (i : Nat) (v : Int) : mup (fl g) (mix 10) i v = fl (mup g 9 i v) := fl_up rfl
theorem mi_11 : mis SH 11 10 := ⟨by decide, rfl⟩
theorem ml_11 : mln SH 11 = 8 := rfl
theorem fl_11 (g : mF) (i : Nat) : fl g (mix 11) i = g 10 i := rfl
theorem up_11 (g : mF) (i : Nat) (v : Int) : mup (fl g) (mix 11) i v = fl (mup g 10 i v) := fl_up rfl
theorem mi_12 : mis SH 12 3 := ⟨by decide, rfl⟩
theorem fl_12_0 (g : mF) : fl g (mix 12) 0 = 13 := rfl
theorem fl_12_1 (g : mF) : fl g (mix 12) 1 = g 11 1 := rfl
theorem up_12_1 (g : mF) (v : Int) : mup (fl g) (mix 12) 1 v = fl (mup g 11 1 v) := fl_up rfl
theorem fl_12_2 (g : mF) : fl g (mix 12) 2 = g 11 2 := rfl
theorem up_12_2 (g : mF) (v : Int) : mup (fl g) (mix 12) 2 v = fl (mup g 11 2 v) := fl_up rfl
theorem fl_12_3 (g : mF) : fl g (mix 12) 3 = g 11 3 := rfl
theorem up_12_3 (g : mF) (v : Int) : mup (fl g) (mix 12) 3 v = fl (mup g 11 3 v) := fl_up rfl
theorem fl_12_4 (g : mF) : fl g (mix 12) 4 = 14 := rfl
theorem fl_12_5 (g : mF) : fl g (mix 12) 5 = 15 := rfl
theorem fl_12_6 (g : mF) : fl g (mix 12) 6 = 16 := rfl
theorem fl_12_7 (g : mF) : fl g (mix 12) 7 = 17 := rfl
theorem fl_12_8 (g : mF) : fl g (mix 12) 8 = 18 := rfl
theorem fl_12_9 (g : mF) : fl g (mix 12) 9 = 19 := rfl
theorem mi_13 : mis SH 13 13 := ⟨by decide, rfl⟩
theorem ml_13 : mln SH 13 = 4 := rfl
theorem fl_13 (g : mF) {i : Nat} (h : i < 4) : fl g (mix 13) i = 20 + 6 * (i : Int) := by
  match i, h with
  | 0, _ => rfl
  | 1, _ => rfl
  | 2, _ => rfl
  | 3, _ => rfl
theorem mi_14 : mis SH 14 10 := ⟨by decide, rfl⟩
theorem ml_14 : mln SH 14 = 12 := rfl
theorem fl_14 (g : mF) (i : Nat) : fl g (mix 14) i = g 13 i := rfl
theorem up_14 (g : mF) (i : Nat) (v : Int) : mup (fl g) (mix 14) i v = fl (mup g 13 i v) := fl_up rfl
theorem mi_15 : mis SH 15 10 := ⟨by decide, rfl⟩
theorem ml_15 : mln SH 15 = 12 := rfl
theorem fl_15 (g : mF) (i : Nat) : fl g (mix 15) i = g 14 i := rfl
theorem up_15 (g : mF) (i : Nat) (v : Int) : mup (fl g) (mix 15) i v = fl (mup g 14 i v) := fl_up rfl
theorem mi_16 : mis SH 16 10 := ⟨by decide, rfl⟩
theorem ml_16 : mln SH 16 = 12 := rfl
theorem fl_16 (g : mF) (i : Nat) : fl g (mix 16) i = g 15 i := rfl
theorem up_16 (g : mF) (i : Nat) (v : Int) : mup (fl g) (mix 16) i v = fl (mup g 15 i v) := fl_up rfl
theorem mi_17 : mis SH 17 10 := ⟨by decide, rfl⟩
theorem ml_17 : mln SH 17 = 12 := rfl
theorem fl_17 (g : mF) (i : Nat) : fl g (mix 17) i = g 16 i := rfl
theorem up_17 (g : mF) (i : Nat) (v : Int) : mup (fl g) (mix 17) i v = fl (mup g 16 i v) := fl_up rfl
theorem mi_18 : mis SH 18 10 := ⟨by decide, rfl⟩
theorem ml_18 : mln SH 18 = 12 := rfl
theorem fl_18 (g : mF) (i : Nat) : fl g (mix 18) i = g 17 i := rfl
theorem up_18 (g : mF) (i : Nat) (v : Int) : mup (fl g) (mix 18) i v = fl (mup g 17 i v) := fl_up rfl
theorem mi_19 : mis SH 19 10 := ⟨by decide, rfl⟩
theorem ml_19 : mln SH 19 = 12 := rfl
theorem fl_19 (g : mF) (i : Nat) : fl g (mix 19) i = g 18 i := rfl
theorem up_19 (g : mF) (i : Nat) (v : Int) : mup (fl g) (mix 19) i v = fl (mup g 18 i v) := fl_up rfl
theorem mi_44 : mis SH 44 1 := ⟨by decide, rfl⟩
theorem fl_44_0 (g : mF) : fl g (mix 44) 0 = g 43 0 := rfl
theorem up_44_0 (g : mF) (v : Int) : mup (fl g) (mix 44) 0 v = fl (mup g 43 0 v) := fl_up rfl
theorem fl_44_1 (g : mF) : fl g (mix 44) 1 = g 43 1 := rfl
theorem up_44_1 (g : mF) (v : Int) : mup (fl g) (mix 44) 1 v = fl (mup g 43 1 v) := fl_up rfl
theorem fl_44_2 (g : mF) : fl g (mix 44) 2 = 45 := rfl
theorem fl_44_3 (g : mF) : fl g (mix 44) 3 = 46 := rfl
theorem fl_44_4 (g : mF) : fl g (mix 44) 4 = 47 := rfl
theorem fl_44_5 (g : mF) : fl g (mix 44) 5 = 48 := rfl
theorem fl_44_6 (g : mF) : fl g (mix 44) 6 = 49 := rfl
theorem mi_45 : mis SH 45 10 := ⟨by decide, rfl⟩
theorem ml_45 : mln SH 45 = 12 := rfl
theorem fl_45 (g : mF) (i : Nat) : fl g (mix 45) i = g 44 i := rfl
theorem up_45 (g : mF) (i : Nat) (v : Int) : mup (fl g) (mix 45) i v = fl (mup g 44 i v) := fl_up rfl
theorem mi_46 : mis SH 46 10 := ⟨by decide, rfl⟩
theorem ml_46 : mln SH 46 = 12 := rfl
theorem fl_46 (g : mF) (i : Nat) : fl g (mix 46) i = g 45 i := rfl
theorem up_46 (g : mF) (i : Nat) (v : Int) : mup (fl g) (mix 46) i v = fl (mup g 45 i v) := fl_up rfl
theorem mi_47 : mis SH 47 10 := ⟨by decide, rfl⟩
theorem ml_47 : mln SH 47 = 24 := rfl
theorem fl_47 (g : mF) (i : Nat) : fl g (mix 47) i = g 46 i := rfl
theorem up_47 (g : mF) (i : Nat) (v : Int) : mup (fl g) (mix 47) i v = fl (mup g 46 i v) := fl_up rfl
theorem mi_48 : mis SH 48 10 := ⟨by decide, rfl⟩
theorem ml_48 : mln SH 48 = 12 := rfl
theorem fl_48 (g : mF) (i : Nat) : fl g (mix 48) i = g 47 i := rfl
theorem up_48 (g : mF) (i : Nat) (v : Int) : mup (fl g) (mix 48) i v = fl (mup g 47 i v) := fl_up rfl
theorem mi_49 : mis SH 49 10 := ⟨by decide, rfl⟩
theorem ml_49 : mln SH 49 = 25 := rfl
theorem fl_49 (g : mF) (i : Nat) : fl g (mix 49) i = g 48 i := rfl
theorem up_49 (g : mF) (i : Nat) (v : Int) : mup (fl g) (mix 49) i v = fl (mup g 48 i v) := fl_up rfl
theorem mi_50 : mis SH 50 4 := ⟨by decide, rfl⟩
theorem fl_50_0 (g : mF) : fl g (mix 50) 0 = 51 := rfl
theorem fl_50_1 (g : mF) : fl g (mix 50) 1 = g 49 1 := rfl
theorem up_50_1 (g : mF) (v : Int) : mup (fl g) (mix 50) 1 v = fl (mup g 49 1 v) := fl_up rfl
theorem fl_50_2 (g : mF) : fl g (mix 50) 2 = g 49 2 := rfl
theorem up_50_2 (g : mF) (v : Int) : mup (fl g) (mix 50) 2 v = fl (mup g 49 2 v) := fl_up rfl
theorem fl_50_3 (g : mF) : fl g (mix 50) 3 = 52 := rfl
theorem fl_50_4 (g : mF) : fl g (mix 50) 4 = 53 := rfl
theorem fl_50_5 (g : mF) : fl g (mix 50) 5 = g 49 5 := rfl
theorem up_50_5 (g : mF) (v : Int) : mup (fl g) (mix 50) 5 v = fl (mup g 49 5 v) := fl_up rfl
theorem fl_50_6 (g : mF) : fl g (mix 50) 6 = g 49 6 := rfl
theorem up_50_6 (g : mF) (v : Int) : mup (fl g) (mix 50) 6 v = fl (mup g 49 6 v) := fl_up rfl
theorem fl_50_7 (g : mF) : fl g (mix 50) 7 = g 49 7 := rfl
theorem up_50_7 (g : mF) (v : Int) : mup (fl g) (mix 50) 7 v = fl (mup g 49 7 v) := fl_up rfl
theorem fl_50_8 (g : mF) : fl g (mix 50) 8 = g 49 8 := rfl
theorem up_50_8 (g : mF) (v : Int) : mup (fl g) (mix 50) 8 v = fl (mup g 49 8 v) := fl_up rfl
theorem mi_51 : mis SH 51 10 := ⟨by decide, rfl⟩
theorem ml_51 : mln SH 51 = 12 := rfl
theorem fl_51 (g : mF) (i : Nat) : fl g (mix 51) i = g 50 i := rfl
theorem up_51 (g : mF) (i : Nat) (v : Int) : mup (fl g) (mix 51) i v = fl (mup g 50 i v) := fl_up rfl
theorem mi_52 : mis SH 52 10 := ⟨by decide, rfl⟩
theorem ml_52 : mln SH 52 = 160 := rfl
theorem fl_52 (g : mF) (i : Nat) : fl g (mix 52) i = g 51 i := rfl
theorem up_52 (g : mF) (i : Nat) (v : Int) : mup (fl g) (mix 52) i v = fl (mup g 51 i v) := fl_up rfl
theorem mi_53 : mis SH 53 10 := ⟨by decide, rfl⟩
theorem ml_53 : mln SH 53 = 12 := rfl
theorem fl_53 (g : mF) (i : Nat) : fl g (mix 53) i = g 52 i := rfl
theorem up_53 (g : mF) (i : Nat) (v : Int) : mup (fl g) (mix 53) i v = fl (mup g 52 i v) := fl_up rfl
theorem mi_54 : mis SH 54 10 := ⟨by decide, rfl⟩
theorem ml_54 : mln SH 54 = 12 := rfl
theorem fl_54 (g : mF) (i : Nat) : fl g (mix 54) i = g 53 i := rfl
theorem up_54 (g : mF) (i : Nat) (v : Int) : mup (fl g) (mix 54) i v = fl (mup g 53 i v) := fl_up rfl
theorem mi_55 : mis SH 55 10 := ⟨by decide, rfl⟩
theorem ml_55 : mln SH 55 = 36 := rfl
theorem fl_55 (g : mF) (i : Nat) : fl g (mix 55) i = g 54 i := rfl
theorem up_55 (g : mF) (i : Nat) (v : Int) : mup (fl g) (mix 55) i v = fl (mup g 54 i v) := fl_up rfl
theorem mi_56 : mis SH 56 10 := ⟨by decide, rfl⟩
theorem ml_56 : mln SH 56 = 36 := rfl
theorem fl_56 (g : mF) (i : Nat) : fl g (mix 56) i = g 55 i := rfl
theorem up_56 (g : mF) (i : Nat) (v : Int) : mup (fl g) (mix 56) i v = fl (mup g 55 i v) := fl_up rfl
theorem mi_87 : mis SH 87 9 := ⟨by decide, rfl⟩
theorem fl_87_0 (g : mF) : fl g (mix 87) 0 = 88 := rfl
theorem fl_87_1 (g : mF) : fl g (mix 87) 1 = 89 := rfl
theorem fl_87_2 (g : mF) : fl g (mix 87) 2 = 90 := rfl
theorem fl_87_3 (g : mF) : fl g (mix 87) 3 = 91 := rfl
theorem fl_87_4 (g : mF) : fl g (mix 87) 4 = 92 := rfl
theorem fl_87_5 (g : mF) : fl g (mix 87) 5 = g 86 5 := rfl
theorem up_87_5 (g : mF) (v : Int) : mup (fl g) (mix 87) 5 v = fl (mup g 86 5 v) := fl_up rfl
theorem fl_87_6 (g : mF) : fl g (mix 87) 6 = g 86 6 := rfl
theorem up_87_6 (g : mF) (v : Int) : mup (fl g) (mix 87) 6 v = fl (mup g 86 6 v) := fl_up rfl
theorem fl_87_7 (g : mF) : fl g (mix 87) 7 = 93 := rfl
theorem fl_87_8 (g : mF) : fl g (mix 87) 8 = 94 := rfl
theorem fl_87_9 (g : mF) : fl g (mix 87) 9 = 95 := rfl
theorem fl_87_10 (g : mF) : fl g (mix 87) 10 = 96 := rfl
theorem fl_87_11 (g : mF) : fl g (mix 87) 11 = 97 := rfl
theorem fl_87_12 (g : mF) : fl g (mix 87) 12 = 98 := rfl
theorem fl_87_13 (g : mF) : fl g (mix 87) 13 = 99 := rfl
theorem fl_87_14 (g : mF) : fl g (mix 87) 14 = 100 := rfl
theorem fl_87_15 (g : mF) : fl g (mix 87) 15 = 101 := rfl
theorem fl_87_16 (g : mF) : fl g (mix 87) 16 = 102 := rfl
theorem fl_87_17 (g : mF) : fl g (mix 87) 17 = 103 := rfl
theorem fl_87_18 (g : mF) : fl g (mix 87) 18 = 104 := rfl
theorem fl_87_19 (g : mF) : fl g (mix 87) 19 = 105 := rfl
theorem fl_87_20 (g : mF) : fl g (mix 87) 20 = g 86 20 := rfl
theorem up_87_20 (g : mF) (v : Int) : mup (fl g) (mix 87) 20 v = fl (mup g 86 20 v) := fl_up rfl
theorem fl_87_21 (g : mF) : fl g (mix 87) 21 = 106 := rfl
theorem fl_87_22 (g : mF) : fl g (mix 87) 22 = g 86 22 := rfl
theorem up_87_22 (g : mF) (v : Int) : mup (fl g) (mix 87) 22 v = fl (mup g 86 22 v) := fl_up rfl
theorem fl_87_23 (g : mF) : fl g (mix 87) 23 = 107 := rfl
theorem fl_87_24 (g : mF) : fl g (mix 87) 24 = g 86 24 := rfl
theorem up_87_24 (g : mF) (v : Int) : mup (fl g) (mix 87) 24 v = fl (mup g 86 24 v) := fl_up rfl
theorem fl_87_25 (g : mF) : fl g (mix 87) 25 = 108 := rfl
theorem fl_87_26 (g : mF) : fl g (mix 87) 26 = 109 := rfl
theorem fl_87_27 (g : mF) : fl g (mix 87) 27 = 110 := rfl
theorem fl_87_28 (g : mF) : fl g (mix 87) 28 = g 86 28 := rfl
theorem up_87_28 (g : mF) (v : Int) : mup (fl g) (mix 87) 28 v = fl (mup g 86 28 v) := fl_up rfl
theorem fl_87_29 (g : mF) : fl g (mix 87) 29 = 111 := rfl
theorem fl_87_30 (g : mF) : fl g (mix 87) 30 = 112 := rfl
theorem fl_87_31 (g : mF) : fl g (mix 87) 31 = 113 := rfl
theorem fl_87_32 (g : mF) : fl g (mix 87) 32 = 114 := rfl
theorem fl_87_33 (g : mF) : fl g (mix 87) 33 = 115 := rfl
theorem fl_87_34 (g : mF) : fl g (mix 87) 34 = 116 := rfl
theorem fl_87_35 (g : mF) : fl g (mix 87) 35 = 117 := rfl
theorem fl_87_36 (g : mF) : fl g (mix 87) 36 = g 86 36 := rfl
theorem up_87_36 (g : mF) (v : Int) : mup (fl g) (mix 87) 36 v = fl (mup g 86 36 v) := fl_up rfl
theorem fl_87_37 (g : mF) : fl g (mix 87) 37 = g 86 37 := rfl
theorem up_87_37 (g : mF) (v : Int) : mup (fl g) (mix 87) 37 v = fl (mup g 86 37 v) := fl_up rfl
theorem fl_87_38 (g : mF) : fl g (mix 87) 38 = g 86 38 := rfl
theorem up_87_38 (g : mF) (v : Int) : mup (fl g) (mix 87) 38 v = fl (mup g 86 38 v) := fl_up rfl
theorem fl_87_39 (g : mF) : fl g (mix 87) 39 = 118 := rfl
theorem fl_87_40 (g : mF) : fl g (mix 87) 40 = 119 := rfl
theorem fl_87_41 (g : mF) : fl g (mix 87) 41 = 120 := rfl
theorem fl_87_42 (g : mF) : fl g (mix 87) 42 = g 86 42 := rfl
theorem up_87_42 (g : mF) (v : Int) : mup (fl g) (mix 87) 42 v = fl (mup g 86 42 v) := fl_up rfl
theorem fl_87_43 (g : mF) : fl g (mix 87) 43 = 121 := rfl
theorem fl_87_44 (g : mF) : fl g (mix 87) 44 = g 86 44 := rfl
theorem up_87_44 (g : mF) (v : Int) : mup (fl g) (mix 87) 44 v = fl (mup g 86 44 v) := fl_up rfl
theorem fl_87_45 (g : mF) : fl g (mix 87) 45 = g 86 45 := rfl
theorem up_87_45 (g : mF) (v : Int) : mup (fl g) (mix 87) 45 v = fl (mup g 86 45 v) := fl_up rfl
theorem fl_87_46 (g : mF) : fl g (mix 87) 46 = 122 := rfl
theorem fl_87_47 (g : mF) : fl g (mix 87) 47 = 123 := rfl
theorem fl_87_48 (g : mF) : fl g (mix 87) 48 = g 86 48 := rfl
theorem up_87_48 (g : mF) (v : Int) : mup (fl g) (mix 87) 48 v = fl (mup g 86 48 v) := fl_up rfl
theorem fl_87_49 (g : mF) : fl g (mix 87) 49 = g 86 49 := rfl
theorem up_87_49 (g : mF) (v : Int) : mup (fl g) (mix 87) 49 v = fl (mup g 86 49 v) := fl_up rfl
theorem fl_87_50 (g : mF) : fl g (mix 87) 50 = g 86 50 := rfl
theorem up_87_50 (g : mF) (v : Int) : mup (fl g) (mix 87) 50 v = fl (mup g 86 50 v) := fl_up rfl
theorem fl_87_51 (g : mF) : fl g (mix 87) 51 = g 86 51 := rfl
theorem up_87_51 (g : mF) (v : Int) : mup (fl g) (mix 87) 51 v = fl (mup g 86 51 v) := fl_up rfl
theorem mi_88 : mis SH 88 10 := ⟨by decide, rfl⟩
theorem ml_88 : mln SH 88 = 6 := rfl
theorem fl_88 (g : mF) (i : Nat) : fl g (mix 88) i = g 87 i := rfl
theorem up_88 (g : mF) (i : Nat) (v : Int) : mup (fl g) (mix 88) i v = fl (mup g 87 i v) := fl_up rfl
theorem mi_89 : mis SH 89 10 := ⟨by decide, rfl⟩
theorem ml_89 : mln SH 89 = 6 := rfl
theorem fl_89 (g : mF) (i : Nat) : fl g (mix 89) i = g 88 i := rfl
theorem up_89 (g : mF) (i : Nat) (v : Int) : mup (fl g) (mix 89) i v = fl (mup g 88 i v) := fl_up rfl
theorem mi_90 : mis SH 90 11 := ⟨by decide, rfl⟩
theorem ml_90 : mln SH 90 = 216 := rfl
theorem fl_90 (g : mF) (i : Nat) : fl g (mix 90) i = g 89 i := rfl
theorem up_90 (g : mF) (i : Nat) (v : Int) : mup (fl g) (mix 90) i v = fl (mup g 89 i v) := fl_up rfl
theorem mi_91 : mis SH 91 10 := ⟨by decide, rfl⟩
theorem ml_91 : mln SH 91 = 216 := rfl
theorem fl_91 (g : mF) (i : Nat) : fl g (mix 91) i = g 90 i := rfl
theorem up_91 (g : mF) (i : Nat) (v : Int) : mup (fl g) (mix 91) i v = fl (mup g 90 i v) := fl_up rfl
theorem mi_92 : mis SH 92 10 := ⟨by decide, rfl⟩
theorem ml_92 : mln SH 92 = 6 := rfl
theorem fl_92 (g : mF) (i : Nat) : fl g (mix 92) i = g 91 i := rfl
theorem up_92 (g : mF) (i : Nat) (v : Int) : mup (fl g) (mix 92) i v = fl (mup g 91 i v) := fl_up rfl
theorem mi_93 : mis SH 93 10 := ⟨by decide, rfl⟩
theorem ml_93 : mln SH 93 = 36 := rfl
theorem fl_93 (g : mF) (i : Nat) : fl g (mix 93) i = g 92 i := rfl
theorem up_93 (g : mF) (i : Nat) (v : Int) : mup (fl g) (mix 93) i v = fl (mup g 92 i v) := fl_up rfl
theorem mi_94 : mis SH 94 10 := ⟨by decide, rfl⟩
theorem ml_94 : mln SH 94 = 36 := rfl
theorem fl_94 (g : mF) (i : Nat) : fl g (mix 94) i = g 93 i := rfl
theorem up_94 (g : mF) (i : Nat) (v : Int) : mup (fl g) (mix 94) i v = fl (mup g 93 i v) := fl_up rfl
theorem mi_95 : mis SH 95 10 := ⟨by decide, rfl⟩
theorem ml_95 : mln SH 95 = 8 := rfl
theorem fl_95 (g : mF) (i : Nat) : fl g (mix 95) i = g 94 i := rfl
theorem up_95 (g : mF) (i : Nat) (v : Int) : mup (fl g) (mix 95) i v = fl (mup g 94 i v) := fl_up rfl
theorem mi_96 : mis SH 96 10 := ⟨by decide, rfl⟩
theorem ml_96 : mln SH 96 = 100 := rfl
theorem fl_96 (g : mF) (i : Nat) : fl g (mix 96) i = g 95 i := rfl
theorem up_96 (g : mF) (i : Nat) (v : Int) : mup (fl g) (mix 96) i v = fl (mup g 95 i v) := fl_up rfl
theorem mi_97 : mis SH 97 10 := ⟨by decide, rfl⟩
theorem ml_97 : mln SH 97 = 32 := rfl
theorem fl_97 (g : mF) (i : Nat) : fl g (mix 97) i = g 96 i := rfl
theorem up_97 (g : mF) (i : Nat) (v : Int) : mup (fl g) (mix 97) i v = fl (mup g 96 i v) := fl_up rfl
theorem mi_98 : mis SH 98 10 := ⟨by decide, rfl⟩
theorem ml_98 : mln SH 98 = 8 := rfl
theorem fl_98 (g : mF) (i : Nat) : fl g (mix 98) i = g 97 i := rfl
theorem up_98 (g : mF) (i : Nat) (v : Int) : mup (fl g) (mix 98) i v = fl (mup g 97 i v) := fl_up rfl
theorem mi_99 : mis SH 99 10 := ⟨by decide, rfl⟩
theorem ml_99 : mln SH 99 = 8 := rfl
theorem fl_99 (g : mF) (i : Nat) : fl g (mix 99) i = g 98 i := rfl
theorem up_99 (g : mF) (i : Nat) (v : Int) : mup (fl g) (mix 99) i v = fl (mup g 98 i v) := fl_up rfl
theorem mi_100 : mis SH 100 10 := ⟨by decide, rfl⟩
theorem ml_100 : mln SH 100 = 4 := rfl
theorem fl_100 (g : mF) (i : Nat) : fl g (mix 100) i = g 99 i := rfl
theorem up_100 (g : mF) (i : Nat) (v : Int) : mup (fl g) (mix 100) i v = fl (mup g 99 i v) := fl_up rfl
theorem mi_101 : mis SH 101 10 := ⟨by decide, rfl⟩
theorem ml_101 : mln SH 101 = 144 := rfl
theorem fl_101 (g : mF) (i : Nat) : fl g (mix 101) i = g 100 i := rfl
theorem up_101 (g : mF) (i : Nat) (v : Int) : mup (fl g) (mix 101) i v = fl (mup g 100 i v) := fl_up rfl
theorem mi_102 : mis SH 102 10 := ⟨by decide, rfl⟩
theorem ml_102 : mln SH 102 = 144 := rfl
theorem fl_102 (g : mF) (i : Nat) : fl g (mix 102) i = g 101 i := rfl
theorem up_102 (g : mF) (i : Nat) (v : Int) : mup (fl g) (mix 102) i v = fl (mup g 101 i v) := fl_up rfl
theorem mi_103 : mis SH 103 10 := ⟨by decide, rfl⟩
theorem ml_103 : mln SH 103 = 144 := rfl
theorem fl_103 (g : mF) (i : Nat) : fl g (mix 103) i = g 102 i := rfl
theorem up_103 (g : mF) (i : Nat) (v : Int) : mup (fl g) (mix 103) i v = fl (mup g 102 i v) := fl_up rfl
theorem mi_104 : mis SH 104 10 := ⟨by decide, rfl⟩
theorem ml_104 : mln SH 104 = 4 := rfl
theorem fl_104 (g : mF) (i : Nat) : fl g (mix 104) i = g 103 i := rfl
theorem up_104 (g : mF) (i : Nat) (v : Int) : mup (fl g) (mix 104) i v = fl (mup g 103 i v) := fl_up rfl
theorem mi_105 : mis SH 105 10 := ⟨by decide, rfl⟩
theorem ml_105 : mln SH 105 = 4 := rfl
theorem fl_105 (g : mF) (i : Nat) : fl g (mix 105) i = g 104 i := rfl
theorem up_105 (g : mF) (i : Nat) (v : Int) : mup (fl g) (mix 105) i v = fl (mup g 104 i v) := fl_up rfl
theorem mi_106 : mis SH 106 10 := ⟨by decide, rfl⟩
theorem ml_106 : mln SH 106 = 36 := rfl
theorem fl_106 (g : mF) (i : Nat) : fl g (mix 106) i = g 105 i := rfl
theorem up_106 (g : mF) (i : Nat) (v : Int) : mup (fl g) (mix 106) i v = fl (mup g 105 i v) := fl_up rfl
theorem mi_107 : mis SH 107 10 := ⟨by decide, rfl⟩
theorem ml_107 : mln SH 107 = 36 := rfl
theorem fl_107 (g : mF) (i : Nat) : fl g (mix 107) i = g 106 i := rfl
theorem up_107 (g : mF) (i : Nat) (v : Int) : mup (fl g) (mix 107) i v = fl (mup g 106 i v) := fl_up rfl
theorem mi_108 : mis SH 108 10 := ⟨by decide, rfl⟩
theorem ml_108 : mln SH 108 = 12 := rfl
theorem fl_108 (g : mF) (i : Nat) : fl g (mix 108) i = g 107 i := rfl
theorem up_108 (g : mF) (i : Nat) (v : Int) : mup (fl g) (mix 108) i v = fl (mup g 107 i v) := fl_up rfl
theorem mi_109 : mis SH 109 10 := ⟨by decide, rfl⟩
theorem ml_109 : mln SH 109 = 12 := rfl
theorem fl_109 (g : mF) (i : Nat) : fl g (mix 109) i = g 108 i := rfl
theorem up_109 (g : mF) (i : Nat) (v : Int) : mup (fl g) (mix 109) i v = fl (mup g 108 i v) := fl_up rfl
theorem mi_110 : mis SH 110 10 := ⟨by decide, rfl⟩
theorem ml_110 : mln SH 110 = 12 := rfl
theorem fl_110 (g : mF) (i : Nat) : fl g (mix 110) i = g 109 i := rfl
theorem up_110 (g : mF) (i : Nat) (v : Int) : mup (fl g) (mix 110) i v = fl (mup g 109 i v) := fl_up rfl
theorem mi_111 : mis SH 111 10 := ⟨by decide, rfl⟩
theorem ml_111 : mln SH 111 = 8 := rfl
theorem fl_111 (g : mF) (i : Nat) : fl g (mix 111) i = g 110 i := rfl
theorem up_111 (g : mF) (i : Nat) (v : Int) : mup (fl g) (mix 111) i v = fl (mup g 110 i v) := fl_up rfl
theorem mi_112 : mis SH 112 10 := ⟨by decide, rfl⟩
theorem ml_112 : mln SH 112 = 4 := rfl
theorem fl_112 (g : mF) (i : Nat) : fl g (mix 112) i = g 111 i := rfl
theorem up_112 (g : mF) (i : Nat) (v : Int) : mup (fl g) (mix 112) i v = fl (mup g 111 i v) := fl_up rfl
theorem mi_113 : mis SH 113 10 := ⟨by decide, rfl⟩
theorem ml_113 : mln SH 113 = 4 := rfl
theorem fl_113 (g : mF) (i : Nat) : fl g (mix 113) i = g 112 i := rfl
theorem up_113 (g : mF) (i : Nat) (v : Int) : mup (fl g) (mix 113) i v = fl (mup g 112 i v) := fl_up rfl
theorem mi_114 : mis SH 114 10 := ⟨by decide, rfl⟩
theorem ml_114 : mln SH 114 = 4 := rfl
theorem fl_114 (g : mF) (i : Nat) : fl g (mix 114) i = g 113 i := rfl
theorem up_114 (g : mF) (i : Nat) (v : Int) : mup (fl g) (mix 114) i v = fl (mup g 113 i v) := fl_up rfl
theorem mi_115 : mis SH 115 10 := ⟨by decide, rfl⟩
theorem ml_115 : mln SH 115 = 144 := rfl
theorem fl_115 (g : mF) (i : Nat) : fl g (mix 115) i = g 114 i := rfl
theorem up_115 (g : mF) (i : Nat) (v : Int) : mup (fl g) (mix 115) i v = fl (mup g 114 i v) := fl_up rfl
theorem mi_116 : mis SH 116 10 := ⟨by decide, rfl⟩
theorem ml_116 : mln SH 116 = 144 := rfl
theorem fl_116 (g : mF) (i : Nat) : fl g (mix 116) i = g 115 i := rfl
theorem up_116 (g : mF) (i : Nat) (v : Int) : mup (fl g) (mix 116) i v = fl (mup g 115 i v) := fl_up rfl
theorem mi_117 : mis SH 117 11 := ⟨by decide, rfl⟩
theorem ml_117 : mln SH 117 = 36 := rfl
theorem fl_117 (g : mF) (i : Nat) : fl g (mix 117) i = g 116 i := rfl
theorem up_117 (g : mF) (i : Nat) (v : Int) : mup (fl g) (mix 117) i v = fl (mup g 116 i v) := fl_up rfl
theorem mi_118 : mis SH 118 10 := ⟨by decide, rfl⟩
theorem ml_118 : mln SH 118 = 24 := rfl
theorem fl_118 (g : mF) (i : Nat) : fl g (mix 118) i = g 117 i := rfl
theorem up_118 (g : mF) (i : Nat) (v : Int) : mup (fl g) (mix 118) i v = fl (mup g 117 i v) := fl_up rfl
theorem mi_119 : mis SH 119 10 := ⟨by decide, rfl⟩
theorem ml_119 : mln SH 119 = 12 := rfl
theorem fl_119 (g : mF) (i : Nat) : fl g (mix 119) i = g 118 i := rfl
theorem up_119 (g : mF) (i : Nat) (v : Int) : mup (fl g) (mix 119) i v = fl (mup g 118 i v) := fl_up rfl
theorem mi_120 : mis SH 120 10 := ⟨by decide, rfl⟩
theorem ml_120 : mln SH 120 = 325 := rfl
theorem fl_120 (g : mF) (i : Nat) : fl g (mix 120) i = g 119 i := rfl
theorem up_120 (g : mF) (i : Nat) (v : Int) : mup (fl g) (mix 120) i v = fl (mup g 119 i v) := fl_up rfl
theorem mi_121 : mis SH 121 10 := ⟨by decide, rfl⟩
theorem ml_121 : mln SH 121 = 160 := rfl
theorem fl_121 (g : mF) (i : Nat) : fl g (mix 121) i = g 120 i := rfl
theorem up_121 (g : mF) (i : Nat) (v : Int) : mup (fl g) (mix 121) i v = fl (mup g 120 i v) := fl_up rfl
theorem mi_122 : mis SH 122 10 := ⟨by decide, rfl⟩
theorem ml_122 : mln SH 122 = 12 := rfl
theorem fl_122 (g : mF) (i : Nat) : fl g (mix 122) i = g 121 i := rfl
theorem up_122 (g : mF) (i : Nat) (v : Int) : mup (fl g) (mix 122) i v = fl (mup g 121 i v) := fl_up rfl
theorem mi_123 : mis SH 123 10 := ⟨by decide, rfl⟩
theorem ml_123 : mln SH 123 = 12 := rfl
theorem fl_123 (g : mF) (i : Nat) : fl g (mix 123) i = g 122 i := rfl
theorem up_123 (g : mF) (i : Nat) (v : Int) : mup (fl g) (mix 123) i v = fl (mup g 122 i v) := fl_up rfl
theorem sm_o {s : Nat} (h : s < 6) : mis SH (57 + 5 * (s : Int)) 5 := by
  match s, h with
  | 0, _ => exact ⟨by decide, rfl⟩
  | 1, _ => exact ⟨by decide, rfl⟩
  | 2, _ => exact ⟨by decide, rfl⟩
  | 3, _ => exact ⟨by decide, rfl⟩
  | 4, _ => exact ⟨by decide, rfl⟩
  | 5, _ => exact ⟨by decide, rfl⟩
theorem sl_0 (g : mF) {s : Nat} (h : s < 6) : fl g (mix (57 + 5 * (s : Int))) 0 = g (56 + 5 * s) 0 := by
  match s, h with
  | 0, _ => rfl
  | 1, _ => rfl
  | 2, _ => rfl
  | 3, _ => rfl
  | 4, _ => rfl
  | 5, _ => rfl
theorem su_0 (g : mF) {s : Nat} (h : s < 6) (x : Int) : mup (fl g) (mix (57 + 5 * (s : Int))) 0 x = fl (mup g (56 + 5 * s) 0 x) := by
  match s, h with
  | 0, _ => exact fl_up rfl
  | 1, _ => exact fl_up rfl
  | 2, _ => exact fl_up rfl
  | 3, _ => exact fl_up rfl
  | 4, _ => exact fl_up rfl
  | 5, _ => exact fl_up rfl
theorem sl_1 (g : mF) {s : Nat} (h : s < 6) : fl g (mix (57 + 5 * (s : Int))) 1 = g (56 + 5 * s) 1 := by
  match s, h with
  | 0, _ => rfl
  | 1, _ => rfl
  | 2, _ => rfl
  | 3, _ => rfl
  | 4, _ => rfl
  | 5, _ => rfl
theorem su_1 (g : mF) {s : Nat} (h : s < 6) (x : Int) : mup (fl g) (mix (57 + 5 * (s : Int))) 1 x = fl (mup g (56 + 5 * s) 1 x) := by
  match s, h with
  | 0, _ => exact fl_up rfl
  | 1, _ => exact fl_up rfl
  | 2, _ => exact fl_up rfl
  | 3, _ => exact fl_up rfl
  | 4, _ => exact fl_up rfl
  | 5, _ => exact fl_up rfl
theorem sl_2 (g : mF) {s : Nat} (h : s < 6) : fl g (mix (57 + 5 * (s : Int))) 2 = g (56 + 5 * s) 2 := by
  match s, h with
  | 0, _ => rfl
  | 1, _ => rfl
  | 2, _ => rfl
  | 3, _ => rfl
  | 4, _ => rfl
  | 5, _ => rfl
theorem su_2 (g : mF) {s : Nat} (h : s < 6) (x : Int) : mup (fl g) (mix (57 + 5 * (s : Int))) 2 x = fl (mup g (56 + 5 * s) 2 x) := by
  match s, h with
  | 0, _ => exact fl_up rfl
  | 1, _ => exact fl_up rfl
  | 2, _ => exact fl_up rfl
  | 3, _ => exact fl_up rfl
  | 4, _ => exact fl_up rfl
  | 5, _ => exact fl_up rfl
theorem sl_3 (g : mF) {s : Nat} (h : s < 6) : fl g (mix (57 + 5 * (s : Int))) 3 = 58 + 5 * (s : Int) := by
  match s, h with
  | 0, _ => rfl
  | 1, _ => rfl
  | 2, _ => rfl
  | 3, _ => rfl
  | 4, _ => rfl
  | 5, _ => rfl
theorem sm_3 {s : Nat} (h : s < 6) : mis SH (58 + 5 * (s : Int)) 10 := by
  match s, h with
  | 0, _ => exact ⟨by decide, rfl⟩
  | 1, _ => exact ⟨by decide, rfl⟩
  | 2, _ => exact ⟨by decide, rfl⟩
  | 3, _ => exact ⟨by decide, rfl⟩
  | 4, _ => exact ⟨by decide, rfl⟩
  | 5, _ => exact ⟨by decide, rfl⟩
theorem sn_3 {s : Nat} (h : s < 6) : mln SH (58 + 5 * (s : Int)) = 36 := by
  match s, h with
  | 0, _ => exact rfl
  | 1, _ => exact rfl
  | 2, _ => exact rfl
  | 3, _ => exact rfl
  | 4, _ => exact rfl
  | 5, _ => exact rfl
theorem sa_3 (g : mF) {s : Nat} (h : s < 6) (i : Nat) : fl g (mix (58 + 5 * (s : Int))) i = g (57 + 5 * s) i := by
  match s, h with
  | 0, _ => rfl
  | 1, _ => rfl
  | 2, _ => rfl
  | 3, _ => rfl
  | 4, _ => rfl
  | 5, _ => rfl
theorem sz_3 (g : mF) {s : Nat} (h : s < 6) (i : Nat) (x : Int) : mup (fl g) (mix (58 + 5 * (s : Int))) i x = fl (mup g (57 + 5 * s) i x) := by
  match s, h with
  | 0, _ => exact fl_up rfl
  | 1, _ => exact fl_up rfl
  | 2, _ => exact fl_up rfl
  | 3, _ => exact fl_up rfl
  | 4, _ => exact fl_up rfl
  | 5, _ => exact fl_up rfl
theorem sl_4 (g : mF) {s : Nat} (h : s < 6) : fl g (mix (57 + 5 * (s : Int))) 4 = 59 + 5 * (s : Int) := by
  match s, h with
  | 0, _ => rfl
  | 1, _ => rfl
  | 2, _ => rfl
  | 3, _ => rfl
  | 4, _ => rfl
  | 5, _ => rfl
theorem sm_4 {s : Nat} (h : s < 6) : mis SH (59 + 5 * (s : Int)) 10 := by
  match s, h with
  | 0, _ => exact ⟨by decide, rfl⟩
  | 1, _ => exact ⟨by decide, rfl⟩
  | 2, _ => exact ⟨by decide, rfl⟩
  | 3, _ => exact ⟨by decide, rfl⟩
  | 4, _ => exact ⟨by decide, rfl⟩
  | 5, _ => exact ⟨by decide, rfl⟩
theorem sn_4 {s : Nat} (h : s < 6) : mln SH (59 + 5 * (s : Int)) = 36 := by
  match s, h with
  | 0, _ => exact rfl
  | 1, _ => exact rfl
  | 2, _ => exact rfl
  | 3, _ => exact rfl
  | 4, _ => exact rfl
  | 5, _ => exact rfl
theorem sa_4 (g : mF) {s : Nat} (h : s < 6) (i : Nat) : fl g (mix (59 + 5 * (s : Int))) i = g (58 + 5 * s) i := by
  match s, h with
  | 0, _ => rfl
  | 1, _ => rfl
  | 2, _ => rfl
  | 3, _ => rfl
  | 4, _ => rfl
  | 5, _ => rfl
theorem sz_4 (g : mF) {s : Nat} (h : s < 6) (i : Nat) (x : Int) : mup (fl g) (mix (59 + 5 * (s : Int))) i x = fl (mup g (58 + 5 * s) i x) := by
  match s, h with
  | 0, _ => exact fl_up rfl
  | 1, _ => exact fl_up rfl
  | 2, _ => exact fl_up rfl
  | 3, _ => exact fl_up rfl
  | 4, _ => exact fl_up rfl
  | 5, _ => exact fl_up rfl
theorem sl_5 (g : mF) {s : Nat} (h : s < 6) : fl g (mix (57 + 5 * (s : Int))) 5 = 60 + 5 * (s : Int) := by
  match s, h with
  | 0, _ => rfl
  | 1, _ => rfl
  | 2, _ => rfl
  | 3, _ => rfl
  | 4, _ => rfl
  | 5, _ => rfl
theorem sm_5 {s : Nat} (h : s < 6) : mis SH (60 + 5 * (s : Int)) 10 := by
  match s, h with
  | 0, _ => exact ⟨by decide, rfl⟩
  | 1, _ => exact ⟨by decide, rfl⟩
  | 2, _ => exact ⟨by decide, rfl⟩
  | 3, _ => exact ⟨by decide, rfl⟩
  | 4, _ => exact ⟨by decide, rfl⟩
  | 5, _ => exact ⟨by decide, rfl⟩
theorem sn_5 {s : Nat} (h : s < 6) : mln SH (60 + 5 * (s : Int)) = 36 := by
  match s, h with
  | 0, _ => exact rfl
  | 1, _ => exact rfl
  | 2, _ => exact rfl
  | 3, _ => exact rfl
  | 4, _ => exact rfl
  | 5, _ => exact rfl
theorem sa_5 (g : mF) {s : Nat} (h : s < 6) (i : Nat) : fl g (mix (60 + 5 * (s : Int))) i = g (59 + 5 * s) i := by
  match s, h with
  | 0, _ => rfl
  | 1, _ => rfl
  | 2, _ => rfl
  | 3, _ => rfl
  | 4, _ => rfl
  | 5, _ => rfl
theorem sz_5 (g : mF) {s : Nat} (h : s < 6) (i : Nat) (x : Int) : mup (fl g) (mix (60 + 5 * (s : Int))) i x = fl (mup g (59 + 5 * s) i x) := by
  match s, h with
  | 0, _ => exact fl_up rfl
  | 1, _ => exact fl_up rfl
  | 2, _ => exact fl_up rfl
  | 3, _ => exact fl_up rfl
  | 4, _ => exact fl_up rfl
  | 5, _ => exact fl_up rfl
theorem sl_6 (g : mF) {s : Nat} (h : s < 6) : fl g (mix (57 + 5 * (s : Int))) 6 = 61 + 5 * (s : Int) := by
  match s, h with
  | 0, _ => rfl
  | 1, _ => rfl
  | 2, _ => rfl
  | 3, _ => rfl
  | 4, _ => rfl
  | 5, _ => rfl
theorem sm_6 {s : Nat} (h : s < 6) : mis SH (61 + 5 * (s : Int)) 10 := by
  match s, h with
  | 0, _ => exact ⟨by decide, rfl⟩
  | 1, _ => exact ⟨by decide, rfl⟩
  | 2, _ => exact ⟨by decide, rfl⟩
  | 3, _ => exact ⟨by decide, rfl⟩
  | 4, _ => exact ⟨by decide, rfl⟩
  | 5, _ => exact ⟨by decide, rfl⟩
theorem sn_6 {s : Nat} (h : s < 6) : mln SH (61 + 5 * (s : Int)) = 144 := by
  match s, h with
  | 0, _ => exact rfl
  | 1, _ => exact rfl
  | 2, _ => exact rfl
  | 3, _ => exact rfl
  | 4, _ => exact rfl
  | 5, _ => exact rfl
theorem sa_6 (g : mF) {s : Nat} (h : s < 6) (i : Nat) : fl g (mix (61 + 5 * (s : Int))) i = g (60 + 5 * s) i := by
  match s, h with
  | 0, _ => rfl
  | 1, _ => rfl
  | 2, _ => rfl
  | 3, _ => rfl
  | 4, _ => rfl
  | 5, _ => rfl
theorem sz_6 (g : mF) {s : Nat} (h : s < 6) (i : Nat) (x : Int) : mup (fl g) (mix (61 + 5 * (s : Int))) i x = fl (mup g (60 + 5 * s) i x) := by
  match s, h with
  | 0, _ => exact fl_up rfl
  | 1, _ => exact fl_up rfl
  | 2, _ => exact fl_up rfl
  | 3, _ => exact fl_up rfl
  | 4, _ => exact fl_up rfl
  | 5, _ => exact fl_up rfl
theorem cm_o {c : Nat} (h : c < 4) : mis SH (20 + 6 * (c : Int)) 2 := by
  match c, h with
  | 0, _ => exact ⟨by decide, rfl⟩
  | 1, _ => exact ⟨by decide, rfl⟩
  | 2, _ => exact ⟨by decide, rfl⟩
  | 3, _ => exact ⟨by decide, rfl⟩
theorem cl_0 (g : mF) {c : Nat} (h : c < 4) : fl g (mix (20 + 6 * (c : Int))) 0 = g (19 + 6 * c) 0 := by
  match c, h with
  | 0, _ => rfl
  | 1, _ => rfl
  | 2, _ => rfl
  | 3, _ => rfl
theorem cu_0 (g : mF) {c : Nat} (h : c < 4) (x : Int) : mup (fl g) (mix (20 + 6 * (c : Int))) 0 x = fl (mup g (19 + 6 * c) 0 x) := by
  match c, h with
  | 0, _ => exact fl_up rfl
  | 1, _ => exact fl_up rfl
  | 2, _ => exact fl_up rfl
  | 3, _ => exact fl_up rfl
theorem cl_1 (g : mF) {c : Nat} (h : c < 4) : fl g (mix (20 + 6 * (c : Int))) 1 = 21 + 6 * (c : Int) := by
  match c, h with
  | 0, _ => rfl
  | 1, _ => rfl
  | 2, _ => rfl
  | 3, _ => rfl
theorem cm_1 {c : Nat} (h : c < 4) : mis SH (21 + 6 * (c : Int)) 10 := by
  match c, h with
  | 0, _ => exact ⟨by decide, rfl⟩
  | 1, _ => exact ⟨by decide, rfl⟩
  | 2, _ => exact ⟨by decide, rfl⟩
  | 3, _ => exact ⟨by decide, rfl⟩
theorem cn_1 {c : Nat} (h : c < 4) : mln SH (21 + 6 * (c : Int)) = 36 := by
  match c, h with
  | 0, _ => exact rfl
  | 1, _ => exact rfl
  | 2, _ => exact rfl
  | 3, _ => exact rfl
theorem ca_1 (g : mF) {c : Nat} (h : c < 4) (i : Nat) : fl g (mix (21 + 6 * (c : Int))) i = g (20 + 6 * c) i := by
  match c, h with
  | 0, _ => rfl
  | 1, _ => rfl
  | 2, _ => rfl
  | 3, _ => rfl
theorem cz_1 (g : mF) {c : Nat} (h : c < 4) (i : Nat) (x : Int) : mup (fl g) (mix (21 + 6 * (c : Int))) i x = fl (mup g (20 + 6 * c) i x) := by
  match c, h with
  | 0, _ => exact fl_up rfl
  | 1, _ => exact fl_up rfl
  | 2, _ => exact fl_up rfl
  | 3, _ => exact fl_up rfl
theorem cl_2 (g : mF) {c : Nat} (h : c < 4) : fl g (mix (20 + 6 * (c : Int))) 2 = g (19 + 6 * c) 2 := by
  match c, h with
  | 0, _ => rfl
  | 1, _ => rfl
  | 2, _ => rfl
  | 3, _ => rfl
theorem cu_2 (g : mF) {c : Nat} (h : c < 4) (x : Int) : mup (fl g) (mix (20 + 6 * (c : Int))) 2 x = fl (mup g (19 + 6 * c) 2 x) := by
  match c, h with
  | 0, _ => exact fl_up rfl
  | 1, _ => exact fl_up rfl
  | 2, _ => exact fl_up rfl
  | 3, _ => exact fl_up rfl
theorem cl_3 (g : mF) {c : Nat} (h : c < 4) : fl g (mix (20 + 6 * (c : Int))) 3 = g (19 + 6 * c) 3 := by
  match c, h with
  | 0, _ => rfl
  | 1, _ => rfl
  | 2, _ => rfl
  | 3, _ => rfl
theorem cu_3 (g : mF) {c : Nat} (h : c < 4) (x : Int) : mup (fl g) (mix (20 + 6 * (c : Int))) 3 x = fl (mup g (19 + 6 * c) 3 x) := by
  match c, h with
  | 0, _ => exact fl_up rfl
  | 1, _ => exact fl_up rfl
  | 2, _ => exact fl_up rfl
  | 3, _ => exact fl_up rfl
theorem cl_4 (g : mF) {c : Nat} (h : c < 4) : fl g (mix (20 + 6 * (c : Int))) 4 = g (19 + 6 * c) 4 := by
  match c, h with
  | 0, _ => rfl
  | 1, _ => rfl
  | 2, _ => rfl
  | 3, _ => rfl
theorem cu_4 (g : mF) {c : Nat} (h : c < 4) (x : Int) : mup (fl g) (mix (20 + 6 * (c : Int))) 4 x = fl (mup g (19 + 6 * c) 4 x) := by
  match c, h with
  | 0, _ => exact fl_up rfl
  | 1, _ => exact fl_up rfl
  | 2, _ => exact fl_up rfl
  | 3, _ => exact fl_up rfl
theorem cl_5 (g : mF) {c : Nat} (h : c < 4) : fl g (mix (20 + 6 * (c : Int))) 5 = g (19 + 6 * c) 5 := by
  match c, h with
  | 0, _ => rfl
  | 1, _ => rfl
  | 2, _ => rfl
  | 3, _ => rfl
theorem cu_5 (g : mF) {c : Nat} (h : c < 4) (x : Int) : mup (fl g) (mix (20 + 6 * (c : Int))) 5 x = fl (mup g (19 + 6 * c) 5 x) := by
  match c, h with
  | 0, _ => exact fl_up rfl
  | 1, _ => exact fl_up rfl
  | 2, _ => exact fl_up rfl
  | 3, _ => exact fl_up rfl
theorem cl_6 (g : mF) {c : Nat} (h : c < 4) : fl g (mix (20 + 6 * (c : Int))) 6 = g (19 + 6 * c) 6 := by
  match c, h with
  | 0, _ => rfl
  | 1, _ => rfl
  | 2, _ => rfl
  | 3, _ => rfl
theorem cu_6 (g : mF) {c : Nat} (h : c < 4) (x : Int) : mup (fl g) (mix (20 + 6 * (c : Int))) 6 x = fl (mup g (19 + 6 * c) 6 x) := by
  match c, h with
  | 0, _ => exact fl_up rfl
  | 1, _ => exact fl_up rfl
  | 2, _ => exact fl_up rfl
  | 3, _ => exact fl_up rfl
theorem cl_7 (g : mF) {c : Nat} (h : c < 4) : fl g (mix (20 + 6 * (c : Int))) 7 = 22 + 6 * (c : Int) := by
  match c, h with
  | 0, _ => rfl
  | 1, _ => rfl
  | 2, _ => rfl
  | 3, _ => rfl
theorem cm_7 {c : Nat} (h : c < 4) : mis SH (22 + 6 * (c : Int)) 10 := by
  match c, h with
  | 0, _ => exact ⟨by decide, rfl⟩
  | 1, _ => exact ⟨by decide, rfl⟩
  | 2, _ => exact ⟨by decide, rfl⟩
  | 3, _ => exact ⟨by decide, rfl⟩
theorem cn_7 {c : Nat} (h : c < 4) : mln SH (22 + 6 * (c : Int)) = 36 := by
  match c, h with
  | 0, _ => exact rfl
  | 1, _ => exact rfl
  | 2, _ => exact rfl
  | 3, _ => exact rfl
theorem ca_7 (g : mF) {c : Nat} (h : c < 4) (i : Nat) : fl g (mix (22 + 6 * (c : Int))) i = g (21 + 6 * c) i := by
  match c, h with
  | 0, _ => rfl
  | 1, _ => rfl
  | 2, _ => rfl
  | 3, _ => rfl
theorem cz_7 (g : mF) {c : Nat} (h : c < 4) (i : Nat) (x : Int) : mup (fl g) (mix (22 + 6 * (c : Int))) i x = fl (mup g (21 + 6 * c) i x) := by
  match c, h with
  | 0, _ => exact fl_up rfl
  | 1, _ => exact fl_up rfl
  | 2, _ => exact fl_up rfl
  | 3, _ => exact fl_up rfl
theorem cl_8 (g : mF) {c : Nat} (h : c < 4) : fl g (mix (20 + 6 * (c : Int))) 8 = 23 + 6 * (c : Int) := by
  match c, h with
  | 0, _ => rfl
  | 1, _ => rfl
  | 2, _ => rfl
  | 3, _ => rfl
theorem cm_8 {c : Nat} (h : c < 4) : mis SH (23 + 6 * (c : Int)) 10 := by
  match c, h with
  | 0, _ => exact ⟨by decide, rfl⟩
  | 1, _ => exact ⟨by decide, rfl⟩
  | 2, _ => exact ⟨by decide, rfl⟩
  | 3, _ => exact ⟨by decide, rfl⟩
theorem cn_8 {c : Nat} (h : c < 4) : mln SH (23 + 6 * (c : Int)) = 36 := by
  match c, h with
  | 0, _ => exact rfl
  | 1, _ => exact rfl
  | 2, _ => exact rfl
  | 3, _ => exact rfl
theorem ca_8 (g : mF) {c : Nat} (h : c < 4) (i : Nat) : fl g (mix (23 + 6 * (c : Int))) i = g (22 + 6 * c) i := by
  match c, h with
  | 0, _ => rfl
  | 1, _ => rfl
  | 2, _ => rfl
  | 3, _ => rfl
theorem cz_8 (g : mF) {c : Nat} (h : c < 4) (i : Nat) (x : Int) : mup (fl g) (mix (23 + 6 * (c : Int))) i x = fl (mup g (22 + 6 * c) i x) := by
  match c, h with
  | 0, _ => exact fl_up rfl
  | 1, _ => exact fl_up rfl
  | 2, _ => exact fl_up rfl
  | 3, _ => exact fl_up rfl
theorem cl_9 (g : mF) {c : Nat} (h : c < 4) : fl g (mix (20 + 6 * (c : Int))) 9 = 24 + 6 * (c : Int) := by
  match c, h with
  | 0, _ => rfl
  | 1, _ => rfl
  | 2, _ => rfl
  | 3, _ => rfl
theorem cm_9 {c : Nat} (h : c < 4) : mis SH (24 + 6 * (c : Int)) 10 := by
  match c, h with
  | 0, _ => exact ⟨by decide, rfl⟩
  | 1, _ => exact ⟨by decide, rfl⟩
  | 2, _ => exact ⟨by decide, rfl⟩
  | 3, _ => exact ⟨by decide, rfl⟩
theorem cn_9 {c : Nat} (h : c < 4) : mln SH (24 + 6 * (c : Int)) = 144 := by
  match c, h with
  | 0, _ => exact rfl
  | 1, _ => exact rfl
  | 2, _ => exact rfl
  | 3, _ => exact rfl
theorem ca_9 (g : mF) {c : Nat} (h : c < 4) (i : Nat) : fl g (mix (24 + 6 * (c : Int))) i = g (23 + 6 * c) i := by
  match c, h with
  | 0, _ => rfl
  | 1, _ => rfl
  | 2, _ => rfl
  | 3, _ => rfl
theorem cz_9 (g : mF) {c : Nat} (h : c < 4) (i : Nat) (x : Int) : mup (fl g) (mix (24 + 6 * (c : Int))) i x = fl (mup g (23 + 6 * c) i x) := by
  match c, h with
  | 0, _ => exact fl_up rfl
  | 1, _ => exact fl_up rfl
  | 2, _ => exact fl_up rfl
  | 3, _ => exact fl_up rfl
theorem cl_10 (g : mF) {c : Nat} (h : c < 4) : fl g (mix (20 + 6 * (c : Int))) 10 = 25 + 6 * (c : Int) := by
  match c, h with
  | 0, _ => rfl
  | 1, _ => rfl
  | 2, _ => rfl
  | 3, _ => rfl
theorem cm_10 {c : Nat} (h : c < 4) : mis SH (25 + 6 * (c : Int)) 10 := by
  match c, h with
  | 0, _ => exact ⟨by decide, rfl⟩
  | 1, _ => exact ⟨by decide, rfl⟩
  | 2, _ => exact ⟨by decide, rfl⟩
  | 3, _ => exact ⟨by decide, rfl⟩
theorem cn_10 {c : Nat} (h : c < 4) : mln SH (25 + 6 * (c : Int)) = 36 := by
  match c, h with
  | 0, _ => exact rfl
  | 1, _ => exact rfl
  | 2, _ => exact rfl
  | 3, _ => exact rfl
theorem ca_10 (g : mF) {c : Nat} (h : c < 4) (i : Nat) : fl g (mix (25 + 6 * (c : Int))) i = g (24 + 6 * c) i := by
  match c, h with
  | 0, _ => rfl
  | 1, _ => rfl
  | 2, _ => rfl
  | 3, _ => rfl
theorem cz_10 (g : mF) {c : Nat} (h : c < 4) (i : Nat) (x : Int) : mup (fl g) (mix (25 + 6 * (c : Int))) i x = fl (mup g (24 + 6 * c) i x) := by
  match c, h with
  | 0, _ => exact fl_up rfl
  | 1, _ => exact fl_up rfl
  | 2, _ => exact fl_up rfl
  | 3, _ => exact fl_up rfl
theorem cl_11 (g : mF) {c : Nat} (h : c < 4) : fl g (mix (20 + 6 * (c : Int))) 11 = g (19 + 6 * c) 11 := by
  match c, h with
  | 0, _ => rfl
  | 1, _ => rfl
  | 2, _ => rfl
  | 3, _ => rfl
theorem cu_11 (g : mF) {c : Nat} (h : c < 4) (x : Int) : mup (fl g) (mix (20 + 6 * (c : Int))) 11 x = fl (mup g (19 + 6 * c) 11 x) := by
  match c, h with
  | 0, _ => exact fl_up rfl
  | 1, _ => exact fl_up rfl
  | 2, _ => exact fl_up rfl
  | 3, _ => exact fl_up rfl
/-- method y, from these locals at its entry, returns r, and the memory is g' -/
def Ret (X : mX) (D y : Nat) (ls : List mV) (g : mF) (r : Option mV) (g' : mF) : Prop := ∀ (d : Nat) (Q : mQ), D ≤ d → Q r (fl g') → Wp X d SH y 0 ls [] SH (fl g) Q
theorem Ret.le {X : mX} {D D' y : Nat} {ls : List mV} {g g' : mF} {r : Option mV} (h : Ret X D y ls g r g') (hd : D ≤ D') : Ret X D' y ls g r g' := fun d Q h1 h2 => h d Q (Nat.le_trans hd h1) h2
/-- a loop: what holds of every turn's beginning, from the last one back -/
theorem lup {P : Nat → Prop} (N : Nat) (he : P N) (hs : ∀ i, i < N → P (i + 1) → P i) : ∀ i, i ≤ N → P i := by
  intro i hi
  have : ∀ n i, i + n = N → P i := by
    intro n
    induction n with
    | zero => intro i h; rw [show i = N by omega]; exact he
    | succ n ih => intro i h; exact hs i (by omega) (ih (i + 1) (by omega))
  exact this (N - i) i (by omega)
theorem b10_0 {c : Prop} [Decidable c] : ((if c then (1 : Int) else 0) = 0) = ¬ c := by by_cases h : c <;> simp [h]
theorem b10_1 {c : Prop} [Decidable c] : ((if c then (1 : Int) else 0) ≠ 0) = c := by by_cases h : c <;> simp [h]
