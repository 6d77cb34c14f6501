/-! what holds of the memory between two calls of the law -/
def sumN : Nat → (Nat → Int) → Int
  | 0, _ => 0
  | n + 1, a => sumN n a + a n
theorem sumN_congr {n : Nat} {a b : Nat → Int} (h : ∀ i, i < n → a i = b i) : sumN n a = sumN n b := by
  induction n with
  | zero => rfl
  | succ n ih => unfold sumN; rw [ih (fun i hi => h i (by omega)), h n (by omega)]
def Iseason (g : mF) : Prop := g 86 42 = g 0 10 ∧ 30 ≤ g 0 10 ∧ g 0 10 ≤ 90
def Ibound (g : mF) : Prop := g 86 5 = g 2 0 ∧ 100 ≤ g 2 0 ∧ g 2 0 ≤ 20000 ∧ g 86 6 = g 2 1 ∧ 0 ≤ g 2 1 ∧ g 2 1 ≤ 20000
def Iair (g : mF) : Prop := (∀ p, p < 8 → g 94 p = g 6 p ∧ 1 ≤ g 6 p ∧ g 6 p ≤ 60) ∧ (∀ h, h < 100 → g 95 h = g 7 h ∧ 0 ≤ g 7 h ∧ g 7 h ≤ 50) ∧ g 5 2 = -1 ∧ g 86 28 = -1
def Iscent (g : mF) : Prop := ∀ k, k < 12 → g 109 k = g 53 k ∧ 0 ≤ g 53 k ∧ g 53 k ≤ 7
def Ihear (g : mF) : Prop := g 86 38 = g 43 1 ∧ 0 ≤ g 43 1 ∧ g 43 1 ≤ 24 ∧ ∀ j : Nat, (j : Int) < g 43 1 → g 117 j = g 46 j ∧ 0 ≤ g 46 j ∧ g 46 j ≤ 20000
def Irule (g : mF) : Prop := (∀ k, k < 12 → g 121 k = g 50 k ∧ 0 ≤ g 50 k ∧ g 50 k ≤ 31) ∧ g 86 44 = g 49 1 ∧ 0 ≤ g 49 1 ∧ g 49 1 ≤ 160 ∧ (∀ j : Nat, (j : Int) < g 49 1 → g 120 j = g 51 j ∧ 0 ≤ g 51 j ∧ g 51 j ≤ 255) ∧ g 86 45 = g 49 2 ∧ -1 ≤ g 49 2 ∧ g 49 2 ≤ 160
/-- grains of a powder in the cells of a clock -/
def celp (g : mF) (c : Nat) (p : Int) : Int := sumN (g (19 + 6 * c) 0).toNat (fun i => if g (20 + 6 * c) i = p then 1 else 0)
def Istore (n : Nat) (g : mF) : Prop := (∀ j, j < 32 → g 96 j = g 9 j ∧ 0 ≤ g 9 j ∧ g 9 j ≤ 999) ∧ (∀ p, p < 8 → g 98 p = g 10 p ∧ 0 ≤ g 10 p) ∧ ∀ p, p < 8 → g 97 p = g 9 p + g 9 (8 + p) + g 9 (16 + p) + g 9 (24 + p) + (celp g 0 p + celp g 1 p + celp g 2 p + celp g 3 p) + g 10 p ∧ g 97 p ≤ 99 * (n : Int)
