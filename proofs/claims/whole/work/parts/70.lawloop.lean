/-! the law's loop -/

/-- board -/
def SO_0 (X : mX) (I : Nat → mF → Prop) : Prop := ∀ (n : Nat) (g : mF), n < 512 → I n g → ∀ (a1 a2 a3 : Int), r32 a1 → r32 a2 → r32 a3 → PR X 85 149 [(2, 1), (0, a1), (0, a2), (0, a3), (3, 0)] [(2, 87), (0, a1), (0, a2), (0, a3), (3, 0)] g (I (n + 1))
/-- bar -/
def SO_1 (X : mX) (I : Nat → mF → Prop) : Prop := ∀ (n : Nat) (g : mF), n < 512 → I n g → ∀ (a1 a2 a3 : Int), r32 a1 → r32 a2 → (a3 = 0 ∨ a3 = 1) → PR X 86 152 [(2, 1), (0, a1), (0, a2), (0, a3), (3, 0), (3, 0)] [(2, 87), (0, a1), (0, a2), (0, a3), (3, 0)] g (I (n + 1))
/-- go -/
def SO_2 (X : mX) (I : Nat → mF → Prop) : Prop := ∀ (n : Nat) (g : mF), n < 512 → I n g → ∀ (a1 a2 : Int), r32 a1 → r32 a2 → PR X 87 153 [(2, 1), (0, a1), (0, a2), (3, 0)] [(2, 87), (0, a1), (0, a2), (3, 0)] g (I (n + 1))
/-- wipe -/
def SO_3 (X : mX) (I : Nat → mF → Prop) : Prop := ∀ (n : Nat) (g : mF), n < 512 → I n g → ∀ (a1 : Int), r32 a1 → PR X 88 154 [(2, 1), (0, a1), (3, 0), (3, 0)] [(2, 87), (0, a1), (3, 0)] g (I (n + 1))
/-- draw -/
def SO_4 (X : mX) (I : Nat → mF → Prop) : Prop := ∀ (n : Nat) (g : mF), n < 512 → I n g → ∀ (a1 a2 a3 a4 a5 a6 : Int), r32 a1 → r32 a2 → r32 a3 → r32 a4 → (a5 = 0 ∨ a5 = 1) → r32 a6 → PR X 89 159 [(2, 1), (0, a1), (0, a2), (0, a3), (0, a4), (0, a5), (0, a6), (3, 0)] [(2, 87), (0, a1), (0, a2), (0, a3), (0, a4), (0, a5), (0, a6), (3, 0), (3, 0)] g (I (n + 1))
/-- looks -/
def SO_5 (X : mX) (I : Nat → mF → Prop) : Prop := ∀ (n : Nat) (g : mF), n < 512 → I n g → PR X 90 160 [(2, 1)] [(2, 87)] g (I (n + 1))
/-- bound -/
def SO_6 (X : mX) (I : Nat → mF → Prop) : Prop := ∀ (n : Nat) (g : mF), n < 512 → I n g → ∀ (a1 : Int), r32 a1 → PR X 91 161 [(2, 1), (0, a1), (3, 0)] [(2, 87), (0, a1), (3, 0)] g (I (n + 1))
/-- told -/
def SO_7 (X : mX) (I : Nat → mF → Prop) : Prop := ∀ (n : Nat) (g : mF), n < 512 → I n g → ∀ (a1 a2 : Int), r32 a1 → r32 a2 → PR X 92 163 [(2, 1), (0, a1), (0, a2), (3, 0)] [(2, 87), (0, a1), (0, a2), (3, 0), (3, 0), (3, 0)] g (I (n + 1))
/-- at -/
def SO_8 (X : mX) (I : Nat → mF → Prop) : Prop := ∀ (n : Nat) (g : mF), n < 512 → I n g → ∀ (a1 a2 : Int), r32 a1 → r32 a2 → PR X 93 164 [(2, 1), (0, a1), (0, a2), (3, 0)] [(2, 87), (0, a1), (0, a2)] g (I (n + 1))
/-- rate -/
def SO_9 (X : mX) (I : Nat → mF → Prop) : Prop := ∀ (n : Nat) (g : mF), n < 512 → I n g → ∀ (a1 a2 : Int), r32 a1 → r32 a2 → PR X 94 167 [(2, 1), (0, a1), (0, a2), (3, 0)] [(2, 87), (0, a1), (0, a2), (3, 0)] g (I (n + 1))
/-- damp -/
def SO_10 (X : mX) (I : Nat → mF → Prop) : Prop := ∀ (n : Nat) (g : mF), n < 512 → I n g → ∀ (a1 a2 a3 : Int), r32 a1 → r32 a2 → r32 a3 → PR X 95 168 [(2, 1), (0, a1), (0, a2), (0, a3), (3, 0)] [(2, 87), (0, a1), (0, a2), (0, a3), (3, 0)] g (I (n + 1))
/-- bring -/
def SO_11 (X : mX) (I : Nat → mF → Prop) : Prop := ∀ (n : Nat) (g : mF), n < 512 → I n g → ∀ (a1 a2 a3 : Int), r32 a1 → r32 a2 → r32 a3 → PR X 96 169 [(2, 1), (0, a1), (0, a2), (0, a3)] [(2, 87), (0, a1), (0, a2), (0, a3)] g (I (n + 1))
/-- jar -/
def SO_12 (X : mX) (I : Nat → mF → Prop) : Prop := ∀ (n : Nat) (g : mF), n < 512 → I n g → ∀ (a1 a2 : Int), r32 a1 → r32 a2 → PR X 97 170 [(2, 1), (0, a1), (0, a2)] [(2, 87), (0, a1), (0, a2)] g (I (n + 1))
/-- pour -/
def SO_13 (X : mX) (I : Nat → mF → Prop) : Prop := ∀ (n : Nat) (g : mF), n < 512 → I n g → ∀ (a1 a2 a3 a4 : Int), r32 a1 → r32 a2 → r32 a3 → r32 a4 → PR X 98 171 [(2, 1), (0, a1), (0, a2), (0, a3), (0, a4)] [(2, 87), (0, a1), (0, a2), (0, a3), (0, a4)] g (I (n + 1))
/-- weighed -/
def SO_14 (X : mX) (I : Nat → mF → Prop) : Prop := ∀ (n : Nat) (g : mF), n < 512 → I n g → ∀ (a1 a2 : Int), r32 a1 → r32 a2 → PR X 99 173 [(2, 1), (0, a1), (0, a2), (3, 0), (3, 0)] [(2, 87), (0, a1), (0, a2), (3, 0), (3, 0), (3, 0), (3, 0)] g (I (n + 1))
/-- mount -/
def SO_15 (X : mX) (I : Nat → mF → Prop) : Prop := ∀ (n : Nat) (g : mF), n < 512 → I n g → ∀ (a1 a2 : Int), r32 a1 → r32 a2 → PR X 100 178 [(2, 1), (0, a1), (0, a2), (3, 0), (3, 0)] [(2, 87), (0, a1), (0, a2), (3, 0)] g (I (n + 1))
/-- lay -/
def SO_16 (X : mX) (I : Nat → mF → Prop) : Prop := ∀ (n : Nat) (g : mF), n < 512 → I n g → ∀ (a1 a2 a3 a4 : Int), r32 a1 → r32 a2 → r32 a3 → r32 a4 → PR X 101 179 [(2, 1), (0, a1), (0, a2), (0, a3), (0, a4), (3, 0)] [(2, 87), (0, a1), (0, a2), (0, a3), (0, a4)] g (I (n + 1))
/-- grain -/
def SO_17 (X : mX) (I : Nat → mF → Prop) : Prop := ∀ (n : Nat) (g : mF), n < 512 → I n g → ∀ (a1 a2 : Int), r32 a1 → r32 a2 → PR X 102 180 [(2, 1), (0, a1), (0, a2), (3, 0)] [(2, 87), (0, a1), (0, a2)] g (I (n + 1))
/-- sweep -/
def SO_18 (X : mX) (I : Nat → mF → Prop) : Prop := ∀ (n : Nat) (g : mF), n < 512 → I n g → ∀ (a1 a2 : Int), r32 a1 → r32 a2 → PR X 103 181 [(2, 1), (0, a1), (0, a2), (3, 0), (3, 0), (3, 0)] [(2, 87), (0, a1), (0, a2), (3, 0), (3, 0)] g (I (n + 1))
/-- row -/
def SO_19 (X : mX) (I : Nat → mF → Prop) : Prop := ∀ (n : Nat) (g : mF), n < 512 → I n g → ∀ (a1 a2 : Int), r32 a1 → r32 a2 → PR X 104 182 [(2, 1), (0, a1), (0, a2), (3, 0)] [(2, 87), (0, a1), (0, a2), (3, 0)] g (I (n + 1))
/-- fill -/
def SO_20 (X : mX) (I : Nat → mF → Prop) : Prop := ∀ (n : Nat) (g : mF), n < 512 → I n g → ∀ (a1 a2 a3 : Int), r32 a1 → r32 a2 → r32 a3 → PR X 105 186 [(2, 1), (0, a1), (0, a2), (0, a3), (3, 0), (3, 0), (3, 0)] [(2, 87), (0, a1), (0, a2), (0, a3), (3, 0), (3, 0), (3, 0), (3, 0), (3, 0), (3, 0)] g (I (n + 1))
/-- spills -/
def SO_21 (X : mX) (I : Nat → mF → Prop) : Prop := ∀ (n : Nat) (g : mF), n < 512 → I n g → ∀ (a1 a2 a3 : Int), r32 a1 → r32 a2 → r32 a3 → PR X 106 193 [(2, 1), (0, a1), (0, a2), (0, a3), (3, 0), (3, 0), (3, 0)] [(2, 87), (0, a1), (0, a2), (0, a3), (3, 0), (3, 0), (3, 0), (3, 0)] g (I (n + 1))
/-- light -/
def SO_22 (X : mX) (I : Nat → mF → Prop) : Prop := ∀ (n : Nat) (g : mF), n < 512 → I n g → ∀ (a1 a2 a3 : Int), r32 a1 → r32 a2 → r32 a3 → PR X 107 194 [(2, 1), (0, a1), (0, a2), (0, a3), (3, 0)] [(2, 87), (0, a1), (0, a2), (0, a3)] g (I (n + 1))
/-- link -/
def SO_23 (X : mX) (I : Nat → mF → Prop) : Prop := ∀ (n : Nat) (g : mF), n < 512 → I n g → ∀ (a1 a2 a3 : Int), r32 a1 → r32 a2 → r32 a3 → PR X 108 195 [(2, 1), (0, a1), (0, a2), (0, a3), (3, 0), (3, 0)] [(2, 87), (0, a1), (0, a2), (0, a3)] g (I (n + 1))
/-- again -/
def SO_24 (X : mX) (I : Nat → mF → Prop) : Prop := ∀ (n : Nat) (g : mF), n < 512 → I n g → ∀ (a1 a2 a3 : Int), r32 a1 → r32 a2 → r32 a3 → PR X 109 196 [(2, 1), (0, a1), (0, a2), (0, a3), (3, 0)] [(2, 87), (0, a1), (0, a2), (0, a3)] g (I (n + 1))
/-- calm -/
def SO_25 (X : mX) (I : Nat → mF → Prop) : Prop := ∀ (n : Nat) (g : mF), n < 512 → I n g → PR X 110 197 [(2, 1), (3, 0)] [(2, 87), (3, 0), (3, 0)] g (I (n + 1))
/-- night -/
def SO_26 (X : mX) (I : Nat → mF → Prop) : Prop := ∀ (n : Nat) (g : mF), n < 512 → I n g → ∀ (a1 a2 : Int), r32 a1 → r32 a2 → PR X 111 199 [(2, 1), (0, a1), (0, a2), (3, 0)] [(2, 87), (0, a1), (0, a2)] g (I (n + 1))
/-- burns -/
def SO_27 (X : mX) (I : Nat → mF → Prop) : Prop := ∀ (n : Nat) (g : mF), n < 512 → I n g → ∀ (a1 a2 a3 : Int), r32 a1 → r32 a2 → r32 a3 → PR X 112 200 [(2, 1), (0, a1), (0, a2), (0, a3), (3, 0)] [(2, 87), (0, a1), (0, a2), (0, a3)] g (I (n + 1))
/-- scent -/
def SO_28 (X : mX) (I : Nat → mF → Prop) : Prop := ∀ (n : Nat) (g : mF), n < 512 → I n g → ∀ (a1 a2 : Int), r32 a1 → r32 a2 → PR X 113 201 [(2, 1), (0, a1), (0, a2), (3, 0)] [(2, 87), (0, a1), (0, a2), (3, 0), (3, 0), (3, 0)] g (I (n + 1))
/-- dawn -/
def SO_29 (X : mX) (I : Nat → mF → Prop) : Prop := ∀ (n : Nat) (g : mF), n < 512 → I n g → PR X 114 202 [(2, 1), (3, 0), (3, 0)] [(2, 87), (3, 0), (3, 0), (3, 0)] g (I (n + 1))
/-- hang -/
def SO_30 (X : mX) (I : Nat → mF → Prop) : Prop := ∀ (n : Nat) (g : mF), n < 512 → I n g → ∀ (a1 a2 : Int), r32 a1 → r32 a2 → PR X 115 203 [(2, 1), (0, a1), (0, a2), (3, 0)] [(2, 87), (0, a1), (0, a2)] g (I (n + 1))
/-- drops -/
def SO_31 (X : mX) (I : Nat → mF → Prop) : Prop := ∀ (n : Nat) (g : mF), n < 512 → I n g → ∀ (a1 : Int), r32 a1 → PR X 116 204 [(2, 1), (0, a1)] [(2, 87), (0, a1)] g (I (n + 1))
/-- hear -/
def SO_32 (X : mX) (I : Nat → mF → Prop) : Prop := ∀ (n : Nat) (g : mF), n < 512 → I n g → ∀ (a1 : Int), r32 a1 → PR X 117 205 [(2, 1), (0, a1)] [(2, 87), (0, a1)] g (I (n + 1))
/-- hush -/
def SO_33 (X : mX) (I : Nat → mF → Prop) : Prop := ∀ (n : Nat) (g : mF), n < 512 → I n g → PR X 118 206 [(2, 1), (3, 0)] [(2, 87), (3, 0)] g (I (n + 1))
/-- cost -/
def SO_34 (X : mX) (I : Nat → mF → Prop) : Prop := ∀ (n : Nat) (g : mF), n < 512 → I n g → ∀ (a1 : Int), r32 a1 → PR X 119 208 [(2, 1), (0, a1)] [(2, 87), (0, a1)] g (I (n + 1))
/-- slow -/
def SO_35 (X : mX) (I : Nat → mF → Prop) : Prop := ∀ (n : Nat) (g : mF), n < 512 → I n g → ∀ (a1 a2 : Int), r32 a1 → r32 a2 → PR X 120 209 [(2, 1), (0, a1), (0, a2), (3, 0), (3, 0), (3, 0), (3, 0)] [(2, 87), (0, a1), (0, a2), (3, 0), (3, 0), (3, 0), (3, 0)] g (I (n + 1))
/-- gone -/
def SO_36 (X : mX) (I : Nat → mF → Prop) : Prop := ∀ (n : Nat) (g : mF), n < 512 → I n g → ∀ (a1 a2 a3 a4 a5 a6 a7 : Int), r32 a1 → r32 a2 → r32 a3 → r32 a4 → r32 a5 → r32 a6 → r32 a7 → PR X 121 212 [(2, 1), (0, a1), (0, a2), (0, a3), (0, a4), (0, a5), (0, a6), (0, a7), (3, 0), (3, 0), (3, 0), (3, 0), (3, 0), (3, 0)] [(2, 87), (0, a1), (0, a2), (0, a3), (0, a4), (0, a5), (0, a6), (0, a7), (3, 0), (3, 0), (3, 0), (3, 0), (3, 0)] g (I (n + 1))
/-- season -/
def SO_37 (X : mX) (I : Nat → mF → Prop) : Prop := ∀ (n : Nat) (g : mF), n < 512 → I n g → ∀ (a1 : Int), r32 a1 → PR X 122 213 [(2, 1), (0, a1), (3, 0)] [(2, 87), (0, a1), (3, 0)] g (I (n + 1))
/-- watch -/
def SO_38 (X : mX) (I : Nat → mF → Prop) : Prop := ∀ (n : Nat) (g : mF), n < 512 → I n g → ∀ (a1 a2 : Int), r32 a1 → r32 a2 → PR X 123 216 [(2, 1), (0, a1), (0, a2), (3, 0), (3, 0)] [(2, 87), (0, a1), (0, a2), (3, 0)] g (I (n + 1))
/-- feed -/
def SO_39 (X : mX) (I : Nat → mF → Prop) : Prop := ∀ (n : Nat) (g : mF), n < 512 → I n g → ∀ (a1 a2 : Int), r32 a1 → r64 a2 → PR X 124 217 [(2, 1), (0, a1), (1, a2), (3, 0)] [(2, 87), (0, a1), (1, a2), (3, 0), (3, 0)] g (I (n + 1))
/-- read -/
def SO_40 (X : mX) (I : Nat → mF → Prop) : Prop := ∀ (n : Nat) (g : mF), n < 512 → I n g → PR X 125 224 [(2, 1)] [(2, 87), (3, 0), (3, 0), (3, 0)] g (I (n + 1))
/-- fault -/
def SO_41 (X : mX) (I : Nat → mF → Prop) : Prop := ∀ (n : Nat) (g : mF), n < 512 → I n g → PR X 126 225 [(2, 1)] [(2, 87)] g (I (n + 1))
/-- words -/
def SO_42 (X : mX) (I : Nat → mF → Prop) : Prop := ∀ (n : Nat) (g : mF), n < 512 → I n g → ∀ (a1 : Int), r32 a1 → PR X 127 226 [(2, 1), (0, a1)] [(2, 87), (0, a1)] g (I (n + 1))
/-- due -/
def SO_43 (X : mX) (I : Nat → mF → Prop) : Prop := ∀ (n : Nat) (g : mF), n < 512 → I n g → ∀ (a1 : Int), r32 a1 → PR X 128 227 [(2, 1), (0, a1)] [(2, 87), (0, a1)] g (I (n + 1))
/-- count -/
def SO_44 (X : mX) (I : Nat → mF → Prop) : Prop := ∀ (n : Nat) (g : mF), n < 512 → I n g → ∀ (a1 : Int), r32 a1 → PR X 129 228 [(2, 1), (0, a1)] [(2, 87), (0, a1), (3, 0), (3, 0), (3, 0)] g (I (n + 1))
set_option maxHeartbeats 4000000 in
theorem law_0 (X : mX) (I : Nat → mF → Prop) (hS : SO_0 X I) {n : Nat} {g : mF} {x : Int} {Q : mQ} (hn : n < 512) (hI : I n g) (hx : 0 ≤ x ∧ x + 8 ≤ (X.1 : Int) ∧ (X.1 : Int) ≤ 4096) (h32 : ∀ j, r32 (X.2 j)) (hnext : ∀ g2, I (n + 1) g2 → Wp X 100 SH 233 1801 [(2, -2), (2, 1), (2, 87), (0, x)] [] SH (fl g2) Q) : Wp X 100 SH 233 228 [(2, -2), (2, 1), (2, 87), (0, x)] [] SH (fl g) Q := by
  have h1 := hS n g hn hI (X.2 (Int.toNat (x + 1))) (X.2 (Int.toNat (x + 2))) (X.2 (Int.toNat (x + 3))) (h32 _) (h32 _) (h32 _)
  apply s_233_228
  try simp only [mi_1, mi_87, true_and, and_true, implies_true]
  repeat' (first | refine And.intro ?_ ?_ | intro _)
  all_goals (try (first | omega | (unfold r32; omega)))
  refine h1 _ _ (by omega) ?_
  rintro _ g1 ⟨r, rfl, h2⟩
  apply s_233_247
  try simp only [mi_1, mi_87, true_and, and_true, implies_true]
  repeat' (first | refine And.intro ?_ ?_ | intro _)
  all_goals (try (first | omega | (unfold r32; omega)))
  refine h2 _ _ (by omega) ?_
  rintro _ g2 ⟨rfl, h3⟩
  apply s_233_266
  exact ⟨fun _ => hnext g2 h3, fun z => absurd rfl z⟩
set_option maxHeartbeats 4000000 in
theorem law_1 (X : mX) (I : Nat → mF → Prop) (hS : SO_1 X I) {n : Nat} {g : mF} {x : Int} {Q : mQ} (hn : n < 512) (hI : I n g) (hx : 0 ≤ x ∧ x + 8 ≤ (X.1 : Int) ∧ (X.1 : Int) ≤ 4096) (h32 : ∀ j, r32 (X.2 j)) (hnext : ∀ g2, I (n + 1) g2 → Wp X 100 SH 233 1801 [(2, -2), (2, 1), (2, 87), (0, x)] [] SH (fl g2) Q) : Wp X 100 SH 233 271 [(2, -2), (2, 1), (2, 87), (0, x)] [] SH (fl g) Q := by
  by_cases hz : X.2 (Int.toNat (x + 3)) = 0
  · have h1 := hS n g hn hI (X.2 (Int.toNat (x + 1))) (X.2 (Int.toNat (x + 2))) 0 (h32 _) (h32 _) (by omega)
    apply s_233_271
    try simp only [mi_1, mi_87, true_and, and_true, implies_true, hz, if_true, not_true_eq_false, false_implies, forall_const]
    repeat' (first | refine And.intro ?_ ?_ | intro _)
    all_goals (try (first | omega | (unfold r32; omega)))
    apply s_233_295
    try simp only [mi_1, mi_87, true_and, and_true, implies_true]
    repeat' (first | refine And.intro ?_ ?_ | intro _)
    all_goals (try (first | omega | (unfold r32; omega)))
    refine h1 _ _ (by omega) ?_
    rintro _ g1 ⟨r, rfl, h2⟩
    apply s_233_298
    try simp only [mi_1, mi_87, true_and, and_true, implies_true, hz, if_true, not_true_eq_false, false_implies, forall_const]
    repeat' (first | refine And.intro ?_ ?_ | intro _)
    all_goals (try (first | omega | (unfold r32; omega)))
    apply s_233_322
    try simp only [mi_1, mi_87, true_and, and_true, implies_true]
    repeat' (first | refine And.intro ?_ ?_ | intro _)
    all_goals (try (first | omega | (unfold r32; omega)))
    refine h2 _ _ (by omega) ?_
    rintro _ g2 ⟨rfl, h3⟩
    apply s_233_325
    exact ⟨fun _ => hnext g2 h3, fun z => absurd rfl z⟩
  · have h1 := hS n g hn hI (X.2 (Int.toNat (x + 1))) (X.2 (Int.toNat (x + 2))) 1 (h32 _) (h32 _) (by omega)
    apply s_233_271
    try simp only [mi_1, mi_87, true_and, and_true, implies_true, hz, not_false_eq_true, false_implies, forall_const]
    repeat' (first | refine And.intro ?_ ?_ | intro _)
    all_goals (try (first | omega | (unfold r32; omega)))
    apply s_233_295
    try simp only [mi_1, mi_87, true_and, and_true, implies_true]
    repeat' (first | refine And.intro ?_ ?_ | intro _)
    all_goals (try (first | omega | (unfold r32; omega)))
    refine h1 _ _ (by omega) ?_
    rintro _ g1 ⟨r, rfl, h2⟩
    apply s_233_298
    try simp only [mi_1, mi_87, true_and, and_true, implies_true, hz, not_false_eq_true, false_implies, forall_const]
    repeat' (first | refine And.intro ?_ ?_ | intro _)
    all_goals (try (first | omega | (unfold r32; omega)))
    apply s_233_322
    try simp only [mi_1, mi_87, true_and, and_true, implies_true]
    repeat' (first | refine And.intro ?_ ?_ | intro _)
    all_goals (try (first | omega | (unfold r32; omega)))
    refine h2 _ _ (by omega) ?_
    rintro _ g2 ⟨rfl, h3⟩
    apply s_233_325
    exact ⟨fun _ => hnext g2 h3, fun z => absurd rfl z⟩
set_option maxHeartbeats 4000000 in
theorem law_2 (X : mX) (I : Nat → mF → Prop) (hS : SO_2 X I) {n : Nat} {g : mF} {x : Int} {Q : mQ} (hn : n < 512) (hI : I n g) (hx : 0 ≤ x ∧ x + 8 ≤ (X.1 : Int) ∧ (X.1 : Int) ≤ 4096) (h32 : ∀ j, r32 (X.2 j)) (hnext : ∀ g2, I (n + 1) g2 → Wp X 100 SH 233 1801 [(2, -2), (2, 1), (2, 87), (0, x)] [] SH (fl g2) Q) : Wp X 100 SH 233 330 [(2, -2), (2, 1), (2, 87), (0, x)] [] SH (fl g) Q := by
  have h1 := hS n g hn hI (X.2 (Int.toNat (x + 1))) (X.2 (Int.toNat (x + 2))) (h32 _) (h32 _)
  apply s_233_330
  try simp only [mi_1, mi_87, true_and, and_true, implies_true]
  repeat' (first | refine And.intro ?_ ?_ | intro _)
  all_goals (try (first | omega | (unfold r32; omega)))
  refine h1 _ _ (by omega) ?_
  rintro _ g1 ⟨r, rfl, h2⟩
  apply s_233_344
  try simp only [mi_1, mi_87, true_and, and_true, implies_true]
  repeat' (first | refine And.intro ?_ ?_ | intro _)
  all_goals (try (first | omega | (unfold r32; omega)))
  refine h2 _ _ (by omega) ?_
  rintro _ g2 ⟨rfl, h3⟩
  apply s_233_358
  exact ⟨fun _ => hnext g2 h3, fun z => absurd rfl z⟩
set_option maxHeartbeats 4000000 in
theorem law_3 (X : mX) (I : Nat → mF → Prop) (hS : SO_3 X I) {n : Nat} {g : mF} {x : Int} {Q : mQ} (hn : n < 512) (hI : I n g) (hx : 0 ≤ x ∧ x + 8 ≤ (X.1 : Int) ∧ (X.1 : Int) ≤ 4096) (h32 : ∀ j, r32 (X.2 j)) (hnext : ∀ g2, I (n + 1) g2 → Wp X 100 SH 233 1801 [(2, -2), (2, 1), (2, 87), (0, x)] [] SH (fl g2) Q) : Wp X 100 SH 233 363 [(2, -2), (2, 1), (2, 87), (0, x)] [] SH (fl g) Q := by
  have h1 := hS n g hn hI (X.2 (Int.toNat (x + 1))) (h32 _)
  apply s_233_363
  try simp only [mi_1, mi_87, true_and, and_true, implies_true]
  repeat' (first | refine And.intro ?_ ?_ | intro _)
  all_goals (try (first | omega | (unfold r32; omega)))
  refine h1 _ _ (by omega) ?_
  rintro _ g1 ⟨r, rfl, h2⟩
  apply s_233_372
  try simp only [mi_1, mi_87, true_and, and_true, implies_true]
  repeat' (first | refine And.intro ?_ ?_ | intro _)
  all_goals (try (first | omega | (unfold r32; omega)))
  refine h2 _ _ (by omega) ?_
  rintro _ g2 ⟨rfl, h3⟩
  apply s_233_381
  exact ⟨fun _ => hnext g2 h3, fun z => absurd rfl z⟩
set_option maxHeartbeats 4000000 in
theorem law_4 (X : mX) (I : Nat → mF → Prop) (hS : SO_4 X I) {n : Nat} {g : mF} {x : Int} {Q : mQ} (hn : n < 512) (hI : I n g) (hx : 0 ≤ x ∧ x + 8 ≤ (X.1 : Int) ∧ (X.1 : Int) ≤ 4096) (h32 : ∀ j, r32 (X.2 j)) (hnext : ∀ g2, I (n + 1) g2 → Wp X 100 SH 233 1801 [(2, -2), (2, 1), (2, 87), (0, x)] [] SH (fl g2) Q) : Wp X 100 SH 233 386 [(2, -2), (2, 1), (2, 87), (0, x)] [] SH (fl g) Q := by
  by_cases hz : X.2 (Int.toNat (x + 5)) = 0
  · have h1 := hS n g hn hI (X.2 (Int.toNat (x + 1))) (X.2 (Int.toNat (x + 2))) (X.2 (Int.toNat (x + 3))) (X.2 (Int.toNat (x + 4))) 0 (X.2 (Int.toNat (x + 6))) (h32 _) (h32 _) (h32 _) (h32 _) (by omega) (h32 _)
    apply s_233_386
    try simp only [mi_1, mi_87, true_and, and_true, implies_true, hz, if_true, not_true_eq_false, false_implies, forall_const]
    repeat' (first | refine And.intro ?_ ?_ | intro _)
    all_goals (try (first | omega | (unfold r32; omega)))
    apply s_233_420
    try simp only [mi_1, mi_87, true_and, and_true, implies_true]
    repeat' (first | refine And.intro ?_ ?_ | intro _)
    all_goals (try (first | omega | (unfold r32; omega)))
    refine h1 _ _ (by omega) ?_
    rintro _ g1 ⟨r, rfl, h2⟩
    apply s_233_429
    try simp only [mi_1, mi_87, true_and, and_true, implies_true, hz, if_true, not_true_eq_false, false_implies, forall_const]
    repeat' (first | refine And.intro ?_ ?_ | intro _)
    all_goals (try (first | omega | (unfold r32; omega)))
    apply s_233_463
    try simp only [mi_1, mi_87, true_and, and_true, implies_true]
    repeat' (first | refine And.intro ?_ ?_ | intro _)
    all_goals (try (first | omega | (unfold r32; omega)))
    refine h2 _ _ (by omega) ?_
    rintro _ g2 ⟨rfl, h3⟩
    apply s_233_472
    exact ⟨fun _ => hnext g2 h3, fun z => absurd rfl z⟩
  · have h1 := hS n g hn hI (X.2 (Int.toNat (x + 1))) (X.2 (Int.toNat (x + 2))) (X.2 (Int.toNat (x + 3))) (X.2 (Int.toNat (x + 4))) 1 (X.2 (Int.toNat (x + 6))) (h32 _) (h32 _) (h32 _) (h32 _) (by omega) (h32 _)
    apply s_233_386
    try simp only [mi_1, mi_87, true_and, and_true, implies_true, hz, not_false_eq_true, false_implies, forall_const]
    repeat' (first | refine And.intro ?_ ?_ | intro _)
    all_goals (try (first | omega | (unfold r32; omega)))
    apply s_233_420
    try simp only [mi_1, mi_87, true_and, and_true, implies_true]
    repeat' (first | refine And.intro ?_ ?_ | intro _)
    all_goals (try (first | omega | (unfold r32; omega)))
    refine h1 _ _ (by omega) ?_
    rintro _ g1 ⟨r, rfl, h2⟩
    apply s_233_429
    try simp only [mi_1, mi_87, true_and, and_true, implies_true, hz, not_false_eq_true, false_implies, forall_const]
    repeat' (first | refine And.intro ?_ ?_ | intro _)
    all_goals (try (first | omega | (unfold r32; omega)))
    apply s_233_463
    try simp only [mi_1, mi_87, true_and, and_true, implies_true]
    repeat' (first | refine And.intro ?_ ?_ | intro _)
    all_goals (try (first | omega | (unfold r32; omega)))
    refine h2 _ _ (by omega) ?_
    rintro _ g2 ⟨rfl, h3⟩
    apply s_233_472
    exact ⟨fun _ => hnext g2 h3, fun z => absurd rfl z⟩
set_option maxHeartbeats 4000000 in
theorem law_5 (X : mX) (I : Nat → mF → Prop) (hS : SO_5 X I) {n : Nat} {g : mF} {x : Int} {Q : mQ} (hn : n < 512) (hI : I n g) (hx : 0 ≤ x ∧ x + 8 ≤ (X.1 : Int) ∧ (X.1 : Int) ≤ 4096) (h32 : ∀ j, r32 (X.2 j)) (hnext : ∀ g2, I (n + 1) g2 → Wp X 100 SH 233 1801 [(2, -2), (2, 1), (2, 87), (0, x)] [] SH (fl g2) Q) : Wp X 100 SH 233 477 [(2, -2), (2, 1), (2, 87), (0, x)] [] SH (fl g) Q := by
  have h1 := hS n g hn hI 
  apply s_233_477
  try simp only [mi_1, mi_87, true_and, and_true, implies_true]
  repeat' (first | refine And.intro ?_ ?_ | intro _)
  all_goals (try (first | omega | (unfold r32; omega)))
  refine h1 _ _ (by omega) ?_
  rintro _ g1 ⟨r, rfl, h2⟩
  apply s_233_481
  try simp only [mi_1, mi_87, true_and, and_true, implies_true]
  repeat' (first | refine And.intro ?_ ?_ | intro _)
  all_goals (try (first | omega | (unfold r32; omega)))
  refine h2 _ _ (by omega) ?_
  rintro _ g2 ⟨rfl, h3⟩
  apply s_233_485
  exact ⟨fun _ => hnext g2 h3, fun z => absurd rfl z⟩
set_option maxHeartbeats 4000000 in
theorem law_6 (X : mX) (I : Nat → mF → Prop) (hS : SO_6 X I) {n : Nat} {g : mF} {x : Int} {Q : mQ} (hn : n < 512) (hI : I n g) (hx : 0 ≤ x ∧ x + 8 ≤ (X.1 : Int) ∧ (X.1 : Int) ≤ 4096) (h32 : ∀ j, r32 (X.2 j)) (hnext : ∀ g2, I (n + 1) g2 → Wp X 100 SH 233 1801 [(2, -2), (2, 1), (2, 87), (0, x)] [] SH (fl g2) Q) : Wp X 100 SH 233 490 [(2, -2), (2, 1), (2, 87), (0, x)] [] SH (fl g) Q := by
  have h1 := hS n g hn hI (X.2 (Int.toNat (x + 1))) (h32 _)
  apply s_233_490
  try simp only [mi_1, mi_87, true_and, and_true, implies_true]
  repeat' (first | refine And.intro ?_ ?_ | intro _)
  all_goals (try (first | omega | (unfold r32; omega)))
  refine h1 _ _ (by omega) ?_
  rintro _ g1 ⟨r, rfl, h2⟩
  apply s_233_499
  try simp only [mi_1, mi_87, true_and, and_true, implies_true]
  repeat' (first | refine And.intro ?_ ?_ | intro _)
  all_goals (try (first | omega | (unfold r32; omega)))
  refine h2 _ _ (by omega) ?_
  rintro _ g2 ⟨rfl, h3⟩
  apply s_233_508
  exact ⟨fun _ => hnext g2 h3, fun z => absurd rfl z⟩
set_option maxHeartbeats 4000000 in
theorem law_7 (X : mX) (I : Nat → mF → Prop) (hS : SO_7 X I) {n : Nat} {g : mF} {x : Int} {Q : mQ} (hn : n < 512) (hI : I n g) (hx : 0 ≤ x ∧ x + 8 ≤ (X.1 : Int) ∧ (X.1 : Int) ≤ 4096) (h32 : ∀ j, r32 (X.2 j)) (hnext : ∀ g2, I (n + 1) g2 → Wp X 100 SH 233 1801 [(2, -2), (2, 1), (2, 87), (0, x)] [] SH (fl g2) Q) : Wp X 100 SH 233 513 [(2, -2), (2, 1), (2, 87), (0, x)] [] SH (fl g) Q := by
  have h1 := hS n g hn hI (X.2 (Int.toNat (x + 1))) (X.2 (Int.toNat (x + 2))) (h32 _) (h32 _)
  apply s_233_513
  try simp only [mi_1, mi_87, true_and, and_true, implies_true]
  repeat' (first | refine And.intro ?_ ?_ | intro _)
  all_goals (try (first | omega | (unfold r32; omega)))
  refine h1 _ _ (by omega) ?_
  rintro _ g1 ⟨r, rfl, h2⟩
  apply s_233_527
  try simp only [mi_1, mi_87, true_and, and_true, implies_true]
  repeat' (first | refine And.intro ?_ ?_ | intro _)
  all_goals (try (first | omega | (unfold r32; omega)))
  refine h2 _ _ (by omega) ?_
  rintro _ g2 ⟨rfl, h3⟩
  apply s_233_541
  exact ⟨fun _ => hnext g2 h3, fun z => absurd rfl z⟩
set_option maxHeartbeats 4000000 in
theorem law_8 (X : mX) (I : Nat → mF → Prop) (hS : SO_8 X I) {n : Nat} {g : mF} {x : Int} {Q : mQ} (hn : n < 512) (hI : I n g) (hx : 0 ≤ x ∧ x + 8 ≤ (X.1 : Int) ∧ (X.1 : Int) ≤ 4096) (h32 : ∀ j, r32 (X.2 j)) (hnext : ∀ g2, I (n + 1) g2 → Wp X 100 SH 233 1801 [(2, -2), (2, 1), (2, 87), (0, x)] [] SH (fl g2) Q) : Wp X 100 SH 233 546 [(2, -2), (2, 1), (2, 87), (0, x)] [] SH (fl g) Q := by
  have h1 := hS n g hn hI (X.2 (Int.toNat (x + 1))) (X.2 (Int.toNat (x + 2))) (h32 _) (h32 _)
  apply s_233_546
  try simp only [mi_1, mi_87, true_and, and_true, implies_true]
  repeat' (first | refine And.intro ?_ ?_ | intro _)
  all_goals (try (first | omega | (unfold r32; omega)))
  refine h1 _ _ (by omega) ?_
  rintro _ g1 ⟨r, rfl, h2⟩
  apply s_233_560
  try simp only [mi_1, mi_87, true_and, and_true, implies_true]
  repeat' (first | refine And.intro ?_ ?_ | intro _)
  all_goals (try (first | omega | (unfold r32; omega)))
  refine h2 _ _ (by omega) ?_
  rintro _ g2 ⟨rfl, h3⟩
  apply s_233_574
  exact ⟨fun _ => hnext g2 h3, fun z => absurd rfl z⟩
set_option maxHeartbeats 4000000 in
theorem law_9 (X : mX) (I : Nat → mF → Prop) (hS : SO_9 X I) {n : Nat} {g : mF} {x : Int} {Q : mQ} (hn : n < 512) (hI : I n g) (hx : 0 ≤ x ∧ x + 8 ≤ (X.1 : Int) ∧ (X.1 : Int) ≤ 4096) (h32 : ∀ j, r32 (X.2 j)) (hnext : ∀ g2, I (n + 1) g2 → Wp X 100 SH 233 1801 [(2, -2), (2, 1), (2, 87), (0, x)] [] SH (fl g2) Q) : Wp X 100 SH 233 579 [(2, -2), (2, 1), (2, 87), (0, x)] [] SH (fl g) Q := by
  have h1 := hS n g hn hI (X.2 (Int.toNat (x + 1))) (X.2 (Int.toNat (x + 2))) (h32 _) (h32 _)
  apply s_233_579
  try simp only [mi_1, mi_87, true_and, and_true, implies_true]
  repeat' (first | refine And.intro ?_ ?_ | intro _)
  all_goals (try (first | omega | (unfold r32; omega)))
  refine h1 _ _ (by omega) ?_
  rintro _ g1 ⟨r, rfl, h2⟩
  apply s_233_593
  try simp only [mi_1, mi_87, true_and, and_true, implies_true]
  repeat' (first | refine And.intro ?_ ?_ | intro _)
  all_goals (try (first | omega | (unfold r32; omega)))
  refine h2 _ _ (by omega) ?_
  rintro _ g2 ⟨rfl, h3⟩
  apply s_233_607
  exact ⟨fun _ => hnext g2 h3, fun z => absurd rfl z⟩
set_option maxHeartbeats 4000000 in
theorem law_10 (X : mX) (I : Nat → mF → Prop) (hS : SO_10 X I) {n : Nat} {g : mF} {x : Int} {Q : mQ} (hn : n < 512) (hI : I n g) (hx : 0 ≤ x ∧ x + 8 ≤ (X.1 : Int) ∧ (X.1 : Int) ≤ 4096) (h32 : ∀ j, r32 (X.2 j)) (hnext : ∀ g2, I (n + 1) g2 → Wp X 100 SH 233 1801 [(2, -2), (2, 1), (2, 87), (0, x)] [] SH (fl g2) Q) : Wp X 100 SH 233 612 [(2, -2), (2, 1), (2, 87), (0, x)] [] SH (fl g) Q := by
  have h1 := hS n g hn hI (X.2 (Int.toNat (x + 1))) (X.2 (Int.toNat (x + 2))) (X.2 (Int.toNat (x + 3))) (h32 _) (h32 _) (h32 _)
  apply s_233_612
  try simp only [mi_1, mi_87, true_and, and_true, implies_true]
  repeat' (first | refine And.intro ?_ ?_ | intro _)
  all_goals (try (first | omega | (unfold r32; omega)))
  refine h1 _ _ (by omega) ?_
  rintro _ g1 ⟨r, rfl, h2⟩
  apply s_233_631
  try simp only [mi_1, mi_87, true_and, and_true, implies_true]
  repeat' (first | refine And.intro ?_ ?_ | intro _)
  all_goals (try (first | omega | (unfold r32; omega)))
  refine h2 _ _ (by omega) ?_
  rintro _ g2 ⟨rfl, h3⟩
  apply s_233_650
  exact ⟨fun _ => hnext g2 h3, fun z => absurd rfl z⟩
set_option maxHeartbeats 4000000 in
theorem law_11 (X : mX) (I : Nat → mF → Prop) (hS : SO_11 X I) {n : Nat} {g : mF} {x : Int} {Q : mQ} (hn : n < 512) (hI : I n g) (hx : 0 ≤ x ∧ x + 8 ≤ (X.1 : Int) ∧ (X.1 : Int) ≤ 4096) (h32 : ∀ j, r32 (X.2 j)) (hnext : ∀ g2, I (n + 1) g2 → Wp X 100 SH 233 1801 [(2, -2), (2, 1), (2, 87), (0, x)] [] SH (fl g2) Q) : Wp X 100 SH 233 655 [(2, -2), (2, 1), (2, 87), (0, x)] [] SH (fl g) Q := by
  have h1 := hS n g hn hI (X.2 (Int.toNat (x + 1))) (X.2 (Int.toNat (x + 2))) (X.2 (Int.toNat (x + 3))) (h32 _) (h32 _) (h32 _)
  apply s_233_655
  try simp only [mi_1, mi_87, true_and, and_true, implies_true]
  repeat' (first | refine And.intro ?_ ?_ | intro _)
  all_goals (try (first | omega | (unfold r32; omega)))
  refine h1 _ _ (by omega) ?_
  rintro _ g1 ⟨r, rfl, h2⟩
  apply s_233_674
  try simp only [mi_1, mi_87, true_and, and_true, implies_true]
  repeat' (first | refine And.intro ?_ ?_ | intro _)
  all_goals (try (first | omega | (unfold r32; omega)))
  refine h2 _ _ (by omega) ?_
  rintro _ g2 ⟨rfl, h3⟩
  apply s_233_693
  exact ⟨fun _ => hnext g2 h3, fun z => absurd rfl z⟩
set_option maxHeartbeats 4000000 in
theorem law_12 (X : mX) (I : Nat → mF → Prop) (hS : SO_12 X I) {n : Nat} {g : mF} {x : Int} {Q : mQ} (hn : n < 512) (hI : I n g) (hx : 0 ≤ x ∧ x + 8 ≤ (X.1 : Int) ∧ (X.1 : Int) ≤ 4096) (h32 : ∀ j, r32 (X.2 j)) (hnext : ∀ g2, I (n + 1) g2 → Wp X 100 SH 233 1801 [(2, -2), (2, 1), (2, 87), (0, x)] [] SH (fl g2) Q) : Wp X 100 SH 233 698 [(2, -2), (2, 1), (2, 87), (0, x)] [] SH (fl g) Q := by
  have h1 := hS n g hn hI (X.2 (Int.toNat (x + 1))) (X.2 (Int.toNat (x + 2))) (h32 _) (h32 _)
  apply s_233_698
  try simp only [mi_1, mi_87, true_and, and_true, implies_true]
  repeat' (first | refine And.intro ?_ ?_ | intro _)
  all_goals (try (first | omega | (unfold r32; omega)))
  refine h1 _ _ (by omega) ?_
  rintro _ g1 ⟨r, rfl, h2⟩
  apply s_233_712
  try simp only [mi_1, mi_87, true_and, and_true, implies_true]
  repeat' (first | refine And.intro ?_ ?_ | intro _)
  all_goals (try (first | omega | (unfold r32; omega)))
  refine h2 _ _ (by omega) ?_
  rintro _ g2 ⟨rfl, h3⟩
  apply s_233_726
  exact ⟨fun _ => hnext g2 h3, fun z => absurd rfl z⟩
set_option maxHeartbeats 4000000 in
theorem law_13 (X : mX) (I : Nat → mF → Prop) (hS : SO_13 X I) {n : Nat} {g : mF} {x : Int} {Q : mQ} (hn : n < 512) (hI : I n g) (hx : 0 ≤ x ∧ x + 8 ≤ (X.1 : Int) ∧ (X.1 : Int) ≤ 4096) (h32 : ∀ j, r32 (X.2 j)) (hnext : ∀ g2, I (n + 1) g2 → Wp X 100 SH 233 1801 [(2, -2), (2, 1), (2, 87), (0, x)] [] SH (fl g2) Q) : Wp X 100 SH 233 731 [(2, -2), (2, 1), (2, 87), (0, x)] [] SH (fl g) Q := by
  have h1 := hS n g hn hI (X.2 (Int.toNat (x + 1))) (X.2 (Int.toNat (x + 2))) (X.2 (Int.toNat (x + 3))) (X.2 (Int.toNat (x + 4))) (h32 _) (h32 _) (h32 _) (h32 _)
  apply s_233_731
  try simp only [mi_1, mi_87, true_and, and_true, implies_true]
  repeat' (first | refine And.intro ?_ ?_ | intro _)
  all_goals (try (first | omega | (unfold r32; omega)))
  refine h1 _ _ (by omega) ?_
  rintro _ g1 ⟨r, rfl, h2⟩
  apply s_233_755
  try simp only [mi_1, mi_87, true_and, and_true, implies_true]
  repeat' (first | refine And.intro ?_ ?_ | intro _)
  all_goals (try (first | omega | (unfold r32; omega)))
  refine h2 _ _ (by omega) ?_
  rintro _ g2 ⟨rfl, h3⟩
  apply s_233_779
  exact ⟨fun _ => hnext g2 h3, fun z => absurd rfl z⟩
set_option maxHeartbeats 4000000 in
theorem law_14 (X : mX) (I : Nat → mF → Prop) (hS : SO_14 X I) {n : Nat} {g : mF} {x : Int} {Q : mQ} (hn : n < 512) (hI : I n g) (hx : 0 ≤ x ∧ x + 8 ≤ (X.1 : Int) ∧ (X.1 : Int) ≤ 4096) (h32 : ∀ j, r32 (X.2 j)) (hnext : ∀ g2, I (n + 1) g2 → Wp X 100 SH 233 1801 [(2, -2), (2, 1), (2, 87), (0, x)] [] SH (fl g2) Q) : Wp X 100 SH 233 784 [(2, -2), (2, 1), (2, 87), (0, x)] [] SH (fl g) Q := by
  have h1 := hS n g hn hI (X.2 (Int.toNat (x + 1))) (X.2 (Int.toNat (x + 2))) (h32 _) (h32 _)
  apply s_233_784
  try simp only [mi_1, mi_87, true_and, and_true, implies_true]
  repeat' (first | refine And.intro ?_ ?_ | intro _)
  all_goals (try (first | omega | (unfold r32; omega)))
  refine h1 _ _ (by omega) ?_
  rintro _ g1 ⟨r, rfl, h2⟩
  apply s_233_798
  try simp only [mi_1, mi_87, true_and, and_true, implies_true]
  repeat' (first | refine And.intro ?_ ?_ | intro _)
  all_goals (try (first | omega | (unfold r32; omega)))
  refine h2 _ _ (by omega) ?_
  rintro _ g2 ⟨rfl, h3⟩
  apply s_233_812
  exact ⟨fun _ => hnext g2 h3, fun z => absurd rfl z⟩
set_option maxHeartbeats 4000000 in
theorem law_15 (X : mX) (I : Nat → mF → Prop) (hS : SO_15 X I) {n : Nat} {g : mF} {x : Int} {Q : mQ} (hn : n < 512) (hI : I n g) (hx : 0 ≤ x ∧ x + 8 ≤ (X.1 : Int) ∧ (X.1 : Int) ≤ 4096) (h32 : ∀ j, r32 (X.2 j)) (hnext : ∀ g2, I (n + 1) g2 → Wp X 100 SH 233 1801 [(2, -2), (2, 1), (2, 87), (0, x)] [] SH (fl g2) Q) : Wp X 100 SH 233 817 [(2, -2), (2, 1), (2, 87), (0, x)] [] SH (fl g) Q := by
  have h1 := hS n g hn hI (X.2 (Int.toNat (x + 1))) (X.2 (Int.toNat (x + 2))) (h32 _) (h32 _)
  apply s_233_817
  try simp only [mi_1, mi_87, true_and, and_true, implies_true]
  repeat' (first | refine And.intro ?_ ?_ | intro _)
  all_goals (try (first | omega | (unfold r32; omega)))
  refine h1 _ _ (by omega) ?_
  rintro _ g1 ⟨r, rfl, h2⟩
  apply s_233_831
  try simp only [mi_1, mi_87, true_and, and_true, implies_true]
  repeat' (first | refine And.intro ?_ ?_ | intro _)
  all_goals (try (first | omega | (unfold r32; omega)))
  refine h2 _ _ (by omega) ?_
  rintro _ g2 ⟨rfl, h3⟩
  apply s_233_845
  exact ⟨fun _ => hnext g2 h3, fun z => absurd rfl z⟩
set_option maxHeartbeats 4000000 in
theorem law_16 (X : mX) (I : Nat → mF → Prop) (hS : SO_16 X I) {n : Nat} {g : mF} {x : Int} {Q : mQ} (hn : n < 512) (hI : I n g) (hx : 0 ≤ x ∧ x + 8 ≤ (X.1 : Int) ∧ (X.1 : Int) ≤ 4096) (h32 : ∀ j, r32 (X.2 j)) (hnext : ∀ g2, I (n + 1) g2 → Wp X 100 SH 233 1801 [(2, -2), (2, 1), (2, 87), (0, x)] [] SH (fl g2) Q) : Wp X 100 SH 233 850 [(2, -2), (2, 1), (2, 87), (0, x)] [] SH (fl g) Q := by
  have h1 := hS n g hn hI (X.2 (Int.toNat (x + 1))) (X.2 (Int.toNat (x + 2))) (X.2 (Int.toNat (x + 3))) (X.2 (Int.toNat (x + 4))) (h32 _) (h32 _) (h32 _) (h32 _)
  apply s_233_850
  try simp only [mi_1, mi_87, true_and, and_true, implies_true]
  repeat' (first | refine And.intro ?_ ?_ | intro _)
  all_goals (try (first | omega | (unfold r32; omega)))
  refine h1 _ _ (by omega) ?_
  rintro _ g1 ⟨r, rfl, h2⟩
  apply s_233_874
  try simp only [mi_1, mi_87, true_and, and_true, implies_true]
  repeat' (first | refine And.intro ?_ ?_ | intro _)
  all_goals (try (first | omega | (unfold r32; omega)))
  refine h2 _ _ (by omega) ?_
  rintro _ g2 ⟨rfl, h3⟩
  apply s_233_898
  exact ⟨fun _ => hnext g2 h3, fun z => absurd rfl z⟩
set_option maxHeartbeats 4000000 in
theorem law_17 (X : mX) (I : Nat → mF → Prop) (hS : SO_17 X I) {n : Nat} {g : mF} {x : Int} {Q : mQ} (hn : n < 512) (hI : I n g) (hx : 0 ≤ x ∧ x + 8 ≤ (X.1 : Int) ∧ (X.1 : Int) ≤ 4096) (h32 : ∀ j, r32 (X.2 j)) (hnext : ∀ g2, I (n + 1) g2 → Wp X 100 SH 233 1801 [(2, -2), (2, 1), (2, 87), (0, x)] [] SH (fl g2) Q) : Wp X 100 SH 233 903 [(2, -2), (2, 1), (2, 87), (0, x)] [] SH (fl g) Q := by
  have h1 := hS n g hn hI (X.2 (Int.toNat (x + 1))) (X.2 (Int.toNat (x + 2))) (h32 _) (h32 _)
  apply s_233_903
  try simp only [mi_1, mi_87, true_and, and_true, implies_true]
  repeat' (first | refine And.intro ?_ ?_ | intro _)
  all_goals (try (first | omega | (unfold r32; omega)))
  refine h1 _ _ (by omega) ?_
  rintro _ g1 ⟨r, rfl, h2⟩
  apply s_233_917
  try simp only [mi_1, mi_87, true_and, and_true, implies_true]
  repeat' (first | refine And.intro ?_ ?_ | intro _)
  all_goals (try (first | omega | (unfold r32; omega)))
  refine h2 _ _ (by omega) ?_
  rintro _ g2 ⟨rfl, h3⟩
  apply s_233_931
  exact ⟨fun _ => hnext g2 h3, fun z => absurd rfl z⟩
set_option maxHeartbeats 4000000 in
theorem law_18 (X : mX) (I : Nat → mF → Prop) (hS : SO_18 X I) {n : Nat} {g : mF} {x : Int} {Q : mQ} (hn : n < 512) (hI : I n g) (hx : 0 ≤ x ∧ x + 8 ≤ (X.1 : Int) ∧ (X.1 : Int) ≤ 4096) (h32 : ∀ j, r32 (X.2 j)) (hnext : ∀ g2, I (n + 1) g2 → Wp X 100 SH 233 1801 [(2, -2), (2, 1), (2, 87), (0, x)] [] SH (fl g2) Q) : Wp X 100 SH 233 936 [(2, -2), (2, 1), (2, 87), (0, x)] [] SH (fl g) Q := by
  have h1 := hS n g hn hI (X.2 (Int.toNat (x + 1))) (X.2 (Int.toNat (x + 2))) (h32 _) (h32 _)
  apply s_233_936
  try simp only [mi_1, mi_87, true_and, and_true, implies_true]
  repeat' (first | refine And.intro ?_ ?_ | intro _)
  all_goals (try (first | omega | (unfold r32; omega)))
  refine h1 _ _ (by omega) ?_
  rintro _ g1 ⟨r, rfl, h2⟩
  apply s_233_950
  try simp only [mi_1, mi_87, true_and, and_true, implies_true]
  repeat' (first | refine And.intro ?_ ?_ | intro _)
  all_goals (try (first | omega | (unfold r32; omega)))
  refine h2 _ _ (by omega) ?_
  rintro _ g2 ⟨rfl, h3⟩
  apply s_233_964
  exact ⟨fun _ => hnext g2 h3, fun z => absurd rfl z⟩
set_option maxHeartbeats 4000000 in
theorem law_19 (X : mX) (I : Nat → mF → Prop) (hS : SO_19 X I) {n : Nat} {g : mF} {x : Int} {Q : mQ} (hn : n < 512) (hI : I n g) (hx : 0 ≤ x ∧ x + 8 ≤ (X.1 : Int) ∧ (X.1 : Int) ≤ 4096) (h32 : ∀ j, r32 (X.2 j)) (hnext : ∀ g2, I (n + 1) g2 → Wp X 100 SH 233 1801 [(2, -2), (2, 1), (2, 87), (0, x)] [] SH (fl g2) Q) : Wp X 100 SH 233 969 [(2, -2), (2, 1), (2, 87), (0, x)] [] SH (fl g) Q := by
  have h1 := hS n g hn hI (X.2 (Int.toNat (x + 1))) (X.2 (Int.toNat (x + 2))) (h32 _) (h32 _)
  apply s_233_969
  try simp only [mi_1, mi_87, true_and, and_true, implies_true]
  repeat' (first | refine And.intro ?_ ?_ | intro _)
  all_goals (try (first | omega | (unfold r32; omega)))
  refine h1 _ _ (by omega) ?_
  rintro _ g1 ⟨r, rfl, h2⟩
  apply s_233_983
  try simp only [mi_1, mi_87, true_and, and_true, implies_true]
  repeat' (first | refine And.intro ?_ ?_ | intro _)
  all_goals (try (first | omega | (unfold r32; omega)))
  refine h2 _ _ (by omega) ?_
  rintro _ g2 ⟨rfl, h3⟩
  apply s_233_997
  exact ⟨fun _ => hnext g2 h3, fun z => absurd rfl z⟩
set_option maxHeartbeats 4000000 in
theorem law_20 (X : mX) (I : Nat → mF → Prop) (hS : SO_20 X I) {n : Nat} {g : mF} {x : Int} {Q : mQ} (hn : n < 512) (hI : I n g) (hx : 0 ≤ x ∧ x + 8 ≤ (X.1 : Int) ∧ (X.1 : Int) ≤ 4096) (h32 : ∀ j, r32 (X.2 j)) (hnext : ∀ g2, I (n + 1) g2 → Wp X 100 SH 233 1801 [(2, -2), (2, 1), (2, 87), (0, x)] [] SH (fl g2) Q) : Wp X 100 SH 233 1002 [(2, -2), (2, 1), (2, 87), (0, x)] [] SH (fl g) Q := by
  have h1 := hS n g hn hI (X.2 (Int.toNat (x + 1))) (X.2 (Int.toNat (x + 2))) (X.2 (Int.toNat (x + 3))) (h32 _) (h32 _) (h32 _)
  apply s_233_1002
  try simp only [mi_1, mi_87, true_and, and_true, implies_true]
  repeat' (first | refine And.intro ?_ ?_ | intro _)
  all_goals (try (first | omega | (unfold r32; omega)))
  refine h1 _ _ (by omega) ?_
  rintro _ g1 ⟨r, rfl, h2⟩
  apply s_233_1021
  try simp only [mi_1, mi_87, true_and, and_true, implies_true]
  repeat' (first | refine And.intro ?_ ?_ | intro _)
  all_goals (try (first | omega | (unfold r32; omega)))
  refine h2 _ _ (by omega) ?_
  rintro _ g2 ⟨rfl, h3⟩
  apply s_233_1040
  exact ⟨fun _ => hnext g2 h3, fun z => absurd rfl z⟩
set_option maxHeartbeats 4000000 in
theorem law_21 (X : mX) (I : Nat → mF → Prop) (hS : SO_21 X I) {n : Nat} {g : mF} {x : Int} {Q : mQ} (hn : n < 512) (hI : I n g) (hx : 0 ≤ x ∧ x + 8 ≤ (X.1 : Int) ∧ (X.1 : Int) ≤ 4096) (h32 : ∀ j, r32 (X.2 j)) (hnext : ∀ g2, I (n + 1) g2 → Wp X 100 SH 233 1801 [(2, -2), (2, 1), (2, 87), (0, x)] [] SH (fl g2) Q) : Wp X 100 SH 233 1045 [(2, -2), (2, 1), (2, 87), (0, x)] [] SH (fl g) Q := by
  have h1 := hS n g hn hI (X.2 (Int.toNat (x + 1))) (X.2 (Int.toNat (x + 2))) (X.2 (Int.toNat (x + 3))) (h32 _) (h32 _) (h32 _)
  apply s_233_1045
  try simp only [mi_1, mi_87, true_and, and_true, implies_true]
  repeat' (first | refine And.intro ?_ ?_ | intro _)
  all_goals (try (first | omega | (unfold r32; omega)))
  refine h1 _ _ (by omega) ?_
  rintro _ g1 ⟨r, rfl, h2⟩
  apply s_233_1064
  try simp only [mi_1, mi_87, true_and, and_true, implies_true]
  repeat' (first | refine And.intro ?_ ?_ | intro _)
  all_goals (try (first | omega | (unfold r32; omega)))
  refine h2 _ _ (by omega) ?_
  rintro _ g2 ⟨rfl, h3⟩
  apply s_233_1083
  exact ⟨fun _ => hnext g2 h3, fun z => absurd rfl z⟩
set_option maxHeartbeats 4000000 in
theorem law_22 (X : mX) (I : Nat → mF → Prop) (hS : SO_22 X I) {n : Nat} {g : mF} {x : Int} {Q : mQ} (hn : n < 512) (hI : I n g) (hx : 0 ≤ x ∧ x + 8 ≤ (X.1 : Int) ∧ (X.1 : Int) ≤ 4096) (h32 : ∀ j, r32 (X.2 j)) (hnext : ∀ g2, I (n + 1) g2 → Wp X 100 SH 233 1801 [(2, -2), (2, 1), (2, 87), (0, x)] [] SH (fl g2) Q) : Wp X 100 SH 233 1088 [(2, -2), (2, 1), (2, 87), (0, x)] [] SH (fl g) Q := by
  have h1 := hS n g hn hI (X.2 (Int.toNat (x + 1))) (X.2 (Int.toNat (x + 2))) (X.2 (Int.toNat (x + 3))) (h32 _) (h32 _) (h32 _)
  apply s_233_1088
  try simp only [mi_1, mi_87, true_and, and_true, implies_true]
  repeat' (first | refine And.intro ?_ ?_ | intro _)
  all_goals (try (first | omega | (unfold r32; omega)))
  refine h1 _ _ (by omega) ?_
  rintro _ g1 ⟨r, rfl, h2⟩
  apply s_233_1107
  try simp only [mi_1, mi_87, true_and, and_true, implies_true]
  repeat' (first | refine And.intro ?_ ?_ | intro _)
  all_goals (try (first | omega | (unfold r32; omega)))
  refine h2 _ _ (by omega) ?_
  rintro _ g2 ⟨rfl, h3⟩
  apply s_233_1126
  exact ⟨fun _ => hnext g2 h3, fun z => absurd rfl z⟩
set_option maxHeartbeats 4000000 in
theorem law_23 (X : mX) (I : Nat → mF → Prop) (hS : SO_23 X I) {n : Nat} {g : mF} {x : Int} {Q : mQ} (hn : n < 512) (hI : I n g) (hx : 0 ≤ x ∧ x + 8 ≤ (X.1 : Int) ∧ (X.1 : Int) ≤ 4096) (h32 : ∀ j, r32 (X.2 j)) (hnext : ∀ g2, I (n + 1) g2 → Wp X 100 SH 233 1801 [(2, -2), (2, 1), (2, 87), (0, x)] [] SH (fl g2) Q) : Wp X 100 SH 233 1131 [(2, -2), (2, 1), (2, 87), (0, x)] [] SH (fl g) Q := by
  have h1 := hS n g hn hI (X.2 (Int.toNat (x + 1))) (X.2 (Int.toNat (x + 2))) (X.2 (Int.toNat (x + 3))) (h32 _) (h32 _) (h32 _)
  apply s_233_1131
  try simp only [mi_1, mi_87, true_and, and_true, implies_true]
  repeat' (first | refine And.intro ?_ ?_ | intro _)
  all_goals (try (first | omega | (unfold r32; omega)))
  refine h1 _ _ (by omega) ?_
  rintro _ g1 ⟨r, rfl, h2⟩
  apply s_233_1150
  try simp only [mi_1, mi_87, true_and, and_true, implies_true]
  repeat' (first | refine And.intro ?_ ?_ | intro _)
  all_goals (try (first | omega | (unfold r32; omega)))
  refine h2 _ _ (by omega) ?_
  rintro _ g2 ⟨rfl, h3⟩
  apply s_233_1169
  exact ⟨fun _ => hnext g2 h3, fun z => absurd rfl z⟩
set_option maxHeartbeats 4000000 in
theorem law_24 (X : mX) (I : Nat → mF → Prop) (hS : SO_24 X I) {n : Nat} {g : mF} {x : Int} {Q : mQ} (hn : n < 512) (hI : I n g) (hx : 0 ≤ x ∧ x + 8 ≤ (X.1 : Int) ∧ (X.1 : Int) ≤ 4096) (h32 : ∀ j, r32 (X.2 j)) (hnext : ∀ g2, I (n + 1) g2 → Wp X 100 SH 233 1801 [(2, -2), (2, 1), (2, 87), (0, x)] [] SH (fl g2) Q) : Wp X 100 SH 233 1174 [(2, -2), (2, 1), (2, 87), (0, x)] [] SH (fl g) Q := by
  have h1 := hS n g hn hI (X.2 (Int.toNat (x + 1))) (X.2 (Int.toNat (x + 2))) (X.2 (Int.toNat (x + 3))) (h32 _) (h32 _) (h32 _)
  apply s_233_1174
  try simp only [mi_1, mi_87, true_and, and_true, implies_true]
  repeat' (first | refine And.intro ?_ ?_ | intro _)
  all_goals (try (first | omega | (unfold r32; omega)))
  refine h1 _ _ (by omega) ?_
  rintro _ g1 ⟨r, rfl, h2⟩
  apply s_233_1193
  try simp only [mi_1, mi_87, true_and, and_true, implies_true]
  repeat' (first | refine And.intro ?_ ?_ | intro _)
  all_goals (try (first | omega | (unfold r32; omega)))
  refine h2 _ _ (by omega) ?_
  rintro _ g2 ⟨rfl, h3⟩
  apply s_233_1212
  exact ⟨fun _ => hnext g2 h3, fun z => absurd rfl z⟩
set_option maxHeartbeats 4000000 in
theorem law_25 (X : mX) (I : Nat → mF → Prop) (hS : SO_25 X I) {n : Nat} {g : mF} {x : Int} {Q : mQ} (hn : n < 512) (hI : I n g) (hx : 0 ≤ x ∧ x + 8 ≤ (X.1 : Int) ∧ (X.1 : Int) ≤ 4096) (h32 : ∀ j, r32 (X.2 j)) (hnext : ∀ g2, I (n + 1) g2 → Wp X 100 SH 233 1801 [(2, -2), (2, 1), (2, 87), (0, x)] [] SH (fl g2) Q) : Wp X 100 SH 233 1217 [(2, -2), (2, 1), (2, 87), (0, x)] [] SH (fl g) Q := by
  have h1 := hS n g hn hI 
  apply s_233_1217
  try simp only [mi_1, mi_87, true_and, and_true, implies_true]
  repeat' (first | refine And.intro ?_ ?_ | intro _)
  all_goals (try (first | omega | (unfold r32; omega)))
  refine h1 _ _ (by omega) ?_
  rintro _ g1 ⟨r, rfl, h2⟩
  apply s_233_1221
  try simp only [mi_1, mi_87, true_and, and_true, implies_true]
  repeat' (first | refine And.intro ?_ ?_ | intro _)
  all_goals (try (first | omega | (unfold r32; omega)))
  refine h2 _ _ (by omega) ?_
  rintro _ g2 ⟨rfl, h3⟩
  apply s_233_1225
  exact ⟨fun _ => hnext g2 h3, fun z => absurd rfl z⟩
set_option maxHeartbeats 4000000 in
theorem law_26 (X : mX) (I : Nat → mF → Prop) (hS : SO_26 X I) {n : Nat} {g : mF} {x : Int} {Q : mQ} (hn : n < 512) (hI : I n g) (hx : 0 ≤ x ∧ x + 8 ≤ (X.1 : Int) ∧ (X.1 : Int) ≤ 4096) (h32 : ∀ j, r32 (X.2 j)) (hnext : ∀ g2, I (n + 1) g2 → Wp X 100 SH 233 1801 [(2, -2), (2, 1), (2, 87), (0, x)] [] SH (fl g2) Q) : Wp X 100 SH 233 1230 [(2, -2), (2, 1), (2, 87), (0, x)] [] SH (fl g) Q := by
  have h1 := hS n g hn hI (X.2 (Int.toNat (x + 1))) (X.2 (Int.toNat (x + 2))) (h32 _) (h32 _)
  apply s_233_1230
  try simp only [mi_1, mi_87, true_and, and_true, implies_true]
  repeat' (first | refine And.intro ?_ ?_ | intro _)
  all_goals (try (first | omega | (unfold r32; omega)))
  refine h1 _ _ (by omega) ?_
  rintro _ g1 ⟨r, rfl, h2⟩
  apply s_233_1244
  try simp only [mi_1, mi_87, true_and, and_true, implies_true]
  repeat' (first | refine And.intro ?_ ?_ | intro _)
  all_goals (try (first | omega | (unfold r32; omega)))
  refine h2 _ _ (by omega) ?_
  rintro _ g2 ⟨rfl, h3⟩
  apply s_233_1258
  exact ⟨fun _ => hnext g2 h3, fun z => absurd rfl z⟩
set_option maxHeartbeats 4000000 in
theorem law_27 (X : mX) (I : Nat → mF → Prop) (hS : SO_27 X I) {n : Nat} {g : mF} {x : Int} {Q : mQ} (hn : n < 512) (hI : I n g) (hx : 0 ≤ x ∧ x + 8 ≤ (X.1 : Int) ∧ (X.1 : Int) ≤ 4096) (h32 : ∀ j, r32 (X.2 j)) (hnext : ∀ g2, I (n + 1) g2 → Wp X 100 SH 233 1801 [(2, -2), (2, 1), (2, 87), (0, x)] [] SH (fl g2) Q) : Wp X 100 SH 233 1263 [(2, -2), (2, 1), (2, 87), (0, x)] [] SH (fl g) Q := by
  have h1 := hS n g hn hI (X.2 (Int.toNat (x + 1))) (X.2 (Int.toNat (x + 2))) (X.2 (Int.toNat (x + 3))) (h32 _) (h32 _) (h32 _)
  apply s_233_1263
  try simp only [mi_1, mi_87, true_and, and_true, implies_true]
  repeat' (first | refine And.intro ?_ ?_ | intro _)
  all_goals (try (first | omega | (unfold r32; omega)))
  refine h1 _ _ (by omega) ?_
  rintro _ g1 ⟨r, rfl, h2⟩
  apply s_233_1282
  try simp only [mi_1, mi_87, true_and, and_true, implies_true]
  repeat' (first | refine And.intro ?_ ?_ | intro _)
  all_goals (try (first | omega | (unfold r32; omega)))
  refine h2 _ _ (by omega) ?_
  rintro _ g2 ⟨rfl, h3⟩
  apply s_233_1301
  exact ⟨fun _ => hnext g2 h3, fun z => absurd rfl z⟩
set_option maxHeartbeats 4000000 in
theorem law_28 (X : mX) (I : Nat → mF → Prop) (hS : SO_28 X I) {n : Nat} {g : mF} {x : Int} {Q : mQ} (hn : n < 512) (hI : I n g) (hx : 0 ≤ x ∧ x + 8 ≤ (X.1 : Int) ∧ (X.1 : Int) ≤ 4096) (h32 : ∀ j, r32 (X.2 j)) (hnext : ∀ g2, I (n + 1) g2 → Wp X 100 SH 233 1801 [(2, -2), (2, 1), (2, 87), (0, x)] [] SH (fl g2) Q) : Wp X 100 SH 233 1306 [(2, -2), (2, 1), (2, 87), (0, x)] [] SH (fl g) Q := by
  have h1 := hS n g hn hI (X.2 (Int.toNat (x + 1))) (X.2 (Int.toNat (x + 2))) (h32 _) (h32 _)
  apply s_233_1306
  try simp only [mi_1, mi_87, true_and, and_true, implies_true]
  repeat' (first | refine And.intro ?_ ?_ | intro _)
  all_goals (try (first | omega | (unfold r32; omega)))
  refine h1 _ _ (by omega) ?_
  rintro _ g1 ⟨r, rfl, h2⟩
  apply s_233_1320
  try simp only [mi_1, mi_87, true_and, and_true, implies_true]
  repeat' (first | refine And.intro ?_ ?_ | intro _)
  all_goals (try (first | omega | (unfold r32; omega)))
  refine h2 _ _ (by omega) ?_
  rintro _ g2 ⟨rfl, h3⟩
  apply s_233_1334
  exact ⟨fun _ => hnext g2 h3, fun z => absurd rfl z⟩
set_option maxHeartbeats 4000000 in
theorem law_29 (X : mX) (I : Nat → mF → Prop) (hS : SO_29 X I) {n : Nat} {g : mF} {x : Int} {Q : mQ} (hn : n < 512) (hI : I n g) (hx : 0 ≤ x ∧ x + 8 ≤ (X.1 : Int) ∧ (X.1 : Int) ≤ 4096) (h32 : ∀ j, r32 (X.2 j)) (hnext : ∀ g2, I (n + 1) g2 → Wp X 100 SH 233 1801 [(2, -2), (2, 1), (2, 87), (0, x)] [] SH (fl g2) Q) : Wp X 100 SH 233 1339 [(2, -2), (2, 1), (2, 87), (0, x)] [] SH (fl g) Q := by
  have h1 := hS n g hn hI 
  apply s_233_1339
  try simp only [mi_1, mi_87, true_and, and_true, implies_true]
  repeat' (first | refine And.intro ?_ ?_ | intro _)
  all_goals (try (first | omega | (unfold r32; omega)))
  refine h1 _ _ (by omega) ?_
  rintro _ g1 ⟨r, rfl, h2⟩
  apply s_233_1343
  try simp only [mi_1, mi_87, true_and, and_true, implies_true]
  repeat' (first | refine And.intro ?_ ?_ | intro _)
  all_goals (try (first | omega | (unfold r32; omega)))
  refine h2 _ _ (by omega) ?_
  rintro _ g2 ⟨rfl, h3⟩
  apply s_233_1347
  exact ⟨fun _ => hnext g2 h3, fun z => absurd rfl z⟩
set_option maxHeartbeats 4000000 in
theorem law_30 (X : mX) (I : Nat → mF → Prop) (hS : SO_30 X I) {n : Nat} {g : mF} {x : Int} {Q : mQ} (hn : n < 512) (hI : I n g) (hx : 0 ≤ x ∧ x + 8 ≤ (X.1 : Int) ∧ (X.1 : Int) ≤ 4096) (h32 : ∀ j, r32 (X.2 j)) (hnext : ∀ g2, I (n + 1) g2 → Wp X 100 SH 233 1801 [(2, -2), (2, 1), (2, 87), (0, x)] [] SH (fl g2) Q) : Wp X 100 SH 233 1352 [(2, -2), (2, 1), (2, 87), (0, x)] [] SH (fl g) Q := by
  have h1 := hS n g hn hI (X.2 (Int.toNat (x + 1))) (X.2 (Int.toNat (x + 2))) (h32 _) (h32 _)
  apply s_233_1352
  try simp only [mi_1, mi_87, true_and, and_true, implies_true]
  repeat' (first | refine And.intro ?_ ?_ | intro _)
  all_goals (try (first | omega | (unfold r32; omega)))
  refine h1 _ _ (by omega) ?_
  rintro _ g1 ⟨r, rfl, h2⟩
  apply s_233_1366
  try simp only [mi_1, mi_87, true_and, and_true, implies_true]
  repeat' (first | refine And.intro ?_ ?_ | intro _)
  all_goals (try (first | omega | (unfold r32; omega)))
  refine h2 _ _ (by omega) ?_
  rintro _ g2 ⟨rfl, h3⟩
  apply s_233_1380
  exact ⟨fun _ => hnext g2 h3, fun z => absurd rfl z⟩
set_option maxHeartbeats 4000000 in
theorem law_31 (X : mX) (I : Nat → mF → Prop) (hS : SO_31 X I) {n : Nat} {g : mF} {x : Int} {Q : mQ} (hn : n < 512) (hI : I n g) (hx : 0 ≤ x ∧ x + 8 ≤ (X.1 : Int) ∧ (X.1 : Int) ≤ 4096) (h32 : ∀ j, r32 (X.2 j)) (hnext : ∀ g2, I (n + 1) g2 → Wp X 100 SH 233 1801 [(2, -2), (2, 1), (2, 87), (0, x)] [] SH (fl g2) Q) : Wp X 100 SH 233 1385 [(2, -2), (2, 1), (2, 87), (0, x)] [] SH (fl g) Q := by
  have h1 := hS n g hn hI (X.2 (Int.toNat (x + 1))) (h32 _)
  apply s_233_1385
  try simp only [mi_1, mi_87, true_and, and_true, implies_true]
  repeat' (first | refine And.intro ?_ ?_ | intro _)
  all_goals (try (first | omega | (unfold r32; omega)))
  refine h1 _ _ (by omega) ?_
  rintro _ g1 ⟨r, rfl, h2⟩
  apply s_233_1394
  try simp only [mi_1, mi_87, true_and, and_true, implies_true]
  repeat' (first | refine And.intro ?_ ?_ | intro _)
  all_goals (try (first | omega | (unfold r32; omega)))
  refine h2 _ _ (by omega) ?_
  rintro _ g2 ⟨rfl, h3⟩
  apply s_233_1403
  exact ⟨fun _ => hnext g2 h3, fun z => absurd rfl z⟩
set_option maxHeartbeats 4000000 in
theorem law_32 (X : mX) (I : Nat → mF → Prop) (hS : SO_32 X I) {n : Nat} {g : mF} {x : Int} {Q : mQ} (hn : n < 512) (hI : I n g) (hx : 0 ≤ x ∧ x + 8 ≤ (X.1 : Int) ∧ (X.1 : Int) ≤ 4096) (h32 : ∀ j, r32 (X.2 j)) (hnext : ∀ g2, I (n + 1) g2 → Wp X 100 SH 233 1801 [(2, -2), (2, 1), (2, 87), (0, x)] [] SH (fl g2) Q) : Wp X 100 SH 233 1408 [(2, -2), (2, 1), (2, 87), (0, x)] [] SH (fl g) Q := by
  have h1 := hS n g hn hI (X.2 (Int.toNat (x + 1))) (h32 _)
  apply s_233_1408
  try simp only [mi_1, mi_87, true_and, and_true, implies_true]
  repeat' (first | refine And.intro ?_ ?_ | intro _)
  all_goals (try (first | omega | (unfold r32; omega)))
  refine h1 _ _ (by omega) ?_
  rintro _ g1 ⟨r, rfl, h2⟩
  apply s_233_1417
  try simp only [mi_1, mi_87, true_and, and_true, implies_true]
  repeat' (first | refine And.intro ?_ ?_ | intro _)
  all_goals (try (first | omega | (unfold r32; omega)))
  refine h2 _ _ (by omega) ?_
  rintro _ g2 ⟨rfl, h3⟩
  apply s_233_1426
  exact ⟨fun _ => hnext g2 h3, fun z => absurd rfl z⟩
set_option maxHeartbeats 4000000 in
theorem law_33 (X : mX) (I : Nat → mF → Prop) (hS : SO_33 X I) {n : Nat} {g : mF} {x : Int} {Q : mQ} (hn : n < 512) (hI : I n g) (hx : 0 ≤ x ∧ x + 8 ≤ (X.1 : Int) ∧ (X.1 : Int) ≤ 4096) (h32 : ∀ j, r32 (X.2 j)) (hnext : ∀ g2, I (n + 1) g2 → Wp X 100 SH 233 1801 [(2, -2), (2, 1), (2, 87), (0, x)] [] SH (fl g2) Q) : Wp X 100 SH 233 1431 [(2, -2), (2, 1), (2, 87), (0, x)] [] SH (fl g) Q := by
  have h1 := hS n g hn hI 
  apply s_233_1431
  try simp only [mi_1, mi_87, true_and, and_true, implies_true]
  repeat' (first | refine And.intro ?_ ?_ | intro _)
  all_goals (try (first | omega | (unfold r32; omega)))
  refine h1 _ _ (by omega) ?_
  rintro _ g1 ⟨r, rfl, h2⟩
  apply s_233_1435
  try simp only [mi_1, mi_87, true_and, and_true, implies_true]
  repeat' (first | refine And.intro ?_ ?_ | intro _)
  all_goals (try (first | omega | (unfold r32; omega)))
  refine h2 _ _ (by omega) ?_
  rintro _ g2 ⟨rfl, h3⟩
  apply s_233_1439
  exact ⟨fun _ => hnext g2 h3, fun z => absurd rfl z⟩
set_option maxHeartbeats 4000000 in
theorem law_34 (X : mX) (I : Nat → mF → Prop) (hS : SO_34 X I) {n : Nat} {g : mF} {x : Int} {Q : mQ} (hn : n < 512) (hI : I n g) (hx : 0 ≤ x ∧ x + 8 ≤ (X.1 : Int) ∧ (X.1 : Int) ≤ 4096) (h32 : ∀ j, r32 (X.2 j)) (hnext : ∀ g2, I (n + 1) g2 → Wp X 100 SH 233 1801 [(2, -2), (2, 1), (2, 87), (0, x)] [] SH (fl g2) Q) : Wp X 100 SH 233 1444 [(2, -2), (2, 1), (2, 87), (0, x)] [] SH (fl g) Q := by
  have h1 := hS n g hn hI (X.2 (Int.toNat (x + 1))) (h32 _)
  apply s_233_1444
  try simp only [mi_1, mi_87, true_and, and_true, implies_true]
  repeat' (first | refine And.intro ?_ ?_ | intro _)
  all_goals (try (first | omega | (unfold r32; omega)))
  refine h1 _ _ (by omega) ?_
  rintro _ g1 ⟨r, rfl, h2⟩
  apply s_233_1453
  try simp only [mi_1, mi_87, true_and, and_true, implies_true]
  repeat' (first | refine And.intro ?_ ?_ | intro _)
  all_goals (try (first | omega | (unfold r32; omega)))
  refine h2 _ _ (by omega) ?_
  rintro _ g2 ⟨rfl, h3⟩
  apply s_233_1462
  exact ⟨fun _ => hnext g2 h3, fun z => absurd rfl z⟩
set_option maxHeartbeats 4000000 in
theorem law_35 (X : mX) (I : Nat → mF → Prop) (hS : SO_35 X I) {n : Nat} {g : mF} {x : Int} {Q : mQ} (hn : n < 512) (hI : I n g) (hx : 0 ≤ x ∧ x + 8 ≤ (X.1 : Int) ∧ (X.1 : Int) ≤ 4096) (h32 : ∀ j, r32 (X.2 j)) (hnext : ∀ g2, I (n + 1) g2 → Wp X 100 SH 233 1801 [(2, -2), (2, 1), (2, 87), (0, x)] [] SH (fl g2) Q) : Wp X 100 SH 233 1467 [(2, -2), (2, 1), (2, 87), (0, x)] [] SH (fl g) Q := by
  have h1 := hS n g hn hI (X.2 (Int.toNat (x + 1))) (X.2 (Int.toNat (x + 2))) (h32 _) (h32 _)
  apply s_233_1467
  try simp only [mi_1, mi_87, true_and, and_true, implies_true]
  repeat' (first | refine And.intro ?_ ?_ | intro _)
  all_goals (try (first | omega | (unfold r32; omega)))
  refine h1 _ _ (by omega) ?_
  rintro _ g1 ⟨r, rfl, h2⟩
  apply s_233_1481
  try simp only [mi_1, mi_87, true_and, and_true, implies_true]
  repeat' (first | refine And.intro ?_ ?_ | intro _)
  all_goals (try (first | omega | (unfold r32; omega)))
  refine h2 _ _ (by omega) ?_
  rintro _ g2 ⟨rfl, h3⟩
  apply s_233_1495
  exact ⟨fun _ => hnext g2 h3, fun z => absurd rfl z⟩
set_option maxHeartbeats 4000000 in
theorem law_36 (X : mX) (I : Nat → mF → Prop) (hS : SO_36 X I) {n : Nat} {g : mF} {x : Int} {Q : mQ} (hn : n < 512) (hI : I n g) (hx : 0 ≤ x ∧ x + 8 ≤ (X.1 : Int) ∧ (X.1 : Int) ≤ 4096) (h32 : ∀ j, r32 (X.2 j)) (hnext : ∀ g2, I (n + 1) g2 → Wp X 100 SH 233 1801 [(2, -2), (2, 1), (2, 87), (0, x)] [] SH (fl g2) Q) : Wp X 100 SH 233 1500 [(2, -2), (2, 1), (2, 87), (0, x)] [] SH (fl g) Q := by
  have h1 := hS n g hn hI (X.2 (Int.toNat (x + 1))) (X.2 (Int.toNat (x + 2))) (X.2 (Int.toNat (x + 3))) (X.2 (Int.toNat (x + 4))) (X.2 (Int.toNat (x + 5))) (X.2 (Int.toNat (x + 6))) (X.2 (Int.toNat (x + 7))) (h32 _) (h32 _) (h32 _) (h32 _) (h32 _) (h32 _) (h32 _)
  apply s_233_1500
  try simp only [mi_1, mi_87, true_and, and_true, implies_true]
  repeat' (first | refine And.intro ?_ ?_ | intro _)
  all_goals (try (first | omega | (unfold r32; omega)))
  refine h1 _ _ (by omega) ?_
  rintro _ g1 ⟨r, rfl, h2⟩
  apply s_233_1541
  try simp only [mi_1, mi_87, true_and, and_true, implies_true]
  repeat' (first | refine And.intro ?_ ?_ | intro _)
  all_goals (try (first | omega | (unfold r32; omega)))
  refine h2 _ _ (by omega) ?_
  rintro _ g2 ⟨rfl, h3⟩
  apply s_233_1582
  exact ⟨fun _ => hnext g2 h3, fun z => absurd rfl z⟩
set_option maxHeartbeats 4000000 in
theorem law_37 (X : mX) (I : Nat → mF → Prop) (hS : SO_37 X I) {n : Nat} {g : mF} {x : Int} {Q : mQ} (hn : n < 512) (hI : I n g) (hx : 0 ≤ x ∧ x + 8 ≤ (X.1 : Int) ∧ (X.1 : Int) ≤ 4096) (h32 : ∀ j, r32 (X.2 j)) (hnext : ∀ g2, I (n + 1) g2 → Wp X 100 SH 233 1801 [(2, -2), (2, 1), (2, 87), (0, x)] [] SH (fl g2) Q) : Wp X 100 SH 233 1587 [(2, -2), (2, 1), (2, 87), (0, x)] [] SH (fl g) Q := by
  have h1 := hS n g hn hI (X.2 (Int.toNat (x + 1))) (h32 _)
  apply s_233_1587
  try simp only [mi_1, mi_87, true_and, and_true, implies_true]
  repeat' (first | refine And.intro ?_ ?_ | intro _)
  all_goals (try (first | omega | (unfold r32; omega)))
  refine h1 _ _ (by omega) ?_
  rintro _ g1 ⟨r, rfl, h2⟩
  apply s_233_1596
  try simp only [mi_1, mi_87, true_and, and_true, implies_true]
  repeat' (first | refine And.intro ?_ ?_ | intro _)
  all_goals (try (first | omega | (unfold r32; omega)))
  refine h2 _ _ (by omega) ?_
  rintro _ g2 ⟨rfl, h3⟩
  apply s_233_1605
  exact ⟨fun _ => hnext g2 h3, fun z => absurd rfl z⟩
set_option maxHeartbeats 4000000 in
theorem law_38 (X : mX) (I : Nat → mF → Prop) (hS : SO_38 X I) {n : Nat} {g : mF} {x : Int} {Q : mQ} (hn : n < 512) (hI : I n g) (hx : 0 ≤ x ∧ x + 8 ≤ (X.1 : Int) ∧ (X.1 : Int) ≤ 4096) (h32 : ∀ j, r32 (X.2 j)) (hnext : ∀ g2, I (n + 1) g2 → Wp X 100 SH 233 1801 [(2, -2), (2, 1), (2, 87), (0, x)] [] SH (fl g2) Q) : Wp X 100 SH 233 1610 [(2, -2), (2, 1), (2, 87), (0, x)] [] SH (fl g) Q := by
  have h1 := hS n g hn hI (X.2 (Int.toNat (x + 1))) (X.2 (Int.toNat (x + 2))) (h32 _) (h32 _)
  apply s_233_1610
  try simp only [mi_1, mi_87, true_and, and_true, implies_true]
  repeat' (first | refine And.intro ?_ ?_ | intro _)
  all_goals (try (first | omega | (unfold r32; omega)))
  refine h1 _ _ (by omega) ?_
  rintro _ g1 ⟨r, rfl, h2⟩
  apply s_233_1624
  try simp only [mi_1, mi_87, true_and, and_true, implies_true]
  repeat' (first | refine And.intro ?_ ?_ | intro _)
  all_goals (try (first | omega | (unfold r32; omega)))
  refine h2 _ _ (by omega) ?_
  rintro _ g2 ⟨rfl, h3⟩
  apply s_233_1638
  exact ⟨fun _ => hnext g2 h3, fun z => absurd rfl z⟩
set_option maxHeartbeats 4000000 in
theorem law_39 (X : mX) (I : Nat → mF → Prop) (hS : SO_39 X I) {n : Nat} {g : mF} {x : Int} {Q : mQ} (hn : n < 512) (hI : I n g) (hx : 0 ≤ x ∧ x + 8 ≤ (X.1 : Int) ∧ (X.1 : Int) ≤ 4096) (h32 : ∀ j, r32 (X.2 j)) (hnext : ∀ g2, I (n + 1) g2 → Wp X 100 SH 233 1801 [(2, -2), (2, 1), (2, 87), (0, x)] [] SH (fl g2) Q) : Wp X 100 SH 233 1643 [(2, -2), (2, 1), (2, 87), (0, x)] [] SH (fl g) Q := by
  have h1 := hS n g hn hI (X.2 (Int.toNat (x + 1))) (((Int64.ofInt ((Int64.ofInt (X.2 (Int.toNat (x + 2))) <<< ((Int32.ofInt 32).toInt64 &&& 63)).toInt) ||| Int64.ofInt ((Int64.ofInt (X.2 (Int.toNat (x + 3))) &&& Int64.ofInt 4294967295).toInt)).toInt)) (h32 _) (r64_t _)
  apply s_233_1643
  try simp only [mi_1, mi_87, true_and, and_true, implies_true]
  repeat' (first | refine And.intro ?_ ?_ | intro _)
  all_goals (try (first | omega | (unfold r32; omega)))
  refine h1 _ _ (by omega) ?_
  rintro _ g1 ⟨r, rfl, h2⟩
  apply s_233_1672
  try simp only [mi_1, mi_87, true_and, and_true, implies_true]
  repeat' (first | refine And.intro ?_ ?_ | intro _)
  all_goals (try (first | omega | (unfold r32; omega)))
  refine h2 _ _ (by omega) ?_
  rintro _ g2 ⟨rfl, h3⟩
  apply s_233_1701
  exact ⟨fun _ => hnext g2 h3, fun z => absurd rfl z⟩
set_option maxHeartbeats 4000000 in
theorem law_40 (X : mX) (I : Nat → mF → Prop) (hS : SO_40 X I) {n : Nat} {g : mF} {x : Int} {Q : mQ} (hn : n < 512) (hI : I n g) (hx : 0 ≤ x ∧ x + 8 ≤ (X.1 : Int) ∧ (X.1 : Int) ≤ 4096) (h32 : ∀ j, r32 (X.2 j)) (hnext : ∀ g2, I (n + 1) g2 → Wp X 100 SH 233 1801 [(2, -2), (2, 1), (2, 87), (0, x)] [] SH (fl g2) Q) : Wp X 100 SH 233 1706 [(2, -2), (2, 1), (2, 87), (0, x)] [] SH (fl g) Q := by
  have h1 := hS n g hn hI 
  apply s_233_1706
  try simp only [mi_1, mi_87, true_and, and_true, implies_true]
  repeat' (first | refine And.intro ?_ ?_ | intro _)
  all_goals (try (first | omega | (unfold r32; omega)))
  refine h1 _ _ (by omega) ?_
  rintro _ g1 ⟨r, rfl, h2⟩
  apply s_233_1710
  try simp only [mi_1, mi_87, true_and, and_true, implies_true]
  repeat' (first | refine And.intro ?_ ?_ | intro _)
  all_goals (try (first | omega | (unfold r32; omega)))
  refine h2 _ _ (by omega) ?_
  rintro _ g2 ⟨rfl, h3⟩
  apply s_233_1714
  exact ⟨fun _ => hnext g2 h3, fun z => absurd rfl z⟩
set_option maxHeartbeats 4000000 in
theorem law_41 (X : mX) (I : Nat → mF → Prop) (hS : SO_41 X I) {n : Nat} {g : mF} {x : Int} {Q : mQ} (hn : n < 512) (hI : I n g) (hx : 0 ≤ x ∧ x + 8 ≤ (X.1 : Int) ∧ (X.1 : Int) ≤ 4096) (h32 : ∀ j, r32 (X.2 j)) (hnext : ∀ g2, I (n + 1) g2 → Wp X 100 SH 233 1801 [(2, -2), (2, 1), (2, 87), (0, x)] [] SH (fl g2) Q) : Wp X 100 SH 233 1719 [(2, -2), (2, 1), (2, 87), (0, x)] [] SH (fl g) Q := by
  have h1 := hS n g hn hI 
  apply s_233_1719
  try simp only [mi_1, mi_87, true_and, and_true, implies_true]
  repeat' (first | refine And.intro ?_ ?_ | intro _)
  all_goals (try (first | omega | (unfold r32; omega)))
  refine h1 _ _ (by omega) ?_
  rintro _ g1 ⟨r, rfl, h2⟩
  apply s_233_1723
  try simp only [mi_1, mi_87, true_and, and_true, implies_true]
  repeat' (first | refine And.intro ?_ ?_ | intro _)
  all_goals (try (first | omega | (unfold r32; omega)))
  refine h2 _ _ (by omega) ?_
  rintro _ g2 ⟨rfl, h3⟩
  apply s_233_1727
  exact ⟨fun _ => hnext g2 h3, fun z => absurd rfl z⟩
set_option maxHeartbeats 4000000 in
theorem law_42 (X : mX) (I : Nat → mF → Prop) (hS : SO_42 X I) {n : Nat} {g : mF} {x : Int} {Q : mQ} (hn : n < 512) (hI : I n g) (hx : 0 ≤ x ∧ x + 8 ≤ (X.1 : Int) ∧ (X.1 : Int) ≤ 4096) (h32 : ∀ j, r32 (X.2 j)) (hnext : ∀ g2, I (n + 1) g2 → Wp X 100 SH 233 1801 [(2, -2), (2, 1), (2, 87), (0, x)] [] SH (fl g2) Q) : Wp X 100 SH 233 1732 [(2, -2), (2, 1), (2, 87), (0, x)] [] SH (fl g) Q := by
  have h1 := hS n g hn hI (X.2 (Int.toNat (x + 1))) (h32 _)
  apply s_233_1732
  try simp only [mi_1, mi_87, true_and, and_true, implies_true]
  repeat' (first | refine And.intro ?_ ?_ | intro _)
  all_goals (try (first | omega | (unfold r32; omega)))
  refine h1 _ _ (by omega) ?_
  rintro _ g1 ⟨r, rfl, h2⟩
  apply s_233_1741
  try simp only [mi_1, mi_87, true_and, and_true, implies_true]
  repeat' (first | refine And.intro ?_ ?_ | intro _)
  all_goals (try (first | omega | (unfold r32; omega)))
  refine h2 _ _ (by omega) ?_
  rintro _ g2 ⟨rfl, h3⟩
  apply s_233_1750
  exact ⟨fun _ => hnext g2 h3, fun z => absurd rfl z⟩
set_option maxHeartbeats 4000000 in
theorem law_43 (X : mX) (I : Nat → mF → Prop) (hS : SO_43 X I) {n : Nat} {g : mF} {x : Int} {Q : mQ} (hn : n < 512) (hI : I n g) (hx : 0 ≤ x ∧ x + 8 ≤ (X.1 : Int) ∧ (X.1 : Int) ≤ 4096) (h32 : ∀ j, r32 (X.2 j)) (hnext : ∀ g2, I (n + 1) g2 → Wp X 100 SH 233 1801 [(2, -2), (2, 1), (2, 87), (0, x)] [] SH (fl g2) Q) : Wp X 100 SH 233 1755 [(2, -2), (2, 1), (2, 87), (0, x)] [] SH (fl g) Q := by
  have h1 := hS n g hn hI (X.2 (Int.toNat (x + 1))) (h32 _)
  apply s_233_1755
  try simp only [mi_1, mi_87, true_and, and_true, implies_true]
  repeat' (first | refine And.intro ?_ ?_ | intro _)
  all_goals (try (first | omega | (unfold r32; omega)))
  refine h1 _ _ (by omega) ?_
  rintro _ g1 ⟨r, rfl, h2⟩
  apply s_233_1764
  try simp only [mi_1, mi_87, true_and, and_true, implies_true]
  repeat' (first | refine And.intro ?_ ?_ | intro _)
  all_goals (try (first | omega | (unfold r32; omega)))
  refine h2 _ _ (by omega) ?_
  rintro _ g2 ⟨rfl, h3⟩
  apply s_233_1773
  exact ⟨fun _ => hnext g2 h3, fun z => absurd rfl z⟩
set_option maxHeartbeats 4000000 in
theorem law_44 (X : mX) (I : Nat → mF → Prop) (hS : SO_44 X I) {n : Nat} {g : mF} {x : Int} {Q : mQ} (hn : n < 512) (hI : I n g) (hx : 0 ≤ x ∧ x + 8 ≤ (X.1 : Int) ∧ (X.1 : Int) ≤ 4096) (h32 : ∀ j, r32 (X.2 j)) (hnext : ∀ g2, I (n + 1) g2 → Wp X 100 SH 233 1801 [(2, -2), (2, 1), (2, 87), (0, x)] [] SH (fl g2) Q) : Wp X 100 SH 233 1778 [(2, -2), (2, 1), (2, 87), (0, x)] [] SH (fl g) Q := by
  have h1 := hS n g hn hI (X.2 (Int.toNat (x + 1))) (h32 _)
  apply s_233_1778
  try simp only [mi_1, mi_87, true_and, and_true, implies_true]
  repeat' (first | refine And.intro ?_ ?_ | intro _)
  all_goals (try (first | omega | (unfold r32; omega)))
  refine h1 _ _ (by omega) ?_
  rintro _ g1 ⟨r, rfl, h2⟩
  apply s_233_1787
  try simp only [mi_1, mi_87, true_and, and_true, implies_true]
  repeat' (first | refine And.intro ?_ ?_ | intro _)
  all_goals (try (first | omega | (unfold r32; omega)))
  refine h2 _ _ (by omega) ?_
  rintro _ g2 ⟨rfl, h3⟩
  apply s_233_1796
  exact ⟨fun _ => hnext g2 h3, fun z => absurd rfl z⟩
set_option maxHeartbeats 4000000 in
theorem law_loop (X : mX) (I : Nat → mF → Prop) (S0 : SO_0 X I) (S1 : SO_1 X I) (S2 : SO_2 X I) (S3 : SO_3 X I) (S4 : SO_4 X I) (S5 : SO_5 X I) (S6 : SO_6 X I) (S7 : SO_7 X I) (S8 : SO_8 X I) (S9 : SO_9 X I) (S10 : SO_10 X I) (S11 : SO_11 X I) (S12 : SO_12 X I) (S13 : SO_13 X I) (S14 : SO_14 X I) (S15 : SO_15 X I) (S16 : SO_16 X I) (S17 : SO_17 X I) (S18 : SO_18 X I) (S19 : SO_19 X I) (S20 : SO_20 X I) (S21 : SO_21 X I) (S22 : SO_22 X I) (S23 : SO_23 X I) (S24 : SO_24 X I) (S25 : SO_25 X I) (S26 : SO_26 X I) (S27 : SO_27 X I) (S28 : SO_28 X I) (S29 : SO_29 X I) (S30 : SO_30 X I) (S31 : SO_31 X I) (S32 : SO_32 X I) (S33 : SO_33 X I) (S34 : SO_34 X I) (S35 : SO_35 X I) (S36 : SO_36 X I) (S37 : SO_37 X I) (S38 : SO_38 X I) (S39 : SO_39 X I) (S40 : SO_40 X I) (S41 : SO_41 X I) (S42 : SO_42 X I) (S43 : SO_43 X I) (S44 : SO_44 X I) (hD : ∀ n g, I n g → I (n + 1) g) (hL : (X.1 : Int) ≤ 4096) (h32 : ∀ j, r32 (X.2 j)) : ∀ (t n : Nat) (g : mF), I n g → (X.1 : Int) - 8 * (n : Int) < 8 * (t : Int) → Wp X 100 SH 233 18 [(2, -2), (2, 1), (2, 87), (0, 8 * (n : Int))] [] SH (fl g) (fun r _ => r = some (0, 1)) := by
  intro t
  induction t with
  | zero =>
    intro n g hI ht
    apply s_233_18
    refine ⟨rfl, by unfold r32; omega, fun _ => rfl, fun h => ?_⟩
    omega
  | succ t ih =>
    intro n g hI ht
    by_cases hend : (X.1 : Int) - 8 < 8 * (n : Int)
    · apply s_233_18
      refine ⟨rfl, by unfold r32; omega, fun _ => rfl, fun h => ?_⟩
      exact absurd hend h
    have hnext : ∀ g2, I (n + 1) g2 → Wp X 100 SH 233 1801 [(2, -2), (2, 1), (2, 87), (0, 8 * (n : Int))] [] SH (fl g2) (fun r _ => r = some (0, 1)) := by
      intro g2 h2
      apply s_233_1801
      refine ⟨by unfold r32; omega, ?_⟩
      have z := ih (n + 1) g2 h2 (by omega)
      rw [show 8 * ((n + 1 : Nat) : Int) = 8 * (n : Int) + 8 by omega] at z
      exact z
    apply s_233_18
    have hx : 0 ≤ 8 * (n : Int) ∧ 8 * (n : Int) + 8 ≤ (X.1 : Int) ∧ (X.1 : Int) ≤ 4096 := by omega
    have hn : n < 512 := by omega
    exact ⟨rfl, by unfold r32; omega, fun h => absurd h hend, fun _ => ⟨rfl, by omega, by omega, fun _ => hnext g (hD n g hI), fun _ => law_0 X I S0 hn hI hx h32 hnext, fun _ => law_1 X I S1 hn hI hx h32 hnext, fun _ => law_2 X I S2 hn hI hx h32 hnext, fun _ => law_3 X I S3 hn hI hx h32 hnext, fun _ => law_4 X I S4 hn hI hx h32 hnext, fun _ => law_5 X I S5 hn hI hx h32 hnext, fun _ => law_6 X I S6 hn hI hx h32 hnext, fun _ => law_7 X I S7 hn hI hx h32 hnext, fun _ => law_8 X I S8 hn hI hx h32 hnext, fun _ => law_9 X I S9 hn hI hx h32 hnext, fun _ => law_10 X I S10 hn hI hx h32 hnext, fun _ => law_11 X I S11 hn hI hx h32 hnext, fun _ => law_12 X I S12 hn hI hx h32 hnext, fun _ => law_13 X I S13 hn hI hx h32 hnext, fun _ => law_14 X I S14 hn hI hx h32 hnext, fun _ => law_15 X I S15 hn hI hx h32 hnext, fun _ => law_16 X I S16 hn hI hx h32 hnext, fun _ => law_17 X I S17 hn hI hx h32 hnext, fun _ => law_18 X I S18 hn hI hx h32 hnext, fun _ => law_19 X I S19 hn hI hx h32 hnext, fun _ => law_20 X I S20 hn hI hx h32 hnext, fun _ => law_21 X I S21 hn hI hx h32 hnext, fun _ => law_22 X I S22 hn hI hx h32 hnext, fun _ => law_23 X I S23 hn hI hx h32 hnext, fun _ => law_24 X I S24 hn hI hx h32 hnext, fun _ => law_25 X I S25 hn hI hx h32 hnext, fun _ => law_26 X I S26 hn hI hx h32 hnext, fun _ => law_27 X I S27 hn hI hx h32 hnext, fun _ => law_28 X I S28 hn hI hx h32 hnext, fun _ => law_29 X I S29 hn hI hx h32 hnext, fun _ => law_30 X I S30 hn hI hx h32 hnext, fun _ => law_31 X I S31 hn hI hx h32 hnext, fun _ => law_32 X I S32 hn hI hx h32 hnext, fun _ => law_33 X I S33 hn hI hx h32 hnext, fun _ => law_34 X I S34 hn hI hx h32 hnext, fun _ => law_35 X I S35 hn hI hx h32 hnext, fun _ => law_36 X I S36 hn hI hx h32 hnext, fun _ => law_37 X I S37 hn hI hx h32 hnext, fun _ => law_38 X I S38 hn hI hx h32 hnext, fun _ => law_39 X I S39 hn hI hx h32 hnext, fun _ => law_40 X I S40 hn hI hx h32 hnext, fun _ => law_41 X I S41 hn hI hx h32 hnext, fun _ => law_42 X I S42 hn hI hx h32 hnext, fun _ => law_43 X I S43 hn hI hx h32 hnext, fun _ => law_44 X I S44 hn hI hx h32 hnext⟩⟩
