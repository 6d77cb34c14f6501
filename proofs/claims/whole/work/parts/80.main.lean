/-! the law -/
theorem law_main (X : mX) (h1 : X.1 ≤ 4096) (h2 : ∀ j, r32 (X.2 j)) : Wp X 100 SH 233 0 [(2, -2), (3, 0), (3, 0), (3, 0)] [] [] (fun _ _ => 0) (fun r _ => r = some (0, 1)) := by
  refine law_init X _ ?_
  have z := law_loop X INV (so_0 X) (so_1 X) (so_2 X) (so_3 X) (so_4 X) (so_5 X) (so_6 X) (so_7 X) (so_8 X) (so_9 X) (so_10 X) (so_11 X) (so_12 X) (so_13 X) (so_14 X) (so_15 X) (so_16 X) (so_17 X) (so_18 X) (so_19 X) (so_20 X) (so_21 X) (so_22 X) (so_23 X) (so_24 X) (so_25 X) (so_26 X) (so_27 X) (so_28 X) (so_29 X) (so_30 X) (so_31 X) (so_32 X) (so_33 X) (so_34 X) (so_35 X) (so_36 X) (so_37 X) (so_38 X) (so_39 X) (so_40 X) (so_41 X) (so_42 X) (so_43 X) (so_44 X) (fun n g hI => ⟨hI.1, hI.2.1, hI.2.2.1, hI.2.2.2.1, hI.2.2.2.2.1, hI.2.2.2.2.2.1, Istore_up hI.2.2.2.2.2.2.1, hI.2.2.2.2.2.2.2⟩) (by omega) h2 (X.1 + 1) 0 (lf M0) I0_all (by omega)
  have e : 8 * ((0 : Nat) : Int) = 0 := by decide
  rw [e] at z
  exact z
