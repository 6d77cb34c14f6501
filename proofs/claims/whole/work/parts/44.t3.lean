/-! test -/
theorem s_172_0 {X : mX} {d : Nat} {sh : mSh} {f : mF} {Q : mQ} {x0 x1 x2 : Int} {v3 v4 : mV} (h : Wp X d sh 172 5 [(2, x0), (0, x1), (0, x2), (0, 0), (0, 0)] [] sh f Q) : Wp X d sh 172 0 [(2, x0), (0, x1), (0, x2), v3, v4] [] sh f Q :=
  Wp_seg (is := [.bipush 0, .istore 3, .bipush 0, .istore 4]) (to := 5) (by decide +kernel) (And.intro r32_0 (And.intro ((And.intro (Nat.le_of_ble_eq_true rfl) (Or.inr n01))) (And.intro r32_0 (And.intro ((And.intro (Nat.le_of_ble_eq_true rfl) (Or.inr n01))) (h)))))
