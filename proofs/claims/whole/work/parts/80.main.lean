theorem law_main (X : mX) (h1 : X.1 ≤ 4096) (h2 : ∀ j, r32 (X.2 j)) : Wp X 100 SH 233 0 [(2, -2), (3, 0), (3, 0), (3, 0)] [] [] (fun _ _ => 0) (fun r _ => r = some (0, 1)) := sorry
