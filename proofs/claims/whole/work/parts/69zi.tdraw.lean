/-! draw: all cases -/
theorem c159y (X : mX) (g : mF) {s : Nat} (hs : s < 6) {a b n z kind : Int} (ha : 0 ≤ a ∧ a < 36) (hb : 0 ≤ b ∧ b < 36) {d : Nat} {Q : mQ} (hbar : g 89 (36 * s + a.toNat) ≠ 0 ∨ g 89 (36 * s + b.toNat) ≠ 0 → Q (some (0, -1003)) (fl g)) (heq : g 89 (36 * s + a.toNat) = 0 ∧ g 89 (36 * s + b.toNat) = 0 → a = b → ¬ n ≤ 1 → Q (some (0, -1003)) (fl g)) (hgo : g 89 (36 * s + a.toNat) = 0 ∧ g 89 (36 * s + b.toNat) = 0 → (a ≠ b ∨ n ≤ 1) → Wp X d SH 159 118 [(2, 87), (0, (s : Int)), (0, a), (0, b), (0, n), (0, z), (0, kind), (3, 0), (3, 0)] [] SH (fl g) Q) : Wp X d SH 159 75 [(2, 87), (0, (s : Int)), (0, a), (0, b), (0, n), (0, z), (0, kind), (3, 0), (3, 0)] [] SH (fl g) Q := by
  have ea : (36 * (s : Int) + a).toNat = 36 * s + a.toNat := by omega
  have eb : (36 * (s : Int) + b).toNat = 36 * s + b.toNat := by omega
  apply s_159_75
  rw [fl_87_2, ea, eb, fl_90, fl_90, ml_90]
  refine ⟨mi_87, by unfold r32; omega, by unfold r32; omega, mi_90, by omega, by omega, fun y => hbar (Or.inl y), fun y => ⟨mi_87, by unfold r32; omega, by unfold r32; omega, mi_90, by omega, by omega, fun y2 => hbar (Or.inr y2), fun y2 => ⟨fun y3 => hgo ⟨Classical.not_not.1 y, Classical.not_not.1 y2⟩ (Or.inl y3), fun y3 => ⟨fun y4 => hgo ⟨Classical.not_not.1 y, Classical.not_not.1 y2⟩ (Or.inr y4), fun y4 => heq ⟨Classical.not_not.1 y, Classical.not_not.1 y2⟩ (Classical.not_not.1 y3) y4⟩⟩⟩⟩
theorem DR_v {X : mX} {s n : Nat} {g : mF} {R : Int × Int × (Nat → Int)} : ∀ r g', DR X s n g R r g' → ∃ v : Int, r = some (0, v) := by
  rintro r g' ⟨-, ⟨-, h, -⟩ | ⟨-, h, -⟩ | ⟨-, h, -⟩⟩
  · exact ⟨_, h⟩
  · exact ⟨_, h⟩
  · exact ⟨_, h⟩
theorem DP_r {g : mF} (hI : ∀ s, s < 6 → Iseal g s) (hbd : Ibound g) : DP g g := ⟨hI, hbd, fun _ _ _ => rfl⟩
/-- draw -/
theorem T_draw (X : mX) (g : mF) (a1 a2 a3 a4 z kind : Int) (hz : z = 0 ∨ z = 1) (hI : ∀ s, s < 6 → Iseal g s) (hbd : Ibound g) : PR X 89 159 [(2, 1), (0, a1), (0, a2), (0, a3), (0, a4), (0, z), (0, kind), (3, 0)] [(2, 87), (0, a1), (0, a2), (0, a3), (0, a4), (0, z), (0, kind), (3, 0), (3, 0)] g (DP g) := by
  by_cases hs1 : 0 ≤ a1 ∧ a1 ≤ 5
  · obtain ⟨s, rfl⟩ : ∃ s : Nat, a1 = (s : Int) := ⟨a1.toNat, by omega⟩
    have hs : s < 6 := by omega
    obtain ⟨⟨p1, p2, p3, p4⟩, hB, -⟩ := id (hI s hs)
    have hwb := mul_b p1.2 p2.2
    obtain ⟨d1, d2, d3, -⟩ := id hbd
    by_cases hr : RNG (g (56 + 5 * s) 0) (g (56 + 5 * s) 1) a2 a3 a4 kind
    · obtain ⟨ha, hb, hn, hk⟩ := id hr
      obtain ⟨wh, hwh⟩ : ∃ wh : Nat, g (56 + 5 * s) 0 * g (56 + 5 * s) 1 = (wh : Int) := ⟨(g (56 + 5 * s) 0 * g (56 + 5 * s) 1).toNat, by omega⟩
      obtain ⟨a, rfl⟩ : ∃ a : Nat, a2 = (a : Int) := ⟨a2.toNat, by omega⟩
      obtain ⟨b, rfl⟩ : ∃ b : Nat, a3 = (b : Int) := ⟨a3.toNat, by omega⟩
      obtain ⟨n, rfl⟩ : ∃ n : Nat, a4 = (n : Int) := ⟨a4.toNat, by omega⟩
      have ea : ((a : Int)).toNat = a := by omega
      have eb : ((b : Int)).toNat = b := by omega
      have hBa := (hB a (by omega)).1
      have hBb := (hB b (by omega)).1
      -- the reference's walk to its cases
      have ref : ∀ {R : Int × Int × (Nat → Int)}, (g (59 + 5 * s) a ≠ 0 ∨ g (59 + 5 * s) b ≠ 0 → R.1 = 0 ∧ R.2.1 = 0) → (g (59 + 5 * s) a = 0 ∧ g (59 + 5 * s) b = 0 → a = b → ¬ (n : Int) ≤ 1 → R.1 = 0 ∧ R.2.1 = 0) → (g (59 + 5 * s) a = 0 ∧ g (59 + 5 * s) b = 0 → (a ≠ b ∨ n ≤ 1) → ∀ gb : mF, gb 87 s = g (56 + 5 * s) 0 → gb 88 s = g (56 + 5 * s) 1 → (∀ q, q < 36 → gb 89 (36 * s + q) = g (59 + 5 * s) q) → gb 86 5 = g 2 0 → gb 86 6 = 0 → ∀ d Q, 8 ≤ d → (∀ r g', DM s n gb R r g' → Q r (fl g')) → Wp X d SH 159 118 [(2, 87), (0, (s : Int)), (0, (a : Int)), (0, (b : Int)), (0, (n : Int)), (0, z), (0, kind), (3, 0), (3, 0)] [] SH (fl gb) Q) → ∀ gb, (∀ o k, ¬ (o = 2 ∧ k ≠ 0 ∨ o = 3 ∨ o = 4 ∨ o = 56 + 5 * s ∧ k = 2 ∨ o = 57 + 5 * s ∨ o = 58 + 5 * s) → gb o k = g o k) → Rel X 60 159 [(2, 87), (0, (s : Int)), (0, (a : Int)), (0, (b : Int)), (0, (n : Int)), (0, z), (0, kind), (3, 0), (3, 0)] gb (DM s n (mup gb 86 6 0) R) := by
        intro R h1 h2 h3 gb fr d Q hd hQ
        have w87 : gb 87 s = g (56 + 5 * s) 0 := by rw [fr _ _ (by omega)]; exact p1.1
        have w88 : gb 88 s = g (56 + 5 * s) 1 := by rw [fr _ _ (by omega)]; exact p2.1
        refine c159x X gb hs p1.2 p2.2 w87 w88 (by omega) (fun y => absurd hr y) (fun _ => ?_)
        generalize hgc : mup gb 86 6 0 = gc at hQ ⊢
        have fc : ∀ o k, ¬ (o = 86 ∧ k = 6) → gc o k = gb o k := fun o k ho => by rw [← hgc, mup_n (by omega)]
        have c6 : gc 86 6 = 0 := by rw [← hgc, mup_e]
        have bars : ∀ q, q < 36 → gc 89 (36 * s + q) = g (59 + 5 * s) q := fun q hq => by rw [fc _ _ (by omega), fr _ _ (by omega)]; exact (hB q hq).1
        have no : R.1 = 0 ∧ R.2.1 = 0 → Q (some (0, -1003)) (fl gc) := fun x => hQ _ gc ⟨by rw [c6, x.2], Or.inl ⟨x.1, rfl, fun _ _ _ => rfl⟩⟩
        have b1 : gc 89 (36 * s + ((a : Int)).toNat) = g (59 + 5 * s) a := by rw [ea]; exact bars a (by omega)
        have b2 : gc 89 (36 * s + ((b : Int)).toNat) = g (59 + 5 * s) b := by rw [eb]; exact bars b (by omega)
        refine c159y X gc hs (by omega) (by omega) (fun y => no (h1 ?_)) (fun y y2 y3 => no (h2 ?_ (by omega) y3)) (fun y y2 => ?_)
        · rw [b1, b2] at y; exact y
        · rw [b1, b2] at y; exact y
        · rw [b1, b2] at y
          exact h3 y (by omega) gc (by rw [fc _ _ (by omega)]; exact w87) (by rw [fc _ _ (by omega)]; exact w88) bars (by rw [fc _ _ (by omega), fr _ _ (by omega)]; exact hbd.1) c6 d Q (by omega) hQ
      by_cases hbar : g (59 + 5 * s) a = 0 ∧ g (59 + 5 * s) b = 0
      · generalize hal0 : (fun ρ : Nat → Int => @decide (kind = 0 ∨ ALM (g (56 + 5 * s) 0) (g (56 + 5 * s) 1) kind n ρ) (Classical.propDecidable _)) = al
        have hal : ∀ ρ, al ρ = true ↔ kind = 0 ∨ ALM (g (56 + 5 * s) 0) (g (56 + 5 * s) 1) kind n ρ := fun ρ => by
          rw [← hal0]
          exact @decide_eq_true_iff _ (Classical.propDecidable _)
        by_cases hab : a = b
        · subst hab
          have cl := c73e X g hs (z := z) (n := n) (al := al) (hI s hs) rfl rfl hwh (by omega) (by omega) hk hz (by omega) hbar.1 hal
          have gd : (if n = 1 ∧ al (fun _ => (a : Int)) = true then (1 : Int) else 0) = 1 → Good (g (56 + 5 * s) 0) wh (fun _ => (a : Int)) n := fun y => by
            by_cases hy : n = 1 ∧ al (fun _ => (a : Int)) = true
            · rw [hy.1]
              exact Good_1 (by omega)
            · rw [if_neg hy] at y
              omega
          refine draw_join X g hs hI hbd hwh (by omega) (R := (if n = 1 ∧ al (fun _ => (a : Int)) = true then 1 else 0, 0, fun _ => (a : Int))) gd ⟨by show (0 : Int) ≤ 0; decide, by show (0 : Int) ≤ 20000; decide⟩ (c89 X g hs (hI s hs) ha hb hn hk DR_v cl) ?_
          refine ref (fun y => ?_) (fun _ _ y => ⟨if_neg (fun x => y (by have := x.1; omega)), rfl⟩) (fun _ y gb w87 w88 bars _ c6 d Q hd hQ => ?_)
          · exact absurd y (by
              rintro (x | x)
              · exact x hbar.1
              · exact x hbar.2)
          · have hn1 : n = 1 := by omega
            subst hn1
            refine c159b X gb hs p1.2 p2.2 w87 w88 hk hal (by omega) c6 hd (fun r g' hm => hQ r g' ?_)
            have e : (if (a : Int) = (a : Int) ∧ al (fun _ => (a : Int)) = true then (1 : Int) else 0) = if (1 : Nat) = 1 ∧ al (fun _ => (a : Int)) = true then 1 else 0 := by
              by_cases hA : al (fun _ => (a : Int)) = true
              · rw [if_pos ⟨rfl, hA⟩, if_pos ⟨rfl, hA⟩]
              · rw [if_neg (fun x => hA x.2), if_neg (fun x => hA x.2)]
            rw [e] at hm
            exact hm
        · generalize hmay0 : (fun (ρ : Nat → Int) (m q : Nat) => @decide (nrC (g (56 + 5 * s) 0) (ρ (m - 1)) (q : Int) ∧ MF (g (56 + 5 * s) 0) (g (59 + 5 * s)) ρ m z (q : Int)) (Classical.propDecidable _)) = may
          have hmay : ∀ ρ m q, may ρ m q = true ↔ nrC (g (56 + 5 * s) 0) (ρ (m - 1)) (q : Int) ∧ MF (g (56 + 5 * s) 0) (g (59 + 5 * s)) ρ m z (q : Int) := fun ρ m q => by
            rw [← hmay0]
            exact @decide_eq_true_iff _ (Classical.propDecidable _)
          have cl := c73n X g hs (z := z) (n := n) (may := may) (al := al) (hI s hs) rfl rfl hwh (by omega) rfl ⟨d2, d3⟩ (by omega) hk hz (by omega) (by omega) hab hbar.1 hbar.2 hmay hal
          have gd := srch_good (B := g 2 0) (b := (b : Int)) (n := n) (wh := wh) (al := al) hmay (n - 1) (fun _ => (a : Int)) 1 0 (by omega) (Good_1 (by omega))
          have lk := srch_looks (B := g 2 0) (b := (b : Int)) (n := n) (wh := wh) (may := may) (al := al) (n - 1) (fun _ => (a : Int)) 1 0 (by omega) (by omega)
          refine draw_join X g hs hI hbd hwh (by omega) gd ⟨lk.1, by omega⟩ (c89 X g hs (hI s hs) ha hb hn hk DR_v cl) ?_
          refine ref (fun y => ?_) (fun _ y _ => absurd y hab) (fun _ _ gb w87 w88 bars cB c6 d Q hd hQ => ?_)
          · exact absurd y (by
              rintro (x | x)
              · exact x hbar.1
              · exact x hbar.2)
          · by_cases hn1 : n = 1
            · subst hn1
              refine c159b X gb hs p1.2 p2.2 w87 w88 hk hal (by omega) c6 hd (fun r g' hm => hQ r g' ?_)
              rw [if_neg (fun x => hab (by have := x.1; omega))] at hm
              exact hm
            · exact c159a X gb hs p1.2 p2.2 hwh w87 w88 bars cB ⟨d2, d3⟩ (by omega) hk hmay hal (by omega) c6 hd hQ
      · have hb2 : g (59 + 5 * s) a ≠ 0 ∨ g (59 + 5 * s) b ≠ 0 := by
          by_cases x : g (59 + 5 * s) a = 0
          · exact Or.inr (fun y => hbar ⟨x, y⟩)
          · exact Or.inl x
        have cl : Rel X 55 73 [(2, 3), (2, 57 + 5 * (s : Int)), (0, (a : Int)), (0, (b : Int)), (0, (n : Int)), (0, z), (0, kind), (3, 0)] g (DR X s n g (0, 0, fun _ => 0)) := ((c73b X g hs (by omega) (by omega) hb2).le (by omega)).rel ⟨mup_e, Or.inl ⟨rfl, rfl, fun o k ho => mup_n (by omega)⟩⟩
        refine draw_join X g hs hI hbd hwh (by omega) (R := (0, 0, fun _ => 0)) (fun y => absurd y (by decide)) ⟨by decide, by decide⟩ (c89 X g hs (hI s hs) ha hb hn hk DR_v cl) ?_
        exact ref (fun _ => ⟨rfl, rfl⟩) (fun y => absurd y hbar) (fun y => absurd y hbar)
    · refine PR_of (c89x X g hs ⟨p1, p2, p3, p4⟩ hr) (fun d Q hd hQ => ?_) (DP_r hI hbd)
      exact c159x X g hs p1.2 p2.2 p1.1 p2.1 (by omega) (fun _ => hQ) (fun y => absurd y hr)
  · refine PR_of (r := -1001) (g1 := g) (g2 := g) (fun d Q hd hQ => ?_) (fun d Q hd hQ => ?_) (DP_r hI hbd)
    · apply s_89_0
      refine ⟨by omega, mi_1, ?_⟩
      refine c135n X g _ hs1 _ _ (by omega) ?_
      apply s_89_5
      exact ⟨fun y => absurd rfl y, fun _ => hQ⟩
    · have c0 := c147 X g a1
      rw [if_neg hs1] at c0
      apply s_159_0
      refine ⟨by omega, ?_⟩
      refine c0 _ _ (by omega) ?_
      apply s_159_4
      exact ⟨fun y => absurd rfl y, fun _ => hQ⟩
