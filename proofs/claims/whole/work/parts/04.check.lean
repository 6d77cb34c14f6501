/-! the tables' words stand where 03 says, and decode gives what 03 says -/
abbrev wk (p : Nat) (w : Cond) : Prop := lw_tbl[p]? = some w ∧ goodWord w = true
theorem FL_ok : ∀ own, own < 13 → ∀ e ∈ FLs.getD own [], wk e.2.2.2 (.fieldLink (kN own) e.1 (kN e.2.1) (kT e.2.1 e.2.2.1).2.1 (kT e.2.1 e.2.2.1).2.2.1) ∧ e.2.2.1 < kF e.2.1 ∧ (kT e.2.1 e.2.2.1).1 = kN e.2.1 ∧ e.2.1 < 10 := by decide +kernel
theorem KL_ok : ∀ own, own < 13 → ∀ e ∈ KLs.getD own [], wk e.2.2 (.classLink (kN own) e.1 (kN e.2.1)) ∧ e.2.1 < 10 := by decide +kernel
theorem ip_ok : ∀ c, c < 10 → wk (ipl.getD c (0, 0)).1 (.instantiable (kN c) (kF c)) ∧ wk (ipl.getD c (0, 0)).2 (.initialized (kN c)) := by decide +kernel
theorem mt_ok1 : mts.length = 234 ∧ mpl.length = 234 ∧ cds.length = 234 := by decide +kernel
