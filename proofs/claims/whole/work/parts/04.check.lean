/-! the tables' words stand where 03 says -/
abbrev wk (p : Nat) (w : Cond) : Prop := lw_tbl[p]? = some w ∧ goodWord w = true
theorem FL_ok : ∀ own, own < 13 → ∀ e ∈ FLs.getD own [], wk e.2.2.2 (.fieldLink (kN own) e.1 (kN e.2.1) (kT e.2.1 e.2.2.1).2.1 (kT e.2.1 e.2.2.1).2.2.1) ∧ e.2.2.1 < kF e.2.1 ∧ (kT e.2.1 e.2.2.1).1 = kN e.2.1 ∧ e.2.1 < 10 ∧ e.2.2.1 < 100 := by decide +kernel
theorem KL_ok : ∀ own, own < 13 → ∀ e ∈ KLs.getD own [], wk e.2.2 (.classLink (kN own) e.1 (kN e.2.1)) ∧ e.2.1 < 10 := by decide +kernel
theorem CI_ok : ∀ own, own < 13 → ∀ e ∈ CIs.getD own [], wk e.2.2 (.constant (kN own) e.1 (Int32.ofInt e.2.1)) ∧ -2147483648 ≤ e.2.1 ∧ e.2.1 ≤ 2147483647 := by decide +kernel
theorem CL_ok : ∀ own, own < 13 → ∀ e ∈ CLs.getD own [], wk e.2.2 (.constantLong (kN own) e.1 (Int64.ofInt e.2.1)) ∧ -9223372036854775808 ≤ e.2.1 ∧ e.2.1 ≤ 9223372036854775807 := by decide +kernel
theorem ip_ok : ∀ c, c < 10 → wk (ipl.getD c (0, 0)).1 (.instantiable (kN c) (kF c)) ∧ wk (ipl.getD c (0, 0)).2 (.initialized (kN c)) := by decide +kernel
noncomputable def mt (k : Nat) : mTy := mts.getD k (0, yX0_init, cX0_init, 1, none, 0, 2)
def mp (k : Nat) : Nat × Nat × Nat × Nat := mpl.getD k (0, 0, 0, 0)
def mhost : String := RX8
theorem kT_nm : ∀ c, c < 10 → ∀ a, a < kF c → ∀ b, b < kF c → a ≠ b → (kT c a).2.1 ≠ (kT c b).2.1 := by decide +kernel
theorem kT_ty : ∀ c, c < 10 → ∀ k, k < kF c → parseFieldDescriptor (kT c k).2.2.1 = some (kY c k) := by decide +kernel
def tyk : FieldType → Bool
  | .int => true
  | .long => true
  | .boolean => true
  | .object _ => true
  | .array _ => true
  | _ => false
theorem kT_tk : ∀ c, c < 10 → ∀ k, k < kF c → tyk (kY c k) = true := by decide +kernel
theorem kT_ws : ∀ c, c < 10 → ∀ w ∈ u_ws (kN c) (kT c) (kF c), w ∈ lw_tbl ∧ goodWord w = true := by decide +kernel
theorem vw_at : ∀ c, c < 10 → vwCl[c]? = some (kN c, kT c, kF c) := by
  intro c hc
  match c, hc with
  | 0, _ => rfl
  | 1, _ => rfl
  | 2, _ => rfl
  | 3, _ => rfl
  | 4, _ => rfl
  | 5, _ => rfl
  | 6, _ => rfl
  | 7, _ => rfl
  | 8, _ => rfl
  | 9, _ => rfl
theorem sp_ok1 : wk 118 (.arrayClass .int) ∧ wk 1120 (.arrayClass .boolean) := by decide +kernel
theorem sp_ok2 : wk 78 (.instanceMethod objectInit) := by decide +kernel
theorem sp_ok3 : lw_tbl[79]? = some (.code objectInit ⟨#[0xb1]⟩ 1 none) := by rfl
theorem sp_ok4 : lw_tbl[81]? = some (.arrayOver (.object RX5)) ∧ lw_tbl[162]? = some (.arrayOver (.object RX2)) := by decide +kernel
theorem sp_ok5 : lw_tbl[915]? = some (.laysStatic RX4 "WORDS" "[J") := by decide +kernel
theorem sp_ok6 : wk 914 (.fieldLink RX4 86 RX4 "WORDS" "[J") ∧ wk 68 (.initialized RX4) := by decide +kernel
theorem ML_ok0 : ∀ own, own < 13 → ∀ e ∈ MLs.getD own [], e.2.1 = 999 → wk e.2.2.2 (.methodLink (kN own) e.1 objectInit) := by decide +kernel
theorem ML_ok1 : ∀ own, own < 13 → ∀ e ∈ MLs.getD own [], e.2.1 ≠ 999 → e.2.1 < 233 ∧ (e.2.2.1 = 0 ∨ e.2.2.1 = 1) := by decide +kernel
theorem ML_ok2 : ∀ own, own < 13 → ∀ e ∈ MLs.getD own [], e.2.1 ≠ 999 → e.2.2.1 = 0 → wk e.2.2.2 (.methodLink (kN own) e.1 (mt e.2.1).2.1) := by decide +kernel
theorem ML_ok3 : ∀ own, own < 13 → ∀ e ∈ MLs.getD own [], e.2.1 ≠ 999 → e.2.2.1 = 1 → (mt e.2.1).2.2.2.2.2.2 = 2 ∧ lw_tbl[e.2.2.2]? = some (.methodLinkNest (kN own) e.1 (mt e.2.1).2.1 mhost) := by decide +kernel
