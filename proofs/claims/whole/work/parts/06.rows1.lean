/-- what an instruction is for the machine of part 05: in the code of a class (own), rt: what the method returns; ini: it is a constructor -/
def rtg : FieldType → Nat
  | .int => 0
  | .long => 1
  | .boolean => 3
  | _ => 2
noncomputable def rcall (own i kd : Nat) : Option Nat := ((MLs.getD own []).find? (fun e => e.1 == i)).bind (fun e => if e.2.1 < 233 ∧ (mt e.2.1).2.2.2.2.2.2 = kd then some (e.2.1 * 1000000 + (mt e.2.1).1 * 10000 + (mt e.2.1).2.2.2.1 * 100 + ((mt e.2.1).2.2.2.2.2.1 + if kd = 1 then 0 else 1)) else none)
def rtr : Option FieldType → Bool
  | some (.object _) => true
  | some (.array _) => true
  | _ => false
def rjmp (pc : Nat) (n : Int) (g : Int → Instr) : Option Instr := if 0 ≤ (pc : Int) + n then some (g (pc + n)) else none
noncomputable def rsv (own : Nat) (rt : Option FieldType) (ini : Bool) (pc : Nat) : Instr → Option Instr
  | .iconst n => some (.bipush n)
  | .bipush n => if -128 ≤ n ∧ n ≤ 127 then some (.bipush n) else none
  | .sipush n => if -32768 ≤ n ∧ n ≤ 32767 then some (.bipush n) else none
  | .ldc i => ((CIs.getD own []).find? (fun e => e.1 == i)).map (fun e => .bipush e.2.1)
  | .lconst n => some (.sipush (n : Nat))
  | .ldc2_w i => ((CLs.getD own []).find? (fun e => e.1 == i)).map (fun e => .sipush e.2.1)
  | .iload_n n => some (.iload n)
  | .iload n => some (.iload n)
  | .aload_n n => some (.aload n)
  | .aload n => some (.aload n)
  | .lload_n n => some (.lload n)
  | .lload n => some (.lload n)
  | .istore_n n => some (.istore n)
  | .istore n => some (.istore n)
  | .astore_n n => some (.astore n)
  | .astore n => some (.astore n)
  | .lstore_n n => some (.lstore n)
  | .lstore n => some (.lstore n)
  | .iaload => if own = 12 then some .saload else some .iaload
  | .arraylength => if own = 12 then some .i2s else if own = 4 then some .i2c else some .arraylength
  | .getfield i => ((FLs.getD own []).find? (fun e => e.1 == i)).map (fun e => .getfield ((100 * e.2.1 + e.2.2.1) * 4 + rtg (kY e.2.1 e.2.2.1)))
  | .putfield i => ((FLs.getD own []).find? (fun e => e.1 == i)).bind (fun e => if (kT e.2.1 e.2.2.1).2.2.2 = false ∨ (ini = true ∧ e.2.1 = own) then some (.putfield ((100 * e.2.1 + e.2.2.1) * 4 + rtg (kY e.2.1 e.2.2.1))) else none)
  | .getstatic i => if own = 4 ∧ i = 86 then some (.getstatic 0) else none
  | .invokevirtual i => (rcall own i 0).map .invokevirtual
  | .invokestatic i => if ((MLs.getD own []).find? (fun e => e.1 == i)).map (fun e => e.2.1) = some 229 then some .lneg else if ((MLs.getD own []).find? (fun e => e.1 == i)).map (fun e => e.2.1) = some 230 then some .ixor else if ((MLs.getD own []).find? (fun e => e.1 == i)).map (fun e => e.2.1) = some 231 then some .lxor else (rcall own i 1).map .invokestatic
  | .invokespecial i => if ((MLs.getD own []).find? (fun e => e.1 == i)).map (fun e => e.2.1) = some 999 then some .pop else (rcall own i 2).map .invokespecial
  | .new i => ((KLs.getD own []).find? (fun e => e.1 == i)).map (fun e => .new e.2.1)
  | .anewarray i => ((KLs.getD own []).find? (fun e => e.1 == i)).bind (fun e => if e.2.1 = 5 ∨ e.2.1 = 2 then some (.anewarray e.2.1) else none)
  | .newarray t => if t = .int ∨ t = .boolean then some (.newarray t) else none
  | .goto n => rjmp pc n .goto
  | .ifCond c n => rjmp pc n (.ifCond c)
  | .if_icmp c n => rjmp pc n (.if_icmp c)
  | .ifnull n => rjmp pc n .ifnull
  | .ifnonnull n => rjmp pc n .ifnonnull
  | .tableswitch d lo hi os => if 0 ≤ (pc : Int) + d ∧ os.all (fun o => decide (0 ≤ (pc : Int) + o)) = true then some (.tableswitch (pc + d) lo hi (os.map (fun o => pc + o))) else none
  | .iinc i n => if -128 ≤ n ∧ n ≤ 127 then some (.iinc i n) else none
  | .ireturn => if rt = some .boolean then some .dreturn else if rt = some .int then some .ireturn else none
  | .aconst_null => some .aconst_null
  | .baload => some .baload
  | .bastore => some .bastore
  | .iastore => some .iastore
  | .aaload => some .aaload
  | .aastore => some .aastore
  | .laload => some .laload
  | .iadd => some .iadd
  | .isub => some .isub
  | .imul => some .imul
  | .idiv => some .idiv
  | .irem => some .irem
  | .ineg => some .ineg
  | .iand => some .iand
  | .ior => some .ior
  | .ishl => some .ishl
  | .ishr => some .ishr
  | .i2l => some .i2l
  | .l2i => some .l2i
  | .lcmp => some .lcmp
  | .ladd => some .ladd
  | .lsub => some .lsub
  | .lmul => some .lmul
  | .land => some .land
  | .lor => some .lor
  | .lshl => some .lshl
  | .lshr => some .lshr
  | .lushr => some .lushr
  | .dup => some .dup
  | .dup2 => some .dup2
  | .lreturn => if rt = some .long then some .lreturn else none
  | .areturn => if rtr rt = true then some .areturn else none
  | .return_ => if rt = none then some .return_ else none
  | _ => none
/-- an instruction's length; of a switch as it is -/
def iln (n : Nat) : Instr → Nat
  | .bipush _ => 2
  | .sipush _ => 3
  | .ldc _ => 2
  | .ldc2_w _ => 3
  | .iload _ => 2
  | .aload _ => 2
  | .lload _ => 2
  | .istore _ => 2
  | .astore _ => 2
  | .lstore _ => 2
  | .getfield _ => 3
  | .putfield _ => 3
  | .getstatic _ => 3
  | .invokevirtual _ => 3
  | .invokestatic _ => 3
  | .invokespecial _ => 3
  | .new _ => 3
  | .anewarray _ => 3
  | .newarray _ => 2
  | .goto _ => 3
  | .ifCond _ _ => 3
  | .if_icmp _ _ => 3
  | .ifnull _ => 3
  | .ifnonnull _ => 3
  | .iinc _ _ => 3
  | .tableswitch _ _ _ _ => n
  | _ => 1
abbrev tb_rows (k : Nat) (l : List (Nat × Instr × Instr × Nat)) : Prop := ∀ e ∈ l, decode (mt k).2.2.1 e.1 = .ok (e.2.1, e.2.2.2 - e.1) ∧ e.2.2.2 = e.1 + iln (e.2.2.2 - e.1) e.2.1 ∧ rsv (mt k).1 (mt k).2.2.2.2.1 (decide ((mt k).2.2.2.2.2.2 = 2)) e.1 e.2.1 = some e.2.2.1
abbrev tb_good (k : Nat) : Prop := tb_rows k (cds.getD k [])
theorem tb_ok_0 : ∀ k, k < 13 → tb_good (k + 0) := by decide +kernel
theorem tb_ok_13 : ∀ k, k < 13 → tb_good (k + 13) := by decide +kernel
theorem tb_ok_26 : ∀ k, k < 13 → tb_good (k + 26) := by decide +kernel
theorem tb_ok_39 : ∀ k, k < 13 → tb_good (k + 39) := by decide +kernel
theorem tb_ok_52 : ∀ k, k < 13 → tb_good (k + 52) := by decide +kernel
theorem tb_ok_65 : ∀ k, k < 13 → tb_good (k + 65) := by decide +kernel
