/-! that an instruction of the pure machine is the class file's at its place -/
def m_ldn (f : Fin 4 → Instr) (g : Nat → Instr) (r : Instr) (len a : Nat) : Bool :=
  (decide (r = g a) && decide (len = 2)) || (decide (len = 1) && ((decide (a = 0) && decide (r = f 0)) || ((decide (a = 1) && decide (r = f 1)) || ((decide (a = 2) && decide (r = f 2)) || (decide (a = 3) && decide (r = f 3))))))
theorem m_ldn_or {f : Fin 4 → Instr} {g : Nat → Instr} {r : Instr} {len a : Nat} (h : m_ldn f g r len a = true) : (r = g a ∧ len = 2) ∨ ∃ k : Fin 4, (k : Nat) = a ∧ r = f k ∧ len = 1 := by
  simp only [m_ldn, Bool.or_eq_true, Bool.and_eq_true, decide_eq_true_eq] at h
  rcases h with h | ⟨h1, ⟨h2, h3⟩ | ⟨h2, h3⟩ | ⟨h2, h3⟩ | ⟨h2, h3⟩⟩
  · exact Or.inl h
  · exact Or.inr ⟨0, h2.symm, h3, h1⟩
  · exact Or.inr ⟨1, h2.symm, h3, h1⟩
  · exact Or.inr ⟨2, h2.symm, h3, h1⟩
  · exact Or.inr ⟨3, h2.symm, h3, h1⟩
def m_oki (own : Nat) (r : Instr) (len : Nat) (z : Int) : Bool := match r with
  | .iconst n => decide (n = z) && decide (len = 1)
  | .bipush n => decide ((Int8.ofInt n).toInt32 = Int32.ofInt z) && decide (len = 2)
  | .sipush n => decide ((Int16.ofInt n).toInt32 = Int32.ofInt z) && decide (len = 3)
  | .ldc i => decide ((m_lk2 m_CI own i).map (fun q => q.1) = some z) && decide (len = 2)
  | .ldc_w i => decide ((m_lk2 m_CI own i).map (fun q => q.1) = some z) && decide (len = 3)
  | _ => false
def m_okj (own : Nat) (r : Instr) (len : Nat) (z : Int) : Bool := match r with
  | .lconst k => decide (Int64.ofNat k = Int64.ofInt z) && decide (len = 1)
  | .ldc2_w i => decide ((m_lk2 m_CJ own i).map (fun q => q.1) = some z) && decide (len = 3)
  | _ => false
def m_okf (own : Nat) (r : Instr) (len a : Nat) : Bool := match r with
  | .fconst k => ((decide (k = 0) && decide (UInt32.ofNat a = FP.fconst0)) || ((decide (k = 1) && decide (UInt32.ofNat a = FP.fconst1)) || (decide (k = 2) && decide (UInt32.ofNat a = FP.fconst2)))) && decide (len = 1)
  | .ldc i => decide ((m_lk2 m_CF own i).map (fun q => q.1) = some a) && decide (len = 2)
  | .ldc_w i => decide ((m_lk2 m_CF own i).map (fun q => q.1) = some a) && decide (len = 3)
  | _ => false
/-- stack alone -/
def m_oks (own : Nat) (r : Instr) (len op a : Nat) (z : Int) : Bool := match op with
  | 10 => decide (-2147483648 ≤ z) && (decide (z < 2147483648) && m_oki own r len z)
  | 11 => decide (-9223372036854775808 ≤ z) && (decide (z < 9223372036854775808) && m_okj own r len z)
  | 12 => m_okf own r len a
  | 13 => decide (r = .aconst_null) && decide (len = 1)
  | 23 => decide (r = .iadd) && decide (len = 1)
  | 24 => decide (r = .isub) && decide (len = 1)
  | 25 => decide (r = .imul) && decide (len = 1)
  | 26 => decide (r = .idiv) && decide (len = 1)
  | 27 => decide (r = .irem) && decide (len = 1)
  | 28 => decide (r = .ineg) && decide (len = 1)
  | 29 => decide (r = .iand) && decide (len = 1)
  | 30 => decide (r = .ixor) && decide (len = 1)
  | 31 => decide (r = .ishl) && decide (len = 1)
  | 32 => decide (r = .ishr) && decide (len = 1)
  | 33 => decide (r = .iushr) && decide (len = 1)
  | 34 => decide (r = .ladd) && decide (len = 1)
  | 35 => decide (r = .lsub) && decide (len = 1)
  | 36 => decide (r = .lmul) && decide (len = 1)
  | 37 => decide (r = .ldiv) && decide (len = 1)
  | 38 => decide (r = .lrem) && decide (len = 1)
  | 39 => decide (r = .lneg) && decide (len = 1)
  | 40 => decide (r = .lcmp) && decide (len = 1)
  | 41 => decide (r = .i2l) && decide (len = 1)
  | 42 => decide (r = .l2f) && decide (len = 1)
  | 43 => decide (r = .f2i) && decide (len = 1)
  | 44 => decide (r = .i2b) && decide (len = 1)
  | 45 => decide (r = .fmul) && decide (len = 1)
  | 46 => decide (r = .fsub) && decide (len = 1)
  | 47 => decide (r = .fdiv) && decide (len = 1)
  | 48 => decide (r = .fcmp .g) && decide (len = 1)
  | 49 => decide (r = .fcmp .l) && decide (len = 1)
  | 50 => decide (r = .dup) && decide (len = 1)
  | 51 => decide (r = .dup2) && decide (len = 1)
  | _ => false
/-- locals -/
def m_okl (nL : Nat) (r : Instr) (len op a : Nat) (z : Int) : Bool := match op with
  | 14 => m_ldn .iload_n .iload r len a
  | 15 => m_ldn .lload_n .lload r len a
  | 16 => m_ldn .fload_n .fload r len a
  | 17 => m_ldn .aload_n .aload r len a
  | 18 => decide (a < nL) && m_ldn .istore_n .istore r len a
  | 19 => decide (a + 1 < nL) && m_ldn .lstore_n .lstore r len a
  | 20 => decide (a < nL) && m_ldn .fstore_n .fstore r len a
  | 21 => decide (a < nL) && m_ldn .astore_n .astore r len a
  | 22 => decide (a < nL) && (decide (r = .iinc a z) && decide (len = 3))
  | _ => false
def m_fk (a b : Nat) : Int := ((m_FC.getD a []).getD b 9 : Nat)
def m_okx (r : Instr) (a : Nat) : Bool := match r with
  | .newarray .int => decide (a = 1)
  | .newarray .long => decide (a = 2)
  | .newarray .byte => decide (a = 3)
  | _ => false
def m_okg (own : Nat) (r : Instr) (a b : Nat) : Bool := match r with
  | .getfield i => decide ((m_lk2 m_FL own i).map (fun q => (q.1, q.2.1)) = some (a, b))
  | _ => false
def m_okp (own : Nat) (nm : String) (r : Instr) (a b : Nat) : Bool := match r with
  | .putfield i => decide ((m_lk2 m_FL own i).map (fun q => (q.1, q.2.1)) = some (a, b)) && (decide ((m_T a b).2.2.2 = false) || (decide ((m_T a b).2.2.2 = true) && (decide (nm = "<init>") && decide (a = own))))
  | _ => false
def m_okn (own : Nat) (r : Instr) (a : Nat) : Bool := match r with
  | .anewarray i => decide ((m_lk2 m_NC own i).map (fun q => q.1) = some 7)
  | .new i => decide ((m_lk2 m_NC own i).map (fun q => q.1) = some a)
  | _ => false
def m_isA (r : Instr) : Bool := match r with
  | .anewarray _ => true
  | _ => false
def m_okv (own : Nat) (r : Instr) (k : Nat) : Bool := match r with
  | .invokespecial i => decide ((m_lk2 m_ML own i).map (fun q => q.1) = some k) && decide (k = 5)
  | .invokestatic i => decide ((m_lk2 m_ML own i).map (fun q => q.1) = some k) && !decide (k = 5)
  | _ => false
/-- memory -/
def m_okm (own : Nat) (nm : String) (r : Instr) (len op a b : Nat) (z : Int) : Bool := match op with
  | 53 => decide (len = 3) && (decide (a < 10) && (decide (b < m_fn a) && (decide (z = m_fk a b) && m_okg own r a b)))
  | 54 => decide (len = 3) && (decide (a < 10) && (decide (b < m_fn a) && (decide (z = m_fk a b) && m_okp own nm r a b)))
  | 55 => decide (len = 2) && m_okx r a
  | 56 => decide (len = 3) && (m_isA r && m_okn own r a)
  | 57 => decide (len = 3) && (!m_isA r && (decide (a < 10) && (decide (z = (m_fn a : Nat)) && m_okn own r a)))
  | 58 => decide (r = .arraylength) && decide (len = 1)
  | 59 => decide (r = .iaload) && decide (len = 1)
  | 60 => decide (r = .laload) && decide (len = 1)
  | 61 => decide (r = .baload) && decide (len = 1)
  | 62 => decide (r = .aaload) && decide (len = 1)
  | 63 => decide (r = .iastore) && decide (len = 1)
  | 64 => decide (r = .lastore) && decide (len = 1)
  | 65 => decide (r = .bastore) && decide (len = 1)
  | 66 => decide (r = .aastore) && decide (len = 1)
  | 67 => decide (len = 3) && m_okv own r 5
  | 68 => decide (len = 3) && m_okv own r 6
  | 69 => false
  | _ => false
def m_cq (k : Nat) : Jvm.ClassFile.Cond := match k with
  | 0 => .eq
  | 1 => .ne
  | 2 => .lt
  | 3 => .ge
  | 4 => .gt
  | _ => .le
def m_isO (o : Option FieldType) : Bool := match o with
  | some (.object _) => true
  | _ => false
def m_okr (rt : Option FieldType) (r : Instr) (k : Nat) : Bool := match k with
  | 0 => decide (r = .return_) && decide (rt = none)
  | 1 => decide (r = .ireturn) && decide (rt = some .int)
  | 2 => decide (r = .ireturn) && decide (rt = some .boolean)
  | 3 => decide (r = .lreturn) && decide (rt = some .long)
  | 4 => decide (r = .areturn) && m_isO rt
  | _ => false
def m_okt (y pc : Nat) (r : Instr) (a : Nat) : Bool := match r with
  | .tableswitch d lo hi offs => decide (lo = (m_tsl a).1) && (decide (hi + 1 = (m_tsl a).1 + ((m_tsl a).2.2.length : Nat)) && (decide ((pc : Int) + d = (m_stt y (m_tsl a).2.1 : Nat)) && decide (offs.toList.map (fun o => (pc : Int) + o) = (m_tsl a).2.2.map (fun b => ((m_stt y b : Nat) : Int)))))
  | _ => false
def m_oku (y pc : Nat) (r : Instr) (a : Nat) : Bool := match r with
  | .lookupswitch d ps => (ps.toList.zip (ps.toList.drop 1)).all (fun (a, next) => a.1 < next.1) && (decide ((pc : Int) + d = (m_stt y (m_lsl a).1 : Nat)) && decide (ps.toList.map (fun q => (q.1, (pc : Int) + q.2)) = (m_lsl a).2.map (fun q => (q.1, ((m_stt y q.2 : Nat) : Int)))))
  | _ => false
/-- calls: which kind for which instruction -/
def m_okc (own : Nat) (r : Instr) (a b : Nat) (z : Int) : Bool := match r with
  | .invokevirtual i => decide ((m_lk2 m_ML own i).map (fun q => (q.1, q.2.1)) = some (0, a)) && (decide (b = (m_MP.getD a (0, 0, 0)).2.2 + 1) && decide (z = (m_own a : Nat)))
  | .invokestatic i => (decide ((m_lk2 m_ML own i).map (fun q => (q.1, q.2.1)) = some (1, a)) || decide ((m_lk2 m_ML own i).map (fun q => (q.1, q.2.1)) = some (4, a))) && (decide (b = (m_MP.getD a (0, 0, 0)).2.2) && decide (z = -1))
  | .invokespecial i => (decide ((m_lk2 m_ML own i).map (fun q => (q.1, q.2.1)) = some (2, a)) || decide ((m_lk2 m_ML own i).map (fun q => (q.1, q.2.1)) = some (3, a))) && (decide (b = (m_MP.getD a (0, 0, 0)).2.2 + 1) && (decide (z = -2) && decide ((m_nm a).name = "<init>")))
  | _ => false
def m_okB (y pc : Nat) (r : Instr) (len : Nat) (i : m_P) : Bool :=
  match i.1 with
  | 0 => decide (len = 3) && decide (r = .goto ((m_stt y i.2.1 : Nat) - (pc : Int)))
  | 1 => decide (len = 3) && decide (r = .ifCond (m_cq i.2.1) ((m_stt y i.2.2.1 : Nat) - (pc : Int)))
  | 2 => decide (len = 3) && decide (r = .if_icmp (m_cq i.2.1) ((m_stt y i.2.2.1 : Nat) - (pc : Int)))
  | 3 => decide (len = 3) && decide (r = .ifnull ((m_stt y i.2.1 : Nat) - (pc : Int)))
  | 4 => decide (len = 3) && decide (r = .ifnonnull ((m_stt y i.2.1 : Nat) - (pc : Int)))
  | 5 => m_okt y pc r i.2.1
  | 6 => decide (len = 1) && m_okr (m_rt y) r i.2.1
  | 7 => decide (len = 3) && (decide (i.2.1 < 197) && m_okc (m_own y) r i.2.1 i.2.2.1 i.2.2.2)
  | 9 => m_oku y pc r i.2.1
  | _ => if 53 ≤ i.1 then m_okm (m_own y) (m_nm y).name r len i.1 i.2.1 i.2.2.1 i.2.2.2
    else if 14 ≤ i.1 ∧ i.1 ≤ 22 then m_okl (m_ml y) r len i.1 i.2.1 i.2.2.2
    else m_oks (m_own y) r len i.1 i.2.1 i.2.2.2
def m_chk (y : Nat) : List m_P → Nat → Bool
  | [], _ => true
  | i :: is, pc => if i.1 = 8 then decide (m_stt y i.2.1 = pc) else match decode (m_by y) pc with
    | .ok (r, len) => m_okB y pc r len i && m_chk y is (pc + len)
    | .error _ => false
def m_chm (y : Nat) : Bool := match m_CD[y]? with
  | some l => decide (m_stt y 0 = 0) && l.all (fun q => m_chk y q.2 q.1)
  | none => false
