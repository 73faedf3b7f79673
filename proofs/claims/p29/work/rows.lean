section
-- ===== PART A: goes FIRST, ahead of the names: the tables' words, and 'selects' of the private methods out of them =====
/-- a private method of a class that the tables say can be made, by its rows of tables_1 -/
def lw_okq (q : MethodName × Nat) : Prop := (q.1.cls ≠ "java/lang/invoke/MethodHandle" ∧ q.1.cls ≠ "java/lang/invoke/VarHandle") ∧ Cond.instantiable q.1.cls q.2 ∈ tables_1 ∧ Cond.privateMethod q.1 ∈ tables_1 ∧ Cond.instanceMethod q.1 ∈ tables_1
theorem lw_p0 : lw_okq (⟨"CupClaims$History", "tableAt", "(I)LCupClaims$Table;"⟩, 3) := ⟨⟨by decide +kernel, by decide +kernel⟩, List.mem_of_getElem? (i := 176) (by decide +kernel), List.mem_of_getElem? (i := 285) (by decide +kernel), List.mem_of_getElem? (i := 286) (by decide +kernel)⟩
theorem lw_p1 : lw_okq (⟨"CupClaims$Table", "nextInFrom", "(I)I"⟩, 14) := ⟨⟨by decide +kernel, by decide +kernel⟩, List.mem_of_getElem? (i := 108) (by decide +kernel), List.mem_of_getElem? (i := 337) (by decide +kernel), List.mem_of_getElem? (i := 338) (by decide +kernel)⟩
theorem lw_p2 : lw_okq (⟨"CupClaims$Table", "counts", "(II)Z"⟩, 14) := ⟨⟨by decide +kernel, by decide +kernel⟩, List.mem_of_getElem? (i := 108) (by decide +kernel), List.mem_of_getElem? (i := 369) (by decide +kernel), List.mem_of_getElem? (i := 370) (by decide +kernel)⟩
theorem lw_p3 : lw_okq (⟨"CupClaims$Table", "loseDie", "(I)V"⟩, 14) := ⟨⟨by decide +kernel, by decide +kernel⟩, List.mem_of_getElem? (i := 108) (by decide +kernel), List.mem_of_getElem? (i := 373) (by decide +kernel), List.mem_of_getElem? (i := 374) (by decide +kernel)⟩
theorem lw_p4 : lw_okq (⟨"CupClaims$Table", "endRound", "(I)V"⟩, 14) := ⟨⟨by decide +kernel, by decide +kernel⟩, List.mem_of_getElem? (i := 108) (by decide +kernel), List.mem_of_getElem? (i := 384) (by decide +kernel), List.mem_of_getElem? (i := 385) (by decide +kernel)⟩
theorem lw_p5 : lw_okq (⟨"CupClaims$Table", "winDie", "(I)V"⟩, 14) := ⟨⟨by decide +kernel, by decide +kernel⟩, List.mem_of_getElem? (i := 108) (by decide +kernel), List.mem_of_getElem? (i := 396) (by decide +kernel), List.mem_of_getElem? (i := 397) (by decide +kernel)⟩
theorem lw_p6 : lw_okq (⟨"CupClaims$Matrix", "isPlace", "(II)Z"⟩, 3) := ⟨⟨by decide +kernel, by decide +kernel⟩, List.mem_of_getElem? (i := 64) (by decide +kernel), List.mem_of_getElem? (i := 423) (by decide +kernel), List.mem_of_getElem? (i := 424) (by decide +kernel)⟩
theorem lw_p7 : lw_okq (⟨"CupClaims$Solution", "fillMinors", "(LCupClaims$Matrix;)V"⟩, 6) := ⟨⟨by decide +kernel, by decide +kernel⟩, List.mem_of_getElem? (i := 228) (by decide +kernel), List.mem_of_getElem? (i := 428) (by decide +kernel), List.mem_of_getElem? (i := 429) (by decide +kernel)⟩
theorem lw_p8 : lw_okq (⟨"CupClaims$Solution", "alongFirstRow", "(LCupClaims$Matrix;II)J"⟩, 6) := ⟨⟨by decide +kernel, by decide +kernel⟩, List.mem_of_getElem? (i := 228) (by decide +kernel), List.mem_of_getElem? (i := 438) (by decide +kernel), List.mem_of_getElem? (i := 439) (by decide +kernel)⟩
theorem lw_p9 : lw_okq (⟨"CupClaims$Solution", "minorOf", "(II)J"⟩, 6) := ⟨⟨by decide +kernel, by decide +kernel⟩, List.mem_of_getElem? (i := 228) (by decide +kernel), List.mem_of_getElem? (i := 445) (by decide +kernel), List.mem_of_getElem? (i := 446) (by decide +kernel)⟩
theorem lw_p10 : lw_okq (⟨"CupClaims$Solution", "findOfSize", "(LCupClaims$Matrix;I)Z"⟩, 6) := ⟨⟨by decide +kernel, by decide +kernel⟩, List.mem_of_getElem? (i := 228) (by decide +kernel), List.mem_of_getElem? (i := 451) (by decide +kernel), List.mem_of_getElem? (i := 452) (by decide +kernel)⟩
theorem lw_p11 : lw_okq (⟨"CupClaims$Solution", "isSolution", "(LCupClaims$Matrix;II)Z"⟩, 6) := ⟨⟨by decide +kernel, by decide +kernel⟩, List.mem_of_getElem? (i := 228) (by decide +kernel), List.mem_of_getElem? (i := 455) (by decide +kernel), List.mem_of_getElem? (i := 456) (by decide +kernel)⟩
theorem lw_p12 : lw_okq (⟨"CupClaims$Solution", "sumCofactors", "(II)V"⟩, 6) := ⟨⟨by decide +kernel, by decide +kernel⟩, List.mem_of_getElem? (i := 228) (by decide +kernel), List.mem_of_getElem? (i := 459) (by decide +kernel), List.mem_of_getElem? (i := 460) (by decide +kernel)⟩
theorem lw_p13 : lw_okq (⟨"CupClaims$Solution", "cofactorOf", "(IIII)J"⟩, 6) := ⟨⟨by decide +kernel, by decide +kernel⟩, List.mem_of_getElem? (i := 228) (by decide +kernel), List.mem_of_getElem? (i := 463) (by decide +kernel), List.mem_of_getElem? (i := 464) (by decide +kernel)⟩
theorem lw_p14 : lw_okq (⟨"CupClaims$Solution", "negateAll", "()V"⟩, 6) := ⟨⟨by decide +kernel, by decide +kernel⟩, List.mem_of_getElem? (i := 228) (by decide +kernel), List.mem_of_getElem? (i := 467) (by decide +kernel), List.mem_of_getElem? (i := 468) (by decide +kernel)⟩
theorem lw_p15 : lw_okq (⟨"CupClaims$Solution", "sharesStand", "()Z"⟩, 6) := ⟨⟨by decide +kernel, by decide +kernel⟩, List.mem_of_getElem? (i := 228) (by decide +kernel), List.mem_of_getElem? (i := 471) (by decide +kernel), List.mem_of_getElem? (i := 472) (by decide +kernel)⟩
def lw_privs_1 : List (MethodName × Nat) := [(⟨"CupClaims$History", "tableAt", "(I)LCupClaims$Table;"⟩, 3), (⟨"CupClaims$Table", "nextInFrom", "(I)I"⟩, 14), (⟨"CupClaims$Table", "counts", "(II)Z"⟩, 14), (⟨"CupClaims$Table", "loseDie", "(I)V"⟩, 14), (⟨"CupClaims$Table", "endRound", "(I)V"⟩, 14), (⟨"CupClaims$Table", "winDie", "(I)V"⟩, 14), (⟨"CupClaims$Matrix", "isPlace", "(II)Z"⟩, 3), (⟨"CupClaims$Solution", "fillMinors", "(LCupClaims$Matrix;)V"⟩, 6), (⟨"CupClaims$Solution", "alongFirstRow", "(LCupClaims$Matrix;II)J"⟩, 6), (⟨"CupClaims$Solution", "minorOf", "(II)J"⟩, 6), (⟨"CupClaims$Solution", "findOfSize", "(LCupClaims$Matrix;I)Z"⟩, 6), (⟨"CupClaims$Solution", "isSolution", "(LCupClaims$Matrix;II)Z"⟩, 6), (⟨"CupClaims$Solution", "sumCofactors", "(II)V"⟩, 6), (⟨"CupClaims$Solution", "cofactorOf", "(IIII)J"⟩, 6), (⟨"CupClaims$Solution", "negateAll", "()V"⟩, 6), (⟨"CupClaims$Solution", "sharesStand", "()Z"⟩, 6)]
theorem lw_r1 : ∀ q ∈ lw_privs_1, lw_okq q := List.forall_mem_cons.mpr ⟨lw_p0, List.forall_mem_cons.mpr ⟨lw_p1, List.forall_mem_cons.mpr ⟨lw_p2, List.forall_mem_cons.mpr ⟨lw_p3, List.forall_mem_cons.mpr ⟨lw_p4, List.forall_mem_cons.mpr ⟨lw_p5, List.forall_mem_cons.mpr ⟨lw_p6, List.forall_mem_cons.mpr ⟨lw_p7, List.forall_mem_cons.mpr ⟨lw_p8, List.forall_mem_cons.mpr ⟨lw_p9, List.forall_mem_cons.mpr ⟨lw_p10, List.forall_mem_cons.mpr ⟨lw_p11, List.forall_mem_cons.mpr ⟨lw_p12, List.forall_mem_cons.mpr ⟨lw_p13, List.forall_mem_cons.mpr ⟨lw_p14, List.forall_mem_cons.mpr ⟨lw_p15, fun _ h => absurd h List.not_mem_nil⟩⟩⟩⟩⟩⟩⟩⟩⟩⟩⟩⟩⟩⟩⟩⟩
theorem lw_p16 : lw_okq (⟨"CupClaims$Solution", "rowsHold", "(LCupClaims$Matrix;)Z"⟩, 6) := ⟨⟨by decide +kernel, by decide +kernel⟩, List.mem_of_getElem? (i := 228) (by decide +kernel), List.mem_of_getElem? (i := 475) (by decide +kernel), List.mem_of_getElem? (i := 476) (by decide +kernel)⟩
theorem lw_p17 : lw_okq (⟨"CupClaims$Solution", "columnsHold", "(LCupClaims$Matrix;)Z"⟩, 6) := ⟨⟨by decide +kernel, by decide +kernel⟩, List.mem_of_getElem? (i := 228) (by decide +kernel), List.mem_of_getElem? (i := 479) (by decide +kernel), List.mem_of_getElem? (i := 480) (by decide +kernel)⟩
theorem lw_p18 : lw_okq (⟨"CupClaims$DiceReader", "takes", "(ILCupClaims$Table;)Z"⟩, 3) := ⟨⟨by decide +kernel, by decide +kernel⟩, List.mem_of_getElem? (i := 40) (by decide +kernel), List.mem_of_getElem? (i := 552) (by decide +kernel), List.mem_of_getElem? (i := 553) (by decide +kernel)⟩
theorem lw_p19 : lw_okq (⟨"CupClaims$DiceReader", "takesSlash", "(LCupClaims$Table;)Z"⟩, 3) := ⟨⟨by decide +kernel, by decide +kernel⟩, List.mem_of_getElem? (i := 40) (by decide +kernel), List.mem_of_getElem? (i := 556) (by decide +kernel), List.mem_of_getElem? (i := 557) (by decide +kernel)⟩
theorem lw_p20 : lw_okq (⟨"CupClaims$DiceReader", "takesFace", "(ILCupClaims$Table;)Z"⟩, 3) := ⟨⟨by decide +kernel, by decide +kernel⟩, List.mem_of_getElem? (i := 40) (by decide +kernel), List.mem_of_getElem? (i := 561) (by decide +kernel), List.mem_of_getElem? (i := 562) (by decide +kernel)⟩
theorem lw_p21 : lw_okq (⟨"CupClaims$MatrixReader", "takes", "(I)Z"⟩, 7) := ⟨⟨by decide +kernel, by decide +kernel⟩, List.mem_of_getElem? (i := 58) (by decide +kernel), List.mem_of_getElem? (i := 643) (by decide +kernel), List.mem_of_getElem? (i := 644) (by decide +kernel)⟩
theorem lw_p22 : lw_okq (⟨"CupClaims$MatrixReader", "takesDigit", "(I)Z"⟩, 7) := ⟨⟨by decide +kernel, by decide +kernel⟩, List.mem_of_getElem? (i := 58) (by decide +kernel), List.mem_of_getElem? (i := 647) (by decide +kernel), List.mem_of_getElem? (i := 648) (by decide +kernel)⟩
theorem lw_p23 : lw_okq (⟨"CupClaims$MatrixReader", "opensEntry", "(Z)Z"⟩, 7) := ⟨⟨by decide +kernel, by decide +kernel⟩, List.mem_of_getElem? (i := 58) (by decide +kernel), List.mem_of_getElem? (i := 651) (by decide +kernel), List.mem_of_getElem? (i := 652) (by decide +kernel)⟩
theorem lw_p24 : lw_okq (⟨"CupClaims$MatrixReader", "takesSlash", "()Z"⟩, 7) := ⟨⟨by decide +kernel, by decide +kernel⟩, List.mem_of_getElem? (i := 58) (by decide +kernel), List.mem_of_getElem? (i := 660) (by decide +kernel), List.mem_of_getElem? (i := 661) (by decide +kernel)⟩
theorem lw_p25 : lw_okq (⟨"CupClaims$MatrixReader", "rowIsComplete", "()Z"⟩, 7) := ⟨⟨by decide +kernel, by decide +kernel⟩, List.mem_of_getElem? (i := 58) (by decide +kernel), List.mem_of_getElem? (i := 664) (by decide +kernel), List.mem_of_getElem? (i := 665) (by decide +kernel)⟩
def lw_privs_2 : List (MethodName × Nat) := [(⟨"CupClaims$Solution", "rowsHold", "(LCupClaims$Matrix;)Z"⟩, 6), (⟨"CupClaims$Solution", "columnsHold", "(LCupClaims$Matrix;)Z"⟩, 6), (⟨"CupClaims$DiceReader", "takes", "(ILCupClaims$Table;)Z"⟩, 3), (⟨"CupClaims$DiceReader", "takesSlash", "(LCupClaims$Table;)Z"⟩, 3), (⟨"CupClaims$DiceReader", "takesFace", "(ILCupClaims$Table;)Z"⟩, 3), (⟨"CupClaims$MatrixReader", "takes", "(I)Z"⟩, 7), (⟨"CupClaims$MatrixReader", "takesDigit", "(I)Z"⟩, 7), (⟨"CupClaims$MatrixReader", "opensEntry", "(Z)Z"⟩, 7), (⟨"CupClaims$MatrixReader", "takesSlash", "()Z"⟩, 7), (⟨"CupClaims$MatrixReader", "rowIsComplete", "()Z"⟩, 7)]
theorem lw_r2 : ∀ q ∈ lw_privs_2, lw_okq q := List.forall_mem_cons.mpr ⟨lw_p16, List.forall_mem_cons.mpr ⟨lw_p17, List.forall_mem_cons.mpr ⟨lw_p18, List.forall_mem_cons.mpr ⟨lw_p19, List.forall_mem_cons.mpr ⟨lw_p20, List.forall_mem_cons.mpr ⟨lw_p21, List.forall_mem_cons.mpr ⟨lw_p22, List.forall_mem_cons.mpr ⟨lw_p23, List.forall_mem_cons.mpr ⟨lw_p24, List.forall_mem_cons.mpr ⟨lw_p25, fun _ h => absurd h List.not_mem_nil⟩⟩⟩⟩⟩⟩⟩⟩⟩⟩
def lw_privs : List (MethodName × Nat) := lw_privs_1 ++ (lw_privs_2)
def lw_tbl : List Cond := k2_sels lw_privs ++ tables_1
theorem lw_privs_ok : ∀ q ∈ lw_privs, lw_okq q := by
  show ∀ q ∈ lw_privs_1 ++ (lw_privs_2), lw_okq q
  exact List.forall_mem_append.mpr ⟨lw_r1, lw_r2⟩
end
section
/-! names of the classes, their fields; the words of each are among the tables -/
def R_law : String := "CupClaimsLaw"
def m_RM : String := "java/lang/Math"
def m_RI : String := "java/lang/Integer"
def m_RF : String := "java/lang/Float"
def RX0 : String := "CupClaims$Chances"
def TX0 : u_T := fun k => match k with
  | 0 => ("CupClaims$Chances", "byOneFace", "LCupClaims$Spread;", true)
  | _ => ("CupClaims$Chances", "byTwoFaces", "LCupClaims$Spread;", true)
def tyX0 : Nat → FieldType := fun k => match k with
  | 0 => .object "CupClaims$Spread"
  | _ => .object "CupClaims$Spread"
abbrev wsX00 : List Cond := u_ws RX0 TX0 2
theorem nmX0 : ∀ a, a < 2 → ∀ b, b < 2 → a ≠ b → (TX0 a).2.1 ≠ (TX0 b).2.1 := by decide +kernel
theorem tyX0_ok : ∀ k, k < 2 → parseFieldDescriptor (TX0 k).2.2.1 = some (tyX0 k) := by decide +kernel
def RX1 : String := "CupClaims$DiceReader"
def TX1 : u_T := fun k => match k with
  | 0 => ("CupClaims$DiceReader", "faces", "[I", true)
  | 1 => ("CupClaims$DiceReader", "cup", "I", false)
  | _ => ("CupClaims$DiceReader", "inCup", "I", false)
def tyX1 : Nat → FieldType := fun k => match k with
  | 0 => .array .int
  | 1 => .int
  | _ => .int
abbrev wsX10 : List Cond := u_ws RX1 TX1 3
theorem nmX1 : ∀ a, a < 3 → ∀ b, b < 3 → a ≠ b → (TX1 a).2.1 ≠ (TX1 b).2.1 := by decide +kernel
theorem tyX1_ok : ∀ k, k < 3 → parseFieldDescriptor (TX1 k).2.2.1 = some (tyX1 k) := by decide +kernel
def RX2 : String := "CupClaims$History"
def TX2 : u_T := fun k => match k with
  | 0 => ("CupClaims$History", "ring", "[LCupClaims$Table;", true)
  | 1 => ("CupClaims$History", "oldest", "I", false)
  | _ => ("CupClaims$History", "size", "I", false)
def tyX2 : Nat → FieldType := fun k => match k with
  | 0 => .array (.object "CupClaims$Table")
  | 1 => .int
  | _ => .int
abbrev wsX20 : List Cond := u_ws RX2 TX2 3
theorem nmX2 : ∀ a, a < 3 → ∀ b, b < 3 → a ≠ b → (TX2 a).2.1 ≠ (TX2 b).2.1 := by decide +kernel
theorem tyX2_ok : ∀ k, k < 3 → parseFieldDescriptor (TX2 k).2.2.1 = some (tyX2 k) := by decide +kernel
def RX3 : String := "CupClaims$Matrix"
def TX3 : u_T := fun k => match k with
  | 0 => ("CupClaims$Matrix", "rows", "I", false)
  | 1 => ("CupClaims$Matrix", "columns", "I", false)
  | _ => ("CupClaims$Matrix", "entries", "[I", true)
def tyX3 : Nat → FieldType := fun k => match k with
  | 0 => .int
  | 1 => .int
  | _ => .array .int
abbrev wsX30 : List Cond := u_ws RX3 TX3 3
theorem nmX3 : ∀ a, a < 3 → ∀ b, b < 3 → a ≠ b → (TX3 a).2.1 ≠ (TX3 b).2.1 := by decide +kernel
theorem tyX3_ok : ∀ k, k < 3 → parseFieldDescriptor (TX3 k).2.2.1 = some (tyX3 k) := by decide +kernel
def RX4 : String := "CupClaims$MatrixReader"
def TX4 : u_T := fun k => match k with
  | 0 => ("CupClaims$MatrixReader", "matrix", "LCupClaims$Matrix;", true)
  | 1 => ("CupClaims$MatrixReader", "row", "I", false)
  | 2 => ("CupClaims$MatrixReader", "inRow", "I", false)
  | 3 => ("CupClaims$MatrixReader", "mostInRow", "I", false)
  | 4 => ("CupClaims$MatrixReader", "digits", "I", false)
  | 5 => ("CupClaims$MatrixReader", "behindMinus", "Z", false)
  | _ => ("CupClaims$MatrixReader", "negative", "Z", false)
def tyX4 : Nat → FieldType := fun k => match k with
  | 0 => .object "CupClaims$Matrix"
  | 1 => .int
  | 2 => .int
  | 3 => .int
  | 4 => .int
  | 5 => .boolean
  | _ => .boolean
abbrev wsX40 : List Cond := u_ws RX4 TX4 7
theorem nmX4 : ∀ a, a < 7 → ∀ b, b < 7 → a ≠ b → (TX4 a).2.1 ≠ (TX4 b).2.1 := by decide +kernel
theorem tyX4_ok : ∀ k, k < 7 → parseFieldDescriptor (TX4 k).2.2.1 = some (tyX4 k) := by decide +kernel
def RX5 : String := "CupClaims$Solution"
def TX5 : u_T := fun k => match k with
  | 0 => ("CupClaims$Solution", "minors", "[J", true)
  | 1 => ("CupClaims$Solution", "rowParts", "[J", true)
  | 2 => ("CupClaims$Solution", "columnParts", "[J", true)
  | 3 => ("CupClaims$Solution", "solved", "LCupClaims$Matrix;", true)
  | 4 => ("CupClaims$Solution", "value", "J", false)
  | _ => ("CupClaims$Solution", "whole", "J", false)
def tyX5 : Nat → FieldType := fun k => match k with
  | 0 => .array .long
  | 1 => .array .long
  | 2 => .array .long
  | 3 => .object "CupClaims$Matrix"
  | 4 => .long
  | _ => .long
abbrev wsX50 : List Cond := u_ws RX5 TX5 6
theorem nmX5 : ∀ a, a < 6 → ∀ b, b < 6 → a ≠ b → (TX5 a).2.1 ≠ (TX5 b).2.1 := by decide +kernel
theorem tyX5_ok : ∀ k, k < 6 → parseFieldDescriptor (TX5 k).2.2.1 = some (tyX5 k) := by decide +kernel
def RX6 : String := "CupClaims$Spread"
def TX6 : u_T := fun k => match k with
  | 0 => ("CupClaims$Spread", "countingFaces", "I", true)
  | 1 => ("CupClaims$Spread", "dice", "I", false)
  | 2 => ("CupClaims$Spread", "exactly", "[J", true)
  | _ => ("CupClaims$Spread", "least", "[J", true)
def tyX6 : Nat → FieldType := fun k => match k with
  | 0 => .int
  | 1 => .int
  | 2 => .array .long
  | _ => .array .long
abbrev wsX60 : List Cond := u_ws RX6 TX6 4
theorem nmX6 : ∀ a, a < 4 → ∀ b, b < 4 → a ≠ b → (TX6 a).2.1 ≠ (TX6 b).2.1 := by decide +kernel
theorem tyX6_ok : ∀ k, k < 4 → parseFieldDescriptor (TX6 k).2.2.1 = some (tyX6 k) := by decide +kernel
def RX7 : String := "CupClaims$Table"
def TX7 : u_T := fun k => match k with
  | 0 => ("CupClaims$Table", "players", "I", false)
  | 1 => ("CupClaims$Table", "wild", "Z", false)
  | 2 => ("CupClaims$Table", "dealt", "Z", false)
  | 3 => ("CupClaims$Table", "turn", "I", false)
  | 4 => ("CupClaims$Table", "claimed", "I", false)
  | 5 => ("CupClaims$Table", "claimedFace", "I", false)
  | 6 => ("CupClaims$Table", "claimant", "I", false)
  | 7 => ("CupClaims$Table", "rounds", "I", false)
  | 8 => ("CupClaims$Table", "rightDoubts", "I", false)
  | 9 => ("CupClaims$Table", "dice", "[I", true)
  | 10 => ("CupClaims$Table", "roundsLost", "[I", true)
  | 11 => ("CupClaims$Table", "exactCalls", "[I", true)
  | 12 => ("CupClaims$Table", "faces", "[I", true)
  | _ => ("CupClaims$Table", "matrix", "LCupClaims$Matrix;", true)
def tyX7 : Nat → FieldType := fun k => match k with
  | 0 => .int
  | 1 => .boolean
  | 2 => .boolean
  | 3 => .int
  | 4 => .int
  | 5 => .int
  | 6 => .int
  | 7 => .int
  | 8 => .int
  | 9 => .array .int
  | 10 => .array .int
  | 11 => .array .int
  | 12 => .array .int
  | _ => .object "CupClaims$Matrix"
abbrev wsX70 : List Cond := u_ws RX7 TX7 14
theorem nmX7 : ∀ a, a < 14 → ∀ b, b < 14 → a ≠ b → (TX7 a).2.1 ≠ (TX7 b).2.1 := by decide +kernel
theorem tyX7_ok : ∀ k, k < 14 → parseFieldDescriptor (TX7 k).2.2.1 = some (tyX7 k) := by decide +kernel
def RX8 : String := "CupClaims$Text"
def TX8 : u_T := fun k => match k with
  | 0 => ("CupClaims$Text", "letters", "[B", true)
  | _ => ("CupClaims$Text", "length", "I", false)
def tyX8 : Nat → FieldType := fun k => match k with
  | 0 => .array .byte
  | _ => .int
abbrev wsX80 : List Cond := u_ws RX8 TX8 2
theorem nmX8 : ∀ a, a < 2 → ∀ b, b < 2 → a ≠ b → (TX8 a).2.1 ≠ (TX8 b).2.1 := by decide +kernel
theorem tyX8_ok : ∀ k, k < 2 → parseFieldDescriptor (TX8 k).2.2.1 = some (tyX8 k) := by decide +kernel
def RX9 : String := "CupClaims"
def TX9 : u_T := fun k => match k with
  | 0 => ("CupClaims", "text", "LCupClaims$Text;", true)
  | 1 => ("CupClaims", "diceReader", "LCupClaims$DiceReader;", true)
  | 2 => ("CupClaims", "matrixReader", "LCupClaims$MatrixReader;", true)
  | 3 => ("CupClaims", "table", "LCupClaims$Table;", true)
  | 4 => ("CupClaims", "history", "LCupClaims$History;", true)
  | 5 => ("CupClaims", "chances", "LCupClaims$Chances;", true)
  | _ => ("CupClaims", "solution", "LCupClaims$Solution;", true)
def tyX9 : Nat → FieldType := fun k => match k with
  | 0 => .object "CupClaims$Text"
  | 1 => .object "CupClaims$DiceReader"
  | 2 => .object "CupClaims$MatrixReader"
  | 3 => .object "CupClaims$Table"
  | 4 => .object "CupClaims$History"
  | 5 => .object "CupClaims$Chances"
  | _ => .object "CupClaims$Solution"
abbrev wsX90 : List Cond := u_ws RX9 TX9 7
theorem nmX9 : ∀ a, a < 7 → ∀ b, b < 7 → a ≠ b → (TX9 a).2.1 ≠ (TX9 b).2.1 := by decide +kernel
theorem tyX9_ok : ∀ k, k < 7 → parseFieldDescriptor (TX9 k).2.2.1 = some (tyX9 k) := by decide +kernel
abbrev vwCl : List vw_C := [(RX0, TX0, 2), (RX1, TX1, 3), (RX2, TX2, 3), (RX3, TX3, 3), (RX4, TX4, 7), (RX5, TX5, 6), (RX6, TX6, 4), (RX7, TX7, 14), (RX8, TX8, 2), (RX9, TX9, 7)]
theorem m_inp {ws : List Cond} (ps : List Nat) (hp : ws = ps.filterMap (fun i => lw_tbl[i]?)) (hg : ws.all goodWord = true) : ∀ w ∈ ws, w ∈ lw_tbl.filter goodWord := by
  intro w hw
  have h1 := List.all_eq_true.mp hg w hw
  rw [hp] at hw
  obtain ⟨i, -, hi⟩ := List.mem_filterMap.mp hw
  exact List.mem_filter.mpr ⟨List.mem_of_getElem? hi, h1⟩
theorem m_inX0 : ∀ w ∈ wsX00, w ∈ lw_tbl.filter goodWord := m_inp [248, 250] (by decide +kernel) (by decide +kernel)
theorem m_inX1 : ∀ w ∈ wsX10, w ∈ lw_tbl.filter goodWord := m_inp [75, 77, 79] (by decide +kernel) (by decide +kernel)
theorem m_inX2 : ∀ w ∈ wsX20, w ∈ lw_tbl.filter goodWord := m_inp [214, 216, 218] (by decide +kernel) (by decide +kernel)
theorem m_inX3 : ∀ w ∈ wsX30, w ∈ lw_tbl.filter goodWord := m_inp [104, 106, 108] (by decide +kernel) (by decide +kernel)
theorem m_inX4 : ∀ w ∈ wsX40, w ∈ lw_tbl.filter goodWord := m_inp [118, 120, 122, 124, 126, 128, 130] (by decide +kernel) (by decide +kernel)
theorem m_inX5 : ∀ w ∈ wsX50, w ∈ lw_tbl.filter goodWord := m_inp [267, 269, 271, 273, 275, 277] (by decide +kernel) (by decide +kernel)
theorem m_inX6 : ∀ w ∈ wsX60, w ∈ lw_tbl.filter goodWord := m_inp [236, 238, 240, 242] (by decide +kernel) (by decide +kernel)
theorem m_inX7 : ∀ w ∈ wsX70, w ∈ lw_tbl.filter goodWord := m_inp [172, 174, 176, 178, 180, 182, 184, 186, 188, 190, 192, 194, 196, 198] (by decide +kernel) (by decide +kernel)
theorem m_inX8 : ∀ w ∈ wsX80, w ∈ lw_tbl.filter goodWord := m_inp [59, 61] (by decide +kernel) (by decide +kernel)
theorem m_inX9 : ∀ w ∈ wsX90, w ∈ lw_tbl.filter goodWord := m_inp [287, 289, 291, 293, 295, 297, 299] (by decide +kernel) (by decide +kernel)
def m_cn (k : Nat) : String := match k with
  | 0 => RX0
  | 1 => RX1
  | 2 => RX2
  | 3 => RX3
  | 4 => RX4
  | 5 => RX5
  | 6 => RX6
  | 7 => RX7
  | 8 => RX8
  | 9 => RX9
  | 10 => R_law
  | 11 => m_RM
  | 12 => m_RI
  | _ => m_RF
def m_T (k : Nat) : u_T := match k with
  | 0 => TX0
  | 1 => TX1
  | 2 => TX2
  | 3 => TX3
  | 4 => TX4
  | 5 => TX5
  | 6 => TX6
  | 7 => TX7
  | 8 => TX8
  | _ => TX9
def m_ty (k : Nat) : Nat → FieldType := match k with
  | 0 => tyX0
  | 1 => tyX1
  | 2 => tyX2
  | 3 => tyX3
  | 4 => tyX4
  | 5 => tyX5
  | 6 => tyX6
  | 7 => tyX7
  | 8 => tyX8
  | _ => tyX9
/-- the kinds of the fields: 0 int, 1 boolean, 2 long, 3 a reference -/
def m_FC : List (List Nat) := [[3, 3], [3, 0, 0], [3, 0, 0], [0, 0, 3], [3, 0, 0, 0, 0, 1, 1], [3, 3, 3, 3, 2, 2], [0, 0, 3, 3], [0, 1, 1, 0, 0, 0, 0, 0, 0, 3, 3, 3, 3, 3], [3, 0], [3, 3, 3, 3, 3, 3, 3]]
end
section
/-! THE PURE MACHINE: instructions as numbers -/
/-- an instruction: its number, two small numbers, a constant -/
abbrev m_P : Type := Nat × Nat × Nat × Int
end
section
/-! the methods and their code, as numbers; the places of their words -/
/-- CupClaims.<init>()V -/
def m_c0 : List (Nat × List m_P) := [(0, [(17, 0, 0, 0), (67, 0, 0, 0), (17, 0, 0, 0), (57, 8, 0, 2), (50, 0, 0, 0), (7, 1, 1, -2), (54, 9, 0, 3), (17, 0, 0, 0), (57, 1, 0, 3), (50, 0, 0, 0), (7, 2, 1, -2), (54, 9, 1, 3), (17, 0, 0, 0), (57, 4, 0, 7), (50, 0, 0, 0), (7, 3, 1, -2), (54, 9, 2, 3), (17, 0, 0, 0), (57, 7, 0, 14), (50, 0, 0, 0), (7, 5, 1, -2), (54, 9, 3, 3), (17, 0, 0, 0), (57, 2, 0, 3), (50, 0, 0, 0), (7, 7, 1, -2), (54, 9, 4, 3), (17, 0, 0, 0), (57, 0, 0, 2), (50, 0, 0, 0), (7, 8, 1, -2), (54, 9, 5, 3), (17, 0, 0, 0), (57, 5, 0, 6), (50, 0, 0, 0), (7, 10, 1, -2), (54, 9, 6, 3), (6, 0, 0, 0)])]
/-- Text.<init>()V -/
def m_c1 : List (Nat × List m_P) := [(0, [(17, 0, 0, 0), (67, 0, 0, 0), (17, 0, 0, 0), (10, 0, 0, 60), (55, 3, 0, 0), (54, 8, 0, 3), (6, 0, 0, 0)])]
/-- DiceReader.<init>()V -/
def m_c2 : List (Nat × List m_P) := [(0, [(17, 0, 0, 0), (67, 0, 0, 0), (17, 0, 0, 0), (10, 0, 0, 25), (55, 1, 0, 0), (54, 1, 0, 3), (6, 0, 0, 0)])]
/-- MatrixReader.<init>()V -/
def m_c3 : List (Nat × List m_P) := [(0, [(17, 0, 0, 0), (67, 0, 0, 0), (17, 0, 0, 0), (57, 3, 0, 3), (50, 0, 0, 0), (7, 4, 1, -2), (54, 4, 0, 3), (6, 0, 0, 0)])]
/-- Matrix.<init>()V -/
def m_c4 : List (Nat × List m_P) := [(0, [(17, 0, 0, 0), (67, 0, 0, 0), (17, 0, 0, 0), (10, 0, 0, 1), (54, 3, 0, 0), (17, 0, 0, 0), (10, 0, 0, 1), (54, 3, 1, 0), (17, 0, 0, 0), (10, 0, 0, 16), (55, 1, 0, 0), (54, 3, 2, 3), (6, 0, 0, 0)])]
/-- Table.<init>()V -/
def m_c5 : List (Nat × List m_P) := [(0, [(17, 0, 0, 0), (67, 0, 0, 0), (17, 0, 0, 0), (10, 0, 0, 1), (54, 7, 1, 1), (17, 0, 0, 0), (10, 0, 0, 5), (55, 1, 0, 0), (54, 7, 9, 3), (17, 0, 0, 0), (10, 0, 0, 5), (55, 1, 0, 0), (54, 7, 10, 3), (17, 0, 0, 0), (10, 0, 0, 5), (55, 1, 0, 0), (54, 7, 11, 3), (17, 0, 0, 0), (10, 0, 0, 25), (55, 1, 0, 0), (54, 7, 12, 3), (17, 0, 0, 0), (57, 3, 0, 3), (50, 0, 0, 0), (7, 4, 1, -2), (54, 7, 13, 3), (17, 0, 0, 0), (10, 0, 0, 2), (7, 6, 2, 7), (6, 0, 0, 0)])]
/-- Table.begin(I)V -/
def m_c6 : List (Nat × List m_P) := [(0, [(17, 0, 0, 0), (14, 1, 0, 0), (54, 7, 0, 0), (17, 0, 0, 0), (10, 0, 0, 0), (54, 7, 2, 1), (17, 0, 0, 0), (10, 0, 0, 0), (54, 7, 3, 0), (17, 0, 0, 0), (10, 0, 0, 0), (54, 7, 4, 0), (17, 0, 0, 0), (10, 0, 0, 0), (54, 7, 7, 0), (17, 0, 0, 0), (10, 0, 0, 0), (54, 7, 8, 0), (10, 0, 0, 0), (18, 2, 0, 0), (8, 1, 0, 0)]), (32, [(14, 2, 0, 0), (10, 0, 0, 5), (2, 3, 6, 0), (8, 2, 0, 0)]), (37, [(17, 0, 0, 0), (53, 7, 9, 3), (14, 2, 0, 0), (14, 2, 0, 0), (14, 1, 0, 0), (2, 3, 4, 0), (8, 3, 0, 0)]), (47, [(10, 0, 0, 5), (0, 5, 0, 0)]), (51, [(10, 0, 0, 0), (8, 5, 0, 0)]), (52, [(63, 0, 0, 0), (17, 0, 0, 0), (53, 7, 10, 3), (14, 2, 0, 0), (10, 0, 0, 0), (63, 0, 0, 0), (17, 0, 0, 0), (53, 7, 11, 3), (14, 2, 0, 0), (10, 0, 0, 0), (63, 0, 0, 0), (22, 2, 0, 1), (0, 1, 0, 0)]), (73, [(6, 0, 0, 0)])]
/-- History.<init>()V -/
def m_c7 : List (Nat × List m_P) := [(0, [(17, 0, 0, 0), (67, 0, 0, 0), (17, 0, 0, 0), (10, 0, 0, 8), (56, 0, 0, 0), (54, 2, 0, 3), (10, 0, 0, 0), (18, 1, 0, 0), (8, 1, 0, 0)]), (15, [(14, 1, 0, 0), (10, 0, 0, 8), (2, 3, 3, 0), (8, 2, 0, 0)]), (21, [(17, 0, 0, 0), (53, 2, 0, 3), (14, 1, 0, 0), (57, 7, 0, 14), (50, 0, 0, 0), (7, 5, 1, -2), (66, 0, 0, 0), (22, 1, 0, 1), (0, 1, 0, 0)]), (40, [(6, 0, 0, 0)])]
/-- Chances.<init>()V -/
def m_c8 : List (Nat × List m_P) := [(0, [(17, 0, 0, 0), (67, 0, 0, 0), (17, 0, 0, 0), (57, 6, 0, 4), (50, 0, 0, 0), (10, 0, 0, 1), (7, 9, 2, -2), (54, 0, 0, 3), (17, 0, 0, 0), (57, 6, 0, 4), (50, 0, 0, 0), (10, 0, 0, 2), (7, 9, 2, -2), (54, 0, 1, 3), (6, 0, 0, 0)])]
/-- Spread.<init>(I)V -/
def m_c9 : List (Nat × List m_P) := [(0, [(17, 0, 0, 0), (67, 0, 0, 0), (17, 0, 0, 0), (10, 0, 0, 21), (55, 2, 0, 0), (54, 6, 2, 3), (17, 0, 0, 0), (10, 0, 0, 22), (55, 2, 0, 0), (54, 6, 3, 3), (17, 0, 0, 0), (14, 1, 0, 0), (54, 6, 0, 0), (17, 0, 0, 0), (53, 6, 2, 3), (10, 0, 0, 0), (11, 0, 0, 1), (64, 0, 0, 0), (17, 0, 0, 0), (53, 6, 3, 3), (10, 0, 0, 0), (11, 0, 0, 1), (64, 0, 0, 0), (6, 0, 0, 0)])]
/-- Solution.<init>()V -/
def m_c10 : List (Nat × List m_P) := [(0, [(17, 0, 0, 0), (67, 0, 0, 0), (17, 0, 0, 0), (10, 0, 0, 256), (55, 2, 0, 0), (54, 5, 0, 3), (17, 0, 0, 0), (10, 0, 0, 4), (55, 2, 0, 0), (54, 5, 1, 3), (17, 0, 0, 0), (10, 0, 0, 4), (55, 2, 0, 0), (54, 5, 2, 3), (17, 0, 0, 0), (57, 3, 0, 3), (50, 0, 0, 0), (7, 4, 1, -2), (54, 5, 3, 3), (17, 0, 0, 0), (11, 0, 0, 1), (54, 5, 5, 2), (17, 0, 0, 0), (53, 5, 1, 3), (10, 0, 0, 0), (11, 0, 0, 1), (64, 0, 0, 0), (17, 0, 0, 0), (53, 5, 2, 3), (10, 0, 0, 0), (11, 0, 0, 1), (64, 0, 0, 0), (6, 0, 0, 0)])]
/-- CupClaims.type(I)I -/
def m_c11 : List (Nat × List m_P) := [(0, [(14, 1, 0, 0), (1, 2, 2, 0), (8, 1, 0, 0)]), (4, [(14, 1, 0, 0), (10, 0, 0, 127), (2, 5, 3, 0), (8, 2, 0, 0)]), (10, [(10, 0, 0, -1000), (6, 1, 0, 0)]), (14, [(17, 0, 0, 0), (53, 9, 0, 3), (14, 1, 0, 0), (7, 12, 2, 8), (1, 0, 5, 0), (8, 4, 0, 0)]), (25, [(17, 0, 0, 0), (53, 9, 0, 3), (53, 8, 1, 0), (0, 6, 0, 0)]), (35, [(10, 0, 0, -1002), (8, 6, 0, 0)]), (38, [(6, 1, 0, 0)])]
/-- Text.append(I)Z -/
def m_c12 : List (Nat × List m_P) := [(0, [(17, 0, 0, 0), (53, 8, 1, 0), (1, 2, 2, 0), (8, 1, 0, 0)]), (7, [(17, 0, 0, 0), (53, 8, 1, 0), (10, 0, 0, 60), (2, 2, 3, 0), (8, 2, 0, 0)]), (16, [(10, 0, 0, 0), (6, 2, 0, 0)]), (18, [(17, 0, 0, 0), (53, 8, 0, 3), (17, 0, 0, 0), (53, 8, 1, 0), (14, 1, 0, 0), (44, 0, 0, 0), (65, 0, 0, 0), (17, 0, 0, 0), (50, 0, 0, 0), (53, 8, 1, 0), (10, 0, 0, 1), (23, 0, 0, 0), (54, 8, 1, 0), (10, 0, 0, 1), (6, 2, 0, 0)])]
/-- CupClaims.clearText()I -/
def m_c13 : List (Nat × List m_P) := [(0, [(17, 0, 0, 0), (53, 9, 0, 3), (53, 8, 1, 0), (18, 1, 0, 0), (17, 0, 0, 0), (53, 9, 0, 3), (10, 0, 0, 0), (54, 8, 1, 0), (14, 1, 0, 0), (6, 1, 0, 0)])]
/-- CupClaims.fault(Z)I -/
def m_c14 : List (Nat × List m_P) := [(0, [(14, 1, 0, 0), (1, 0, 2, 0), (8, 1, 0, 0)]), (4, [(17, 0, 0, 0), (53, 9, 2, 3), (17, 0, 0, 0), (53, 9, 0, 3), (7, 15, 2, 4), (0, 3, 0, 0)]), (18, [(17, 0, 0, 0), (53, 9, 1, 3), (17, 0, 0, 0), (53, 9, 0, 3), (17, 0, 0, 0), (53, 9, 3, 3), (7, 25, 3, 1), (8, 3, 0, 0)]), (33, [(6, 1, 0, 0)])]
/-- MatrixReader.faultOf(LText;)I -/
def m_c15 : List (Nat × List m_P) := [(0, [(17, 0, 0, 0), (10, 0, 0, 0), (54, 4, 1, 0), (17, 0, 0, 0), (10, 0, 0, 0), (54, 4, 2, 0), (17, 0, 0, 0), (10, 0, 0, 4), (54, 4, 3, 0), (17, 0, 0, 0), (10, 0, 0, 0), (54, 4, 4, 0), (17, 0, 0, 0), (10, 0, 0, 0), (54, 4, 5, 1), (10, 0, 0, 0), (18, 2, 0, 0), (8, 1, 0, 0)]), (27, [(14, 2, 0, 0), (17, 1, 0, 0), (53, 8, 1, 0), (2, 3, 5, 0), (8, 2, 0, 0)]), (35, [(17, 0, 0, 0), (17, 1, 0, 0), (14, 2, 0, 0), (7, 16, 2, 8), (7, 17, 2, 4), (1, 1, 4, 0), (8, 3, 0, 0)]), (47, [(14, 2, 0, 0), (6, 1, 0, 0)]), (49, [(22, 2, 0, 1), (0, 1, 0, 0)]), (55, [(17, 0, 0, 0), (53, 4, 5, 1), (1, 1, 7, 0), (8, 6, 0, 0)]), (62, [(17, 0, 0, 0), (7, 24, 1, 4), (1, 1, 8, 0), (8, 7, 0, 0)]), (69, [(17, 1, 0, 0), (53, 8, 1, 0), (6, 1, 0, 0)]), (74, [(17, 0, 0, 0), (53, 4, 0, 3), (17, 0, 0, 0), (53, 4, 1, 0), (10, 0, 0, 1), (23, 0, 0, 0), (54, 3, 0, 0), (17, 0, 0, 0), (53, 4, 0, 3), (17, 0, 0, 0), (53, 4, 2, 0), (54, 3, 1, 0), (10, 0, 0, -1003), (6, 1, 0, 0)])]
/-- Text.at(I)I -/
def m_c16 : List (Nat × List m_P) := [(0, [(14, 1, 0, 0), (1, 2, 3, 0), (8, 1, 0, 0)]), (4, [(14, 1, 0, 0), (10, 0, 0, 60), (2, 3, 3, 0), (8, 2, 0, 0)]), (10, [(17, 0, 0, 0), (53, 8, 0, 3), (14, 1, 0, 0), (61, 0, 0, 0), (0, 4, 0, 0)]), (19, [(10, 0, 0, 0), (8, 4, 0, 0)]), (20, [(6, 1, 0, 0)])]
/-- MatrixReader.takes(I)Z -/
def m_c17 : List (Nat × List m_P) := [(0, [(14, 1, 0, 0), (10, 0, 0, 48), (2, 2, 3, 0), (8, 1, 0, 0)]), (6, [(14, 1, 0, 0), (10, 0, 0, 57), (2, 4, 3, 0), (8, 2, 0, 0)]), (12, [(17, 0, 0, 0), (14, 1, 0, 0), (10, 0, 0, 48), (24, 0, 0, 0), (7, 18, 2, 4), (6, 2, 0, 0)]), (21, [(17, 0, 0, 0), (53, 4, 5, 1), (1, 0, 5, 0), (8, 4, 0, 0)]), (28, [(10, 0, 0, 0), (6, 2, 0, 0)]), (30, [(17, 0, 0, 0), (10, 0, 0, 0), (54, 4, 4, 0), (14, 1, 0, 0), (9, 0, 0, 0)]), (72, [(10, 0, 0, 1), (6, 2, 0, 0)]), (74, [(17, 0, 0, 0), (17, 0, 0, 0), (10, 0, 0, 1), (7, 19, 2, 4), (54, 4, 5, 1), (17, 0, 0, 0), (53, 4, 5, 1), (6, 2, 0, 0)]), (88, [(17, 0, 0, 0), (7, 23, 1, 4), (6, 2, 0, 0)]), (93, [(10, 0, 0, 0), (6, 2, 0, 0)])]
/-- MatrixReader.takesDigit(I)Z -/
def m_c18 : List (Nat × List m_P) := [(0, [(17, 0, 0, 0), (53, 4, 4, 0), (1, 1, 3, 0), (8, 1, 0, 0)]), (7, [(17, 0, 0, 0), (53, 4, 5, 1), (1, 1, 3, 0), (8, 2, 0, 0)]), (14, [(10, 0, 0, 1), (0, 4, 0, 0)]), (18, [(10, 0, 0, 0), (8, 4, 0, 0)]), (19, [(18, 2, 0, 0), (17, 0, 0, 0), (53, 4, 4, 0), (10, 0, 0, 2), (2, 0, 7, 0), (8, 5, 0, 0)]), (28, [(14, 2, 0, 0), (1, 0, 8, 0), (8, 6, 0, 0)]), (32, [(17, 0, 0, 0), (10, 0, 0, 0), (7, 19, 2, 4), (1, 1, 8, 0), (8, 7, 0, 0)]), (40, [(10, 0, 0, 0), (6, 2, 0, 0)]), (42, [(10, 0, 0, 10), (17, 0, 0, 0), (53, 4, 0, 3), (17, 0, 0, 0), (53, 4, 1, 0), (17, 0, 0, 0), (53, 4, 2, 0), (10, 0, 0, 1), (24, 0, 0, 0), (7, 22, 3, 3), (25, 0, 0, 0), (18, 3, 0, 0), (17, 0, 0, 0), (53, 4, 0, 3), (17, 0, 0, 0), (53, 4, 1, 0), (17, 0, 0, 0), (53, 4, 2, 0), (10, 0, 0, 1), (24, 0, 0, 0), (17, 0, 0, 0), (53, 4, 6, 1), (1, 0, 10, 0), (8, 9, 0, 0)]), (84, [(14, 3, 0, 0), (14, 1, 0, 0), (24, 0, 0, 0), (0, 11, 0, 0)]), (90, [(14, 3, 0, 0), (14, 1, 0, 0), (23, 0, 0, 0), (8, 11, 0, 0)]), (93, [(7, 20, 4, 3), (17, 0, 0, 0), (10, 0, 0, 0), (54, 4, 5, 1), (17, 0, 0, 0), (50, 0, 0, 0), (53, 4, 4, 0), (10, 0, 0, 1), (23, 0, 0, 0), (54, 4, 4, 0), (10, 0, 0, 1), (6, 2, 0, 0)])]
/-- MatrixReader.opensEntry(Z)Z -/
def m_c19 : List (Nat × List m_P) := [(0, [(17, 0, 0, 0), (53, 4, 2, 0), (17, 0, 0, 0), (53, 4, 3, 0), (2, 2, 2, 0), (8, 1, 0, 0)]), (11, [(10, 0, 0, 0), (6, 2, 0, 0)]), (13, [(17, 0, 0, 0), (53, 4, 0, 3), (17, 0, 0, 0), (53, 4, 1, 0), (17, 0, 0, 0), (53, 4, 2, 0), (10, 0, 0, 0), (7, 20, 4, 3), (17, 0, 0, 0), (50, 0, 0, 0), (53, 4, 2, 0), (10, 0, 0, 1), (23, 0, 0, 0), (54, 4, 2, 0), (17, 0, 0, 0), (14, 1, 0, 0), (54, 4, 6, 1), (10, 0, 0, 1), (6, 2, 0, 0)])]
/-- Matrix.put(III)V -/
def m_c20 : List (Nat × List m_P) := [(0, [(17, 0, 0, 0), (14, 1, 0, 0), (14, 2, 0, 0), (7, 21, 3, 3), (1, 0, 2, 0), (8, 1, 0, 0)]), (9, [(17, 0, 0, 0), (53, 3, 2, 3), (14, 1, 0, 0), (10, 0, 0, 4), (25, 0, 0, 0), (14, 2, 0, 0), (23, 0, 0, 0), (14, 3, 0, 0), (63, 0, 0, 0), (8, 2, 0, 0)]), (20, [(6, 0, 0, 0)])]
/-- Matrix.isPlace(II)Z -/
def m_c21 : List (Nat × List m_P) := [(0, [(14, 1, 0, 0), (1, 2, 5, 0), (8, 1, 0, 0)]), (4, [(14, 1, 0, 0), (10, 0, 0, 4), (2, 3, 5, 0), (8, 2, 0, 0)]), (9, [(14, 2, 0, 0), (1, 2, 5, 0), (8, 3, 0, 0)]), (13, [(14, 2, 0, 0), (10, 0, 0, 4), (2, 3, 5, 0), (8, 4, 0, 0)]), (18, [(10, 0, 0, 1), (0, 6, 0, 0)]), (22, [(10, 0, 0, 0), (8, 6, 0, 0)]), (23, [(6, 2, 0, 0)])]
/-- Matrix.at(II)I -/
def m_c22 : List (Nat × List m_P) := [(0, [(17, 0, 0, 0), (14, 1, 0, 0), (14, 2, 0, 0), (7, 21, 3, 3), (1, 0, 2, 0), (8, 1, 0, 0)]), (9, [(17, 0, 0, 0), (53, 3, 2, 3), (14, 1, 0, 0), (10, 0, 0, 4), (25, 0, 0, 0), (14, 2, 0, 0), (23, 0, 0, 0), (59, 0, 0, 0), (0, 3, 0, 0)]), (22, [(10, 0, 0, 0), (8, 3, 0, 0)]), (23, [(6, 1, 0, 0)])]
/-- MatrixReader.takesSlash()Z -/
def m_c23 : List (Nat × List m_P) := [(0, [(17, 0, 0, 0), (7, 24, 1, 4), (1, 0, 2, 0), (8, 1, 0, 0)]), (7, [(17, 0, 0, 0), (53, 4, 1, 0), (10, 0, 0, 1), (23, 0, 0, 0), (10, 0, 0, 4), (2, 2, 3, 0), (8, 2, 0, 0)]), (17, [(10, 0, 0, 0), (6, 2, 0, 0)]), (19, [(17, 0, 0, 0), (17, 0, 0, 0), (53, 4, 2, 0), (54, 4, 3, 0), (17, 0, 0, 0), (50, 0, 0, 0), (53, 4, 1, 0), (10, 0, 0, 1), (23, 0, 0, 0), (54, 4, 1, 0), (17, 0, 0, 0), (10, 0, 0, 0), (54, 4, 2, 0), (10, 0, 0, 1), (6, 2, 0, 0)])]
/-- MatrixReader.rowIsComplete()Z -/
def m_c24 : List (Nat × List m_P) := [(0, [(17, 0, 0, 0), (53, 4, 1, 0), (1, 1, 4, 0), (8, 1, 0, 0)]), (7, [(17, 0, 0, 0), (53, 4, 2, 0), (1, 5, 3, 0), (8, 2, 0, 0)]), (14, [(10, 0, 0, 1), (0, 7, 0, 0)]), (18, [(10, 0, 0, 0), (0, 7, 0, 0)]), (22, [(17, 0, 0, 0), (53, 4, 2, 0), (17, 0, 0, 0), (53, 4, 3, 0), (2, 1, 6, 0), (8, 5, 0, 0)]), (33, [(10, 0, 0, 1), (0, 7, 0, 0)]), (37, [(10, 0, 0, 0), (8, 7, 0, 0)]), (38, [(6, 2, 0, 0)])]
/-- DiceReader.faultOf(LText;LTable;)I -/
def m_c25 : List (Nat × List m_P) := [(0, [(17, 0, 0, 0), (17, 2, 0, 0), (10, 0, 0, 0), (7, 26, 2, 7), (54, 1, 1, 0), (17, 0, 0, 0), (10, 0, 0, 0), (54, 1, 2, 0), (10, 0, 0, 0), (18, 3, 0, 0), (8, 1, 0, 0)]), (16, [(14, 3, 0, 0), (17, 1, 0, 0), (53, 8, 1, 0), (2, 3, 5, 0), (8, 2, 0, 0)]), (24, [(17, 0, 0, 0), (17, 1, 0, 0), (14, 3, 0, 0), (7, 16, 2, 8), (17, 2, 0, 0), (7, 27, 3, 1), (1, 1, 4, 0), (8, 3, 0, 0)]), (37, [(14, 3, 0, 0), (6, 1, 0, 0)]), (39, [(22, 3, 0, 1), (0, 1, 0, 0)]), (45, [(17, 0, 0, 0), (53, 1, 2, 0), (17, 2, 0, 0), (17, 0, 0, 0), (53, 1, 1, 0), (7, 29, 2, 7), (2, 1, 8, 0), (8, 6, 0, 0)]), (60, [(17, 2, 0, 0), (17, 0, 0, 0), (53, 1, 1, 0), (10, 0, 0, 1), (23, 0, 0, 0), (7, 26, 2, 7), (10, 0, 0, -1003), (2, 1, 8, 0), (8, 7, 0, 0)]), (76, [(10, 0, 0, 1), (0, 9, 0, 0)]), (80, [(10, 0, 0, 0), (8, 9, 0, 0)]), (81, [(18, 3, 0, 0), (14, 3, 0, 0), (1, 0, 11, 0), (8, 10, 0, 0)]), (86, [(10, 0, 0, -1003), (0, 12, 0, 0)]), (92, [(17, 1, 0, 0), (53, 8, 1, 0), (8, 12, 0, 0)]), (96, [(6, 1, 0, 0)])]
/-- Table.firstInFrom(I)I -/
def m_c26 : List (Nat × List m_P) := [(0, [(14, 1, 0, 0), (1, 3, 2, 0), (8, 1, 0, 0)]), (4, [(10, 0, 0, 0), (0, 3, 0, 0)]), (8, [(14, 1, 0, 0), (8, 3, 0, 0)]), (9, [(18, 2, 0, 0), (8, 4, 0, 0)]), (10, [(14, 2, 0, 0), (10, 0, 0, 5), (2, 3, 8, 0), (8, 5, 0, 0)]), (15, [(17, 0, 0, 0), (53, 7, 9, 3), (14, 2, 0, 0), (59, 0, 0, 0), (1, 5, 7, 0), (8, 6, 0, 0)]), (24, [(14, 2, 0, 0), (6, 1, 0, 0)]), (26, [(22, 2, 0, 1), (0, 4, 0, 0)]), (32, [(10, 0, 0, -1003), (6, 1, 0, 0)])]
/-- DiceReader.takes(ILTable;)Z -/
def m_c27 : List (Nat × List m_P) := [(0, [(14, 1, 0, 0), (10, 0, 0, 32), (2, 1, 2, 0), (8, 1, 0, 0)]), (6, [(10, 0, 0, 1), (6, 2, 0, 0)]), (8, [(14, 1, 0, 0), (10, 0, 0, 47), (2, 1, 4, 0), (8, 3, 0, 0)]), (14, [(17, 0, 0, 0), (17, 2, 0, 0), (7, 28, 2, 1), (0, 5, 0, 0)]), (22, [(17, 0, 0, 0), (14, 1, 0, 0), (10, 0, 0, 48), (24, 0, 0, 0), (17, 2, 0, 0), (7, 30, 3, 1), (8, 5, 0, 0)]), (31, [(6, 2, 0, 0)])]
/-- DiceReader.takesSlash(LTable;)Z -/
def m_c28 : List (Nat × List m_P) := [(0, [(17, 1, 0, 0), (17, 0, 0, 0), (53, 1, 1, 0), (10, 0, 0, 1), (23, 0, 0, 0), (7, 26, 2, 7), (18, 2, 0, 0), (17, 0, 0, 0), (53, 1, 2, 0), (17, 1, 0, 0), (17, 0, 0, 0), (53, 1, 1, 0), (7, 29, 2, 7), (2, 2, 2, 0), (8, 1, 0, 0)]), (26, [(14, 2, 0, 0), (10, 0, 0, -1003), (2, 1, 3, 0), (8, 2, 0, 0)]), (33, [(10, 0, 0, 0), (6, 2, 0, 0)]), (35, [(17, 0, 0, 0), (14, 2, 0, 0), (54, 1, 1, 0), (17, 0, 0, 0), (10, 0, 0, 0), (54, 1, 2, 0), (10, 0, 0, 1), (6, 2, 0, 0)])]
/-- Table.diceOf(I)I -/
def m_c29 : List (Nat × List m_P) := [(0, [(14, 1, 0, 0), (1, 2, 3, 0), (8, 1, 0, 0)]), (4, [(14, 1, 0, 0), (10, 0, 0, 5), (2, 3, 3, 0), (8, 2, 0, 0)]), (9, [(17, 0, 0, 0), (53, 7, 9, 3), (14, 1, 0, 0), (59, 0, 0, 0), (0, 4, 0, 0)]), (18, [(10, 0, 0, 0), (8, 4, 0, 0)]), (19, [(6, 1, 0, 0)])]
/-- DiceReader.takesFace(ILTable;)Z -/
def m_c30 : List (Nat × List m_P) := [(0, [(17, 0, 0, 0), (53, 1, 1, 0), (10, 0, 0, 5), (25, 0, 0, 0), (17, 0, 0, 0), (53, 1, 2, 0), (23, 0, 0, 0), (18, 3, 0, 0), (14, 1, 0, 0), (7, 31, 1, -1), (1, 0, 4, 0), (8, 1, 0, 0)]), (19, [(17, 0, 0, 0), (53, 1, 2, 0), (17, 2, 0, 0), (17, 0, 0, 0), (53, 1, 1, 0), (7, 29, 2, 7), (2, 3, 4, 0), (8, 2, 0, 0)]), (34, [(14, 3, 0, 0), (1, 2, 4, 0), (8, 3, 0, 0)]), (38, [(14, 3, 0, 0), (17, 0, 0, 0), (53, 1, 0, 3), (58, 0, 0, 0), (2, 2, 5, 0), (8, 4, 0, 0)]), (47, [(10, 0, 0, 0), (6, 2, 0, 0)]), (49, [(17, 0, 0, 0), (53, 1, 0, 3), (14, 3, 0, 0), (14, 1, 0, 0), (63, 0, 0, 0), (17, 0, 0, 0), (50, 0, 0, 0), (53, 1, 2, 0), (10, 0, 0, 1), (23, 0, 0, 0), (54, 1, 2, 0), (10, 0, 0, 1), (6, 2, 0, 0)])]
/-- CupClaims.isFace(I)Z -/
def m_c31 : List (Nat × List m_P) := [(0, [(14, 0, 0, 0), (10, 0, 0, 1), (2, 2, 3, 0), (8, 1, 0, 0)]), (5, [(14, 0, 0, 0), (10, 0, 0, 6), (2, 4, 3, 0), (8, 2, 0, 0)]), (11, [(10, 0, 0, 1), (0, 4, 0, 0)]), (15, [(10, 0, 0, 0), (8, 4, 0, 0)]), (16, [(6, 2, 0, 0)])]
/-- CupClaims.newGame(I)I -/
def m_c32 : List (Nat × List m_P) := [(0, [(14, 1, 0, 0), (10, 0, 0, 2), (2, 2, 2, 0), (8, 1, 0, 0)]), (5, [(14, 1, 0, 0), (10, 0, 0, 5), (2, 5, 3, 0), (8, 2, 0, 0)]), (10, [(10, 0, 0, -1000), (6, 1, 0, 0)]), (14, [(17, 0, 0, 0), (53, 9, 3, 3), (53, 7, 0, 0), (18, 2, 0, 0), (17, 0, 0, 0), (53, 9, 4, 3), (17, 0, 0, 0), (53, 9, 3, 3), (7, 33, 2, 2), (17, 0, 0, 0), (53, 9, 3, 3), (14, 1, 0, 0), (7, 6, 2, 7), (14, 2, 0, 0), (6, 1, 0, 0)])]
/-- History.record(LTable;)V -/
def m_c33 : List (Nat × List m_P) := [(0, [(17, 0, 0, 0), (17, 0, 0, 0), (53, 2, 2, 0), (7, 34, 2, 2), (21, 2, 0, 0), (17, 2, 0, 0), (4, 2, 0, 0), (8, 1, 0, 0)]), (13, [(6, 0, 0, 0)]), (14, [(17, 2, 0, 0), (17, 1, 0, 0), (7, 36, 2, 7), (17, 0, 0, 0), (53, 2, 2, 0), (10, 0, 0, 8), (2, 3, 4, 0), (8, 3, 0, 0)]), (28, [(17, 0, 0, 0), (50, 0, 0, 0), (53, 2, 2, 0), (10, 0, 0, 1), (23, 0, 0, 0), (54, 2, 2, 0), (0, 5, 0, 0)]), (41, [(17, 0, 0, 0), (17, 0, 0, 0), (53, 2, 1, 0), (10, 0, 0, 1), (23, 0, 0, 0), (10, 0, 0, 8), (27, 0, 0, 0), (54, 2, 1, 0), (8, 5, 0, 0)]), (54, [(6, 0, 0, 0)])]
/-- History.tableAt(I)LTable; -/
def m_c34 : List (Nat × List m_P) := [(0, [(17, 0, 0, 0), (53, 2, 1, 0), (14, 1, 0, 0), (23, 0, 0, 0), (10, 0, 0, 8), (7, 35, 2, -1), (18, 2, 0, 0), (14, 2, 0, 0), (1, 2, 3, 0), (8, 1, 0, 0)]), (16, [(14, 2, 0, 0), (17, 0, 0, 0), (53, 2, 0, 3), (58, 0, 0, 0), (2, 3, 3, 0), (8, 2, 0, 0)]), (25, [(17, 0, 0, 0), (53, 2, 0, 3), (14, 2, 0, 0), (62, 0, 0, 0), (0, 4, 0, 0)]), (34, [(13, 0, 0, 0), (8, 4, 0, 0)]), (35, [(6, 4, 0, 0)])]
/-- java/lang/Math.floorMod(II)I -/
def m_c35 : List (Nat × List m_P) := [(0, [(14, 0, 0, 0), (14, 1, 0, 0), (27, 0, 0, 0), (18, 2, 0, 0), (14, 0, 0, 0), (14, 1, 0, 0), (30, 0, 0, 0), (1, 3, 3, 0), (8, 1, 0, 0)]), (10, [(14, 2, 0, 0), (1, 0, 3, 0), (8, 2, 0, 0)]), (14, [(14, 2, 0, 0), (14, 1, 0, 0), (23, 0, 0, 0), (6, 1, 0, 0)]), (18, [(14, 2, 0, 0), (6, 1, 0, 0)])]
/-- Table.copyFrom(LTable;)V -/
def m_c36 : List (Nat × List m_P) := [(0, [(17, 0, 0, 0), (17, 1, 0, 0), (53, 7, 0, 0), (54, 7, 0, 0), (17, 0, 0, 0), (17, 1, 0, 0), (53, 7, 1, 1), (54, 7, 1, 1), (17, 0, 0, 0), (17, 1, 0, 0), (53, 7, 2, 1), (54, 7, 2, 1), (17, 0, 0, 0), (17, 1, 0, 0), (53, 7, 3, 0), (54, 7, 3, 0), (17, 0, 0, 0), (17, 1, 0, 0), (53, 7, 4, 0), (54, 7, 4, 0), (17, 0, 0, 0), (17, 1, 0, 0), (53, 7, 5, 0), (54, 7, 5, 0), (17, 0, 0, 0), (17, 1, 0, 0), (53, 7, 6, 0), (54, 7, 6, 0), (17, 0, 0, 0), (17, 1, 0, 0), (53, 7, 7, 0), (54, 7, 7, 0), (17, 0, 0, 0), (17, 1, 0, 0), (53, 7, 8, 0), (54, 7, 8, 0), (17, 1, 0, 0), (53, 7, 9, 3), (10, 0, 0, 0), (17, 0, 0, 0), (53, 7, 9, 3), (10, 0, 0, 0), (17, 0, 0, 0), (53, 7, 9, 3), (58, 0, 0, 0), (68, 0, 0, 0), (17, 1, 0, 0), (53, 7, 10, 3), (10, 0, 0, 0), (17, 0, 0, 0), (53, 7, 10, 3), (10, 0, 0, 0), (17, 0, 0, 0), (53, 7, 10, 3), (58, 0, 0, 0), (68, 0, 0, 0), (17, 1, 0, 0), (53, 7, 11, 3), (10, 0, 0, 0), (17, 0, 0, 0), (53, 7, 11, 3), (10, 0, 0, 0), (17, 0, 0, 0), (53, 7, 11, 3), (58, 0, 0, 0), (68, 0, 0, 0), (17, 1, 0, 0), (53, 7, 12, 3), (10, 0, 0, 0), (17, 0, 0, 0), (53, 7, 12, 3), (10, 0, 0, 0), (17, 0, 0, 0), (53, 7, 12, 3), (58, 0, 0, 0), (68, 0, 0, 0), (17, 0, 0, 0), (53, 7, 13, 3), (17, 1, 0, 0), (53, 7, 13, 3), (7, 37, 2, 3), (6, 0, 0, 0)])]
/-- Matrix.copyFrom(LMatrix;)V -/
def m_c37 : List (Nat × List m_P) := [(0, [(17, 0, 0, 0), (17, 1, 0, 0), (53, 3, 0, 0), (54, 3, 0, 0), (17, 0, 0, 0), (17, 1, 0, 0), (53, 3, 1, 0), (54, 3, 1, 0), (17, 1, 0, 0), (53, 3, 2, 3), (10, 0, 0, 0), (17, 0, 0, 0), (53, 3, 2, 3), (10, 0, 0, 0), (17, 0, 0, 0), (53, 3, 2, 3), (58, 0, 0, 0), (68, 0, 0, 0), (6, 0, 0, 0)])]
/-- CupClaims.setWild(Z)I -/
def m_c38 : List (Nat × List m_P) := [(0, [(17, 0, 0, 0), (53, 9, 3, 3), (7, 39, 1, 7), (1, 0, 2, 0), (8, 1, 0, 0)]), (10, [(10, 0, 0, -1001), (6, 1, 0, 0)]), (14, [(17, 0, 0, 0), (53, 9, 3, 3), (53, 7, 1, 1), (1, 0, 4, 0), (8, 3, 0, 0)]), (24, [(10, 0, 0, 1), (0, 5, 0, 0)]), (28, [(10, 0, 0, 0), (8, 5, 0, 0)]), (29, [(18, 2, 0, 0), (17, 0, 0, 0), (53, 9, 4, 3), (17, 0, 0, 0), (53, 9, 3, 3), (7, 33, 2, 2), (17, 0, 0, 0), (53, 9, 3, 3), (14, 1, 0, 0), (54, 7, 1, 1), (14, 2, 0, 0), (6, 1, 0, 0)])]
/-- Table.hasClaim()Z -/
def m_c39 : List (Nat × List m_P) := [(0, [(17, 0, 0, 0), (53, 7, 4, 0), (1, 5, 2, 0), (8, 1, 0, 0)]), (7, [(10, 0, 0, 1), (0, 3, 0, 0)]), (11, [(10, 0, 0, 0), (8, 3, 0, 0)]), (12, [(6, 2, 0, 0)])]
/-- CupClaims.deal()I -/
def m_c40 : List (Nat × List m_P) := [(0, [(17, 0, 0, 0), (53, 9, 3, 3), (7, 41, 1, 7), (1, 0, 2, 0), (8, 1, 0, 0)]), (10, [(17, 0, 0, 0), (53, 9, 1, 3), (17, 0, 0, 0), (53, 9, 0, 3), (17, 0, 0, 0), (53, 9, 3, 3), (7, 25, 3, 1), (10, 0, 0, -1003), (2, 0, 3, 0), (8, 2, 0, 0)]), (31, [(10, 0, 0, -1001), (6, 1, 0, 0)]), (35, [(17, 0, 0, 0), (53, 9, 4, 3), (17, 0, 0, 0), (53, 9, 3, 3), (7, 33, 2, 2), (17, 0, 0, 0), (53, 9, 3, 3), (17, 0, 0, 0), (53, 9, 1, 3), (53, 1, 0, 3), (7, 44, 2, 7), (17, 0, 0, 0), (53, 9, 3, 3), (7, 45, 1, 7), (6, 1, 0, 0)])]
/-- Table.canDeal()Z -/
def m_c41 : List (Nat × List m_P) := [(0, [(17, 0, 0, 0), (53, 7, 2, 1), (1, 1, 3, 0), (8, 1, 0, 0)]), (7, [(17, 0, 0, 0), (7, 42, 1, 7), (1, 1, 3, 0), (8, 2, 0, 0)]), (14, [(10, 0, 0, 1), (0, 4, 0, 0)]), (18, [(10, 0, 0, 0), (8, 4, 0, 0)]), (19, [(6, 2, 0, 0)])]
/-- Table.isOver()Z -/
def m_c42 : List (Nat × List m_P) := [(0, [(17, 0, 0, 0), (7, 43, 1, 7), (10, 0, 0, 2), (2, 3, 2, 0), (8, 1, 0, 0)]), (8, [(10, 0, 0, 1), (0, 3, 0, 0)]), (12, [(10, 0, 0, 0), (8, 3, 0, 0)]), (13, [(6, 2, 0, 0)])]
/-- Table.playersIn()I -/
def m_c43 : List (Nat × List m_P) := [(0, [(10, 0, 0, 0), (18, 1, 0, 0), (10, 0, 0, 0), (18, 2, 0, 0), (8, 1, 0, 0)]), (4, [(14, 2, 0, 0), (10, 0, 0, 5), (2, 3, 5, 0), (8, 2, 0, 0)]), (9, [(17, 0, 0, 0), (53, 7, 9, 3), (14, 2, 0, 0), (59, 0, 0, 0), (1, 5, 4, 0), (8, 3, 0, 0)]), (18, [(22, 1, 0, 1), (8, 4, 0, 0)]), (21, [(22, 2, 0, 1), (0, 1, 0, 0)]), (27, [(14, 1, 0, 0), (6, 1, 0, 0)])]
/-- Table.dealFaces([I)V -/
def m_c44 : List (Nat × List m_P) := [(0, [(10, 0, 0, 0), (18, 2, 0, 0), (8, 1, 0, 0)]), (2, [(14, 2, 0, 0), (17, 0, 0, 0), (53, 7, 12, 3), (58, 0, 0, 0), (2, 3, 4, 0), (8, 2, 0, 0)]), (11, [(14, 2, 0, 0), (17, 1, 0, 0), (58, 0, 0, 0), (2, 3, 4, 0), (8, 3, 0, 0)]), (17, [(17, 0, 0, 0), (53, 7, 12, 3), (14, 2, 0, 0), (17, 1, 0, 0), (14, 2, 0, 0), (59, 0, 0, 0), (63, 0, 0, 0), (22, 2, 0, 1), (0, 1, 0, 0)]), (32, [(17, 0, 0, 0), (10, 0, 0, 1), (54, 7, 2, 1), (6, 0, 0, 0)])]
/-- Table.diceInGame()I -/
def m_c45 : List (Nat × List m_P) := [(0, [(10, 0, 0, 0), (18, 1, 0, 0), (10, 0, 0, 0), (18, 2, 0, 0), (8, 1, 0, 0)]), (4, [(14, 2, 0, 0), (10, 0, 0, 5), (2, 3, 3, 0), (8, 2, 0, 0)]), (9, [(14, 1, 0, 0), (17, 0, 0, 0), (53, 7, 9, 3), (14, 2, 0, 0), (59, 0, 0, 0), (23, 0, 0, 0), (18, 1, 0, 0), (22, 2, 0, 1), (0, 1, 0, 0)]), (24, [(14, 1, 0, 0), (6, 1, 0, 0)])]
/-- CupClaims.roll(I)I -/
def m_c46 : List (Nat × List m_P) := [(0, [(14, 1, 0, 0), (1, 2, 2, 0), (8, 1, 0, 0)]), (4, [(14, 1, 0, 0), (10, 1, 0, 65535), (2, 5, 3, 0), (8, 2, 0, 0)]), (10, [(10, 0, 0, -1000), (6, 1, 0, 0)]), (14, [(17, 0, 0, 0), (53, 9, 3, 3), (7, 41, 1, 7), (1, 1, 5, 0), (8, 4, 0, 0)]), (24, [(10, 0, 0, -1001), (6, 1, 0, 0)]), (28, [(17, 0, 0, 0), (53, 9, 4, 3), (17, 0, 0, 0), (53, 9, 3, 3), (7, 33, 2, 2), (17, 0, 0, 0), (53, 9, 3, 3), (14, 1, 0, 0), (7, 47, 2, 7), (17, 0, 0, 0), (53, 9, 3, 3), (7, 45, 1, 7), (6, 1, 0, 0)])]
/-- Table.dealRolled(I)V -/
def m_c47 : List (Nat × List m_P) := [(0, [(14, 1, 0, 0), (18, 2, 0, 0), (10, 0, 0, 0), (18, 3, 0, 0), (8, 1, 0, 0)]), (4, [(14, 3, 0, 0), (10, 0, 0, 5), (2, 3, 7, 0), (8, 2, 0, 0)]), (9, [(10, 0, 0, 0), (18, 4, 0, 0), (8, 3, 0, 0)]), (12, [(14, 4, 0, 0), (10, 0, 0, 5), (2, 3, 6, 0), (8, 4, 0, 0)]), (18, [(14, 4, 0, 0), (17, 0, 0, 0), (53, 7, 9, 3), (14, 3, 0, 0), (59, 0, 0, 0), (2, 3, 6, 0), (8, 5, 0, 0)]), (29, [(14, 2, 0, 0), (10, 0, 0, 1103), (25, 0, 0, 0), (10, 0, 0, 377), (23, 0, 0, 0), (10, 1, 0, 65536), (27, 0, 0, 0), (18, 2, 0, 0), (17, 0, 0, 0), (53, 7, 12, 3), (14, 3, 0, 0), (10, 0, 0, 5), (25, 0, 0, 0), (14, 4, 0, 0), (23, 0, 0, 0), (10, 0, 0, 1), (14, 2, 0, 0), (10, 0, 0, 7), (26, 0, 0, 0), (10, 0, 0, 6), (27, 0, 0, 0), (23, 0, 0, 0), (63, 0, 0, 0), (22, 4, 0, 1), (0, 3, 0, 0)]), (68, [(22, 3, 0, 1), (0, 1, 0, 0)]), (74, [(17, 0, 0, 0), (10, 0, 0, 1), (54, 7, 2, 1), (6, 0, 0, 0)])]
/-- CupClaims.claim(II)I -/
def m_c48 : List (Nat × List m_P) := [(0, [(14, 1, 0, 0), (14, 2, 0, 0), (7, 49, 2, -1), (1, 1, 2, 0), (8, 1, 0, 0)]), (8, [(10, 0, 0, -1000), (6, 1, 0, 0)]), (12, [(17, 0, 0, 0), (53, 9, 3, 3), (14, 1, 0, 0), (14, 2, 0, 0), (7, 50, 3, 7), (18, 3, 0, 0), (17, 0, 0, 0), (53, 9, 3, 3), (53, 7, 2, 1), (1, 0, 4, 0), (8, 3, 0, 0)]), (32, [(14, 3, 0, 0), (17, 0, 0, 0), (53, 9, 3, 3), (7, 51, 1, 7), (2, 4, 5, 0), (8, 4, 0, 0)]), (43, [(10, 0, 0, -1001), (6, 1, 0, 0)]), (47, [(17, 0, 0, 0), (53, 9, 4, 3), (17, 0, 0, 0), (53, 9, 3, 3), (7, 33, 2, 2), (17, 0, 0, 0), (53, 9, 3, 3), (14, 1, 0, 0), (14, 2, 0, 0), (7, 52, 3, 7), (14, 3, 0, 0), (6, 1, 0, 0)])]
/-- CupClaims.isClaim(II)Z -/
def m_c49 : List (Nat × List m_P) := [(0, [(14, 0, 0, 0), (10, 0, 0, 1), (2, 2, 4, 0), (8, 1, 0, 0)]), (5, [(14, 0, 0, 0), (10, 0, 0, 25), (2, 4, 4, 0), (8, 2, 0, 0)]), (11, [(14, 1, 0, 0), (7, 31, 1, -1), (1, 0, 4, 0), (8, 3, 0, 0)]), (18, [(10, 0, 0, 1), (0, 5, 0, 0)]), (22, [(10, 0, 0, 0), (8, 5, 0, 0)]), (23, [(6, 2, 0, 0)])]
/-- Table.rankOf(II)I -/
def m_c50 : List (Nat × List m_P) := [(0, [(17, 0, 0, 0), (53, 7, 1, 1), (1, 1, 2, 0), (8, 1, 0, 0)]), (7, [(10, 0, 0, 6), (14, 1, 0, 0), (25, 0, 0, 0), (14, 2, 0, 0), (23, 0, 0, 0), (6, 1, 0, 0)]), (14, [(14, 2, 0, 0), (10, 0, 0, 1), (2, 1, 4, 0), (8, 3, 0, 0)]), (19, [(10, 0, 0, 12), (14, 1, 0, 0), (25, 0, 0, 0), (0, 5, 0, 0)]), (26, [(10, 0, 0, 6), (14, 1, 0, 0), (25, 0, 0, 0), (14, 2, 0, 0), (23, 0, 0, 0), (10, 0, 0, 1), (24, 0, 0, 0), (8, 5, 0, 0)]), (34, [(6, 1, 0, 0)])]
/-- Table.presentRank()I -/
def m_c51 : List (Nat × List m_P) := [(0, [(17, 0, 0, 0), (7, 39, 1, 7), (1, 0, 2, 0), (8, 1, 0, 0)]), (7, [(17, 0, 0, 0), (17, 0, 0, 0), (53, 7, 4, 0), (17, 0, 0, 0), (53, 7, 5, 0), (7, 50, 3, 7), (0, 3, 0, 0)]), (22, [(10, 0, 0, 0), (8, 3, 0, 0)]), (23, [(6, 1, 0, 0)])]
/-- Table.makeClaim(II)V -/
def m_c52 : List (Nat × List m_P) := [(0, [(17, 0, 0, 0), (14, 1, 0, 0), (54, 7, 4, 0), (17, 0, 0, 0), (14, 2, 0, 0), (54, 7, 5, 0), (17, 0, 0, 0), (17, 0, 0, 0), (53, 7, 3, 0), (54, 7, 6, 0), (17, 0, 0, 0), (17, 0, 0, 0), (17, 0, 0, 0), (53, 7, 3, 0), (10, 0, 0, 1), (23, 0, 0, 0), (7, 53, 2, 7), (54, 7, 3, 0), (6, 0, 0, 0)])]
/-- Table.nextInFrom(I)I -/
def m_c53 : List (Nat × List m_P) := [(0, [(17, 0, 0, 0), (14, 1, 0, 0), (7, 26, 2, 7), (18, 2, 0, 0), (14, 2, 0, 0), (10, 0, 0, -1003), (2, 1, 2, 0), (8, 1, 0, 0)]), (13, [(17, 0, 0, 0), (10, 0, 0, 0), (7, 26, 2, 7), (0, 3, 0, 0)]), (21, [(14, 2, 0, 0), (8, 3, 0, 0)]), (22, [(6, 1, 0, 0)])]
/-- CupClaims.doubt()I -/
def m_c54 : List (Nat × List m_P) := [(0, [(17, 0, 0, 0), (53, 9, 3, 3), (7, 39, 1, 7), (1, 1, 2, 0), (8, 1, 0, 0)]), (10, [(10, 0, 0, -1001), (6, 1, 0, 0)]), (14, [(17, 0, 0, 0), (53, 9, 4, 3), (17, 0, 0, 0), (53, 9, 3, 3), (7, 33, 2, 2), (17, 0, 0, 0), (53, 9, 3, 3), (7, 55, 1, 7), (6, 1, 0, 0)])]
/-- Table.endByDoubt()I -/
def m_c55 : List (Nat × List m_P) := [(0, [(17, 0, 0, 0), (17, 0, 0, 0), (53, 7, 5, 0), (7, 56, 2, 7), (17, 0, 0, 0), (53, 7, 4, 0), (2, 3, 2, 0), (8, 1, 0, 0)]), (15, [(10, 0, 0, 1), (0, 3, 0, 0)]), (19, [(10, 0, 0, 0), (8, 3, 0, 0)]), (20, [(18, 1, 0, 0), (14, 1, 0, 0), (1, 0, 5, 0), (8, 4, 0, 0)]), (25, [(17, 0, 0, 0), (53, 7, 6, 0), (0, 6, 0, 0)]), (32, [(17, 0, 0, 0), (53, 7, 3, 0), (8, 6, 0, 0)]), (36, [(18, 2, 0, 0), (14, 1, 0, 0), (1, 0, 8, 0), (8, 7, 0, 0)]), (41, [(17, 0, 0, 0), (50, 0, 0, 0), (53, 7, 8, 0), (10, 0, 0, 1), (23, 0, 0, 0), (54, 7, 8, 0), (8, 8, 0, 0)]), (51, [(17, 0, 0, 0), (14, 2, 0, 0), (7, 60, 2, 7), (17, 0, 0, 0), (14, 2, 0, 0), (7, 63, 2, 7), (14, 2, 0, 0), (6, 1, 0, 0)])]
/-- Table.countingInAll(I)I -/
def m_c56 : List (Nat × List m_P) := [(0, [(10, 0, 0, 0), (18, 2, 0, 0), (10, 0, 0, 0), (18, 3, 0, 0), (8, 1, 0, 0)]), (4, [(14, 3, 0, 0), (10, 0, 0, 5), (2, 3, 3, 0), (8, 2, 0, 0)]), (9, [(14, 2, 0, 0), (17, 0, 0, 0), (14, 3, 0, 0), (14, 1, 0, 0), (7, 57, 3, 7), (23, 0, 0, 0), (18, 2, 0, 0), (22, 3, 0, 1), (0, 1, 0, 0)]), (24, [(14, 2, 0, 0), (6, 1, 0, 0)])]
/-- Table.countingUnder(II)I -/
def m_c57 : List (Nat × List m_P) := [(0, [(10, 0, 0, 0), (18, 3, 0, 0), (17, 0, 0, 0), (53, 7, 2, 1), (1, 0, 2, 0), (8, 1, 0, 0)]), (9, [(17, 0, 0, 0), (14, 1, 0, 0), (7, 29, 2, 7), (0, 3, 0, 0)]), (17, [(10, 0, 0, 0), (8, 3, 0, 0)]), (18, [(18, 4, 0, 0), (10, 0, 0, 0), (18, 5, 0, 0), (8, 4, 0, 0)]), (23, [(14, 5, 0, 0), (14, 4, 0, 0), (2, 3, 8, 0), (8, 5, 0, 0)]), (30, [(17, 0, 0, 0), (17, 0, 0, 0), (14, 1, 0, 0), (14, 5, 0, 0), (7, 58, 3, 7), (14, 2, 0, 0), (7, 59, 3, 7), (1, 0, 7, 0), (8, 6, 0, 0)]), (45, [(22, 3, 0, 1), (8, 7, 0, 0)]), (48, [(22, 5, 0, 1), (0, 4, 0, 0)]), (54, [(14, 3, 0, 0), (6, 1, 0, 0)])]
/-- Table.faceAt(II)I -/
def m_c58 : List (Nat × List m_P) := [(0, [(14, 1, 0, 0), (1, 2, 5, 0), (8, 1, 0, 0)]), (4, [(14, 1, 0, 0), (10, 0, 0, 5), (2, 3, 5, 0), (8, 2, 0, 0)]), (9, [(14, 2, 0, 0), (1, 2, 5, 0), (8, 3, 0, 0)]), (13, [(14, 2, 0, 0), (10, 0, 0, 5), (2, 3, 5, 0), (8, 4, 0, 0)]), (18, [(10, 0, 0, 1), (0, 6, 0, 0)]), (22, [(10, 0, 0, 0), (8, 6, 0, 0)]), (23, [(18, 3, 0, 0), (14, 3, 0, 0), (1, 0, 8, 0), (8, 7, 0, 0)]), (28, [(17, 0, 0, 0), (53, 7, 12, 3), (14, 1, 0, 0), (10, 0, 0, 5), (25, 0, 0, 0), (14, 2, 0, 0), (23, 0, 0, 0), (59, 0, 0, 0), (0, 9, 0, 0)]), (41, [(10, 0, 0, 0), (8, 9, 0, 0)]), (42, [(6, 1, 0, 0)])]
/-- Table.counts(II)Z -/
def m_c59 : List (Nat × List m_P) := [(0, [(14, 1, 0, 0), (14, 2, 0, 0), (2, 0, 3, 0), (8, 1, 0, 0)]), (5, [(17, 0, 0, 0), (53, 7, 1, 1), (1, 0, 4, 0), (8, 2, 0, 0)]), (12, [(14, 1, 0, 0), (10, 0, 0, 1), (2, 1, 4, 0), (8, 3, 0, 0)]), (17, [(10, 0, 0, 1), (0, 5, 0, 0)]), (21, [(10, 0, 0, 0), (8, 5, 0, 0)]), (22, [(6, 2, 0, 0)])]
/-- Table.loseDie(I)V -/
def m_c60 : List (Nat × List m_P) := [(0, [(17, 0, 0, 0), (14, 1, 0, 0), (7, 61, 2, 7), (1, 0, 2, 0), (8, 1, 0, 0)]), (8, [(17, 0, 0, 0), (53, 7, 9, 3), (14, 1, 0, 0), (10, 0, 0, 0), (17, 0, 0, 0), (53, 7, 9, 3), (14, 1, 0, 0), (59, 0, 0, 0), (10, 0, 0, 1), (24, 0, 0, 0), (7, 62, 2, -1), (63, 0, 0, 0), (17, 0, 0, 0), (53, 7, 10, 3), (14, 1, 0, 0), (51, 0, 0, 0), (59, 0, 0, 0), (10, 0, 0, 1), (23, 0, 0, 0), (63, 0, 0, 0), (8, 2, 0, 0)]), (36, [(6, 0, 0, 0)])]
/-- Table.hasPlayer(I)Z -/
def m_c61 : List (Nat × List m_P) := [(0, [(14, 1, 0, 0), (1, 2, 4, 0), (8, 1, 0, 0)]), (4, [(14, 1, 0, 0), (17, 0, 0, 0), (53, 7, 0, 0), (2, 3, 4, 0), (8, 2, 0, 0)]), (12, [(14, 1, 0, 0), (10, 0, 0, 5), (2, 3, 4, 0), (8, 3, 0, 0)]), (17, [(10, 0, 0, 1), (0, 5, 0, 0)]), (21, [(10, 0, 0, 0), (8, 5, 0, 0)]), (22, [(6, 2, 0, 0)])]
/-- java/lang/Math.max(II)I -/
def m_c62 : List (Nat × List m_P) := [(0, [(14, 0, 0, 0), (14, 1, 0, 0), (2, 2, 2, 0), (8, 1, 0, 0)]), (5, [(14, 0, 0, 0), (0, 3, 0, 0)]), (9, [(14, 1, 0, 0), (8, 3, 0, 0)]), (10, [(6, 1, 0, 0)])]
/-- Table.endRound(I)V -/
def m_c63 : List (Nat × List m_P) := [(0, [(17, 0, 0, 0), (50, 0, 0, 0), (53, 7, 7, 0), (10, 0, 0, 1), (23, 0, 0, 0), (54, 7, 7, 0), (17, 0, 0, 0), (10, 0, 0, 0), (54, 7, 2, 1), (17, 0, 0, 0), (10, 0, 0, 0), (54, 7, 4, 0), (17, 0, 0, 0), (17, 0, 0, 0), (14, 1, 0, 0), (7, 53, 2, 7), (54, 7, 3, 0), (6, 0, 0, 0)])]
/-- CupClaims.callExact()I -/
def m_c64 : List (Nat × List m_P) := [(0, [(17, 0, 0, 0), (53, 9, 3, 3), (7, 39, 1, 7), (1, 1, 2, 0), (8, 1, 0, 0)]), (10, [(10, 0, 0, -1001), (6, 1, 0, 0)]), (14, [(17, 0, 0, 0), (53, 9, 4, 3), (17, 0, 0, 0), (53, 9, 3, 3), (7, 33, 2, 2), (17, 0, 0, 0), (53, 9, 3, 3), (7, 65, 1, 7), (1, 0, 4, 0), (8, 3, 0, 0)]), (35, [(10, 0, 0, 1), (0, 5, 0, 0)]), (39, [(10, 0, 0, 0), (8, 5, 0, 0)]), (40, [(6, 1, 0, 0)])]
/-- Table.endByExactCall()Z -/
def m_c65 : List (Nat × List m_P) := [(0, [(17, 0, 0, 0), (53, 7, 3, 0), (18, 1, 0, 0), (17, 0, 0, 0), (17, 0, 0, 0), (53, 7, 5, 0), (7, 56, 2, 7), (17, 0, 0, 0), (53, 7, 4, 0), (2, 1, 2, 0), (8, 1, 0, 0)]), (20, [(10, 0, 0, 1), (0, 3, 0, 0)]), (24, [(10, 0, 0, 0), (8, 3, 0, 0)]), (25, [(18, 2, 0, 0), (14, 2, 0, 0), (1, 0, 5, 0), (8, 4, 0, 0)]), (30, [(17, 0, 0, 0), (14, 1, 0, 0), (7, 66, 2, 7), (0, 6, 0, 0)]), (38, [(17, 0, 0, 0), (14, 1, 0, 0), (7, 60, 2, 7), (8, 6, 0, 0)]), (43, [(17, 0, 0, 0), (14, 1, 0, 0), (7, 63, 2, 7), (14, 2, 0, 0), (6, 2, 0, 0)])]
/-- Table.winDie(I)V -/
def m_c66 : List (Nat × List m_P) := [(0, [(17, 0, 0, 0), (14, 1, 0, 0), (7, 61, 2, 7), (1, 0, 2, 0), (8, 1, 0, 0)]), (8, [(17, 0, 0, 0), (53, 7, 9, 3), (14, 1, 0, 0), (10, 0, 0, 5), (17, 0, 0, 0), (53, 7, 9, 3), (14, 1, 0, 0), (59, 0, 0, 0), (10, 0, 0, 1), (23, 0, 0, 0), (7, 67, 2, -1), (63, 0, 0, 0), (17, 0, 0, 0), (53, 7, 11, 3), (14, 1, 0, 0), (51, 0, 0, 0), (59, 0, 0, 0), (10, 0, 0, 1), (23, 0, 0, 0), (63, 0, 0, 0), (8, 2, 0, 0)]), (36, [(6, 0, 0, 0)])]
/-- java/lang/Math.min(II)I -/
def m_c67 : List (Nat × List m_P) := [(0, [(14, 0, 0, 0), (14, 1, 0, 0), (2, 4, 2, 0), (8, 1, 0, 0)]), (5, [(14, 0, 0, 0), (0, 3, 0, 0)]), (9, [(14, 1, 0, 0), (8, 3, 0, 0)]), (10, [(6, 1, 0, 0)])]
/-- CupClaims.isFace(I)Z -/
def m_c68 : List (Nat × List m_P) := [(0, [(14, 0, 0, 0), (10, 0, 0, 1), (2, 2, 3, 0), (8, 1, 0, 0)]), (5, [(14, 0, 0, 0), (10, 0, 0, 6), (2, 4, 3, 0), (8, 2, 0, 0)]), (11, [(10, 0, 0, 1), (0, 4, 0, 0)]), (15, [(10, 0, 0, 0), (8, 4, 0, 0)]), (16, [(6, 2, 0, 0)])]
/-- Solution.fit(LMatrix;)V -/
def m_c69 : List (Nat × List m_P) := [(0, [(17, 1, 0, 0), (17, 0, 0, 0), (53, 5, 3, 3), (7, 70, 2, 3), (1, 0, 2, 0), (8, 1, 0, 0)]), (11, [(6, 0, 0, 0)]), (12, [(17, 0, 0, 0), (53, 5, 3, 3), (17, 1, 0, 0), (7, 37, 2, 3), (17, 0, 0, 0), (17, 1, 0, 0), (7, 71, 2, 5), (17, 1, 0, 0), (53, 3, 0, 0), (17, 1, 0, 0), (53, 3, 1, 0), (7, 67, 2, -1), (18, 2, 0, 0), (10, 0, 0, 1), (18, 3, 0, 0), (8, 3, 0, 0)]), (39, [(14, 3, 0, 0), (14, 2, 0, 0), (2, 4, 7, 0), (8, 4, 0, 0)]), (44, [(17, 0, 0, 0), (17, 1, 0, 0), (14, 3, 0, 0), (7, 76, 3, 5), (1, 0, 6, 0), (8, 5, 0, 0)]), (53, [(6, 0, 0, 0)]), (54, [(22, 3, 0, 1), (0, 3, 0, 0)]), (60, [(6, 0, 0, 0)])]
/-- Matrix.isSameAs(LMatrix;)Z -/
def m_c70 : List (Nat × List m_P) := [(0, [(17, 0, 0, 0), (53, 3, 0, 0), (17, 1, 0, 0), (53, 3, 0, 0), (2, 1, 2, 0), (8, 1, 0, 0)]), (11, [(17, 0, 0, 0), (53, 3, 1, 0), (17, 1, 0, 0), (53, 3, 1, 0), (2, 0, 3, 0), (8, 2, 0, 0)]), (22, [(10, 0, 0, 0), (6, 2, 0, 0)]), (24, [(10, 0, 0, 0), (18, 2, 0, 0), (8, 4, 0, 0)]), (26, [(14, 2, 0, 0), (17, 0, 0, 0), (53, 3, 0, 0), (2, 3, 11, 0), (8, 5, 0, 0)]), (34, [(10, 0, 0, 0), (18, 3, 0, 0), (8, 6, 0, 0)]), (36, [(14, 3, 0, 0), (17, 0, 0, 0), (53, 3, 1, 0), (2, 3, 10, 0), (8, 7, 0, 0)]), (44, [(17, 0, 0, 0), (14, 2, 0, 0), (14, 3, 0, 0), (7, 22, 3, 3), (17, 1, 0, 0), (14, 2, 0, 0), (14, 3, 0, 0), (7, 22, 3, 3), (2, 0, 9, 0), (8, 8, 0, 0)]), (59, [(10, 0, 0, 0), (6, 2, 0, 0)]), (61, [(22, 3, 0, 1), (0, 6, 0, 0)]), (67, [(22, 2, 0, 1), (0, 4, 0, 0)]), (73, [(10, 0, 0, 1), (6, 2, 0, 0)])]
/-- Solution.fillMinors(LMatrix;)V -/
def m_c71 : List (Nat × List m_P) := [(0, [(17, 0, 0, 0), (53, 5, 0, 3), (10, 0, 0, 0), (11, 0, 0, 1), (64, 0, 0, 0), (10, 0, 0, 1), (18, 2, 0, 0), (8, 1, 0, 0)]), (9, [(14, 2, 0, 0), (10, 0, 0, 1), (17, 1, 0, 0), (53, 3, 0, 0), (31, 0, 0, 0), (2, 3, 10, 0), (8, 2, 0, 0)]), (19, [(14, 2, 0, 0), (10, 0, 0, 16), (2, 3, 10, 0), (8, 3, 0, 0)]), (25, [(10, 0, 0, 1), (18, 3, 0, 0), (8, 4, 0, 0)]), (27, [(14, 3, 0, 0), (10, 0, 0, 1), (17, 1, 0, 0), (53, 3, 1, 0), (31, 0, 0, 0), (2, 3, 9, 0), (8, 5, 0, 0)]), (37, [(14, 3, 0, 0), (10, 0, 0, 16), (2, 3, 9, 0), (8, 6, 0, 0)]), (43, [(14, 2, 0, 0), (7, 72, 1, -1), (14, 3, 0, 0), (7, 72, 1, -1), (2, 1, 8, 0), (8, 7, 0, 0)]), (54, [(17, 0, 0, 0), (53, 5, 0, 3), (14, 2, 0, 0), (10, 0, 0, 16), (25, 0, 0, 0), (14, 3, 0, 0), (23, 0, 0, 0), (17, 0, 0, 0), (17, 1, 0, 0), (14, 2, 0, 0), (14, 3, 0, 0), (7, 73, 4, 5), (64, 0, 0, 0), (8, 8, 0, 0)]), (72, [(22, 3, 0, 1), (0, 4, 0, 0)]), (78, [(22, 2, 0, 1), (0, 1, 0, 0)]), (84, [(6, 0, 0, 0)])]
/-- java/lang/Integer.bitCount(I)I -/
def m_c72 : List (Nat × List m_P) := [(0, [(14, 0, 0, 0), (14, 0, 0, 0), (10, 0, 0, 1), (33, 0, 0, 0), (10, 1, 0, 1431655765), (29, 0, 0, 0), (24, 0, 0, 0), (18, 0, 0, 0), (14, 0, 0, 0), (10, 1, 0, 858993459), (29, 0, 0, 0), (14, 0, 0, 0), (10, 0, 0, 2), (33, 0, 0, 0), (10, 1, 0, 858993459), (29, 0, 0, 0), (23, 0, 0, 0), (18, 0, 0, 0), (14, 0, 0, 0), (14, 0, 0, 0), (10, 0, 0, 4), (33, 0, 0, 0), (23, 0, 0, 0), (10, 1, 0, 252645135), (29, 0, 0, 0), (18, 0, 0, 0), (14, 0, 0, 0), (14, 0, 0, 0), (10, 0, 0, 8), (33, 0, 0, 0), (23, 0, 0, 0), (18, 0, 0, 0), (14, 0, 0, 0), (14, 0, 0, 0), (10, 0, 0, 16), (33, 0, 0, 0), (23, 0, 0, 0), (18, 0, 0, 0), (14, 0, 0, 0), (10, 0, 0, 63), (29, 0, 0, 0), (6, 1, 0, 0)])]
/-- Solution.alongFirstRow(LMatrix;II)J -/
def m_c73 : List (Nat × List m_P) := [(0, [(10, 0, 0, 0), (18, 4, 0, 0), (8, 1, 0, 0)]), (3, [(14, 4, 0, 0), (10, 0, 0, 3), (2, 3, 4, 0), (8, 2, 0, 0)]), (9, [(14, 2, 0, 0), (14, 4, 0, 0), (7, 74, 2, -1), (1, 1, 4, 0), (8, 3, 0, 0)]), (18, [(22, 4, 0, 1), (0, 1, 0, 0)]), (24, [(11, 0, 0, 0), (19, 5, 0, 0), (10, 0, 0, 1), (18, 7, 0, 0), (10, 0, 0, 0), (18, 8, 0, 0), (8, 5, 0, 0)]), (33, [(14, 8, 0, 0), (10, 0, 0, 4), (2, 3, 9, 0), (8, 6, 0, 0)]), (39, [(14, 3, 0, 0), (14, 8, 0, 0), (7, 74, 2, -1), (1, 0, 8, 0), (8, 7, 0, 0)]), (48, [(17, 0, 0, 0), (14, 2, 0, 0), (10, 0, 0, 1), (14, 4, 0, 0), (31, 0, 0, 0), (30, 0, 0, 0), (14, 3, 0, 0), (10, 0, 0, 1), (14, 8, 0, 0), (31, 0, 0, 0), (30, 0, 0, 0), (7, 75, 3, 5), (19, 9, 0, 0), (15, 5, 0, 0), (14, 7, 0, 0), (17, 1, 0, 0), (14, 4, 0, 0), (14, 8, 0, 0), (7, 22, 3, 3), (25, 0, 0, 0), (41, 0, 0, 0), (15, 9, 0, 0), (36, 0, 0, 0), (34, 0, 0, 0), (19, 5, 0, 0), (14, 7, 0, 0), (28, 0, 0, 0), (18, 7, 0, 0), (8, 8, 0, 0)]), (91, [(22, 8, 0, 1), (0, 5, 0, 0)]), (97, [(15, 5, 0, 0), (6, 3, 0, 0)])]
/-- CupClaims.isIn(II)Z -/
def m_c74 : List (Nat × List m_P) := [(0, [(14, 0, 0, 0), (14, 1, 0, 0), (32, 0, 0, 0), (10, 0, 0, 1), (29, 0, 0, 0), (10, 0, 0, 1), (2, 1, 2, 0), (8, 1, 0, 0)]), (9, [(10, 0, 0, 1), (0, 3, 0, 0)]), (13, [(10, 0, 0, 0), (8, 3, 0, 0)]), (14, [(6, 2, 0, 0)])]
/-- Solution.minorOf(II)J -/
def m_c75 : List (Nat × List m_P) := [(0, [(14, 1, 0, 0), (10, 0, 0, 16), (25, 0, 0, 0), (14, 2, 0, 0), (23, 0, 0, 0), (18, 3, 0, 0), (14, 3, 0, 0), (1, 2, 3, 0), (8, 1, 0, 0)]), (11, [(14, 3, 0, 0), (17, 0, 0, 0), (53, 5, 0, 3), (58, 0, 0, 0), (2, 3, 3, 0), (8, 2, 0, 0)]), (20, [(17, 0, 0, 0), (53, 5, 0, 3), (14, 3, 0, 0), (60, 0, 0, 0), (0, 4, 0, 0)]), (29, [(11, 0, 0, 0), (8, 4, 0, 0)]), (30, [(6, 3, 0, 0)])]
/-- Solution.findOfSize(LMatrix;I)Z -/
def m_c76 : List (Nat × List m_P) := [(0, [(10, 0, 0, 1), (18, 3, 0, 0), (8, 1, 0, 0)]), (2, [(14, 3, 0, 0), (10, 0, 0, 1), (17, 1, 0, 0), (53, 3, 0, 0), (31, 0, 0, 0), (2, 3, 13, 0), (8, 2, 0, 0)]), (12, [(10, 0, 0, 1), (18, 4, 0, 0), (8, 3, 0, 0)]), (15, [(14, 4, 0, 0), (10, 0, 0, 1), (17, 1, 0, 0), (53, 3, 1, 0), (31, 0, 0, 0), (2, 3, 12, 0), (8, 4, 0, 0)]), (26, [(14, 3, 0, 0), (7, 72, 1, -1), (14, 2, 0, 0), (2, 1, 7, 0), (8, 5, 0, 0)]), (34, [(14, 4, 0, 0), (7, 72, 1, -1), (14, 2, 0, 0), (2, 1, 7, 0), (8, 6, 0, 0)]), (43, [(10, 0, 0, 1), (0, 8, 0, 0)]), (47, [(10, 0, 0, 0), (8, 8, 0, 0)]), (48, [(18, 5, 0, 0), (14, 5, 0, 0), (1, 0, 11, 0), (8, 9, 0, 0)]), (55, [(17, 0, 0, 0), (17, 1, 0, 0), (14, 3, 0, 0), (14, 4, 0, 0), (7, 77, 4, 5), (1, 0, 11, 0), (8, 10, 0, 0)]), (66, [(10, 0, 0, 1), (6, 2, 0, 0)]), (68, [(22, 4, 0, 1), (0, 3, 0, 0)]), (74, [(22, 3, 0, 1), (0, 1, 0, 0)]), (80, [(10, 0, 0, 0), (6, 2, 0, 0)])]
/-- Solution.isSolution(LMatrix;II)Z -/
def m_c77 : List (Nat × List m_P) := [(0, [(17, 0, 0, 0), (14, 2, 0, 0), (14, 3, 0, 0), (7, 78, 3, 5), (17, 0, 0, 0), (53, 5, 5, 2), (11, 0, 0, 0), (40, 0, 0, 0), (1, 1, 2, 0), (8, 1, 0, 0)]), (15, [(10, 0, 0, 0), (6, 2, 0, 0)]), (17, [(17, 0, 0, 0), (17, 0, 0, 0), (14, 2, 0, 0), (14, 3, 0, 0), (7, 75, 3, 5), (54, 5, 4, 2), (17, 0, 0, 0), (53, 5, 5, 2), (11, 0, 0, 0), (40, 0, 0, 0), (1, 3, 4, 0), (8, 3, 0, 0)]), (36, [(17, 0, 0, 0), (7, 80, 1, 5), (8, 4, 0, 0)]), (40, [(17, 0, 0, 0), (7, 81, 1, 5), (1, 0, 8, 0), (8, 5, 0, 0)]), (47, [(17, 0, 0, 0), (17, 1, 0, 0), (7, 82, 2, 5), (1, 0, 8, 0), (8, 6, 0, 0)]), (55, [(17, 0, 0, 0), (17, 1, 0, 0), (7, 83, 2, 5), (1, 0, 8, 0), (8, 7, 0, 0)]), (63, [(10, 0, 0, 1), (0, 9, 0, 0)]), (67, [(10, 0, 0, 0), (8, 9, 0, 0)]), (68, [(6, 2, 0, 0)])]
/-- Solution.sumCofactors(II)V -/
def m_c78 : List (Nat × List m_P) := [(0, [(17, 0, 0, 0), (11, 0, 0, 0), (54, 5, 5, 2), (10, 0, 0, 0), (18, 3, 0, 0), (8, 1, 0, 0)]), (7, [(14, 3, 0, 0), (10, 0, 0, 4), (2, 3, 3, 0), (8, 2, 0, 0)]), (12, [(17, 0, 0, 0), (53, 5, 1, 3), (14, 3, 0, 0), (11, 0, 0, 0), (64, 0, 0, 0), (17, 0, 0, 0), (53, 5, 2, 3), (14, 3, 0, 0), (11, 0, 0, 0), (64, 0, 0, 0), (22, 3, 0, 1), (0, 1, 0, 0)]), (32, [(10, 0, 0, 0), (18, 3, 0, 0), (8, 4, 0, 0)]), (34, [(14, 3, 0, 0), (10, 0, 0, 4), (2, 3, 12, 0), (8, 5, 0, 0)]), (39, [(10, 0, 0, 0), (18, 4, 0, 0), (8, 6, 0, 0)]), (42, [(14, 4, 0, 0), (10, 0, 0, 4), (2, 3, 11, 0), (8, 7, 0, 0)]), (48, [(14, 1, 0, 0), (14, 3, 0, 0), (7, 74, 2, -1), (1, 0, 10, 0), (8, 8, 0, 0)]), (56, [(14, 2, 0, 0), (14, 4, 0, 0), (7, 74, 2, -1), (1, 0, 10, 0), (8, 9, 0, 0)]), (65, [(17, 0, 0, 0), (14, 1, 0, 0), (14, 2, 0, 0), (14, 3, 0, 0), (14, 4, 0, 0), (7, 79, 5, 5), (19, 5, 0, 0), (17, 0, 0, 0), (53, 5, 1, 3), (14, 3, 0, 0), (51, 0, 0, 0), (60, 0, 0, 0), (15, 5, 0, 0), (34, 0, 0, 0), (64, 0, 0, 0), (17, 0, 0, 0), (53, 5, 2, 3), (14, 4, 0, 0), (51, 0, 0, 0), (60, 0, 0, 0), (15, 5, 0, 0), (34, 0, 0, 0), (64, 0, 0, 0), (17, 0, 0, 0), (50, 0, 0, 0), (53, 5, 5, 2), (15, 5, 0, 0), (34, 0, 0, 0), (54, 5, 5, 2), (8, 10, 0, 0)]), (110, [(22, 4, 0, 1), (0, 6, 0, 0)]), (116, [(22, 3, 0, 1), (0, 4, 0, 0)]), (122, [(6, 0, 0, 0)])]
/-- Solution.cofactorOf(IIII)J -/
def m_c79 : List (Nat × List m_P) := [(0, [(14, 1, 0, 0), (10, 0, 0, 1), (14, 3, 0, 0), (31, 0, 0, 0), (10, 0, 0, 1), (24, 0, 0, 0), (29, 0, 0, 0), (7, 72, 1, -1), (18, 5, 0, 0), (14, 2, 0, 0), (10, 0, 0, 1), (14, 4, 0, 0), (31, 0, 0, 0), (10, 0, 0, 1), (24, 0, 0, 0), (29, 0, 0, 0), (7, 72, 1, -1), (18, 6, 0, 0), (17, 0, 0, 0), (14, 1, 0, 0), (10, 0, 0, 1), (14, 3, 0, 0), (31, 0, 0, 0), (30, 0, 0, 0), (14, 2, 0, 0), (10, 0, 0, 1), (14, 4, 0, 0), (31, 0, 0, 0), (30, 0, 0, 0), (7, 75, 3, 5), (19, 7, 0, 0), (14, 5, 0, 0), (14, 6, 0, 0), (23, 0, 0, 0), (10, 0, 0, 2), (27, 0, 0, 0), (1, 1, 2, 0), (8, 1, 0, 0)]), (52, [(15, 7, 0, 0), (0, 3, 0, 0)]), (57, [(15, 7, 0, 0), (39, 0, 0, 0), (8, 3, 0, 0)]), (60, [(6, 3, 0, 0)])]
/-- Solution.negateAll()V -/
def m_c80 : List (Nat × List m_P) := [(0, [(17, 0, 0, 0), (17, 0, 0, 0), (53, 5, 5, 2), (39, 0, 0, 0), (54, 5, 5, 2), (17, 0, 0, 0), (17, 0, 0, 0), (53, 5, 4, 2), (39, 0, 0, 0), (54, 5, 4, 2), (10, 0, 0, 0), (18, 1, 0, 0), (8, 1, 0, 0)]), (20, [(14, 1, 0, 0), (10, 0, 0, 4), (2, 3, 3, 0), (8, 2, 0, 0)]), (25, [(17, 0, 0, 0), (53, 5, 1, 3), (14, 1, 0, 0), (17, 0, 0, 0), (53, 5, 1, 3), (14, 1, 0, 0), (60, 0, 0, 0), (39, 0, 0, 0), (64, 0, 0, 0), (17, 0, 0, 0), (53, 5, 2, 3), (14, 1, 0, 0), (17, 0, 0, 0), (53, 5, 2, 3), (14, 1, 0, 0), (60, 0, 0, 0), (39, 0, 0, 0), (64, 0, 0, 0), (22, 1, 0, 1), (0, 1, 0, 0)]), (57, [(6, 0, 0, 0)])]
/-- Solution.sharesStand()Z -/
def m_c81 : List (Nat × List m_P) := [(0, [(10, 0, 0, 0), (18, 1, 0, 0), (8, 1, 0, 0)]), (2, [(14, 1, 0, 0), (10, 0, 0, 4), (2, 3, 6, 0), (8, 2, 0, 0)]), (7, [(17, 0, 0, 0), (53, 5, 1, 3), (14, 1, 0, 0), (60, 0, 0, 0), (11, 0, 0, 0), (40, 0, 0, 0), (1, 2, 4, 0), (8, 3, 0, 0)]), (18, [(17, 0, 0, 0), (53, 5, 2, 3), (14, 1, 0, 0), (60, 0, 0, 0), (11, 0, 0, 0), (40, 0, 0, 0), (1, 3, 5, 0), (8, 4, 0, 0)]), (29, [(10, 0, 0, 0), (6, 2, 0, 0)]), (31, [(22, 1, 0, 1), (0, 1, 0, 0)]), (37, [(10, 0, 0, 1), (6, 2, 0, 0)])]
/-- Solution.rowsHold(LMatrix;)Z -/
def m_c82 : List (Nat × List m_P) := [(0, [(10, 0, 0, 0), (18, 2, 0, 0), (8, 1, 0, 0)]), (2, [(14, 2, 0, 0), (17, 1, 0, 0), (53, 3, 1, 0), (2, 3, 8, 0), (8, 2, 0, 0)]), (10, [(11, 0, 0, 0), (19, 3, 0, 0), (10, 0, 0, 0), (18, 5, 0, 0), (8, 3, 0, 0)]), (15, [(14, 5, 0, 0), (10, 0, 0, 4), (2, 3, 5, 0), (8, 4, 0, 0)]), (21, [(15, 3, 0, 0), (17, 1, 0, 0), (14, 5, 0, 0), (14, 2, 0, 0), (7, 22, 3, 3), (41, 0, 0, 0), (17, 0, 0, 0), (53, 5, 1, 3), (14, 5, 0, 0), (60, 0, 0, 0), (36, 0, 0, 0), (34, 0, 0, 0), (19, 3, 0, 0), (22, 5, 0, 1), (0, 3, 0, 0)]), (46, [(15, 3, 0, 0), (17, 0, 0, 0), (53, 5, 4, 2), (40, 0, 0, 0), (1, 3, 7, 0), (8, 6, 0, 0)]), (55, [(10, 0, 0, 0), (6, 2, 0, 0)]), (57, [(22, 2, 0, 1), (0, 1, 0, 0)]), (63, [(10, 0, 0, 1), (6, 2, 0, 0)])]
/-- Solution.columnsHold(LMatrix;)Z -/
def m_c83 : List (Nat × List m_P) := [(0, [(10, 0, 0, 0), (18, 2, 0, 0), (8, 1, 0, 0)]), (2, [(14, 2, 0, 0), (17, 1, 0, 0), (53, 3, 0, 0), (2, 3, 8, 0), (8, 2, 0, 0)]), (10, [(11, 0, 0, 0), (19, 3, 0, 0), (10, 0, 0, 0), (18, 5, 0, 0), (8, 3, 0, 0)]), (15, [(14, 5, 0, 0), (10, 0, 0, 4), (2, 3, 5, 0), (8, 4, 0, 0)]), (21, [(15, 3, 0, 0), (17, 1, 0, 0), (14, 2, 0, 0), (14, 5, 0, 0), (7, 22, 3, 3), (41, 0, 0, 0), (17, 0, 0, 0), (53, 5, 2, 3), (14, 5, 0, 0), (60, 0, 0, 0), (36, 0, 0, 0), (34, 0, 0, 0), (19, 3, 0, 0), (22, 5, 0, 1), (0, 3, 0, 0)]), (46, [(15, 3, 0, 0), (17, 0, 0, 0), (53, 5, 4, 2), (40, 0, 0, 0), (1, 5, 7, 0), (8, 6, 0, 0)]), (55, [(10, 0, 0, 0), (6, 2, 0, 0)]), (57, [(22, 2, 0, 1), (0, 1, 0, 0)]), (63, [(10, 0, 0, 1), (6, 2, 0, 0)])]
/-- CupClaims.undo()I -/
def m_c84 : List (Nat × List m_P) := [(0, [(17, 0, 0, 0), (53, 9, 4, 3), (53, 2, 2, 0), (1, 1, 2, 0), (8, 1, 0, 0)]), (10, [(10, 0, 0, -1001), (6, 1, 0, 0)]), (14, [(17, 0, 0, 0), (53, 9, 4, 3), (17, 0, 0, 0), (53, 9, 3, 3), (7, 85, 2, 2), (17, 0, 0, 0), (53, 9, 6, 3), (17, 0, 0, 0), (53, 9, 3, 3), (53, 7, 13, 3), (7, 69, 2, 5), (17, 0, 0, 0), (53, 9, 4, 3), (53, 2, 2, 0), (6, 1, 0, 0)])]
/-- History.restore(LTable;)V -/
def m_c85 : List (Nat × List m_P) := [(0, [(17, 0, 0, 0), (17, 0, 0, 0), (53, 2, 2, 0), (10, 0, 0, 1), (24, 0, 0, 0), (7, 34, 2, 2), (21, 2, 0, 0), (17, 2, 0, 0), (3, 2, 0, 0), (8, 1, 0, 0)]), (15, [(17, 1, 0, 0), (17, 2, 0, 0), (7, 36, 2, 7), (17, 0, 0, 0), (50, 0, 0, 0), (53, 2, 2, 0), (10, 0, 0, 1), (24, 0, 0, 0), (54, 2, 2, 0), (8, 2, 0, 0)]), (30, [(6, 0, 0, 0)])]
/-- CupClaims.player(II)I -/
def m_c86 : List (Nat × List m_P) := [(0, [(17, 0, 0, 0), (53, 9, 3, 3), (14, 1, 0, 0), (7, 61, 2, 7), (1, 1, 2, 0), (8, 1, 0, 0)]), (11, [(10, 0, 0, -1000), (6, 1, 0, 0)]), (15, [(14, 2, 0, 0), (5, 0, 0, 0)]), (44, [(17, 0, 0, 0), (53, 9, 3, 3), (53, 7, 9, 3), (14, 1, 0, 0), (59, 0, 0, 0), (6, 1, 0, 0)]), (54, [(17, 0, 0, 0), (53, 9, 3, 3), (53, 7, 10, 3), (14, 1, 0, 0), (59, 0, 0, 0), (6, 1, 0, 0)]), (64, [(17, 0, 0, 0), (53, 9, 3, 3), (53, 7, 11, 3), (14, 1, 0, 0), (59, 0, 0, 0), (6, 1, 0, 0)]), (74, [(10, 0, 0, -1000), (6, 1, 0, 0)])]
/-- CupClaims.die(II)I -/
def m_c87 : List (Nat × List m_P) := [(0, [(17, 0, 0, 0), (53, 9, 3, 3), (14, 1, 0, 0), (7, 61, 2, 7), (1, 0, 2, 0), (8, 1, 0, 0)]), (11, [(14, 2, 0, 0), (1, 3, 3, 0), (8, 2, 0, 0)]), (15, [(10, 0, 0, -1000), (6, 1, 0, 0)]), (19, [(17, 0, 0, 0), (53, 9, 3, 3), (53, 7, 2, 1), (1, 0, 5, 0), (8, 4, 0, 0)]), (29, [(14, 2, 0, 0), (17, 0, 0, 0), (53, 9, 3, 3), (14, 1, 0, 0), (7, 29, 2, 7), (2, 2, 6, 0), (8, 5, 0, 0)]), (41, [(10, 0, 0, -1003), (6, 1, 0, 0)]), (45, [(17, 0, 0, 0), (53, 9, 3, 3), (14, 1, 0, 0), (14, 2, 0, 0), (7, 58, 3, 7), (6, 1, 0, 0)])]
/-- CupClaims.counting(II)I -/
def m_c88 : List (Nat × List m_P) := [(0, [(14, 1, 0, 0), (10, 0, 0, -1), (2, 1, 2, 0), (8, 1, 0, 0)]), (5, [(10, 0, 0, 1), (0, 3, 0, 0)]), (9, [(10, 0, 0, 0), (8, 3, 0, 0)]), (10, [(18, 3, 0, 0), (14, 3, 0, 0), (1, 1, 5, 0), (8, 4, 0, 0)]), (15, [(17, 0, 0, 0), (53, 9, 3, 3), (14, 1, 0, 0), (7, 61, 2, 7), (1, 0, 6, 0), (8, 5, 0, 0)]), (26, [(14, 2, 0, 0), (7, 31, 1, -1), (1, 1, 7, 0), (8, 6, 0, 0)]), (33, [(10, 0, 0, -1000), (6, 1, 0, 0)]), (37, [(14, 3, 0, 0), (1, 0, 9, 0), (8, 8, 0, 0)]), (41, [(17, 0, 0, 0), (53, 9, 3, 3), (14, 2, 0, 0), (7, 56, 2, 7), (0, 10, 0, 0)]), (52, [(17, 0, 0, 0), (53, 9, 3, 3), (14, 1, 0, 0), (14, 2, 0, 0), (7, 57, 3, 7), (8, 10, 0, 0)]), (61, [(6, 1, 0, 0)])]
/-- CupClaims.rank(II)I -/
def m_c89 : List (Nat × List m_P) := [(0, [(14, 1, 0, 0), (14, 2, 0, 0), (7, 49, 2, -1), (1, 0, 2, 0), (8, 1, 0, 0)]), (8, [(17, 0, 0, 0), (53, 9, 3, 3), (14, 1, 0, 0), (14, 2, 0, 0), (7, 50, 3, 7), (0, 3, 0, 0)]), (20, [(10, 0, 0, -1000), (8, 3, 0, 0)]), (23, [(6, 1, 0, 0)])]
/-- CupClaims.isFace(I)Z -/
def m_c90 : List (Nat × List m_P) := [(0, [(14, 0, 0, 0), (10, 0, 0, 1), (2, 2, 3, 0), (8, 1, 0, 0)]), (5, [(14, 0, 0, 0), (10, 0, 0, 6), (2, 4, 3, 0), (8, 2, 0, 0)]), (11, [(10, 0, 0, 1), (0, 4, 0, 0)]), (15, [(10, 0, 0, 0), (8, 4, 0, 0)]), (16, [(6, 2, 0, 0)])]
/-- CupClaims.isFace(I)Z -/
def m_c91 : List (Nat × List m_P) := [(0, [(14, 0, 0, 0), (10, 0, 0, 1), (2, 2, 3, 0), (8, 1, 0, 0)]), (5, [(14, 0, 0, 0), (10, 0, 0, 6), (2, 4, 3, 0), (8, 2, 0, 0)]), (11, [(10, 0, 0, 1), (0, 4, 0, 0)]), (15, [(10, 0, 0, 0), (8, 4, 0, 0)]), (16, [(6, 2, 0, 0)])]
/-- CupClaims.isFace(I)Z -/
def m_c92 : List (Nat × List m_P) := [(0, [(14, 0, 0, 0), (10, 0, 0, 1), (2, 2, 3, 0), (8, 1, 0, 0)]), (5, [(14, 0, 0, 0), (10, 0, 0, 6), (2, 4, 3, 0), (8, 2, 0, 0)]), (11, [(10, 0, 0, 1), (0, 4, 0, 0)]), (15, [(10, 0, 0, 0), (8, 4, 0, 0)]), (16, [(6, 2, 0, 0)])]
/-- CupClaims.isFace(I)Z -/
def m_c93 : List (Nat × List m_P) := [(0, [(14, 0, 0, 0), (10, 0, 0, 1), (2, 2, 3, 0), (8, 1, 0, 0)]), (5, [(14, 0, 0, 0), (10, 0, 0, 6), (2, 4, 3, 0), (8, 2, 0, 0)]), (11, [(10, 0, 0, 1), (0, 4, 0, 0)]), (15, [(10, 0, 0, 0), (8, 4, 0, 0)]), (16, [(6, 2, 0, 0)])]
/-- CupClaims.isFace(I)Z -/
def m_c94 : List (Nat × List m_P) := [(0, [(14, 0, 0, 0), (10, 0, 0, 1), (2, 2, 3, 0), (8, 1, 0, 0)]), (5, [(14, 0, 0, 0), (10, 0, 0, 6), (2, 4, 3, 0), (8, 2, 0, 0)]), (11, [(10, 0, 0, 1), (0, 4, 0, 0)]), (15, [(10, 0, 0, 0), (8, 4, 0, 0)]), (16, [(6, 2, 0, 0)])]
/-- CupClaims.isFace(I)Z -/
def m_c95 : List (Nat × List m_P) := [(0, [(14, 0, 0, 0), (10, 0, 0, 1), (2, 2, 3, 0), (8, 1, 0, 0)]), (5, [(14, 0, 0, 0), (10, 0, 0, 6), (2, 4, 3, 0), (8, 2, 0, 0)]), (11, [(10, 0, 0, 1), (0, 4, 0, 0)]), (15, [(10, 0, 0, 0), (8, 4, 0, 0)]), (16, [(6, 2, 0, 0)])]
/-- CupClaims.isFace(I)Z -/
def m_c96 : List (Nat × List m_P) := [(0, [(14, 0, 0, 0), (10, 0, 0, 1), (2, 2, 3, 0), (8, 1, 0, 0)]), (5, [(14, 0, 0, 0), (10, 0, 0, 6), (2, 4, 3, 0), (8, 2, 0, 0)]), (11, [(10, 0, 0, 1), (0, 4, 0, 0)]), (15, [(10, 0, 0, 0), (8, 4, 0, 0)]), (16, [(6, 2, 0, 0)])]
/-- CupClaims.isFace(I)Z -/
def m_c97 : List (Nat × List m_P) := [(0, [(14, 0, 0, 0), (10, 0, 0, 1), (2, 2, 3, 0), (8, 1, 0, 0)]), (5, [(14, 0, 0, 0), (10, 0, 0, 6), (2, 4, 3, 0), (8, 2, 0, 0)]), (11, [(10, 0, 0, 1), (0, 4, 0, 0)]), (15, [(10, 0, 0, 0), (8, 4, 0, 0)]), (16, [(6, 2, 0, 0)])]
/-- CupClaims.isFace(I)Z -/
def m_c98 : List (Nat × List m_P) := [(0, [(14, 0, 0, 0), (10, 0, 0, 1), (2, 2, 3, 0), (8, 1, 0, 0)]), (5, [(14, 0, 0, 0), (10, 0, 0, 6), (2, 4, 3, 0), (8, 2, 0, 0)]), (11, [(10, 0, 0, 1), (0, 4, 0, 0)]), (15, [(10, 0, 0, 0), (8, 4, 0, 0)]), (16, [(6, 2, 0, 0)])]
/-- CupClaims.isFace(I)Z -/
def m_c99 : List (Nat × List m_P) := [(0, [(14, 0, 0, 0), (10, 0, 0, 1), (2, 2, 3, 0), (8, 1, 0, 0)]), (5, [(14, 0, 0, 0), (10, 0, 0, 6), (2, 4, 3, 0), (8, 2, 0, 0)]), (11, [(10, 0, 0, 1), (0, 4, 0, 0)]), (15, [(10, 0, 0, 0), (8, 4, 0, 0)]), (16, [(6, 2, 0, 0)])]
/-- CupClaims.isFace(I)Z -/
def m_c100 : List (Nat × List m_P) := [(0, [(14, 0, 0, 0), (10, 0, 0, 1), (2, 2, 3, 0), (8, 1, 0, 0)]), (5, [(14, 0, 0, 0), (10, 0, 0, 6), (2, 4, 3, 0), (8, 2, 0, 0)]), (11, [(10, 0, 0, 1), (0, 4, 0, 0)]), (15, [(10, 0, 0, 0), (8, 4, 0, 0)]), (16, [(6, 2, 0, 0)])]
/-- CupClaims.isFace(I)Z -/
def m_c101 : List (Nat × List m_P) := [(0, [(14, 0, 0, 0), (10, 0, 0, 1), (2, 2, 3, 0), (8, 1, 0, 0)]), (5, [(14, 0, 0, 0), (10, 0, 0, 6), (2, 4, 3, 0), (8, 2, 0, 0)]), (11, [(10, 0, 0, 1), (0, 4, 0, 0)]), (15, [(10, 0, 0, 0), (8, 4, 0, 0)]), (16, [(6, 2, 0, 0)])]
/-- CupClaims.isFace(I)Z -/
def m_c102 : List (Nat × List m_P) := [(0, [(14, 0, 0, 0), (10, 0, 0, 1), (2, 2, 3, 0), (8, 1, 0, 0)]), (5, [(14, 0, 0, 0), (10, 0, 0, 6), (2, 4, 3, 0), (8, 2, 0, 0)]), (11, [(10, 0, 0, 1), (0, 4, 0, 0)]), (15, [(10, 0, 0, 0), (8, 4, 0, 0)]), (16, [(6, 2, 0, 0)])]
/-- CupClaims.isFace(I)Z -/
def m_c103 : List (Nat × List m_P) := [(0, [(14, 0, 0, 0), (10, 0, 0, 1), (2, 2, 3, 0), (8, 1, 0, 0)]), (5, [(14, 0, 0, 0), (10, 0, 0, 6), (2, 4, 3, 0), (8, 2, 0, 0)]), (11, [(10, 0, 0, 1), (0, 4, 0, 0)]), (15, [(10, 0, 0, 0), (8, 4, 0, 0)]), (16, [(6, 2, 0, 0)])]
/-- CupClaims.isFace(I)Z -/
def m_c104 : List (Nat × List m_P) := [(0, [(14, 0, 0, 0), (10, 0, 0, 1), (2, 2, 3, 0), (8, 1, 0, 0)]), (5, [(14, 0, 0, 0), (10, 0, 0, 6), (2, 4, 3, 0), (8, 2, 0, 0)]), (11, [(10, 0, 0, 1), (0, 4, 0, 0)]), (15, [(10, 0, 0, 0), (8, 4, 0, 0)]), (16, [(6, 2, 0, 0)])]
/-- CupClaims.isFace(I)Z -/
def m_c105 : List (Nat × List m_P) := [(0, [(14, 0, 0, 0), (10, 0, 0, 1), (2, 2, 3, 0), (8, 1, 0, 0)]), (5, [(14, 0, 0, 0), (10, 0, 0, 6), (2, 4, 3, 0), (8, 2, 0, 0)]), (11, [(10, 0, 0, 1), (0, 4, 0, 0)]), (15, [(10, 0, 0, 0), (8, 4, 0, 0)]), (16, [(6, 2, 0, 0)])]
/-- CupClaims.isFace(I)Z -/
def m_c106 : List (Nat × List m_P) := [(0, [(14, 0, 0, 0), (10, 0, 0, 1), (2, 2, 3, 0), (8, 1, 0, 0)]), (5, [(14, 0, 0, 0), (10, 0, 0, 6), (2, 4, 3, 0), (8, 2, 0, 0)]), (11, [(10, 0, 0, 1), (0, 4, 0, 0)]), (15, [(10, 0, 0, 0), (8, 4, 0, 0)]), (16, [(6, 2, 0, 0)])]
/-- CupClaims.isFace(I)Z -/
def m_c107 : List (Nat × List m_P) := [(0, [(14, 0, 0, 0), (10, 0, 0, 1), (2, 2, 3, 0), (8, 1, 0, 0)]), (5, [(14, 0, 0, 0), (10, 0, 0, 6), (2, 4, 3, 0), (8, 2, 0, 0)]), (11, [(10, 0, 0, 1), (0, 4, 0, 0)]), (15, [(10, 0, 0, 0), (8, 4, 0, 0)]), (16, [(6, 2, 0, 0)])]
/-- CupClaims.isFace(I)Z -/
def m_c108 : List (Nat × List m_P) := [(0, [(14, 0, 0, 0), (10, 0, 0, 1), (2, 2, 3, 0), (8, 1, 0, 0)]), (5, [(14, 0, 0, 0), (10, 0, 0, 6), (2, 4, 3, 0), (8, 2, 0, 0)]), (11, [(10, 0, 0, 1), (0, 4, 0, 0)]), (15, [(10, 0, 0, 0), (8, 4, 0, 0)]), (16, [(6, 2, 0, 0)])]
/-- CupClaims.isFace(I)Z -/
def m_c109 : List (Nat × List m_P) := [(0, [(14, 0, 0, 0), (10, 0, 0, 1), (2, 2, 3, 0), (8, 1, 0, 0)]), (5, [(14, 0, 0, 0), (10, 0, 0, 6), (2, 4, 3, 0), (8, 2, 0, 0)]), (11, [(10, 0, 0, 1), (0, 4, 0, 0)]), (15, [(10, 0, 0, 0), (8, 4, 0, 0)]), (16, [(6, 2, 0, 0)])]
/-- CupClaims.isFace(I)Z -/
def m_c110 : List (Nat × List m_P) := [(0, [(14, 0, 0, 0), (10, 0, 0, 1), (2, 2, 3, 0), (8, 1, 0, 0)]), (5, [(14, 0, 0, 0), (10, 0, 0, 6), (2, 4, 3, 0), (8, 2, 0, 0)]), (11, [(10, 0, 0, 1), (0, 4, 0, 0)]), (15, [(10, 0, 0, 0), (8, 4, 0, 0)]), (16, [(6, 2, 0, 0)])]
/-- CupClaims.isFace(I)Z -/
def m_c111 : List (Nat × List m_P) := [(0, [(14, 0, 0, 0), (10, 0, 0, 1), (2, 2, 3, 0), (8, 1, 0, 0)]), (5, [(14, 0, 0, 0), (10, 0, 0, 6), (2, 4, 3, 0), (8, 2, 0, 0)]), (11, [(10, 0, 0, 1), (0, 4, 0, 0)]), (15, [(10, 0, 0, 0), (8, 4, 0, 0)]), (16, [(6, 2, 0, 0)])]
/-- CupClaims.isFace(I)Z -/
def m_c112 : List (Nat × List m_P) := [(0, [(14, 0, 0, 0), (10, 0, 0, 1), (2, 2, 3, 0), (8, 1, 0, 0)]), (5, [(14, 0, 0, 0), (10, 0, 0, 6), (2, 4, 3, 0), (8, 2, 0, 0)]), (11, [(10, 0, 0, 1), (0, 4, 0, 0)]), (15, [(10, 0, 0, 0), (8, 4, 0, 0)]), (16, [(6, 2, 0, 0)])]
/-- CupClaims.isFace(I)Z -/
def m_c113 : List (Nat × List m_P) := [(0, [(14, 0, 0, 0), (10, 0, 0, 1), (2, 2, 3, 0), (8, 1, 0, 0)]), (5, [(14, 0, 0, 0), (10, 0, 0, 6), (2, 4, 3, 0), (8, 2, 0, 0)]), (11, [(10, 0, 0, 1), (0, 4, 0, 0)]), (15, [(10, 0, 0, 0), (8, 4, 0, 0)]), (16, [(6, 2, 0, 0)])]
/-- CupClaims.isFace(I)Z -/
def m_c114 : List (Nat × List m_P) := [(0, [(14, 0, 0, 0), (10, 0, 0, 1), (2, 2, 3, 0), (8, 1, 0, 0)]), (5, [(14, 0, 0, 0), (10, 0, 0, 6), (2, 4, 3, 0), (8, 2, 0, 0)]), (11, [(10, 0, 0, 1), (0, 4, 0, 0)]), (15, [(10, 0, 0, 0), (8, 4, 0, 0)]), (16, [(6, 2, 0, 0)])]
/-- CupClaims.count(I)I -/
def m_c115 : List (Nat × List m_P) := [(0, [(14, 1, 0, 0), (5, 1, 0, 0)]), (72, [(17, 0, 0, 0), (53, 9, 3, 3), (53, 7, 0, 0), (6, 1, 0, 0)]), (80, [(17, 0, 0, 0), (53, 9, 3, 3), (7, 43, 1, 7), (6, 1, 0, 0)]), (88, [(17, 0, 0, 0), (53, 9, 3, 3), (7, 42, 1, 7), (1, 0, 5, 0), (8, 4, 0, 0)]), (98, [(10, 0, 0, -1003), (0, 6, 0, 0)]), (104, [(17, 0, 0, 0), (53, 9, 3, 3), (53, 7, 3, 0), (8, 6, 0, 0)]), (111, [(6, 1, 0, 0)]), (112, [(17, 0, 0, 0), (53, 9, 3, 3), (53, 7, 2, 1), (1, 0, 9, 0), (8, 8, 0, 0)]), (122, [(10, 0, 0, 1), (0, 10, 0, 0)]), (126, [(10, 0, 0, 0), (8, 10, 0, 0)]), (127, [(6, 1, 0, 0)]), (128, [(17, 0, 0, 0), (53, 9, 3, 3), (7, 39, 1, 7), (1, 0, 13, 0), (8, 12, 0, 0)]), (138, [(17, 0, 0, 0), (53, 9, 3, 3), (53, 7, 4, 0), (0, 14, 0, 0)]), (148, [(10, 0, 0, -1003), (8, 14, 0, 0)]), (151, [(6, 1, 0, 0)]), (152, [(17, 0, 0, 0), (53, 9, 3, 3), (7, 39, 1, 7), (1, 0, 17, 0), (8, 16, 0, 0)]), (162, [(17, 0, 0, 0), (53, 9, 3, 3), (53, 7, 5, 0), (0, 18, 0, 0)]), (172, [(10, 0, 0, -1003), (8, 18, 0, 0)]), (175, [(6, 1, 0, 0)]), (176, [(17, 0, 0, 0), (53, 9, 3, 3), (7, 39, 1, 7), (1, 0, 21, 0), (8, 20, 0, 0)]), (186, [(17, 0, 0, 0), (53, 9, 3, 3), (53, 7, 6, 0), (0, 22, 0, 0)]), (196, [(10, 0, 0, -1003), (8, 22, 0, 0)]), (199, [(6, 1, 0, 0)]), (200, [(17, 0, 0, 0), (53, 9, 3, 3), (53, 7, 1, 1), (1, 0, 25, 0), (8, 24, 0, 0)]), (210, [(10, 0, 0, 1), (0, 26, 0, 0)]), (214, [(10, 0, 0, 0), (8, 26, 0, 0)]), (215, [(6, 1, 0, 0)]), (216, [(17, 0, 0, 0), (53, 9, 3, 3), (53, 7, 7, 0), (6, 1, 0, 0)]), (224, [(17, 0, 0, 0), (53, 9, 3, 3), (53, 7, 8, 0), (6, 1, 0, 0)]), (232, [(17, 0, 0, 0), (53, 9, 3, 3), (53, 7, 13, 3), (53, 3, 0, 0), (6, 1, 0, 0)]), (243, [(17, 0, 0, 0), (53, 9, 3, 3), (53, 7, 13, 3), (53, 3, 1, 0), (6, 1, 0, 0)]), (254, [(17, 0, 0, 0), (53, 9, 4, 3), (53, 2, 2, 0), (6, 1, 0, 0)]), (262, [(17, 0, 0, 0), (53, 9, 0, 3), (53, 8, 1, 0), (6, 1, 0, 0)]), (270, [(10, 0, 0, -1000), (6, 1, 0, 0)])]
/-- CupClaims.isFace(I)Z -/
def m_c116 : List (Nat × List m_P) := [(0, [(14, 0, 0, 0), (10, 0, 0, 1), (2, 2, 3, 0), (8, 1, 0, 0)]), (5, [(14, 0, 0, 0), (10, 0, 0, 6), (2, 4, 3, 0), (8, 2, 0, 0)]), (11, [(10, 0, 0, 1), (0, 4, 0, 0)]), (15, [(10, 0, 0, 0), (8, 4, 0, 0)]), (16, [(6, 2, 0, 0)])]
/-- CupClaims.isFace(I)Z -/
def m_c117 : List (Nat × List m_P) := [(0, [(14, 0, 0, 0), (10, 0, 0, 1), (2, 2, 3, 0), (8, 1, 0, 0)]), (5, [(14, 0, 0, 0), (10, 0, 0, 6), (2, 4, 3, 0), (8, 2, 0, 0)]), (11, [(10, 0, 0, 1), (0, 4, 0, 0)]), (15, [(10, 0, 0, 0), (8, 4, 0, 0)]), (16, [(6, 2, 0, 0)])]
/-- CupClaims.isFace(I)Z -/
def m_c118 : List (Nat × List m_P) := [(0, [(14, 0, 0, 0), (10, 0, 0, 1), (2, 2, 3, 0), (8, 1, 0, 0)]), (5, [(14, 0, 0, 0), (10, 0, 0, 6), (2, 4, 3, 0), (8, 2, 0, 0)]), (11, [(10, 0, 0, 1), (0, 4, 0, 0)]), (15, [(10, 0, 0, 0), (8, 4, 0, 0)]), (16, [(6, 2, 0, 0)])]
/-- CupClaims.isFace(I)Z -/
def m_c119 : List (Nat × List m_P) := [(0, [(14, 0, 0, 0), (10, 0, 0, 1), (2, 2, 3, 0), (8, 1, 0, 0)]), (5, [(14, 0, 0, 0), (10, 0, 0, 6), (2, 4, 3, 0), (8, 2, 0, 0)]), (11, [(10, 0, 0, 1), (0, 4, 0, 0)]), (15, [(10, 0, 0, 0), (8, 4, 0, 0)]), (16, [(6, 2, 0, 0)])]
/-- CupClaims.isFace(I)Z -/
def m_c120 : List (Nat × List m_P) := [(0, [(14, 0, 0, 0), (10, 0, 0, 1), (2, 2, 3, 0), (8, 1, 0, 0)]), (5, [(14, 0, 0, 0), (10, 0, 0, 6), (2, 4, 3, 0), (8, 2, 0, 0)]), (11, [(10, 0, 0, 1), (0, 4, 0, 0)]), (15, [(10, 0, 0, 0), (8, 4, 0, 0)]), (16, [(6, 2, 0, 0)])]
/-- CupClaims.isFace(I)Z -/
def m_c121 : List (Nat × List m_P) := [(0, [(14, 0, 0, 0), (10, 0, 0, 1), (2, 2, 3, 0), (8, 1, 0, 0)]), (5, [(14, 0, 0, 0), (10, 0, 0, 6), (2, 4, 3, 0), (8, 2, 0, 0)]), (11, [(10, 0, 0, 1), (0, 4, 0, 0)]), (15, [(10, 0, 0, 0), (8, 4, 0, 0)]), (16, [(6, 2, 0, 0)])]
/-- CupClaims.isFace(I)Z -/
def m_c122 : List (Nat × List m_P) := [(0, [(14, 0, 0, 0), (10, 0, 0, 1), (2, 2, 3, 0), (8, 1, 0, 0)]), (5, [(14, 0, 0, 0), (10, 0, 0, 6), (2, 4, 3, 0), (8, 2, 0, 0)]), (11, [(10, 0, 0, 1), (0, 4, 0, 0)]), (15, [(10, 0, 0, 0), (8, 4, 0, 0)]), (16, [(6, 2, 0, 0)])]
/-- CupClaims.isFace(I)Z -/
def m_c123 : List (Nat × List m_P) := [(0, [(14, 0, 0, 0), (10, 0, 0, 1), (2, 2, 3, 0), (8, 1, 0, 0)]), (5, [(14, 0, 0, 0), (10, 0, 0, 6), (2, 4, 3, 0), (8, 2, 0, 0)]), (11, [(10, 0, 0, 1), (0, 4, 0, 0)]), (15, [(10, 0, 0, 0), (8, 4, 0, 0)]), (16, [(6, 2, 0, 0)])]
/-- CupClaimsLaw.cell([II)I -/
def m_c124 : List (Nat × List m_P) := [(0, [(14, 1, 0, 0), (17, 0, 0, 0), (58, 0, 0, 0), (2, 3, 2, 0), (8, 1, 0, 0)]), (6, [(17, 0, 0, 0), (14, 1, 0, 0), (59, 0, 0, 0), (0, 3, 0, 0)]), (12, [(10, 1, 0, 795577677), (14, 1, 0, 0), (10, 0, 0, 1), (23, 0, 0, 0), (25, 0, 0, 0), (8, 3, 0, 0)]), (18, [(6, 1, 0, 0)])]
/-- CupClaimsLaw.low(II)I -/
def m_c125 : List (Nat × List m_P) := [(0, [(14, 0, 0, 0), (10, 1, 0, 2147483647), (29, 0, 0, 0), (14, 1, 0, 0), (27, 0, 0, 0), (6, 1, 0, 0)])]
/-- CupClaimsLaw.begins([II)V -/
def m_c126 : List (Nat × List m_P) := [(0, [(17, 0, 0, 0), (10, 0, 0, 46), (59, 0, 0, 0), (18, 2, 0, 0), (10, 0, 0, 0), (18, 3, 0, 0), (8, 1, 0, 0)]), (7, [(14, 3, 0, 0), (10, 0, 0, 49), (2, 3, 6, 0), (8, 2, 0, 0)]), (13, [(17, 0, 0, 0), (14, 3, 0, 0), (14, 3, 0, 0), (14, 1, 0, 0), (2, 3, 4, 0), (8, 3, 0, 0)]), (20, [(10, 0, 0, 5), (0, 5, 0, 0)]), (24, [(10, 0, 0, 0), (8, 5, 0, 0)]), (25, [(63, 0, 0, 0), (22, 3, 0, 1), (0, 1, 0, 0)]), (32, [(17, 0, 0, 0), (10, 0, 0, 40), (14, 1, 0, 0), (63, 0, 0, 0), (17, 0, 0, 0), (10, 0, 0, 43), (10, 0, 0, -1003), (63, 0, 0, 0), (17, 0, 0, 0), (10, 0, 0, 44), (10, 0, 0, -1003), (63, 0, 0, 0), (17, 0, 0, 0), (10, 0, 0, 45), (10, 0, 0, -1003), (63, 0, 0, 0), (17, 0, 0, 0), (10, 0, 0, 46), (14, 2, 0, 0), (63, 0, 0, 0), (6, 0, 0, 0)])]
/-- CupClaimsLaw.alive([I)I -/
def m_c127 : List (Nat × List m_P) := [(0, [(10, 0, 0, 0), (18, 1, 0, 0), (10, 0, 0, 0), (18, 2, 0, 0), (8, 1, 0, 0)]), (4, [(14, 2, 0, 0), (17, 0, 0, 0), (10, 0, 0, 40), (59, 0, 0, 0), (2, 3, 6, 0), (8, 2, 0, 0)]), (12, [(14, 1, 0, 0), (17, 0, 0, 0), (14, 2, 0, 0), (59, 0, 0, 0), (1, 5, 4, 0), (8, 3, 0, 0)]), (19, [(10, 0, 0, 1), (0, 5, 0, 0)]), (23, [(10, 0, 0, 0), (8, 5, 0, 0)]), (24, [(23, 0, 0, 0), (18, 1, 0, 0), (22, 2, 0, 1), (0, 1, 0, 0)]), (32, [(14, 1, 0, 0), (6, 1, 0, 0)])]
/-- CupClaimsLaw.behind([II)I -/
def m_c128 : List (Nat × List m_P) := [(0, [(10, 0, 0, 0), (18, 2, 0, 0), (8, 1, 0, 0)]), (2, [(14, 2, 0, 0), (17, 0, 0, 0), (10, 0, 0, 40), (59, 0, 0, 0), (2, 3, 5, 0), (8, 2, 0, 0)]), (10, [(14, 1, 0, 0), (14, 2, 0, 0), (23, 0, 0, 0), (17, 0, 0, 0), (10, 0, 0, 40), (59, 0, 0, 0), (27, 0, 0, 0), (18, 3, 0, 0), (17, 0, 0, 0), (14, 3, 0, 0), (59, 0, 0, 0), (1, 5, 4, 0), (8, 3, 0, 0)]), (25, [(14, 3, 0, 0), (6, 1, 0, 0)]), (27, [(22, 2, 0, 1), (0, 1, 0, 0)]), (33, [(10, 0, 0, -1003), (6, 1, 0, 0)])]
/-- CupClaimsLaw.rank([III)I -/
def m_c129 : List (Nat × List m_P) := [(0, [(17, 0, 0, 0), (10, 0, 0, 46), (59, 0, 0, 0), (1, 1, 2, 0), (8, 1, 0, 0)]), (7, [(10, 0, 0, 6), (14, 1, 0, 0), (25, 0, 0, 0), (14, 2, 0, 0), (23, 0, 0, 0), (6, 1, 0, 0)]), (14, [(14, 2, 0, 0), (10, 0, 0, 1), (2, 1, 4, 0), (8, 3, 0, 0)]), (19, [(10, 0, 0, 12), (14, 1, 0, 0), (25, 0, 0, 0), (0, 5, 0, 0)]), (26, [(10, 0, 0, 6), (14, 1, 0, 0), (25, 0, 0, 0), (14, 2, 0, 0), (23, 0, 0, 0), (10, 0, 0, 1), (24, 0, 0, 0), (8, 5, 0, 0)]), (34, [(6, 1, 0, 0)])]
/-- CupClaimsLaw.under([III)I -/
def m_c130 : List (Nat × List m_P) := [(0, [(10, 0, 0, 0), (18, 3, 0, 0), (10, 0, 0, 0), (18, 4, 0, 0), (8, 1, 0, 0)]), (5, [(14, 4, 0, 0), (17, 0, 0, 0), (14, 1, 0, 0), (59, 0, 0, 0), (2, 3, 9, 0), (8, 2, 0, 0)]), (13, [(17, 0, 0, 0), (10, 0, 0, 42), (59, 0, 0, 0), (10, 0, 0, 1), (2, 1, 9, 0), (8, 3, 0, 0)]), (21, [(17, 0, 0, 0), (10, 0, 0, 15), (10, 0, 0, 5), (14, 1, 0, 0), (25, 0, 0, 0), (23, 0, 0, 0), (14, 4, 0, 0), (23, 0, 0, 0), (59, 0, 0, 0), (18, 5, 0, 0), (14, 3, 0, 0), (14, 5, 0, 0), (14, 2, 0, 0), (2, 0, 6, 0), (8, 4, 0, 0)]), (41, [(14, 5, 0, 0), (10, 0, 0, 1), (2, 1, 7, 0), (8, 5, 0, 0)]), (47, [(17, 0, 0, 0), (10, 0, 0, 46), (59, 0, 0, 0), (10, 0, 0, 1), (2, 1, 7, 0), (8, 6, 0, 0)]), (55, [(10, 0, 0, 1), (0, 8, 0, 0)]), (59, [(10, 0, 0, 0), (8, 8, 0, 0)]), (60, [(23, 0, 0, 0), (18, 3, 0, 0), (22, 4, 0, 1), (0, 1, 0, 0)]), (68, [(14, 3, 0, 0), (6, 1, 0, 0)])]
/-- CupClaimsLaw.all([II)I -/
def m_c131 : List (Nat × List m_P) := [(0, [(10, 0, 0, 0), (18, 2, 0, 0), (10, 0, 0, 0), (18, 3, 0, 0), (8, 1, 0, 0)]), (4, [(14, 3, 0, 0), (17, 0, 0, 0), (10, 0, 0, 40), (59, 0, 0, 0), (2, 3, 3, 0), (8, 2, 0, 0)]), (12, [(14, 2, 0, 0), (17, 0, 0, 0), (14, 3, 0, 0), (14, 1, 0, 0), (7, 130, 3, -1), (23, 0, 0, 0), (18, 2, 0, 0), (22, 3, 0, 1), (0, 1, 0, 0)]), (27, [(14, 2, 0, 0), (6, 1, 0, 0)])]
/-- CupClaimsLaw.dice([I)I -/
def m_c132 : List (Nat × List m_P) := [(0, [(17, 0, 0, 0), (10, 0, 0, 0), (59, 0, 0, 0), (17, 0, 0, 0), (10, 0, 0, 1), (59, 0, 0, 0), (23, 0, 0, 0), (17, 0, 0, 0), (10, 0, 0, 2), (59, 0, 0, 0), (23, 0, 0, 0), (17, 0, 0, 0), (10, 0, 0, 3), (59, 0, 0, 0), (23, 0, 0, 0), (17, 0, 0, 0), (10, 0, 0, 4), (59, 0, 0, 0), (23, 0, 0, 0), (6, 1, 0, 0)])]
/-- CupClaimsLaw.rolls(LCupClaims;[II)Z -/
def m_c133 : List (Nat × List m_P) := [(0, [(17, 1, 0, 0), (10, 0, 0, 42), (59, 0, 0, 0), (10, 0, 0, 1), (2, 0, 2, 0), (8, 1, 0, 0)]), (8, [(17, 1, 0, 0), (7, 127, 1, -1), (10, 0, 0, 2), (2, 3, 7, 0), (8, 2, 0, 0)]), (16, [(17, 0, 0, 0), (14, 2, 0, 0), (7, 46, 2, 9), (10, 0, 0, -1001), (2, 1, 5, 0), (8, 3, 0, 0)]), (27, [(17, 0, 0, 0), (7, 40, 1, 9), (10, 0, 0, -1001), (2, 1, 5, 0), (8, 4, 0, 0)]), (37, [(10, 0, 0, 1), (0, 6, 0, 0)]), (41, [(10, 0, 0, 0), (8, 6, 0, 0)]), (42, [(6, 2, 0, 0)]), (43, [(14, 2, 0, 0), (18, 3, 0, 0), (10, 0, 0, 0), (18, 4, 0, 0), (8, 8, 0, 0)]), (48, [(14, 4, 0, 0), (17, 1, 0, 0), (10, 0, 0, 40), (59, 0, 0, 0), (2, 3, 13, 0), (8, 9, 0, 0)]), (57, [(10, 0, 0, 0), (18, 5, 0, 0), (8, 10, 0, 0)]), (60, [(14, 5, 0, 0), (17, 1, 0, 0), (14, 4, 0, 0), (59, 0, 0, 0), (2, 3, 12, 0), (8, 11, 0, 0)]), (69, [(14, 3, 0, 0), (10, 0, 0, 1103), (25, 0, 0, 0), (10, 0, 0, 377), (23, 0, 0, 0), (10, 1, 0, 65535), (29, 0, 0, 0), (18, 3, 0, 0), (17, 1, 0, 0), (10, 0, 0, 15), (10, 0, 0, 5), (14, 4, 0, 0), (25, 0, 0, 0), (23, 0, 0, 0), (14, 5, 0, 0), (23, 0, 0, 0), (10, 0, 0, 1), (14, 3, 0, 0), (10, 0, 0, 7), (26, 0, 0, 0), (10, 0, 0, 6), (27, 0, 0, 0), (23, 0, 0, 0), (63, 0, 0, 0), (22, 5, 0, 1), (0, 10, 0, 0)]), (109, [(22, 4, 0, 1), (0, 8, 0, 0)]), (115, [(17, 1, 0, 0), (10, 0, 0, 42), (10, 0, 0, 1), (63, 0, 0, 0), (17, 0, 0, 0), (14, 2, 0, 0), (7, 46, 2, 9), (17, 1, 0, 0), (7, 132, 1, -1), (2, 1, 16, 0), (8, 14, 0, 0)]), (132, [(17, 0, 0, 0), (10, 1, 0, 65536), (7, 46, 2, 9), (10, 0, 0, -1000), (2, 1, 16, 0), (8, 15, 0, 0)]), (144, [(10, 0, 0, 1), (0, 17, 0, 0)]), (148, [(10, 0, 0, 0), (8, 17, 0, 0)]), (149, [(6, 2, 0, 0)])]
/-- CupClaimsLaw.claims(LCupClaims;[III)Z -/
def m_c134 : List (Nat × List m_P) := [(0, [(17, 1, 0, 0), (10, 0, 0, 42), (59, 0, 0, 0), (1, 0, 3, 0), (8, 1, 0, 0)]), (7, [(17, 1, 0, 0), (10, 0, 0, 43), (59, 0, 0, 0), (10, 0, 0, -1003), (2, 0, 7, 0), (8, 2, 0, 0)]), (17, [(17, 1, 0, 0), (14, 2, 0, 0), (14, 3, 0, 0), (7, 129, 3, -1), (17, 1, 0, 0), (17, 1, 0, 0), (10, 0, 0, 43), (59, 0, 0, 0), (17, 1, 0, 0), (10, 0, 0, 44), (59, 0, 0, 0), (7, 129, 3, -1), (2, 4, 7, 0), (8, 3, 0, 0)]), (38, [(17, 0, 0, 0), (14, 2, 0, 0), (14, 3, 0, 0), (7, 48, 3, 9), (10, 0, 0, -1001), (2, 1, 5, 0), (8, 4, 0, 0)]), (50, [(10, 0, 0, 1), (0, 6, 0, 0)]), (54, [(10, 0, 0, 0), (8, 6, 0, 0)]), (55, [(6, 2, 0, 0)]), (56, [(17, 1, 0, 0), (10, 0, 0, 43), (14, 2, 0, 0), (63, 0, 0, 0), (17, 1, 0, 0), (10, 0, 0, 44), (14, 3, 0, 0), (63, 0, 0, 0), (17, 1, 0, 0), (10, 0, 0, 45), (17, 1, 0, 0), (10, 0, 0, 41), (59, 0, 0, 0), (63, 0, 0, 0), (17, 1, 0, 0), (10, 0, 0, 41), (17, 1, 0, 0), (17, 1, 0, 0), (10, 0, 0, 41), (59, 0, 0, 0), (10, 0, 0, 1), (23, 0, 0, 0), (7, 128, 2, -1), (63, 0, 0, 0), (17, 0, 0, 0), (14, 2, 0, 0), (14, 3, 0, 0), (7, 48, 3, 9), (17, 1, 0, 0), (14, 2, 0, 0), (14, 3, 0, 0), (7, 129, 3, -1), (2, 1, 12, 0), (8, 8, 0, 0)]), (103, [(17, 0, 0, 0), (14, 2, 0, 0), (14, 3, 0, 0), (7, 48, 3, 9), (10, 0, 0, -1001), (2, 1, 12, 0), (8, 9, 0, 0)]), (115, [(17, 0, 0, 0), (10, 0, 0, 26), (14, 3, 0, 0), (7, 48, 3, 9), (10, 0, 0, -1000), (2, 1, 12, 0), (8, 10, 0, 0)]), (128, [(17, 0, 0, 0), (14, 2, 0, 0), (10, 0, 0, 7), (7, 48, 3, 9), (10, 0, 0, -1000), (2, 1, 12, 0), (8, 11, 0, 0)]), (141, [(10, 0, 0, 1), (0, 13, 0, 0)]), (145, [(10, 0, 0, 0), (8, 13, 0, 0)]), (146, [(6, 2, 0, 0)])]
/-- CupClaimsLaw.ends([II)V -/
def m_c135 : List (Nat × List m_P) := [(0, [(17, 0, 0, 0), (10, 0, 0, 42), (10, 0, 0, 0), (63, 0, 0, 0), (17, 0, 0, 0), (10, 0, 0, 43), (10, 0, 0, -1003), (63, 0, 0, 0), (17, 0, 0, 0), (10, 0, 0, 44), (10, 0, 0, -1003), (63, 0, 0, 0), (17, 0, 0, 0), (10, 0, 0, 45), (10, 0, 0, -1003), (63, 0, 0, 0), (17, 0, 0, 0), (10, 0, 0, 47), (51, 0, 0, 0), (59, 0, 0, 0), (10, 0, 0, 1), (23, 0, 0, 0), (63, 0, 0, 0), (17, 0, 0, 0), (10, 0, 0, 41), (17, 0, 0, 0), (7, 127, 1, -1), (10, 0, 0, 2), (2, 3, 2, 0), (8, 1, 0, 0)]), (45, [(10, 0, 0, -1003), (0, 3, 0, 0)]), (51, [(17, 0, 0, 0), (14, 1, 0, 0), (7, 128, 2, -1), (8, 3, 0, 0)]), (56, [(63, 0, 0, 0), (6, 0, 0, 0)])]
/-- CupClaimsLaw.doubts(LCupClaims;[I)Z -/
def m_c136 : List (Nat × List m_P) := [(0, [(17, 1, 0, 0), (10, 0, 0, 43), (59, 0, 0, 0), (10, 0, 0, -1003), (2, 1, 5, 0), (8, 1, 0, 0)]), (10, [(17, 0, 0, 0), (7, 54, 1, 9), (10, 0, 0, -1001), (2, 1, 3, 0), (8, 2, 0, 0)]), (20, [(10, 0, 0, 1), (0, 4, 0, 0)]), (24, [(10, 0, 0, 0), (8, 4, 0, 0)]), (25, [(6, 2, 0, 0)]), (26, [(17, 1, 0, 0), (17, 1, 0, 0), (10, 0, 0, 44), (59, 0, 0, 0), (7, 131, 2, -1), (17, 1, 0, 0), (10, 0, 0, 43), (59, 0, 0, 0), (2, 2, 7, 0), (8, 6, 0, 0)]), (41, [(10, 0, 0, 1), (0, 8, 0, 0)]), (45, [(10, 0, 0, 0), (8, 8, 0, 0)]), (46, [(18, 2, 0, 0), (14, 2, 0, 0), (1, 0, 10, 0), (8, 9, 0, 0)]), (51, [(17, 1, 0, 0), (10, 0, 0, 41), (59, 0, 0, 0), (0, 11, 0, 0)]), (58, [(17, 1, 0, 0), (10, 0, 0, 45), (59, 0, 0, 0), (8, 11, 0, 0)]), (62, [(18, 3, 0, 0), (17, 1, 0, 0), (10, 0, 0, 48), (51, 0, 0, 0), (59, 0, 0, 0), (14, 2, 0, 0), (1, 0, 13, 0), (8, 12, 0, 0)]), (72, [(10, 0, 0, 0), (0, 14, 0, 0)]), (76, [(10, 0, 0, 1), (8, 14, 0, 0)]), (77, [(23, 0, 0, 0), (63, 0, 0, 0), (17, 1, 0, 0), (14, 3, 0, 0), (51, 0, 0, 0), (59, 0, 0, 0), (10, 0, 0, 1), (24, 0, 0, 0), (63, 0, 0, 0), (17, 1, 0, 0), (10, 0, 0, 5), (14, 3, 0, 0), (23, 0, 0, 0), (51, 0, 0, 0), (59, 0, 0, 0), (10, 0, 0, 1), (23, 0, 0, 0), (63, 0, 0, 0), (17, 1, 0, 0), (14, 3, 0, 0), (7, 135, 2, -1), (17, 0, 0, 0), (7, 54, 1, 9), (14, 3, 0, 0), (2, 1, 17, 0), (8, 15, 0, 0)]), (108, [(17, 0, 0, 0), (7, 54, 1, 9), (10, 0, 0, -1001), (2, 1, 17, 0), (8, 16, 0, 0)]), (118, [(10, 0, 0, 1), (0, 18, 0, 0)]), (122, [(10, 0, 0, 0), (8, 18, 0, 0)]), (123, [(6, 2, 0, 0)])]
/-- CupClaimsLaw.calls(LCupClaims;[I)Z -/
def m_c137 : List (Nat × List m_P) := [(0, [(17, 1, 0, 0), (10, 0, 0, 43), (59, 0, 0, 0), (10, 0, 0, -1003), (2, 1, 5, 0), (8, 1, 0, 0)]), (10, [(17, 0, 0, 0), (7, 64, 1, 9), (10, 0, 0, -1001), (2, 1, 3, 0), (8, 2, 0, 0)]), (20, [(10, 0, 0, 1), (0, 4, 0, 0)]), (24, [(10, 0, 0, 0), (8, 4, 0, 0)]), (25, [(6, 2, 0, 0)]), (26, [(17, 1, 0, 0), (10, 0, 0, 41), (59, 0, 0, 0), (18, 2, 0, 0), (17, 1, 0, 0), (17, 1, 0, 0), (10, 0, 0, 44), (59, 0, 0, 0), (7, 131, 2, -1), (17, 1, 0, 0), (10, 0, 0, 43), (59, 0, 0, 0), (2, 1, 7, 0), (8, 6, 0, 0)]), (46, [(10, 0, 0, 1), (0, 8, 0, 0)]), (50, [(10, 0, 0, 0), (8, 8, 0, 0)]), (51, [(18, 3, 0, 0), (17, 1, 0, 0), (14, 2, 0, 0), (51, 0, 0, 0), (59, 0, 0, 0), (14, 3, 0, 0), (1, 0, 12, 0), (8, 9, 0, 0)]), (60, [(17, 1, 0, 0), (14, 2, 0, 0), (59, 0, 0, 0), (10, 0, 0, 5), (2, 3, 11, 0), (8, 10, 0, 0)]), (67, [(10, 0, 0, 1), (0, 13, 0, 0)]), (71, [(10, 0, 0, 0), (0, 13, 0, 0)]), (75, [(10, 0, 0, -1), (8, 13, 0, 0)]), (76, [(23, 0, 0, 0), (63, 0, 0, 0), (17, 1, 0, 0), (14, 3, 0, 0), (1, 0, 15, 0), (8, 14, 0, 0)]), (83, [(10, 0, 0, 10), (0, 16, 0, 0)]), (88, [(10, 0, 0, 5), (8, 16, 0, 0)]), (89, [(14, 2, 0, 0), (23, 0, 0, 0), (51, 0, 0, 0), (59, 0, 0, 0), (10, 0, 0, 1), (23, 0, 0, 0), (63, 0, 0, 0), (17, 1, 0, 0), (14, 2, 0, 0), (7, 135, 2, -1), (17, 0, 0, 0), (7, 64, 1, 9), (14, 3, 0, 0), (1, 0, 18, 0), (8, 17, 0, 0)]), (109, [(10, 0, 0, 1), (0, 19, 0, 0)]), (113, [(10, 0, 0, 0), (8, 19, 0, 0)]), (114, [(2, 1, 21, 0), (8, 20, 0, 0)]), (117, [(10, 0, 0, 1), (0, 22, 0, 0)]), (121, [(10, 0, 0, 0), (8, 22, 0, 0)]), (122, [(6, 2, 0, 0)])]
/-- CupClaimsLaw.isTold(LCupClaims;[I)Z -/
def m_c138 : List (Nat × List m_P) := [(0, [(10, 0, 0, 0), (18, 2, 0, 0), (8, 1, 0, 0)]), (2, [(14, 2, 0, 0), (17, 1, 0, 0), (10, 0, 0, 40), (59, 0, 0, 0), (2, 3, 16, 0), (8, 2, 0, 0)]), (10, [(17, 0, 0, 0), (14, 2, 0, 0), (10, 0, 0, 0), (7, 86, 3, 9), (17, 1, 0, 0), (14, 2, 0, 0), (59, 0, 0, 0), (2, 1, 5, 0), (8, 3, 0, 0)]), (22, [(17, 0, 0, 0), (14, 2, 0, 0), (10, 0, 0, 1), (7, 86, 3, 9), (17, 1, 0, 0), (10, 0, 0, 5), (14, 2, 0, 0), (23, 0, 0, 0), (59, 0, 0, 0), (2, 1, 5, 0), (8, 4, 0, 0)]), (36, [(17, 0, 0, 0), (14, 2, 0, 0), (10, 0, 0, 2), (7, 86, 3, 9), (17, 1, 0, 0), (10, 0, 0, 10), (14, 2, 0, 0), (23, 0, 0, 0), (59, 0, 0, 0), (2, 0, 6, 0), (8, 5, 0, 0)]), (51, [(10, 0, 0, 0), (6, 2, 0, 0)]), (53, [(10, 0, 0, 0), (18, 3, 0, 0), (8, 7, 0, 0)]), (55, [(14, 3, 0, 0), (10, 0, 0, 5), (2, 3, 15, 0), (8, 8, 0, 0)]), (60, [(17, 0, 0, 0), (14, 2, 0, 0), (14, 3, 0, 0), (7, 87, 3, 9), (17, 1, 0, 0), (10, 0, 0, 42), (59, 0, 0, 0), (10, 0, 0, 1), (2, 1, 11, 0), (8, 9, 0, 0)]), (74, [(14, 3, 0, 0), (17, 1, 0, 0), (14, 2, 0, 0), (59, 0, 0, 0), (2, 3, 11, 0), (8, 10, 0, 0)]), (81, [(17, 1, 0, 0), (10, 0, 0, 15), (10, 0, 0, 5), (14, 2, 0, 0), (25, 0, 0, 0), (23, 0, 0, 0), (14, 3, 0, 0), (23, 0, 0, 0), (59, 0, 0, 0), (0, 12, 0, 0)]), (94, [(10, 0, 0, -1003), (8, 12, 0, 0)]), (97, [(2, 0, 14, 0), (8, 13, 0, 0)]), (100, [(10, 0, 0, 0), (6, 2, 0, 0)]), (102, [(22, 3, 0, 1), (0, 7, 0, 0)]), (108, [(22, 2, 0, 1), (0, 1, 0, 0)]), (114, [(10, 0, 0, 0), (18, 2, 0, 0), (8, 17, 0, 0)]), (116, [(14, 2, 0, 0), (10, 0, 0, 4), (2, 3, 21, 0), (8, 18, 0, 0)]), (121, [(17, 0, 0, 0), (10, 0, 0, 2), (14, 2, 0, 0), (23, 0, 0, 0), (7, 115, 2, 9), (17, 1, 0, 0), (10, 0, 0, 41), (14, 2, 0, 0), (23, 0, 0, 0), (59, 0, 0, 0), (2, 0, 20, 0), (8, 19, 0, 0)]), (137, [(10, 0, 0, 0), (6, 2, 0, 0)]), (139, [(22, 2, 0, 1), (0, 17, 0, 0)]), (145, [(17, 0, 0, 0), (10, 0, 0, 0), (7, 115, 2, 9), (17, 1, 0, 0), (10, 0, 0, 40), (59, 0, 0, 0), (2, 1, 30, 0), (8, 22, 0, 0)]), (157, [(17, 0, 0, 0), (10, 0, 0, 1), (7, 115, 2, 9), (17, 1, 0, 0), (7, 127, 1, -1), (2, 1, 30, 0), (8, 23, 0, 0)]), (169, [(17, 0, 0, 0), (10, 0, 0, 6), (7, 115, 2, 9), (17, 1, 0, 0), (10, 0, 0, 45), (59, 0, 0, 0), (2, 1, 30, 0), (8, 24, 0, 0)]), (182, [(17, 0, 0, 0), (10, 0, 0, 7), (7, 115, 2, 9), (17, 1, 0, 0), (10, 0, 0, 46), (59, 0, 0, 0), (2, 1, 30, 0), (8, 25, 0, 0)]), (195, [(17, 0, 0, 0), (10, 0, 0, 8), (7, 115, 2, 9), (17, 1, 0, 0), (10, 0, 0, 47), (59, 0, 0, 0), (2, 1, 30, 0), (8, 26, 0, 0)]), (208, [(17, 0, 0, 0), (10, 0, 0, 9), (7, 115, 2, 9), (17, 1, 0, 0), (10, 0, 0, 48), (59, 0, 0, 0), (2, 1, 30, 0), (8, 27, 0, 0)]), (221, [(17, 0, 0, 0), (17, 1, 0, 0), (10, 0, 0, 40), (59, 0, 0, 0), (10, 0, 0, 0), (7, 86, 3, 9), (10, 0, 0, -1000), (2, 1, 30, 0), (8, 28, 0, 0)]), (236, [(17, 0, 0, 0), (10, 0, 0, 0), (10, 0, 0, -1), (7, 87, 3, 9), (10, 0, 0, -1000), (2, 1, 30, 0), (8, 29, 0, 0)]), (248, [(10, 0, 0, 1), (0, 31, 0, 0)]), (252, [(10, 0, 0, 0), (8, 31, 0, 0)]), (253, [(6, 2, 0, 0)])]
/-- CupClaimsLaw.areCounted(LCupClaims;[I)Z -/
def m_c139 : List (Nat × List m_P) := [(0, [(10, 0, 0, 1), (18, 2, 0, 0), (8, 1, 0, 0)]), (2, [(14, 2, 0, 0), (10, 0, 0, 7), (2, 3, 12, 0), (8, 2, 0, 0)]), (8, [(10, 0, 0, 0), (18, 3, 0, 0), (10, 0, 0, 0), (18, 4, 0, 0), (8, 3, 0, 0)]), (13, [(14, 4, 0, 0), (17, 1, 0, 0), (10, 0, 0, 40), (59, 0, 0, 0), (2, 3, 7, 0), (8, 4, 0, 0)]), (22, [(17, 0, 0, 0), (14, 4, 0, 0), (14, 2, 0, 0), (7, 88, 3, 9), (17, 1, 0, 0), (14, 4, 0, 0), (14, 2, 0, 0), (7, 130, 3, -1), (2, 0, 6, 0), (8, 5, 0, 0)]), (39, [(10, 0, 0, 0), (6, 2, 0, 0)]), (41, [(14, 3, 0, 0), (17, 1, 0, 0), (14, 4, 0, 0), (14, 2, 0, 0), (7, 130, 3, -1), (23, 0, 0, 0), (18, 3, 0, 0), (22, 4, 0, 1), (0, 3, 0, 0)]), (57, [(17, 0, 0, 0), (10, 0, 0, -1), (14, 2, 0, 0), (7, 88, 3, 9), (14, 3, 0, 0), (2, 1, 10, 0), (8, 8, 0, 0)]), (67, [(17, 0, 0, 0), (14, 2, 0, 0), (14, 2, 0, 0), (7, 89, 3, 9), (17, 1, 0, 0), (14, 2, 0, 0), (14, 2, 0, 0), (7, 129, 3, -1), (2, 1, 10, 0), (8, 9, 0, 0)]), (82, [(17, 0, 0, 0), (10, 0, 0, 25), (14, 2, 0, 0), (7, 89, 3, 9), (17, 1, 0, 0), (10, 0, 0, 25), (14, 2, 0, 0), (7, 129, 3, -1), (2, 0, 11, 0), (8, 10, 0, 0)]), (99, [(10, 0, 0, 0), (6, 2, 0, 0)]), (101, [(22, 2, 0, 1), (0, 1, 0, 0)]), (107, [(17, 0, 0, 0), (10, 0, 0, -2), (10, 0, 0, 1), (7, 88, 3, 9), (10, 0, 0, -1000), (2, 1, 16, 0), (8, 13, 0, 0)]), (120, [(17, 0, 0, 0), (10, 0, 0, 0), (10, 0, 0, 0), (7, 88, 3, 9), (10, 0, 0, -1000), (2, 1, 16, 0), (8, 14, 0, 0)]), (132, [(17, 0, 0, 0), (10, 0, 0, 0), (10, 0, 0, 1), (7, 89, 3, 9), (10, 0, 0, -1000), (2, 1, 16, 0), (8, 15, 0, 0)]), (144, [(10, 0, 0, 1), (0, 17, 0, 0)]), (148, [(10, 0, 0, 0), (8, 17, 0, 0)]), (149, [(6, 2, 0, 0)])]
/-- CupClaimsLaw.deals(LCupClaims;[II)Z -/
def m_c140 : List (Nat × List m_P) := [(0, [(17, 0, 0, 0), (7, 13, 1, 9), (1, 2, 2, 0), (8, 1, 0, 0)]), (7, [(10, 0, 0, 1), (0, 3, 0, 0)]), (11, [(10, 0, 0, 0), (8, 3, 0, 0)]), (12, [(18, 3, 0, 0), (10, 0, 0, 1), (18, 4, 0, 0), (10, 0, 0, 0), (18, 5, 0, 0), (10, 0, 0, 0), (18, 6, 0, 0), (8, 4, 0, 0)]), (22, [(14, 6, 0, 0), (17, 1, 0, 0), (10, 0, 0, 40), (59, 0, 0, 0), (2, 3, 25, 0), (8, 5, 0, 0)]), (31, [(17, 1, 0, 0), (14, 6, 0, 0), (59, 0, 0, 0), (1, 5, 24, 0), (8, 6, 0, 0)]), (38, [(14, 3, 0, 0), (1, 0, 11, 0), (8, 7, 0, 0)]), (42, [(14, 4, 0, 0), (1, 1, 9, 0), (8, 8, 0, 0)]), (47, [(17, 0, 0, 0), (10, 0, 0, 47), (7, 11, 2, 9), (1, 5, 11, 0), (8, 9, 0, 0)]), (56, [(17, 0, 0, 0), (10, 0, 0, 0), (7, 14, 2, 9), (17, 0, 0, 0), (10, 0, 0, 13), (7, 115, 2, 9), (2, 1, 11, 0), (8, 10, 0, 0)]), (70, [(10, 0, 0, 1), (0, 12, 0, 0)]), (74, [(10, 0, 0, 0), (8, 12, 0, 0)]), (75, [(18, 3, 0, 0), (10, 0, 0, 0), (18, 4, 0, 0), (10, 0, 0, 0), (18, 7, 0, 0), (8, 13, 0, 0)]), (82, [(14, 7, 0, 0), (17, 1, 0, 0), (14, 6, 0, 0), (59, 0, 0, 0), (2, 3, 24, 0), (8, 14, 0, 0)]), (91, [(10, 0, 0, 1), (14, 2, 0, 0), (14, 5, 0, 0), (10, 0, 0, 26), (27, 0, 0, 0), (32, 0, 0, 0), (10, 0, 0, 6), (7, 125, 2, -1), (23, 0, 0, 0), (18, 8, 0, 0), (22, 5, 0, 3), (14, 3, 0, 0), (1, 0, 19, 0), (8, 15, 0, 0)]), (114, [(14, 5, 0, 0), (10, 0, 0, 5), (27, 0, 0, 0), (1, 4, 17, 0), (8, 16, 0, 0)]), (121, [(17, 0, 0, 0), (10, 0, 0, 32), (7, 11, 2, 9), (1, 5, 19, 0), (8, 17, 0, 0)]), (130, [(17, 0, 0, 0), (10, 0, 0, 48), (14, 8, 0, 0), (23, 0, 0, 0), (7, 11, 2, 9), (1, 5, 19, 0), (8, 18, 0, 0)]), (142, [(10, 0, 0, 1), (0, 20, 0, 0)]), (146, [(10, 0, 0, 0), (8, 20, 0, 0)]), (147, [(18, 3, 0, 0), (17, 1, 0, 0), (10, 0, 0, 15), (10, 0, 0, 5), (14, 6, 0, 0), (25, 0, 0, 0), (23, 0, 0, 0), (14, 7, 0, 0), (23, 0, 0, 0), (17, 1, 0, 0), (10, 0, 0, 42), (59, 0, 0, 0), (10, 0, 0, 1), (2, 1, 22, 0), (8, 21, 0, 0)]), (167, [(17, 1, 0, 0), (10, 0, 0, 15), (10, 0, 0, 5), (14, 6, 0, 0), (25, 0, 0, 0), (23, 0, 0, 0), (14, 7, 0, 0), (23, 0, 0, 0), (59, 0, 0, 0), (0, 23, 0, 0)]), (182, [(14, 8, 0, 0), (8, 23, 0, 0)]), (184, [(63, 0, 0, 0), (22, 7, 0, 1), (0, 13, 0, 0)]), (191, [(22, 6, 0, 1), (0, 4, 0, 0)]), (197, [(14, 3, 0, 0), (1, 0, 28, 0), (8, 26, 0, 0)]), (201, [(17, 0, 0, 0), (10, 0, 0, 0), (7, 14, 2, 9), (10, 0, 0, -1003), (2, 1, 28, 0), (8, 27, 0, 0)]), (212, [(10, 0, 0, 1), (0, 29, 0, 0)]), (216, [(10, 0, 0, 0), (8, 29, 0, 0)]), (217, [(18, 3, 0, 0), (17, 1, 0, 0), (10, 0, 0, 42), (59, 0, 0, 0), (10, 0, 0, 1), (2, 0, 31, 0), (8, 30, 0, 0)]), (226, [(17, 1, 0, 0), (7, 127, 1, -1), (10, 0, 0, 2), (2, 3, 36, 0), (8, 31, 0, 0)]), (234, [(14, 3, 0, 0), (1, 0, 34, 0), (8, 32, 0, 0)]), (238, [(17, 0, 0, 0), (7, 40, 1, 9), (10, 0, 0, -1001), (2, 1, 34, 0), (8, 33, 0, 0)]), (248, [(10, 0, 0, 1), (0, 35, 0, 0)]), (252, [(10, 0, 0, 0), (8, 35, 0, 0)]), (253, [(6, 2, 0, 0)]), (254, [(17, 1, 0, 0), (10, 0, 0, 42), (10, 0, 0, 1), (63, 0, 0, 0), (14, 3, 0, 0), (1, 0, 39, 0), (8, 37, 0, 0)]), (263, [(17, 0, 0, 0), (7, 40, 1, 9), (17, 1, 0, 0), (7, 132, 1, -1), (2, 1, 39, 0), (8, 38, 0, 0)]), (274, [(10, 0, 0, 1), (0, 40, 0, 0)]), (278, [(10, 0, 0, 0), (8, 40, 0, 0)]), (279, [(6, 2, 0, 0)])]
/-- CupClaims.isFace(I)Z -/
def m_c141 : List (Nat × List m_P) := [(0, [(14, 0, 0, 0), (10, 0, 0, 1), (2, 2, 3, 0), (8, 1, 0, 0)]), (5, [(14, 0, 0, 0), (10, 0, 0, 6), (2, 4, 3, 0), (8, 2, 0, 0)]), (11, [(10, 0, 0, 1), (0, 4, 0, 0)]), (15, [(10, 0, 0, 0), (8, 4, 0, 0)]), (16, [(6, 2, 0, 0)])]
/-- CupClaims.isFace(I)Z -/
def m_c142 : List (Nat × List m_P) := [(0, [(14, 0, 0, 0), (10, 0, 0, 1), (2, 2, 3, 0), (8, 1, 0, 0)]), (5, [(14, 0, 0, 0), (10, 0, 0, 6), (2, 4, 3, 0), (8, 2, 0, 0)]), (11, [(10, 0, 0, 1), (0, 4, 0, 0)]), (15, [(10, 0, 0, 0), (8, 4, 0, 0)]), (16, [(6, 2, 0, 0)])]
/-- CupClaims.isFace(I)Z -/
def m_c143 : List (Nat × List m_P) := [(0, [(14, 0, 0, 0), (10, 0, 0, 1), (2, 2, 3, 0), (8, 1, 0, 0)]), (5, [(14, 0, 0, 0), (10, 0, 0, 6), (2, 4, 3, 0), (8, 2, 0, 0)]), (11, [(10, 0, 0, 1), (0, 4, 0, 0)]), (15, [(10, 0, 0, 0), (8, 4, 0, 0)]), (16, [(6, 2, 0, 0)])]
/-- CupClaims.isFace(I)Z -/
def m_c144 : List (Nat × List m_P) := [(0, [(14, 0, 0, 0), (10, 0, 0, 1), (2, 2, 3, 0), (8, 1, 0, 0)]), (5, [(14, 0, 0, 0), (10, 0, 0, 6), (2, 4, 3, 0), (8, 2, 0, 0)]), (11, [(10, 0, 0, 1), (0, 4, 0, 0)]), (15, [(10, 0, 0, 0), (8, 4, 0, 0)]), (16, [(6, 2, 0, 0)])]
/-- CupClaims.isFace(I)Z -/
def m_c145 : List (Nat × List m_P) := [(0, [(14, 0, 0, 0), (10, 0, 0, 1), (2, 2, 3, 0), (8, 1, 0, 0)]), (5, [(14, 0, 0, 0), (10, 0, 0, 6), (2, 4, 3, 0), (8, 2, 0, 0)]), (11, [(10, 0, 0, 1), (0, 4, 0, 0)]), (15, [(10, 0, 0, 0), (8, 4, 0, 0)]), (16, [(6, 2, 0, 0)])]
/-- CupClaims.isFace(I)Z -/
def m_c146 : List (Nat × List m_P) := [(0, [(14, 0, 0, 0), (10, 0, 0, 1), (2, 2, 3, 0), (8, 1, 0, 0)]), (5, [(14, 0, 0, 0), (10, 0, 0, 6), (2, 4, 3, 0), (8, 2, 0, 0)]), (11, [(10, 0, 0, 1), (0, 4, 0, 0)]), (15, [(10, 0, 0, 0), (8, 4, 0, 0)]), (16, [(6, 2, 0, 0)])]
/-- CupClaims.isFace(I)Z -/
def m_c147 : List (Nat × List m_P) := [(0, [(14, 0, 0, 0), (10, 0, 0, 1), (2, 2, 3, 0), (8, 1, 0, 0)]), (5, [(14, 0, 0, 0), (10, 0, 0, 6), (2, 4, 3, 0), (8, 2, 0, 0)]), (11, [(10, 0, 0, 1), (0, 4, 0, 0)]), (15, [(10, 0, 0, 0), (8, 4, 0, 0)]), (16, [(6, 2, 0, 0)])]
/-- CupClaims.isFace(I)Z -/
def m_c148 : List (Nat × List m_P) := [(0, [(14, 0, 0, 0), (10, 0, 0, 1), (2, 2, 3, 0), (8, 1, 0, 0)]), (5, [(14, 0, 0, 0), (10, 0, 0, 6), (2, 4, 3, 0), (8, 2, 0, 0)]), (11, [(10, 0, 0, 1), (0, 4, 0, 0)]), (15, [(10, 0, 0, 0), (8, 4, 0, 0)]), (16, [(6, 2, 0, 0)])]
/-- CupClaims.isFace(I)Z -/
def m_c149 : List (Nat × List m_P) := [(0, [(14, 0, 0, 0), (10, 0, 0, 1), (2, 2, 3, 0), (8, 1, 0, 0)]), (5, [(14, 0, 0, 0), (10, 0, 0, 6), (2, 4, 3, 0), (8, 2, 0, 0)]), (11, [(10, 0, 0, 1), (0, 4, 0, 0)]), (15, [(10, 0, 0, 0), (8, 4, 0, 0)]), (16, [(6, 2, 0, 0)])]
/-- CupClaims.isFace(I)Z -/
def m_c150 : List (Nat × List m_P) := [(0, [(14, 0, 0, 0), (10, 0, 0, 1), (2, 2, 3, 0), (8, 1, 0, 0)]), (5, [(14, 0, 0, 0), (10, 0, 0, 6), (2, 4, 3, 0), (8, 2, 0, 0)]), (11, [(10, 0, 0, 1), (0, 4, 0, 0)]), (15, [(10, 0, 0, 0), (8, 4, 0, 0)]), (16, [(6, 2, 0, 0)])]
/-- CupClaims.isFace(I)Z -/
def m_c151 : List (Nat × List m_P) := [(0, [(14, 0, 0, 0), (10, 0, 0, 1), (2, 2, 3, 0), (8, 1, 0, 0)]), (5, [(14, 0, 0, 0), (10, 0, 0, 6), (2, 4, 3, 0), (8, 2, 0, 0)]), (11, [(10, 0, 0, 1), (0, 4, 0, 0)]), (15, [(10, 0, 0, 0), (8, 4, 0, 0)]), (16, [(6, 2, 0, 0)])]
/-- CupClaims.isFace(I)Z -/
def m_c152 : List (Nat × List m_P) := [(0, [(14, 0, 0, 0), (10, 0, 0, 1), (2, 2, 3, 0), (8, 1, 0, 0)]), (5, [(14, 0, 0, 0), (10, 0, 0, 6), (2, 4, 3, 0), (8, 2, 0, 0)]), (11, [(10, 0, 0, 1), (0, 4, 0, 0)]), (15, [(10, 0, 0, 0), (8, 4, 0, 0)]), (16, [(6, 2, 0, 0)])]
/-- CupClaims.isFace(I)Z -/
def m_c153 : List (Nat × List m_P) := [(0, [(14, 0, 0, 0), (10, 0, 0, 1), (2, 2, 3, 0), (8, 1, 0, 0)]), (5, [(14, 0, 0, 0), (10, 0, 0, 6), (2, 4, 3, 0), (8, 2, 0, 0)]), (11, [(10, 0, 0, 1), (0, 4, 0, 0)]), (15, [(10, 0, 0, 0), (8, 4, 0, 0)]), (16, [(6, 2, 0, 0)])]
/-- CupClaims.isFace(I)Z -/
def m_c154 : List (Nat × List m_P) := [(0, [(14, 0, 0, 0), (10, 0, 0, 1), (2, 2, 3, 0), (8, 1, 0, 0)]), (5, [(14, 0, 0, 0), (10, 0, 0, 6), (2, 4, 3, 0), (8, 2, 0, 0)]), (11, [(10, 0, 0, 1), (0, 4, 0, 0)]), (15, [(10, 0, 0, 0), (8, 4, 0, 0)]), (16, [(6, 2, 0, 0)])]
/-- CupClaims.isFace(I)Z -/
def m_c155 : List (Nat × List m_P) := [(0, [(14, 0, 0, 0), (10, 0, 0, 1), (2, 2, 3, 0), (8, 1, 0, 0)]), (5, [(14, 0, 0, 0), (10, 0, 0, 6), (2, 4, 3, 0), (8, 2, 0, 0)]), (11, [(10, 0, 0, 1), (0, 4, 0, 0)]), (15, [(10, 0, 0, 0), (8, 4, 0, 0)]), (16, [(6, 2, 0, 0)])]
/-- CupClaims.isFace(I)Z -/
def m_c156 : List (Nat × List m_P) := [(0, [(14, 0, 0, 0), (10, 0, 0, 1), (2, 2, 3, 0), (8, 1, 0, 0)]), (5, [(14, 0, 0, 0), (10, 0, 0, 6), (2, 4, 3, 0), (8, 2, 0, 0)]), (11, [(10, 0, 0, 1), (0, 4, 0, 0)]), (15, [(10, 0, 0, 0), (8, 4, 0, 0)]), (16, [(6, 2, 0, 0)])]
/-- CupClaims.isFace(I)Z -/
def m_c157 : List (Nat × List m_P) := [(0, [(14, 0, 0, 0), (10, 0, 0, 1), (2, 2, 3, 0), (8, 1, 0, 0)]), (5, [(14, 0, 0, 0), (10, 0, 0, 6), (2, 4, 3, 0), (8, 2, 0, 0)]), (11, [(10, 0, 0, 1), (0, 4, 0, 0)]), (15, [(10, 0, 0, 0), (8, 4, 0, 0)]), (16, [(6, 2, 0, 0)])]
/-- CupClaims.isFace(I)Z -/
def m_c158 : List (Nat × List m_P) := [(0, [(14, 0, 0, 0), (10, 0, 0, 1), (2, 2, 3, 0), (8, 1, 0, 0)]), (5, [(14, 0, 0, 0), (10, 0, 0, 6), (2, 4, 3, 0), (8, 2, 0, 0)]), (11, [(10, 0, 0, 1), (0, 4, 0, 0)]), (15, [(10, 0, 0, 0), (8, 4, 0, 0)]), (16, [(6, 2, 0, 0)])]
/-- CupClaims.isFace(I)Z -/
def m_c159 : List (Nat × List m_P) := [(0, [(14, 0, 0, 0), (10, 0, 0, 1), (2, 2, 3, 0), (8, 1, 0, 0)]), (5, [(14, 0, 0, 0), (10, 0, 0, 6), (2, 4, 3, 0), (8, 2, 0, 0)]), (11, [(10, 0, 0, 1), (0, 4, 0, 0)]), (15, [(10, 0, 0, 0), (8, 4, 0, 0)]), (16, [(6, 2, 0, 0)])]
/-- CupClaims.isFace(I)Z -/
def m_c160 : List (Nat × List m_P) := [(0, [(14, 0, 0, 0), (10, 0, 0, 1), (2, 2, 3, 0), (8, 1, 0, 0)]), (5, [(14, 0, 0, 0), (10, 0, 0, 6), (2, 4, 3, 0), (8, 2, 0, 0)]), (11, [(10, 0, 0, 1), (0, 4, 0, 0)]), (15, [(10, 0, 0, 0), (8, 4, 0, 0)]), (16, [(6, 2, 0, 0)])]
/-- CupClaims.isFace(I)Z -/
def m_c161 : List (Nat × List m_P) := [(0, [(14, 0, 0, 0), (10, 0, 0, 1), (2, 2, 3, 0), (8, 1, 0, 0)]), (5, [(14, 0, 0, 0), (10, 0, 0, 6), (2, 4, 3, 0), (8, 2, 0, 0)]), (11, [(10, 0, 0, 1), (0, 4, 0, 0)]), (15, [(10, 0, 0, 0), (8, 4, 0, 0)]), (16, [(6, 2, 0, 0)])]
/-- CupClaims.isFace(I)Z -/
def m_c162 : List (Nat × List m_P) := [(0, [(14, 0, 0, 0), (10, 0, 0, 1), (2, 2, 3, 0), (8, 1, 0, 0)]), (5, [(14, 0, 0, 0), (10, 0, 0, 6), (2, 4, 3, 0), (8, 2, 0, 0)]), (11, [(10, 0, 0, 1), (0, 4, 0, 0)]), (15, [(10, 0, 0, 0), (8, 4, 0, 0)]), (16, [(6, 2, 0, 0)])]
/-- CupClaims.isFace(I)Z -/
def m_c163 : List (Nat × List m_P) := [(0, [(14, 0, 0, 0), (10, 0, 0, 1), (2, 2, 3, 0), (8, 1, 0, 0)]), (5, [(14, 0, 0, 0), (10, 0, 0, 6), (2, 4, 3, 0), (8, 2, 0, 0)]), (11, [(10, 0, 0, 1), (0, 4, 0, 0)]), (15, [(10, 0, 0, 0), (8, 4, 0, 0)]), (16, [(6, 2, 0, 0)])]
/-- CupClaims.isFace(I)Z -/
def m_c164 : List (Nat × List m_P) := [(0, [(14, 0, 0, 0), (10, 0, 0, 1), (2, 2, 3, 0), (8, 1, 0, 0)]), (5, [(14, 0, 0, 0), (10, 0, 0, 6), (2, 4, 3, 0), (8, 2, 0, 0)]), (11, [(10, 0, 0, 1), (0, 4, 0, 0)]), (15, [(10, 0, 0, 0), (8, 4, 0, 0)]), (16, [(6, 2, 0, 0)])]
/-- CupClaims.isFace(I)Z -/
def m_c165 : List (Nat × List m_P) := [(0, [(14, 0, 0, 0), (10, 0, 0, 1), (2, 2, 3, 0), (8, 1, 0, 0)]), (5, [(14, 0, 0, 0), (10, 0, 0, 6), (2, 4, 3, 0), (8, 2, 0, 0)]), (11, [(10, 0, 0, 1), (0, 4, 0, 0)]), (15, [(10, 0, 0, 0), (8, 4, 0, 0)]), (16, [(6, 2, 0, 0)])]
/-- CupClaims.isFace(I)Z -/
def m_c166 : List (Nat × List m_P) := [(0, [(14, 0, 0, 0), (10, 0, 0, 1), (2, 2, 3, 0), (8, 1, 0, 0)]), (5, [(14, 0, 0, 0), (10, 0, 0, 6), (2, 4, 3, 0), (8, 2, 0, 0)]), (11, [(10, 0, 0, 1), (0, 4, 0, 0)]), (15, [(10, 0, 0, 0), (8, 4, 0, 0)]), (16, [(6, 2, 0, 0)])]
/-- CupClaims.isFace(I)Z -/
def m_c167 : List (Nat × List m_P) := [(0, [(14, 0, 0, 0), (10, 0, 0, 1), (2, 2, 3, 0), (8, 1, 0, 0)]), (5, [(14, 0, 0, 0), (10, 0, 0, 6), (2, 4, 3, 0), (8, 2, 0, 0)]), (11, [(10, 0, 0, 1), (0, 4, 0, 0)]), (15, [(10, 0, 0, 0), (8, 4, 0, 0)]), (16, [(6, 2, 0, 0)])]
/-- CupClaims.isFace(I)Z -/
def m_c168 : List (Nat × List m_P) := [(0, [(14, 0, 0, 0), (10, 0, 0, 1), (2, 2, 3, 0), (8, 1, 0, 0)]), (5, [(14, 0, 0, 0), (10, 0, 0, 6), (2, 4, 3, 0), (8, 2, 0, 0)]), (11, [(10, 0, 0, 1), (0, 4, 0, 0)]), (15, [(10, 0, 0, 0), (8, 4, 0, 0)]), (16, [(6, 2, 0, 0)])]
/-- CupClaims.isFace(I)Z -/
def m_c169 : List (Nat × List m_P) := [(0, [(14, 0, 0, 0), (10, 0, 0, 1), (2, 2, 3, 0), (8, 1, 0, 0)]), (5, [(14, 0, 0, 0), (10, 0, 0, 6), (2, 4, 3, 0), (8, 2, 0, 0)]), (11, [(10, 0, 0, 1), (0, 4, 0, 0)]), (15, [(10, 0, 0, 0), (8, 4, 0, 0)]), (16, [(6, 2, 0, 0)])]
/-- CupClaims.isFace(I)Z -/
def m_c170 : List (Nat × List m_P) := [(0, [(14, 0, 0, 0), (10, 0, 0, 1), (2, 2, 3, 0), (8, 1, 0, 0)]), (5, [(14, 0, 0, 0), (10, 0, 0, 6), (2, 4, 3, 0), (8, 2, 0, 0)]), (11, [(10, 0, 0, 1), (0, 4, 0, 0)]), (15, [(10, 0, 0, 0), (8, 4, 0, 0)]), (16, [(6, 2, 0, 0)])]
/-- CupClaims.isFace(I)Z -/
def m_c171 : List (Nat × List m_P) := [(0, [(14, 0, 0, 0), (10, 0, 0, 1), (2, 2, 3, 0), (8, 1, 0, 0)]), (5, [(14, 0, 0, 0), (10, 0, 0, 6), (2, 4, 3, 0), (8, 2, 0, 0)]), (11, [(10, 0, 0, 1), (0, 4, 0, 0)]), (15, [(10, 0, 0, 0), (8, 4, 0, 0)]), (16, [(6, 2, 0, 0)])]
/-- CupClaims.isFace(I)Z -/
def m_c172 : List (Nat × List m_P) := [(0, [(14, 0, 0, 0), (10, 0, 0, 1), (2, 2, 3, 0), (8, 1, 0, 0)]), (5, [(14, 0, 0, 0), (10, 0, 0, 6), (2, 4, 3, 0), (8, 2, 0, 0)]), (11, [(10, 0, 0, 1), (0, 4, 0, 0)]), (15, [(10, 0, 0, 0), (8, 4, 0, 0)]), (16, [(6, 2, 0, 0)])]
/-- CupClaims.isFace(I)Z -/
def m_c173 : List (Nat × List m_P) := [(0, [(14, 0, 0, 0), (10, 0, 0, 1), (2, 2, 3, 0), (8, 1, 0, 0)]), (5, [(14, 0, 0, 0), (10, 0, 0, 6), (2, 4, 3, 0), (8, 2, 0, 0)]), (11, [(10, 0, 0, 1), (0, 4, 0, 0)]), (15, [(10, 0, 0, 0), (8, 4, 0, 0)]), (16, [(6, 2, 0, 0)])]
/-- CupClaims.isFace(I)Z -/
def m_c174 : List (Nat × List m_P) := [(0, [(14, 0, 0, 0), (10, 0, 0, 1), (2, 2, 3, 0), (8, 1, 0, 0)]), (5, [(14, 0, 0, 0), (10, 0, 0, 6), (2, 4, 3, 0), (8, 2, 0, 0)]), (11, [(10, 0, 0, 1), (0, 4, 0, 0)]), (15, [(10, 0, 0, 0), (8, 4, 0, 0)]), (16, [(6, 2, 0, 0)])]
/-- CupClaims.isFace(I)Z -/
def m_c175 : List (Nat × List m_P) := [(0, [(14, 0, 0, 0), (10, 0, 0, 1), (2, 2, 3, 0), (8, 1, 0, 0)]), (5, [(14, 0, 0, 0), (10, 0, 0, 6), (2, 4, 3, 0), (8, 2, 0, 0)]), (11, [(10, 0, 0, 1), (0, 4, 0, 0)]), (15, [(10, 0, 0, 0), (8, 4, 0, 0)]), (16, [(6, 2, 0, 0)])]
/-- CupClaims.isFace(I)Z -/
def m_c176 : List (Nat × List m_P) := [(0, [(14, 0, 0, 0), (10, 0, 0, 1), (2, 2, 3, 0), (8, 1, 0, 0)]), (5, [(14, 0, 0, 0), (10, 0, 0, 6), (2, 4, 3, 0), (8, 2, 0, 0)]), (11, [(10, 0, 0, 1), (0, 4, 0, 0)]), (15, [(10, 0, 0, 0), (8, 4, 0, 0)]), (16, [(6, 2, 0, 0)])]
/-- CupClaims.isFace(I)Z -/
def m_c177 : List (Nat × List m_P) := [(0, [(14, 0, 0, 0), (10, 0, 0, 1), (2, 2, 3, 0), (8, 1, 0, 0)]), (5, [(14, 0, 0, 0), (10, 0, 0, 6), (2, 4, 3, 0), (8, 2, 0, 0)]), (11, [(10, 0, 0, 1), (0, 4, 0, 0)]), (15, [(10, 0, 0, 0), (8, 4, 0, 0)]), (16, [(6, 2, 0, 0)])]
/-- CupClaims.isFace(I)Z -/
def m_c178 : List (Nat × List m_P) := [(0, [(14, 0, 0, 0), (10, 0, 0, 1), (2, 2, 3, 0), (8, 1, 0, 0)]), (5, [(14, 0, 0, 0), (10, 0, 0, 6), (2, 4, 3, 0), (8, 2, 0, 0)]), (11, [(10, 0, 0, 1), (0, 4, 0, 0)]), (15, [(10, 0, 0, 0), (8, 4, 0, 0)]), (16, [(6, 2, 0, 0)])]
/-- CupClaims.isFace(I)Z -/
def m_c179 : List (Nat × List m_P) := [(0, [(14, 0, 0, 0), (10, 0, 0, 1), (2, 2, 3, 0), (8, 1, 0, 0)]), (5, [(14, 0, 0, 0), (10, 0, 0, 6), (2, 4, 3, 0), (8, 2, 0, 0)]), (11, [(10, 0, 0, 1), (0, 4, 0, 0)]), (15, [(10, 0, 0, 0), (8, 4, 0, 0)]), (16, [(6, 2, 0, 0)])]
/-- CupClaims.isFace(I)Z -/
def m_c180 : List (Nat × List m_P) := [(0, [(14, 0, 0, 0), (10, 0, 0, 1), (2, 2, 3, 0), (8, 1, 0, 0)]), (5, [(14, 0, 0, 0), (10, 0, 0, 6), (2, 4, 3, 0), (8, 2, 0, 0)]), (11, [(10, 0, 0, 1), (0, 4, 0, 0)]), (15, [(10, 0, 0, 0), (8, 4, 0, 0)]), (16, [(6, 2, 0, 0)])]
/-- CupClaims.isFace(I)Z -/
def m_c181 : List (Nat × List m_P) := [(0, [(14, 0, 0, 0), (10, 0, 0, 1), (2, 2, 3, 0), (8, 1, 0, 0)]), (5, [(14, 0, 0, 0), (10, 0, 0, 6), (2, 4, 3, 0), (8, 2, 0, 0)]), (11, [(10, 0, 0, 1), (0, 4, 0, 0)]), (15, [(10, 0, 0, 0), (8, 4, 0, 0)]), (16, [(6, 2, 0, 0)])]
/-- CupClaims.isFace(I)Z -/
def m_c182 : List (Nat × List m_P) := [(0, [(14, 0, 0, 0), (10, 0, 0, 1), (2, 2, 3, 0), (8, 1, 0, 0)]), (5, [(14, 0, 0, 0), (10, 0, 0, 6), (2, 4, 3, 0), (8, 2, 0, 0)]), (11, [(10, 0, 0, 1), (0, 4, 0, 0)]), (15, [(10, 0, 0, 0), (8, 4, 0, 0)]), (16, [(6, 2, 0, 0)])]
/-- CupClaims.isFace(I)Z -/
def m_c183 : List (Nat × List m_P) := [(0, [(14, 0, 0, 0), (10, 0, 0, 1), (2, 2, 3, 0), (8, 1, 0, 0)]), (5, [(14, 0, 0, 0), (10, 0, 0, 6), (2, 4, 3, 0), (8, 2, 0, 0)]), (11, [(10, 0, 0, 1), (0, 4, 0, 0)]), (15, [(10, 0, 0, 0), (8, 4, 0, 0)]), (16, [(6, 2, 0, 0)])]
/-- CupClaims.isFace(I)Z -/
def m_c184 : List (Nat × List m_P) := [(0, [(14, 0, 0, 0), (10, 0, 0, 1), (2, 2, 3, 0), (8, 1, 0, 0)]), (5, [(14, 0, 0, 0), (10, 0, 0, 6), (2, 4, 3, 0), (8, 2, 0, 0)]), (11, [(10, 0, 0, 1), (0, 4, 0, 0)]), (15, [(10, 0, 0, 0), (8, 4, 0, 0)]), (16, [(6, 2, 0, 0)])]
/-- CupClaims.isFace(I)Z -/
def m_c185 : List (Nat × List m_P) := [(0, [(14, 0, 0, 0), (10, 0, 0, 1), (2, 2, 3, 0), (8, 1, 0, 0)]), (5, [(14, 0, 0, 0), (10, 0, 0, 6), (2, 4, 3, 0), (8, 2, 0, 0)]), (11, [(10, 0, 0, 1), (0, 4, 0, 0)]), (15, [(10, 0, 0, 0), (8, 4, 0, 0)]), (16, [(6, 2, 0, 0)])]
/-- CupClaims.isFace(I)Z -/
def m_c186 : List (Nat × List m_P) := [(0, [(14, 0, 0, 0), (10, 0, 0, 1), (2, 2, 3, 0), (8, 1, 0, 0)]), (5, [(14, 0, 0, 0), (10, 0, 0, 6), (2, 4, 3, 0), (8, 2, 0, 0)]), (11, [(10, 0, 0, 1), (0, 4, 0, 0)]), (15, [(10, 0, 0, 0), (8, 4, 0, 0)]), (16, [(6, 2, 0, 0)])]
/-- CupClaims.isFace(I)Z -/
def m_c187 : List (Nat × List m_P) := [(0, [(14, 0, 0, 0), (10, 0, 0, 1), (2, 2, 3, 0), (8, 1, 0, 0)]), (5, [(14, 0, 0, 0), (10, 0, 0, 6), (2, 4, 3, 0), (8, 2, 0, 0)]), (11, [(10, 0, 0, 1), (0, 4, 0, 0)]), (15, [(10, 0, 0, 0), (8, 4, 0, 0)]), (16, [(6, 2, 0, 0)])]
/-- CupClaims.isFace(I)Z -/
def m_c188 : List (Nat × List m_P) := [(0, [(14, 0, 0, 0), (10, 0, 0, 1), (2, 2, 3, 0), (8, 1, 0, 0)]), (5, [(14, 0, 0, 0), (10, 0, 0, 6), (2, 4, 3, 0), (8, 2, 0, 0)]), (11, [(10, 0, 0, 1), (0, 4, 0, 0)]), (15, [(10, 0, 0, 0), (8, 4, 0, 0)]), (16, [(6, 2, 0, 0)])]
/-- CupClaims.isFace(I)Z -/
def m_c189 : List (Nat × List m_P) := [(0, [(14, 0, 0, 0), (10, 0, 0, 1), (2, 2, 3, 0), (8, 1, 0, 0)]), (5, [(14, 0, 0, 0), (10, 0, 0, 6), (2, 4, 3, 0), (8, 2, 0, 0)]), (11, [(10, 0, 0, 1), (0, 4, 0, 0)]), (15, [(10, 0, 0, 0), (8, 4, 0, 0)]), (16, [(6, 2, 0, 0)])]
/-- CupClaims.isFace(I)Z -/
def m_c190 : List (Nat × List m_P) := [(0, [(14, 0, 0, 0), (10, 0, 0, 1), (2, 2, 3, 0), (8, 1, 0, 0)]), (5, [(14, 0, 0, 0), (10, 0, 0, 6), (2, 4, 3, 0), (8, 2, 0, 0)]), (11, [(10, 0, 0, 1), (0, 4, 0, 0)]), (15, [(10, 0, 0, 0), (8, 4, 0, 0)]), (16, [(6, 2, 0, 0)])]
/-- CupClaims.isFace(I)Z -/
def m_c191 : List (Nat × List m_P) := [(0, [(14, 0, 0, 0), (10, 0, 0, 1), (2, 2, 3, 0), (8, 1, 0, 0)]), (5, [(14, 0, 0, 0), (10, 0, 0, 6), (2, 4, 3, 0), (8, 2, 0, 0)]), (11, [(10, 0, 0, 1), (0, 4, 0, 0)]), (15, [(10, 0, 0, 0), (8, 4, 0, 0)]), (16, [(6, 2, 0, 0)])]
/-- CupClaims.isFace(I)Z -/
def m_c192 : List (Nat × List m_P) := [(0, [(14, 0, 0, 0), (10, 0, 0, 1), (2, 2, 3, 0), (8, 1, 0, 0)]), (5, [(14, 0, 0, 0), (10, 0, 0, 6), (2, 4, 3, 0), (8, 2, 0, 0)]), (11, [(10, 0, 0, 1), (0, 4, 0, 0)]), (15, [(10, 0, 0, 0), (8, 4, 0, 0)]), (16, [(6, 2, 0, 0)])]
/-- CupClaims.isFace(I)Z -/
def m_c193 : List (Nat × List m_P) := [(0, [(14, 0, 0, 0), (10, 0, 0, 1), (2, 2, 3, 0), (8, 1, 0, 0)]), (5, [(14, 0, 0, 0), (10, 0, 0, 6), (2, 4, 3, 0), (8, 2, 0, 0)]), (11, [(10, 0, 0, 1), (0, 4, 0, 0)]), (15, [(10, 0, 0, 0), (8, 4, 0, 0)]), (16, [(6, 2, 0, 0)])]
/-- CupClaims.isFace(I)Z -/
def m_c194 : List (Nat × List m_P) := [(0, [(14, 0, 0, 0), (10, 0, 0, 1), (2, 2, 3, 0), (8, 1, 0, 0)]), (5, [(14, 0, 0, 0), (10, 0, 0, 6), (2, 4, 3, 0), (8, 2, 0, 0)]), (11, [(10, 0, 0, 1), (0, 4, 0, 0)]), (15, [(10, 0, 0, 0), (8, 4, 0, 0)]), (16, [(6, 2, 0, 0)])]
/-- CupClaims.isFace(I)Z -/
def m_c195 : List (Nat × List m_P) := [(0, [(14, 0, 0, 0), (10, 0, 0, 1), (2, 2, 3, 0), (8, 1, 0, 0)]), (5, [(14, 0, 0, 0), (10, 0, 0, 6), (2, 4, 3, 0), (8, 2, 0, 0)]), (11, [(10, 0, 0, 1), (0, 4, 0, 0)]), (15, [(10, 0, 0, 0), (8, 4, 0, 0)]), (16, [(6, 2, 0, 0)])]
/-- CupClaims.isFace(I)Z -/
def m_c196 : List (Nat × List m_P) := [(0, [(14, 0, 0, 0), (10, 0, 0, 1), (2, 2, 3, 0), (8, 1, 0, 0)]), (5, [(14, 0, 0, 0), (10, 0, 0, 6), (2, 4, 3, 0), (8, 2, 0, 0)]), (11, [(10, 0, 0, 1), (0, 4, 0, 0)]), (15, [(10, 0, 0, 0), (8, 4, 0, 0)]), (16, [(6, 2, 0, 0)])]
/-- CupClaimsLaw.law([I)Z -/
def m_c197 : List (Nat × List m_P) := [(0, [(57, 9, 0, 7), (50, 0, 0, 0), (7, 0, 1, -2), (21, 1, 0, 0), (10, 0, 0, 64), (55, 1, 0, 0), (21, 2, 0, 0), (17, 2, 0, 0), (10, 0, 0, 46), (10, 0, 0, 1), (63, 0, 0, 0), (17, 2, 0, 0), (10, 0, 0, 2), (7, 126, 2, -1), (17, 1, 0, 0), (7, 54, 1, 9), (10, 0, 0, -1001), (2, 1, 8, 0), (8, 1, 0, 0)]), (33, [(17, 1, 0, 0), (7, 64, 1, 9), (10, 0, 0, -1001), (2, 1, 8, 0), (8, 2, 0, 0)]), (43, [(17, 1, 0, 0), (10, 0, 0, 1), (10, 0, 0, 1), (7, 48, 3, 9), (10, 0, 0, -1001), (2, 1, 8, 0), (8, 3, 0, 0)]), (55, [(17, 1, 0, 0), (7, 84, 1, 9), (10, 0, 0, -1001), (2, 1, 8, 0), (8, 4, 0, 0)]), (65, [(17, 1, 0, 0), (10, 0, 0, 1), (7, 32, 2, 9), (10, 0, 0, -1000), (2, 1, 8, 0), (8, 5, 0, 0)]), (76, [(17, 1, 0, 0), (10, 0, 0, 6), (7, 32, 2, 9), (10, 0, 0, -1000), (2, 1, 8, 0), (8, 6, 0, 0)]), (88, [(17, 1, 0, 0), (10, 0, 0, -1), (10, 0, 0, 1), (7, 88, 3, 9), (1, 1, 8, 0), (8, 7, 0, 0)]), (97, [(17, 1, 0, 0), (17, 2, 0, 0), (7, 138, 2, -1), (1, 1, 9, 0), (8, 8, 0, 0)]), (105, [(10, 0, 0, 0), (6, 2, 0, 0)]), (107, [(17, 0, 0, 0), (10, 0, 0, 0), (7, 124, 2, -1), (18, 3, 0, 0), (10, 0, 0, 2), (14, 3, 0, 0), (10, 0, 0, 4), (7, 125, 2, -1), (23, 0, 0, 0), (18, 4, 0, 0), (17, 2, 0, 0), (14, 4, 0, 0), (7, 126, 2, -1), (17, 1, 0, 0), (14, 4, 0, 0), (7, 32, 2, 9), (10, 0, 0, 2), (2, 0, 11, 0), (8, 10, 0, 0)]), (138, [(10, 0, 0, 0), (6, 2, 0, 0)]), (140, [(10, 0, 0, 0), (18, 5, 0, 0), (8, 12, 0, 0)]), (143, [(14, 5, 0, 0), (10, 0, 0, 50), (2, 3, 53, 0), (8, 13, 0, 0)]), (150, [(17, 0, 0, 0), (10, 0, 0, 1), (14, 5, 0, 0), (23, 0, 0, 0), (7, 124, 2, -1), (18, 6, 0, 0), (14, 6, 0, 0), (10, 0, 0, 8), (7, 125, 2, -1), (18, 8, 0, 0), (17, 2, 0, 0), (10, 0, 0, 42), (59, 0, 0, 0), (1, 1, 20, 0), (8, 14, 0, 0)]), (176, [(17, 2, 0, 0), (7, 127, 1, -1), (10, 0, 0, 1), (2, 5, 20, 0), (8, 15, 0, 0)]), (184, [(14, 8, 0, 0), (10, 0, 0, 1), (2, 5, 20, 0), (8, 16, 0, 0)]), (190, [(14, 6, 0, 0), (10, 0, 0, 3), (32, 0, 0, 0), (10, 0, 0, 1), (29, 0, 0, 0), (1, 1, 18, 0), (8, 17, 0, 0)]), (199, [(17, 1, 0, 0), (17, 2, 0, 0), (14, 6, 0, 0), (10, 0, 0, 4), (32, 0, 0, 0), (10, 1, 0, 65536), (7, 125, 2, -1), (7, 133, 3, -1), (0, 19, 0, 0)]), (216, [(17, 1, 0, 0), (17, 2, 0, 0), (14, 6, 0, 0), (10, 0, 0, 4), (32, 0, 0, 0), (7, 140, 3, -1), (8, 19, 0, 0)]), (225, [(18, 7, 0, 0), (0, 48, 0, 0)]), (230, [(14, 8, 0, 0), (1, 1, 34, 0), (8, 21, 0, 0)]), (235, [(17, 2, 0, 0), (10, 0, 0, 46), (59, 0, 0, 0), (18, 9, 0, 0), (17, 2, 0, 0), (10, 0, 0, 43), (59, 0, 0, 0), (10, 0, 0, -1003), (2, 0, 26, 0), (8, 22, 0, 0)]), (251, [(17, 1, 0, 0), (10, 0, 0, 1), (7, 38, 2, 9), (10, 0, 0, -1001), (2, 1, 24, 0), (8, 23, 0, 0)]), (262, [(10, 0, 0, 1), (0, 25, 0, 0)]), (266, [(10, 0, 0, 0), (8, 25, 0, 0)]), (267, [(18, 7, 0, 0), (0, 33, 0, 0)]), (272, [(17, 2, 0, 0), (10, 0, 0, 46), (14, 6, 0, 0), (10, 0, 0, 3), (32, 0, 0, 0), (10, 0, 0, 1), (29, 0, 0, 0), (63, 0, 0, 0), (17, 1, 0, 0), (14, 6, 0, 0), (10, 0, 0, 3), (32, 0, 0, 0), (10, 0, 0, 1), (29, 0, 0, 0), (10, 0, 0, 1), (2, 1, 28, 0), (8, 27, 0, 0)]), (293, [(10, 0, 0, 1), (0, 29, 0, 0)]), (297, [(10, 0, 0, 0), (8, 29, 0, 0)]), (298, [(7, 38, 2, 9), (14, 9, 0, 0), (2, 1, 31, 0), (8, 30, 0, 0)]), (306, [(10, 0, 0, 1), (0, 32, 0, 0)]), (310, [(10, 0, 0, 0), (8, 32, 0, 0)]), (311, [(18, 7, 0, 0), (8, 33, 0, 0)]), (313, [(0, 48, 0, 0)]), (316, [(14, 8, 0, 0), (10, 0, 0, 1), (2, 1, 36, 0), (8, 35, 0, 0)]), (322, [(17, 1, 0, 0), (17, 2, 0, 0), (14, 6, 0, 0), (10, 0, 0, 4), (32, 0, 0, 0), (10, 1, 0, 65536), (7, 125, 2, -1), (7, 133, 3, -1), (18, 7, 0, 0), (0, 48, 0, 0)]), (341, [(14, 8, 0, 0), (10, 0, 0, 2), (2, 1, 38, 0), (8, 37, 0, 0)]), (347, [(17, 1, 0, 0), (17, 2, 0, 0), (7, 137, 2, -1), (18, 7, 0, 0), (0, 48, 0, 0)]), (357, [(14, 8, 0, 0), (10, 0, 0, 5), (2, 3, 40, 0), (8, 39, 0, 0)]), (363, [(17, 1, 0, 0), (17, 2, 0, 0), (7, 136, 2, -1), (18, 7, 0, 0), (0, 48, 0, 0)]), (373, [(17, 2, 0, 0), (10, 0, 0, 43), (59, 0, 0, 0), (10, 0, 0, -1003), (2, 1, 42, 0), (8, 41, 0, 0)]), (383, [(10, 0, 0, 1), (14, 6, 0, 0), (10, 0, 0, 4), (32, 0, 0, 0), (10, 0, 0, 6), (7, 125, 2, -1), (23, 0, 0, 0), (0, 43, 0, 0)]), (397, [(17, 2, 0, 0), (10, 0, 0, 43), (59, 0, 0, 0), (14, 6, 0, 0), (10, 0, 0, 4), (32, 0, 0, 0), (10, 0, 0, 3), (7, 125, 2, -1), (23, 0, 0, 0), (8, 43, 0, 0)]), (410, [(18, 9, 0, 0), (14, 9, 0, 0), (10, 0, 0, 25), (2, 4, 45, 0), (8, 44, 0, 0)]), (419, [(17, 1, 0, 0), (17, 2, 0, 0), (14, 9, 0, 0), (10, 0, 0, 1), (14, 6, 0, 0), (10, 0, 0, 8), (32, 0, 0, 0), (10, 0, 0, 6), (7, 125, 2, -1), (23, 0, 0, 0), (7, 134, 4, -1), (1, 0, 46, 0), (8, 45, 0, 0)]), (441, [(10, 0, 0, 1), (0, 47, 0, 0)]), (445, [(10, 0, 0, 0), (8, 47, 0, 0)]), (446, [(18, 7, 0, 0), (8, 48, 0, 0)]), (448, [(14, 7, 0, 0), (1, 0, 51, 0), (8, 49, 0, 0)]), (453, [(17, 1, 0, 0), (17, 2, 0, 0), (7, 138, 2, -1), (1, 0, 51, 0), (8, 50, 0, 0)]), (461, [(17, 1, 0, 0), (17, 2, 0, 0), (7, 139, 2, -1), (1, 1, 52, 0), (8, 51, 0, 0)]), (469, [(10, 0, 0, 0), (6, 2, 0, 0)]), (471, [(22, 5, 0, 1), (0, 12, 0, 0)]), (477, [(17, 1, 0, 0), (10, 0, 0, 14), (7, 115, 2, 9), (10, 0, 0, -1000), (2, 1, 56, 0), (8, 54, 0, 0)]), (489, [(17, 1, 0, 0), (10, 0, 0, 5), (7, 32, 2, 9), (14, 4, 0, 0), (2, 1, 56, 0), (8, 55, 0, 0)]), (499, [(10, 0, 0, 1), (0, 57, 0, 0)]), (503, [(10, 0, 0, 0), (8, 57, 0, 0)]), (504, [(6, 2, 0, 0)])]
def m_CD : List (List (Nat × List m_P)) := [m_c0, m_c1, m_c2, m_c3, m_c4, m_c5, m_c6, m_c7, m_c8, m_c9, m_c10, m_c11, m_c12, m_c13, m_c14, m_c15, m_c16, m_c17, m_c18, m_c19, m_c20, m_c21, m_c22, m_c23, m_c24, m_c25, m_c26, m_c27, m_c28, m_c29, m_c30, m_c31, m_c32, m_c33, m_c34, m_c35, m_c36, m_c37, m_c38, m_c39, m_c40, m_c41, m_c42, m_c43, m_c44, m_c45, m_c46, m_c47, m_c48, m_c49, m_c50, m_c51, m_c52, m_c53, m_c54, m_c55, m_c56, m_c57, m_c58, m_c59, m_c60, m_c61, m_c62, m_c63, m_c64, m_c65, m_c66, m_c67, m_c68, m_c69, m_c70, m_c71, m_c72, m_c73, m_c74, m_c75, m_c76, m_c77, m_c78, m_c79, m_c80, m_c81, m_c82, m_c83, m_c84, m_c85, m_c86, m_c87, m_c88, m_c89, m_c90, m_c91, m_c92, m_c93, m_c94, m_c95, m_c96, m_c97, m_c98, m_c99, m_c100, m_c101, m_c102, m_c103, m_c104, m_c105, m_c106, m_c107, m_c108, m_c109, m_c110, m_c111, m_c112, m_c113, m_c114, m_c115, m_c116, m_c117, m_c118, m_c119, m_c120, m_c121, m_c122, m_c123, m_c124, m_c125, m_c126, m_c127, m_c128, m_c129, m_c130, m_c131, m_c132, m_c133, m_c134, m_c135, m_c136, m_c137, m_c138, m_c139, m_c140, m_c141, m_c142, m_c143, m_c144, m_c145, m_c146, m_c147, m_c148, m_c149, m_c150, m_c151, m_c152, m_c153, m_c154, m_c155, m_c156, m_c157, m_c158, m_c159, m_c160, m_c161, m_c162, m_c163, m_c164, m_c165, m_c166, m_c167, m_c168, m_c169, m_c170, m_c171, m_c172, m_c173, m_c174, m_c175, m_c176, m_c177, m_c178, m_c179, m_c180, m_c181, m_c182, m_c183, m_c184, m_c185, m_c186, m_c187, m_c188, m_c189, m_c190, m_c191, m_c192, m_c193, m_c194, m_c195, m_c196, m_c197]
def m_MT : List (Nat × MethodName × ByteArray × Nat × Option FieldType) := [(9, ⟨RX9, "<init>", "()V"⟩, prog_1_method_1_code, 1, (Option.none : Option FieldType)), (8, ⟨RX8, "<init>", "()V"⟩, prog_10_method_1_code, 1, (Option.none : Option FieldType)), (1, ⟨RX1, "<init>", "()V"⟩, prog_3_method_1_code, 1, (Option.none : Option FieldType)), (4, ⟨RX4, "<init>", "()V"⟩, prog_6_method_1_code, 1, (Option.none : Option FieldType)), (3, ⟨RX3, "<init>", "()V"⟩, prog_5_method_1_code, 1, (Option.none : Option FieldType)), (7, ⟨RX7, "<init>", "()V"⟩, prog_9_method_1_code, 1, (Option.none : Option FieldType)), (7, ⟨RX7, "begin", "(I)V"⟩, prog_9_method_2_code, 3, (Option.none : Option FieldType)), (2, ⟨RX2, "<init>", "()V"⟩, prog_4_method_1_code, 2, (Option.none : Option FieldType)), (0, ⟨RX0, "<init>", "()V"⟩, prog_2_method_1_code, 1, (Option.none : Option FieldType)), (6, ⟨RX6, "<init>", "(I)V"⟩, prog_8_method_1_code, 2, (Option.none : Option FieldType)), (5, ⟨RX5, "<init>", "()V"⟩, prog_7_method_1_code, 1, (Option.none : Option FieldType)), (9, ⟨RX9, "type", "(I)I"⟩, prog_1_method_2_code, 2, (Option.some FieldType.int)), (8, ⟨RX8, "append", "(I)Z"⟩, prog_10_method_2_code, 2, (Option.some FieldType.boolean)), (9, ⟨RX9, "clearText", "()I"⟩, prog_1_method_3_code, 2, (Option.some FieldType.int)), (9, ⟨RX9, "fault", "(Z)I"⟩, prog_1_method_4_code, 2, (Option.some FieldType.int)), (4, ⟨RX4, "faultOf", "(LCupClaims$Text;)I"⟩, prog_6_method_2_code, 3, (Option.some FieldType.int)), (8, ⟨RX8, "at", "(I)I"⟩, prog_10_method_3_code, 2, (Option.some FieldType.int)), (4, ⟨RX4, "takes", "(I)Z"⟩, prog_6_method_3_code, 2, (Option.some FieldType.boolean)), (4, ⟨RX4, "takesDigit", "(I)Z"⟩, prog_6_method_4_code, 4, (Option.some FieldType.boolean)), (4, ⟨RX4, "opensEntry", "(Z)Z"⟩, prog_6_method_5_code, 2, (Option.some FieldType.boolean)), (3, ⟨RX3, "put", "(III)V"⟩, prog_5_method_4_code, 4, (Option.none : Option FieldType)), (3, ⟨RX3, "isPlace", "(II)Z"⟩, prog_5_method_5_code, 3, (Option.some FieldType.boolean)), (3, ⟨RX3, "at", "(II)I"⟩, prog_5_method_3_code, 3, (Option.some FieldType.int)), (4, ⟨RX4, "takesSlash", "()Z"⟩, prog_6_method_6_code, 1, (Option.some FieldType.boolean)), (4, ⟨RX4, "rowIsComplete", "()Z"⟩, prog_6_method_7_code, 1, (Option.some FieldType.boolean)), (1, ⟨RX1, "faultOf", "(LCupClaims$Text;LCupClaims$Table;)I"⟩, prog_3_method_2_code, 4, (Option.some FieldType.int)), (7, ⟨RX7, "firstInFrom", "(I)I"⟩, prog_9_method_11_code, 3, (Option.some FieldType.int)), (1, ⟨RX1, "takes", "(ILCupClaims$Table;)Z"⟩, prog_3_method_3_code, 3, (Option.some FieldType.boolean)), (1, ⟨RX1, "takesSlash", "(LCupClaims$Table;)Z"⟩, prog_3_method_4_code, 3, (Option.some FieldType.boolean)), (7, ⟨RX7, "diceOf", "(I)I"⟩, prog_9_method_5_code, 2, (Option.some FieldType.int)), (1, ⟨RX1, "takesFace", "(ILCupClaims$Table;)Z"⟩, prog_3_method_5_code, 4, (Option.some FieldType.boolean)), (9, ⟨RX9, "isFace", "(I)Z"⟩, prog_1_method_32_code, 1, (Option.some FieldType.boolean)), (9, ⟨RX9, "newGame", "(I)I"⟩, prog_1_method_5_code, 3, (Option.some FieldType.int)), (2, ⟨RX2, "record", "(LCupClaims$Table;)V"⟩, prog_4_method_2_code, 3, (Option.none : Option FieldType)), (2, ⟨RX2, "tableAt", "(I)LCupClaims$Table;"⟩, prog_4_method_4_code, 3, (Option.some (FieldType.object "CupClaims$Table"))), (11, ⟨m_RM, "floorMod", "(II)I"⟩, prog_14_method_50_code, 3, (Option.some FieldType.int)), (7, ⟨RX7, "copyFrom", "(LCupClaims$Table;)V"⟩, prog_9_method_3_code, 2, (Option.none : Option FieldType)), (3, ⟨RX3, "copyFrom", "(LCupClaims$Matrix;)V"⟩, prog_5_method_6_code, 2, (Option.none : Option FieldType)), (9, ⟨RX9, "setWild", "(Z)I"⟩, prog_1_method_6_code, 3, (Option.some FieldType.int)), (7, ⟨RX7, "hasClaim", "()Z"⟩, prog_9_method_20_code, 1, (Option.some FieldType.boolean)), (9, ⟨RX9, "deal", "()I"⟩, prog_1_method_7_code, 1, (Option.some FieldType.int)), (7, ⟨RX7, "canDeal", "()Z"⟩, prog_9_method_13_code, 1, (Option.some FieldType.boolean)), (7, ⟨RX7, "isOver", "()Z"⟩, prog_9_method_9_code, 1, (Option.some FieldType.boolean)), (7, ⟨RX7, "playersIn", "()I"⟩, prog_9_method_8_code, 3, (Option.some FieldType.int)), (7, ⟨RX7, "dealFaces", "([I)V"⟩, prog_9_method_14_code, 3, (Option.none : Option FieldType)), (7, ⟨RX7, "diceInGame", "()I"⟩, prog_9_method_10_code, 3, (Option.some FieldType.int)), (9, ⟨RX9, "roll", "(I)I"⟩, prog_1_method_8_code, 2, (Option.some FieldType.int)), (7, ⟨RX7, "dealRolled", "(I)V"⟩, prog_9_method_15_code, 5, (Option.none : Option FieldType)), (9, ⟨RX9, "claim", "(II)I"⟩, prog_1_method_9_code, 4, (Option.some FieldType.int)), (9, ⟨RX9, "isClaim", "(II)Z"⟩, prog_1_method_33_code, 2, (Option.some FieldType.boolean)), (7, ⟨RX7, "rankOf", "(II)I"⟩, prog_9_method_19_code, 3, (Option.some FieldType.int)), (7, ⟨RX7, "presentRank", "()I"⟩, prog_9_method_21_code, 1, (Option.some FieldType.int)), (7, ⟨RX7, "makeClaim", "(II)V"⟩, prog_9_method_22_code, 3, (Option.none : Option FieldType)), (7, ⟨RX7, "nextInFrom", "(I)I"⟩, prog_9_method_12_code, 3, (Option.some FieldType.int)), (9, ⟨RX9, "doubt", "()I"⟩, prog_1_method_10_code, 1, (Option.some FieldType.int)), (7, ⟨RX7, "endByDoubt", "()I"⟩, prog_9_method_23_code, 3, (Option.some FieldType.int)), (7, ⟨RX7, "countingInAll", "(I)I"⟩, prog_9_method_18_code, 4, (Option.some FieldType.int)), (7, ⟨RX7, "countingUnder", "(II)I"⟩, prog_9_method_17_code, 6, (Option.some FieldType.int)), (7, ⟨RX7, "faceAt", "(II)I"⟩, prog_9_method_7_code, 4, (Option.some FieldType.int)), (7, ⟨RX7, "counts", "(II)Z"⟩, prog_9_method_16_code, 3, (Option.some FieldType.boolean)), (7, ⟨RX7, "loseDie", "(I)V"⟩, prog_9_method_26_code, 2, (Option.none : Option FieldType)), (7, ⟨RX7, "hasPlayer", "(I)Z"⟩, prog_9_method_4_code, 2, (Option.some FieldType.boolean)), (11, ⟨m_RM, "max", "(II)I"⟩, prog_14_method_65_code, 2, (Option.some FieldType.int)), (7, ⟨RX7, "endRound", "(I)V"⟩, prog_9_method_27_code, 2, (Option.none : Option FieldType)), (9, ⟨RX9, "callExact", "()I"⟩, prog_1_method_11_code, 1, (Option.some FieldType.int)), (7, ⟨RX7, "endByExactCall", "()Z"⟩, prog_9_method_24_code, 3, (Option.some FieldType.boolean)), (7, ⟨RX7, "winDie", "(I)V"⟩, prog_9_method_25_code, 2, (Option.none : Option FieldType)), (11, ⟨m_RM, "min", "(II)I"⟩, prog_14_method_69_code, 2, (Option.some FieldType.int)), (9, ⟨RX9, "isFace", "(I)Z"⟩, prog_1_method_32_code, 1, (Option.some FieldType.boolean)), (5, ⟨RX5, "fit", "(LCupClaims$Matrix;)V"⟩, prog_7_method_3_code, 4, (Option.none : Option FieldType)), (3, ⟨RX3, "isSameAs", "(LCupClaims$Matrix;)Z"⟩, prog_5_method_7_code, 4, (Option.some FieldType.boolean)), (5, ⟨RX5, "fillMinors", "(LCupClaims$Matrix;)V"⟩, prog_7_method_13_code, 4, (Option.none : Option FieldType)), (12, ⟨m_RI, "bitCount", "(I)I"⟩, prog_13_method_49_code, 1, (Option.some FieldType.int)), (5, ⟨RX5, "alongFirstRow", "(LCupClaims$Matrix;II)J"⟩, prog_7_method_14_code, 11, (Option.some FieldType.long)), (9, ⟨RX9, "isIn", "(II)Z"⟩, prog_1_method_34_code, 2, (Option.some FieldType.boolean)), (5, ⟨RX5, "minorOf", "(II)J"⟩, prog_7_method_12_code, 4, (Option.some FieldType.long)), (5, ⟨RX5, "findOfSize", "(LCupClaims$Matrix;I)Z"⟩, prog_7_method_4_code, 6, (Option.some FieldType.boolean)), (5, ⟨RX5, "isSolution", "(LCupClaims$Matrix;II)Z"⟩, prog_7_method_5_code, 4, (Option.some FieldType.boolean)), (5, ⟨RX5, "sumCofactors", "(II)V"⟩, prog_7_method_6_code, 7, (Option.none : Option FieldType)), (5, ⟨RX5, "cofactorOf", "(IIII)J"⟩, prog_7_method_7_code, 9, (Option.some FieldType.long)), (5, ⟨RX5, "negateAll", "()V"⟩, prog_7_method_8_code, 2, (Option.none : Option FieldType)), (5, ⟨RX5, "sharesStand", "()Z"⟩, prog_7_method_9_code, 2, (Option.some FieldType.boolean)), (5, ⟨RX5, "rowsHold", "(LCupClaims$Matrix;)Z"⟩, prog_7_method_10_code, 6, (Option.some FieldType.boolean)), (5, ⟨RX5, "columnsHold", "(LCupClaims$Matrix;)Z"⟩, prog_7_method_11_code, 6, (Option.some FieldType.boolean)), (9, ⟨RX9, "undo", "()I"⟩, prog_1_method_13_code, 1, (Option.some FieldType.int)), (2, ⟨RX2, "restore", "(LCupClaims$Table;)V"⟩, prog_4_method_3_code, 3, (Option.none : Option FieldType)), (9, ⟨RX9, "player", "(II)I"⟩, prog_1_method_14_code, 3, (Option.some FieldType.int)), (9, ⟨RX9, "die", "(II)I"⟩, prog_1_method_15_code, 3, (Option.some FieldType.int)), (9, ⟨RX9, "counting", "(II)I"⟩, prog_1_method_16_code, 4, (Option.some FieldType.int)), (9, ⟨RX9, "rank", "(II)I"⟩, prog_1_method_17_code, 3, (Option.some FieldType.int)), (9, ⟨RX9, "isFace", "(I)Z"⟩, prog_1_method_32_code, 1, (Option.some FieldType.boolean)), (9, ⟨RX9, "isFace", "(I)Z"⟩, prog_1_method_32_code, 1, (Option.some FieldType.boolean)), (9, ⟨RX9, "isFace", "(I)Z"⟩, prog_1_method_32_code, 1, (Option.some FieldType.boolean)), (9, ⟨RX9, "isFace", "(I)Z"⟩, prog_1_method_32_code, 1, (Option.some FieldType.boolean)), (9, ⟨RX9, "isFace", "(I)Z"⟩, prog_1_method_32_code, 1, (Option.some FieldType.boolean)), (9, ⟨RX9, "isFace", "(I)Z"⟩, prog_1_method_32_code, 1, (Option.some FieldType.boolean)), (9, ⟨RX9, "isFace", "(I)Z"⟩, prog_1_method_32_code, 1, (Option.some FieldType.boolean)), (9, ⟨RX9, "isFace", "(I)Z"⟩, prog_1_method_32_code, 1, (Option.some FieldType.boolean)), (9, ⟨RX9, "isFace", "(I)Z"⟩, prog_1_method_32_code, 1, (Option.some FieldType.boolean)), (9, ⟨RX9, "isFace", "(I)Z"⟩, prog_1_method_32_code, 1, (Option.some FieldType.boolean)), (9, ⟨RX9, "isFace", "(I)Z"⟩, prog_1_method_32_code, 1, (Option.some FieldType.boolean)), (9, ⟨RX9, "isFace", "(I)Z"⟩, prog_1_method_32_code, 1, (Option.some FieldType.boolean)), (9, ⟨RX9, "isFace", "(I)Z"⟩, prog_1_method_32_code, 1, (Option.some FieldType.boolean)), (9, ⟨RX9, "isFace", "(I)Z"⟩, prog_1_method_32_code, 1, (Option.some FieldType.boolean)), (9, ⟨RX9, "isFace", "(I)Z"⟩, prog_1_method_32_code, 1, (Option.some FieldType.boolean)), (9, ⟨RX9, "isFace", "(I)Z"⟩, prog_1_method_32_code, 1, (Option.some FieldType.boolean)), (9, ⟨RX9, "isFace", "(I)Z"⟩, prog_1_method_32_code, 1, (Option.some FieldType.boolean)), (9, ⟨RX9, "isFace", "(I)Z"⟩, prog_1_method_32_code, 1, (Option.some FieldType.boolean)), (9, ⟨RX9, "isFace", "(I)Z"⟩, prog_1_method_32_code, 1, (Option.some FieldType.boolean)), (9, ⟨RX9, "isFace", "(I)Z"⟩, prog_1_method_32_code, 1, (Option.some FieldType.boolean)), (9, ⟨RX9, "isFace", "(I)Z"⟩, prog_1_method_32_code, 1, (Option.some FieldType.boolean)), (9, ⟨RX9, "isFace", "(I)Z"⟩, prog_1_method_32_code, 1, (Option.some FieldType.boolean)), (9, ⟨RX9, "isFace", "(I)Z"⟩, prog_1_method_32_code, 1, (Option.some FieldType.boolean)), (9, ⟨RX9, "isFace", "(I)Z"⟩, prog_1_method_32_code, 1, (Option.some FieldType.boolean)), (9, ⟨RX9, "isFace", "(I)Z"⟩, prog_1_method_32_code, 1, (Option.some FieldType.boolean)), (9, ⟨RX9, "count", "(I)I"⟩, prog_1_method_26_code, 2, (Option.some FieldType.int)), (9, ⟨RX9, "isFace", "(I)Z"⟩, prog_1_method_32_code, 1, (Option.some FieldType.boolean)), (9, ⟨RX9, "isFace", "(I)Z"⟩, prog_1_method_32_code, 1, (Option.some FieldType.boolean)), (9, ⟨RX9, "isFace", "(I)Z"⟩, prog_1_method_32_code, 1, (Option.some FieldType.boolean)), (9, ⟨RX9, "isFace", "(I)Z"⟩, prog_1_method_32_code, 1, (Option.some FieldType.boolean)), (9, ⟨RX9, "isFace", "(I)Z"⟩, prog_1_method_32_code, 1, (Option.some FieldType.boolean)), (9, ⟨RX9, "isFace", "(I)Z"⟩, prog_1_method_32_code, 1, (Option.some FieldType.boolean)), (9, ⟨RX9, "isFace", "(I)Z"⟩, prog_1_method_32_code, 1, (Option.some FieldType.boolean)), (9, ⟨RX9, "isFace", "(I)Z"⟩, prog_1_method_32_code, 1, (Option.some FieldType.boolean)), (10, ⟨R_law, "cell", "([II)I"⟩, method_2_code, 2, (Option.some FieldType.int)), (10, ⟨R_law, "low", "(II)I"⟩, method_3_code, 2, (Option.some FieldType.int)), (10, ⟨R_law, "begins", "([II)V"⟩, method_4_code, 4, (Option.none : Option FieldType)), (10, ⟨R_law, "alive", "([I)I"⟩, method_5_code, 3, (Option.some FieldType.int)), (10, ⟨R_law, "behind", "([II)I"⟩, method_6_code, 4, (Option.some FieldType.int)), (10, ⟨R_law, "rank", "([III)I"⟩, method_7_code, 3, (Option.some FieldType.int)), (10, ⟨R_law, "under", "([III)I"⟩, method_8_code, 6, (Option.some FieldType.int)), (10, ⟨R_law, "all", "([II)I"⟩, method_9_code, 4, (Option.some FieldType.int)), (10, ⟨R_law, "dice", "([I)I"⟩, method_10_code, 1, (Option.some FieldType.int)), (10, ⟨R_law, "rolls", "(LCupClaims;[II)Z"⟩, method_11_code, 6, (Option.some FieldType.boolean)), (10, ⟨R_law, "claims", "(LCupClaims;[III)Z"⟩, method_12_code, 4, (Option.some FieldType.boolean)), (10, ⟨R_law, "ends", "([II)V"⟩, method_13_code, 2, (Option.none : Option FieldType)), (10, ⟨R_law, "doubts", "(LCupClaims;[I)Z"⟩, method_14_code, 4, (Option.some FieldType.boolean)), (10, ⟨R_law, "calls", "(LCupClaims;[I)Z"⟩, method_15_code, 4, (Option.some FieldType.boolean)), (10, ⟨R_law, "isTold", "(LCupClaims;[I)Z"⟩, method_16_code, 4, (Option.some FieldType.boolean)), (10, ⟨R_law, "areCounted", "(LCupClaims;[I)Z"⟩, method_17_code, 5, (Option.some FieldType.boolean)), (10, ⟨R_law, "deals", "(LCupClaims;[II)Z"⟩, method_18_code, 9, (Option.some FieldType.boolean)), (9, ⟨RX9, "isFace", "(I)Z"⟩, prog_1_method_32_code, 1, (Option.some FieldType.boolean)), (9, ⟨RX9, "isFace", "(I)Z"⟩, prog_1_method_32_code, 1, (Option.some FieldType.boolean)), (9, ⟨RX9, "isFace", "(I)Z"⟩, prog_1_method_32_code, 1, (Option.some FieldType.boolean)), (9, ⟨RX9, "isFace", "(I)Z"⟩, prog_1_method_32_code, 1, (Option.some FieldType.boolean)), (9, ⟨RX9, "isFace", "(I)Z"⟩, prog_1_method_32_code, 1, (Option.some FieldType.boolean)), (9, ⟨RX9, "isFace", "(I)Z"⟩, prog_1_method_32_code, 1, (Option.some FieldType.boolean)), (9, ⟨RX9, "isFace", "(I)Z"⟩, prog_1_method_32_code, 1, (Option.some FieldType.boolean)), (9, ⟨RX9, "isFace", "(I)Z"⟩, prog_1_method_32_code, 1, (Option.some FieldType.boolean)), (9, ⟨RX9, "isFace", "(I)Z"⟩, prog_1_method_32_code, 1, (Option.some FieldType.boolean)), (9, ⟨RX9, "isFace", "(I)Z"⟩, prog_1_method_32_code, 1, (Option.some FieldType.boolean)), (9, ⟨RX9, "isFace", "(I)Z"⟩, prog_1_method_32_code, 1, (Option.some FieldType.boolean)), (9, ⟨RX9, "isFace", "(I)Z"⟩, prog_1_method_32_code, 1, (Option.some FieldType.boolean)), (9, ⟨RX9, "isFace", "(I)Z"⟩, prog_1_method_32_code, 1, (Option.some FieldType.boolean)), (9, ⟨RX9, "isFace", "(I)Z"⟩, prog_1_method_32_code, 1, (Option.some FieldType.boolean)), (9, ⟨RX9, "isFace", "(I)Z"⟩, prog_1_method_32_code, 1, (Option.some FieldType.boolean)), (9, ⟨RX9, "isFace", "(I)Z"⟩, prog_1_method_32_code, 1, (Option.some FieldType.boolean)), (9, ⟨RX9, "isFace", "(I)Z"⟩, prog_1_method_32_code, 1, (Option.some FieldType.boolean)), (9, ⟨RX9, "isFace", "(I)Z"⟩, prog_1_method_32_code, 1, (Option.some FieldType.boolean)), (9, ⟨RX9, "isFace", "(I)Z"⟩, prog_1_method_32_code, 1, (Option.some FieldType.boolean)), (9, ⟨RX9, "isFace", "(I)Z"⟩, prog_1_method_32_code, 1, (Option.some FieldType.boolean)), (9, ⟨RX9, "isFace", "(I)Z"⟩, prog_1_method_32_code, 1, (Option.some FieldType.boolean)), (9, ⟨RX9, "isFace", "(I)Z"⟩, prog_1_method_32_code, 1, (Option.some FieldType.boolean)), (9, ⟨RX9, "isFace", "(I)Z"⟩, prog_1_method_32_code, 1, (Option.some FieldType.boolean)), (9, ⟨RX9, "isFace", "(I)Z"⟩, prog_1_method_32_code, 1, (Option.some FieldType.boolean)), (9, ⟨RX9, "isFace", "(I)Z"⟩, prog_1_method_32_code, 1, (Option.some FieldType.boolean)), (9, ⟨RX9, "isFace", "(I)Z"⟩, prog_1_method_32_code, 1, (Option.some FieldType.boolean)), (9, ⟨RX9, "isFace", "(I)Z"⟩, prog_1_method_32_code, 1, (Option.some FieldType.boolean)), (9, ⟨RX9, "isFace", "(I)Z"⟩, prog_1_method_32_code, 1, (Option.some FieldType.boolean)), (9, ⟨RX9, "isFace", "(I)Z"⟩, prog_1_method_32_code, 1, (Option.some FieldType.boolean)), (9, ⟨RX9, "isFace", "(I)Z"⟩, prog_1_method_32_code, 1, (Option.some FieldType.boolean)), (9, ⟨RX9, "isFace", "(I)Z"⟩, prog_1_method_32_code, 1, (Option.some FieldType.boolean)), (9, ⟨RX9, "isFace", "(I)Z"⟩, prog_1_method_32_code, 1, (Option.some FieldType.boolean)), (9, ⟨RX9, "isFace", "(I)Z"⟩, prog_1_method_32_code, 1, (Option.some FieldType.boolean)), (9, ⟨RX9, "isFace", "(I)Z"⟩, prog_1_method_32_code, 1, (Option.some FieldType.boolean)), (9, ⟨RX9, "isFace", "(I)Z"⟩, prog_1_method_32_code, 1, (Option.some FieldType.boolean)), (9, ⟨RX9, "isFace", "(I)Z"⟩, prog_1_method_32_code, 1, (Option.some FieldType.boolean)), (9, ⟨RX9, "isFace", "(I)Z"⟩, prog_1_method_32_code, 1, (Option.some FieldType.boolean)), (9, ⟨RX9, "isFace", "(I)Z"⟩, prog_1_method_32_code, 1, (Option.some FieldType.boolean)), (9, ⟨RX9, "isFace", "(I)Z"⟩, prog_1_method_32_code, 1, (Option.some FieldType.boolean)), (9, ⟨RX9, "isFace", "(I)Z"⟩, prog_1_method_32_code, 1, (Option.some FieldType.boolean)), (9, ⟨RX9, "isFace", "(I)Z"⟩, prog_1_method_32_code, 1, (Option.some FieldType.boolean)), (9, ⟨RX9, "isFace", "(I)Z"⟩, prog_1_method_32_code, 1, (Option.some FieldType.boolean)), (9, ⟨RX9, "isFace", "(I)Z"⟩, prog_1_method_32_code, 1, (Option.some FieldType.boolean)), (9, ⟨RX9, "isFace", "(I)Z"⟩, prog_1_method_32_code, 1, (Option.some FieldType.boolean)), (9, ⟨RX9, "isFace", "(I)Z"⟩, prog_1_method_32_code, 1, (Option.some FieldType.boolean)), (9, ⟨RX9, "isFace", "(I)Z"⟩, prog_1_method_32_code, 1, (Option.some FieldType.boolean)), (9, ⟨RX9, "isFace", "(I)Z"⟩, prog_1_method_32_code, 1, (Option.some FieldType.boolean)), (9, ⟨RX9, "isFace", "(I)Z"⟩, prog_1_method_32_code, 1, (Option.some FieldType.boolean)), (9, ⟨RX9, "isFace", "(I)Z"⟩, prog_1_method_32_code, 1, (Option.some FieldType.boolean)), (9, ⟨RX9, "isFace", "(I)Z"⟩, prog_1_method_32_code, 1, (Option.some FieldType.boolean)), (9, ⟨RX9, "isFace", "(I)Z"⟩, prog_1_method_32_code, 1, (Option.some FieldType.boolean)), (9, ⟨RX9, "isFace", "(I)Z"⟩, prog_1_method_32_code, 1, (Option.some FieldType.boolean)), (9, ⟨RX9, "isFace", "(I)Z"⟩, prog_1_method_32_code, 1, (Option.some FieldType.boolean)), (9, ⟨RX9, "isFace", "(I)Z"⟩, prog_1_method_32_code, 1, (Option.some FieldType.boolean)), (9, ⟨RX9, "isFace", "(I)Z"⟩, prog_1_method_32_code, 1, (Option.some FieldType.boolean)), (9, ⟨RX9, "isFace", "(I)Z"⟩, prog_1_method_32_code, 1, (Option.some FieldType.boolean)), (10, x, code, 10, ret)]
/-- the places of a method's code word, of its class's, its number of parameters -/
def m_MP : List (Nat × Nat × Nat) := [(44, 27, 0), (52, 28, 0), (69, 29, 0), (87, 30, 0), (93, 31, 0), (137, 32, 0), (144, 32, 1), (205, 33, 0), (225, 34, 0), (231, 35, 1), (257, 36, 0), (654, 27, 1), (658, 28, 1), (650, 27, 0), (662, 27, 1), (666, 30, 1), (576, 28, 1), (671, 30, 1), (675, 30, 1), (679, 30, 1), (683, 31, 3), (451, 31, 2), (447, 31, 2), (688, 30, 0), (692, 30, 0), (571, 29, 2), (369, 32, 1), (580, 29, 2), (584, 29, 1), (389, 32, 1), (589, 29, 2), (347, 27, 1), (305, 27, 1), (309, 33, 1), (313, 33, 1), (316, 37, 2), (320, 32, 1), (327, 31, 1), (333, 27, 1), (337, 32, 0), (567, 27, 0), (553, 32, 0), (526, 32, 0), (522, 32, 0), (594, 32, 1), (563, 32, 0), (548, 27, 1), (558, 32, 1), (341, 27, 2), (344, 27, 2), (351, 32, 2), (355, 32, 0), (361, 32, 2), (365, 32, 1), (373, 27, 0), (377, 32, 0), (381, 32, 1), (385, 32, 2), (393, 32, 2), (397, 32, 2), (401, 32, 1), (405, 32, 1), (408, 37, 2), (412, 32, 1), (416, 27, 0), (420, 32, 0), (424, 32, 1), (427, 37, 2), (347, 27, 1), (439, 36, 1), (443, 31, 1), (456, 36, 1), (459, 39, 1), (466, 36, 3), (469, 27, 2), (473, 36, 2), (479, 36, 2), (483, 36, 3), (487, 36, 2), (491, 36, 4), (495, 36, 0), (499, 36, 0), (503, 36, 1), (507, 36, 1), (431, 27, 0), (435, 33, 1), (630, 27, 2), (634, 27, 2), (511, 27, 2), (643, 27, 2), (347, 27, 1), (347, 27, 1), (347, 27, 1), (347, 27, 1), (347, 27, 1), (347, 27, 1), (347, 27, 1), (347, 27, 1), (347, 27, 1), (347, 27, 1), (347, 27, 1), (347, 27, 1), (347, 27, 1), (347, 27, 1), (347, 27, 1), (347, 27, 1), (347, 27, 1), (347, 27, 1), (347, 27, 1), (347, 27, 1), (347, 27, 1), (347, 27, 1), (347, 27, 1), (347, 27, 1), (347, 27, 1), (518, 27, 1), (347, 27, 1), (347, 27, 1), (347, 27, 1), (347, 27, 1), (347, 27, 1), (347, 27, 1), (347, 27, 1), (347, 27, 1), (530, 26, 2), (534, 26, 2), (538, 26, 2), (541, 26, 1), (608, 26, 2), (605, 26, 3), (617, 26, 3), (614, 26, 2), (598, 26, 1), (544, 26, 3), (602, 26, 4), (620, 26, 2), (611, 26, 2), (623, 26, 2), (626, 26, 2), (639, 26, 2), (646, 26, 3), (347, 27, 1), (347, 27, 1), (347, 27, 1), (347, 27, 1), (347, 27, 1), (347, 27, 1), (347, 27, 1), (347, 27, 1), (347, 27, 1), (347, 27, 1), (347, 27, 1), (347, 27, 1), (347, 27, 1), (347, 27, 1), (347, 27, 1), (347, 27, 1), (347, 27, 1), (347, 27, 1), (347, 27, 1), (347, 27, 1), (347, 27, 1), (347, 27, 1), (347, 27, 1), (347, 27, 1), (347, 27, 1), (347, 27, 1), (347, 27, 1), (347, 27, 1), (347, 27, 1), (347, 27, 1), (347, 27, 1), (347, 27, 1), (347, 27, 1), (347, 27, 1), (347, 27, 1), (347, 27, 1), (347, 27, 1), (347, 27, 1), (347, 27, 1), (347, 27, 1), (347, 27, 1), (347, 27, 1), (347, 27, 1), (347, 27, 1), (347, 27, 1), (347, 27, 1), (347, 27, 1), (347, 27, 1), (347, 27, 1), (347, 27, 1), (347, 27, 1), (347, 27, 1), (347, 27, 1), (347, 27, 1), (347, 27, 1), (347, 27, 1)]
def m_FL : List ((Nat × Nat) × (Nat × Nat × Nat)) := [((9, 10), (9, 0, 280)), ((9, 19), (9, 1, 281)), ((9, 26), (9, 2, 282)), ((9, 33), (9, 3, 283)), ((9, 40), (9, 4, 284)), ((9, 47), (9, 5, 285)), ((9, 54), (9, 6, 286)), ((8, 9), (8, 0, 54)), ((1, 9), (1, 0, 71)), ((4, 12), (4, 0, 111)), ((3, 9), (3, 0, 95)), ((3, 15), (3, 1, 99)), ((3, 18), (3, 2, 103)), ((7, 9), (7, 1, 147)), ((7, 15), (7, 9, 163)), ((7, 19), (7, 10, 165)), ((7, 22), (7, 11, 167)), ((7, 25), (7, 12, 169)), ((7, 31), (7, 13, 170)), ((7, 39), (7, 0, 145)), ((7, 43), (7, 2, 149)), ((7, 46), (7, 3, 151)), ((7, 49), (7, 4, 153)), ((7, 52), (7, 7, 159)), ((7, 55), (7, 8, 161)), ((2, 11), (2, 0, 210)), ((0, 14), (0, 0, 246)), ((0, 20), (0, 1, 247)), ((6, 9), (6, 2, 234)), ((6, 15), (6, 3, 235)), ((6, 18), (6, 0, 233)), ((5, 9), (5, 0, 261)), ((5, 15), (5, 1, 262)), ((5, 18), (5, 2, 263)), ((5, 24), (5, 3, 264)), ((5, 28), (5, 5, 266)), ((9, 62), (8, 1, 57)), ((8, 15), (8, 1, 55)), ((4, 18), (4, 1, 112)), ((4, 22), (4, 2, 113)), ((4, 25), (4, 3, 114)), ((4, 28), (4, 4, 115)), ((4, 31), (4, 5, 116)), ((4, 35), (8, 1, 58)), ((4, 52), (3, 0, 96)), ((4, 55), (3, 1, 100)), ((4, 71), (4, 6, 117)), ((1, 21), (1, 1, 73)), ((1, 25), (1, 2, 74)), ((1, 28), (8, 1, 56)), ((9, 73), (7, 0, 146)), ((2, 18), (2, 2, 212)), ((2, 30), (2, 1, 211)), ((7, 58), (7, 5, 155)), ((7, 61), (7, 6, 157)), ((9, 88), (7, 1, 148)), ((9, 95), (1, 0, 72)), ((9, 119), (7, 2, 150)), ((5, 43), (3, 0, 97)), ((5, 47), (3, 1, 101)), ((5, 78), (5, 4, 265)), ((9, 155), (2, 2, 213)), ((9, 135), (7, 13, 171)), ((9, 164), (7, 9, 164)), ((9, 167), (7, 10, 166)), ((9, 170), (7, 11, 168)), ((9, 253), (7, 3, 152)), ((9, 256), (7, 4, 154)), ((9, 259), (7, 5, 156)), ((9, 262), (7, 6, 158)), ((9, 265), (7, 7, 160)), ((9, 268), (7, 8, 162)), ((9, 149), (3, 0, 98)), ((9, 152), (3, 1, 102))]
def m_ML : List ((Nat × Nat) × (Nat × Nat × Nat × Nat × Nat)) := [((9, 9), (3, 1, 50, 51, 0)), ((9, 18), (3, 2, 67, 68, 0)), ((9, 25), (3, 3, 85, 86, 0)), ((9, 32), (2, 5, 135, 136, 0)), ((9, 39), (2, 7, 203, 204, 0)), ((9, 46), (3, 8, 223, 224, 0)), ((9, 53), (2, 10, 255, 256, 0)), ((4, 11), (3, 4, 91, 92, 0)), ((7, 30), (3, 4, 140, 92, 0)), ((7, 35), (0, 6, 141, 142, 143)), ((2, 17), (2, 5, 209, 136, 0)), ((0, 11), (2, 9, 229, 230, 0)), ((5, 23), (3, 4, 260, 92, 0)), ((9, 58), (0, 12, 655, 656, 657)), ((9, 66), (0, 15, 663, 664, 665)), ((9, 70), (0, 25, 568, 569, 570)), ((4, 40), (0, 16, 667, 574, 575)), ((4, 44), (0, 17, 668, 670, 21)), ((4, 48), (0, 24, 689, 691, 25)), ((4, 58), (0, 18, 672, 674, 22)), ((4, 61), (0, 19, 676, 678, 23)), ((4, 65), (0, 23, 685, 687, 24)), ((4, 68), (0, 22, 684, 445, 446)), ((4, 74), (0, 20, 680, 681, 682)), ((3, 22), (0, 21, 448, 450, 6)), ((1, 15), (0, 26, 572, 367, 368)), ((1, 33), (0, 16, 573, 574, 575)), ((1, 36), (0, 27, 577, 579, 18)), ((1, 40), (0, 29, 585, 387, 388)), ((1, 43), (0, 28, 581, 583, 19)), ((1, 47), (0, 30, 586, 588, 20)), ((1, 50), (4, 31, 590, 346, 0)), ((9, 76), (0, 33, 306, 307, 308)), ((9, 80), (0, 6, 329, 142, 143)), ((2, 22), (0, 34, 310, 312, 0)), ((2, 26), (0, 36, 317, 318, 319)), ((2, 33), (1, 35, 314, 315, 0)), ((7, 64), (6, 0, 321, 323, 322)), ((7, 70), (0, 37, 324, 325, 326)), ((3, 26), (6, 0, 328, 323, 322)), ((9, 84), (0, 39, 334, 335, 336)), ((9, 92), (0, 41, 550, 551, 552)), ((9, 99), (0, 44, 591, 592, 593)), ((9, 103), (0, 45, 560, 561, 562)), ((7, 85), (0, 42, 554, 524, 525)), ((7, 78), (0, 43, 527, 520, 521)), ((9, 108), (0, 47, 555, 556, 557)), ((9, 111), (1, 49, 342, 343, 0)), ((9, 115), (0, 50, 348, 349, 350)), ((9, 122), (0, 51, 352, 353, 354)), ((9, 125), (0, 52, 358, 359, 360)), ((9, 180), (1, 31, 345, 346, 0)), ((7, 101), (0, 39, 356, 335, 336)), ((7, 104), (0, 50, 357, 349, 350)), ((7, 107), (0, 53, 362, 364, 1)), ((7, 82), (0, 26, 366, 367, 368)), ((9, 129), (0, 55, 374, 375, 376)), ((7, 110), (0, 56, 378, 379, 380)), ((7, 113), (0, 60, 398, 400, 3)), ((7, 116), (0, 63, 409, 411, 4)), ((7, 98), (0, 57, 382, 383, 384)), ((7, 74), (0, 29, 386, 387, 388)), ((7, 90), (0, 58, 390, 391, 392)), ((7, 94), (0, 59, 394, 396, 2)), ((7, 122), (0, 61, 402, 403, 404)), ((7, 131), (1, 62, 406, 407, 0)), ((9, 132), (0, 65, 417, 418, 419)), ((7, 119), (0, 66, 421, 423, 5)), ((7, 126), (1, 67, 425, 426, 0)), ((5, 32), (0, 70, 440, 441, 442)), ((5, 36), (0, 37, 452, 325, 326)), ((5, 40), (0, 71, 453, 455, 7)), ((5, 50), (1, 67, 475, 426, 0)), ((5, 56), (0, 76, 476, 478, 10)), ((3, 32), (0, 22, 444, 445, 446)), ((5, 60), (1, 72, 457, 458, 0)), ((5, 105), (0, 73, 463, 465, 8)), ((5, 94), (4, 74, 467, 468, 0)), ((5, 74), (0, 75, 470, 472, 9)), ((5, 102), (0, 22, 474, 445, 446)), ((5, 66), (0, 77, 480, 482, 11)), ((5, 70), (0, 78, 484, 486, 12)), ((5, 81), (0, 80, 492, 494, 14)), ((5, 84), (0, 81, 496, 498, 15)), ((5, 88), (0, 82, 500, 502, 16)), ((5, 91), (0, 83, 504, 506, 17)), ((5, 98), (0, 79, 488, 490, 13)), ((9, 158), (0, 85, 432, 433, 434)), ((9, 146), (0, 69, 436, 437, 438)), ((9, 161), (0, 61, 512, 403, 404)), ((9, 173), (0, 29, 635, 387, 388)), ((9, 177), (0, 58, 636, 391, 392)), ((9, 183), (0, 56, 513, 379, 380)), ((9, 186), (0, 57, 514, 383, 384)), ((9, 247), (0, 43, 519, 520, 521)), ((9, 250), (0, 42, 523, 524, 525)), ((10, 11), (1, 130, 615, 616, 0)), ((10, 15), (1, 127, 539, 540, 0)), ((10, 19), (0, 46, 545, 546, 547)), ((10, 25), (0, 40, 564, 565, 566)), ((10, 30), (1, 132, 596, 597, 0)), ((10, 34), (1, 129, 603, 604, 0)), ((10, 37), (0, 48, 338, 339, 340)), ((10, 41), (1, 128, 606, 607, 0)), ((10, 45), (0, 54, 370, 371, 372)), ((10, 48), (1, 131, 612, 613, 0)), ((10, 51), (1, 135, 618, 619, 0)), ((10, 55), (0, 64, 413, 414, 415)), ((10, 58), (0, 86, 627, 628, 629)), ((10, 61), (0, 87, 631, 632, 633)), ((10, 64), (0, 115, 515, 516, 517)), ((10, 67), (0, 88, 508, 509, 510)), ((10, 70), (0, 89, 640, 641, 642)), ((10, 72), (0, 13, 647, 648, 649)), ((10, 75), (0, 11, 651, 652, 653)), ((10, 78), (0, 14, 659, 660, 661)), ((10, 82), (1, 125, 532, 533, 0)), ((10, 85), (2, 0, 42, 43, 0)), ((10, 86), (1, 126, 536, 537, 0)), ((10, 89), (0, 84, 428, 429, 430)), ((10, 92), (0, 32, 302, 303, 304)), ((10, 95), (1, 138, 624, 625, 0)), ((10, 99), (1, 124, 528, 529, 0)), ((10, 102), (1, 133, 542, 543, 0)), ((10, 106), (1, 140, 644, 645, 0)), ((10, 109), (0, 38, 330, 331, 332)), ((10, 112), (1, 137, 621, 622, 0)), ((10, 115), (1, 136, 609, 610, 0)), ((10, 118), (1, 134, 600, 601, 0)), ((10, 122), (1, 139, 637, 638, 0)), ((9, 1), (5, 0, 45, 46, 47)), ((8, 3), (5, 0, 53, 46, 47)), ((1, 3), (5, 0, 70, 46, 47)), ((4, 3), (5, 0, 88, 46, 47)), ((3, 3), (5, 0, 94, 46, 47)), ((7, 3), (5, 0, 138, 46, 47)), ((2, 3), (5, 0, 206, 46, 47)), ((0, 3), (5, 0, 226, 46, 47)), ((6, 3), (5, 0, 232, 46, 47)), ((5, 3), (5, 0, 258, 46, 47))]
def m_CI : List ((Nat × Nat) × (Int × Nat)) := [((9, 107), (65535, 549)), ((7, 89), (65536, 559)), ((12, 265), (1431655765, 460)), ((12, 266), (858993459, 461)), ((12, 267), (252645135, 462)), ((10, 7), (795577677, 531)), ((10, 8), (2147483647, 535)), ((10, 29), (65535, 595)), ((10, 33), (65536, 599))]
def m_CJ : List ((Nat × Nat) × (Int × Nat)) := []
def m_CF : List ((Nat × Nat) × (Nat × Nat)) := []
def m_NC : List ((Nat × Nat) × (Nat × Nat)) := [((9, 7), (8, 48)), ((9, 16), (1, 65)), ((9, 23), (4, 83)), ((9, 30), (7, 133)), ((9, 37), (2, 201)), ((9, 44), (0, 221)), ((9, 51), (5, 253)), ((4, 9), (3, 89)), ((7, 28), (3, 139)), ((2, 9), (7, 207)), ((0, 9), (6, 227)), ((5, 21), (3, 259)), ((10, 20), (9, 40))]
/-- the place of a class's word that it can be made, of its word that it is ready -/
def m_NP : List (Nat × Nat) := [(222, 34), (66, 29), (202, 33), (90, 31), (84, 30), (254, 36), (228, 35), (134, 32), (49, 28), (41, 27)]
def m_TS : List (Int × Nat × List Nat) := [(0, 6, [3, 4, 5]), (0, 33, [1, 2, 3, 7, 11, 15, 19, 23, 27, 28, 29, 30, 31, 32])]
def m_LS : List (Nat × List (Int × Nat)) := [(9, [(32, 6), (45, 7), (47, 8)])]
end
section
/-! the run of a method on the pure machine -/
def m_blk (y b : Nat) : List m_P := match m_CD[y]? with
  | some l => match l[b]? with
    | some q => q.2
    | none => []
  | none => []
def m_stt (y b : Nat) : Nat := match m_CD[y]? with
  | some l => match l[b]? with
    | some q => q.1
    | none => 0
  | none => 0
def m_tsl (a : Nat) : Int × Nat × List Nat := m_TS.getD a (0, 0, [])
def m_lsl (a : Nat) : Nat × List (Int × Nat) := m_LS.getD a (0, [])
def m_mt (y : Nat) : Nat × MethodName × ByteArray × Nat × Option FieldType := m_MT.getD y (0, x, code, 0, none)
abbrev m_own (y : Nat) : Nat := (m_mt y).1
abbrev m_nm (y : Nat) : MethodName := (m_mt y).2.1
abbrev m_by (y : Nat) : ByteArray := (m_mt y).2.2.1
abbrev m_ml (y : Nat) : Nat := (m_mt y).2.2.2.1
abbrev m_rt (y : Nat) : Option FieldType := (m_mt y).2.2.2.2
/-! ===== the checks: the numbers are the class files' code ===== -/
def m_lk2 {α : Type} : List ((Nat × Nat) × α) → Nat → Nat → Option α
  | [], _, _ => none
  | q :: r, a, b => if q.1.1 = a ∧ q.1.2 = b then some q.2 else m_lk2 r a b
theorem m_lk2_in {α : Type} {l : List ((Nat × Nat) × α)} {a b : Nat} {v : α} (h : m_lk2 l a b = some v) : ((a, b), v) ∈ l := by
  induction l with
  | nil => cases h
  | cons q r ih =>
    unfold m_lk2 at h
    split at h
    next hc =>
      cases h
      obtain ⟨⟨q1, q2⟩, q3⟩ := q
      obtain ⟨rfl, rfl⟩ := hc
      exact List.mem_cons_self
    next => exact List.mem_cons_of_mem _ (ih h)
def m_wok (w : Cond) (i : Nat) : Bool := decide (lw_tbl[i]? = some w) && goodWord w
theorem m_wok_in {w : Cond} {i : Nat} (h : m_wok w i = true) : w ∈ lw_tbl.filter goodWord := by
  simp only [m_wok, Bool.and_eq_true, decide_eq_true_eq] at h
  exact List.mem_filter.mpr ⟨List.mem_of_getElem? h.1, h.2⟩
def m_flw (q : (Nat × Nat) × (Nat × Nat × Nat)) : Cond := .fieldLink (m_cn q.1.1) q.1.2 (m_T q.2.1 q.2.2.1).1 (m_T q.2.1 q.2.2.1).2.1 (m_T q.2.1 q.2.2.1).2.2.1
def m_acn : MethodName := arraycopyName
def m_rbn : MethodName := ⟨"java/lang/Float", "floatToRawIntBits", "(F)I"⟩
def m_mlw (q : (Nat × Nat) × (Nat × Nat × Nat × Nat × Nat)) : Bool := match q.2.1 with
  | 0 => m_wok (.methodLink (m_cn q.1.1) q.1.2 (m_nm q.2.2.1)) q.2.2.2.1 && (m_wok (.instanceMethod (m_nm q.2.2.1)) q.2.2.2.2.1 && m_wok (.selects (m_nm q.2.2.1).cls (m_nm q.2.2.1) (m_nm q.2.2.1)) q.2.2.2.2.2)
  | 1 => m_wok (.methodLink (m_cn q.1.1) q.1.2 (m_nm q.2.2.1)) q.2.2.2.1 && m_wok (.static (m_nm q.2.2.1)) q.2.2.2.2.1
  | 2 => m_wok (.methodLink (m_cn q.1.1) q.1.2 (m_nm q.2.2.1)) q.2.2.2.1 && m_wok (.instanceMethod (m_nm q.2.2.1)) q.2.2.2.2.1
  | 3 => decide (lw_tbl[q.2.2.2.1]? = some (.methodLinkNest (m_cn q.1.1) q.1.2 (m_nm q.2.2.1) RX9)) && m_wok (.instanceMethod (m_nm q.2.2.1)) q.2.2.2.2.1
  | 4 => decide (lw_tbl[q.2.2.2.1]? = some (.methodLinkNest (m_cn q.1.1) q.1.2 (m_nm q.2.2.1) RX9)) && m_wok (.static (m_nm q.2.2.1)) q.2.2.2.2.1
  | 5 => m_wok (.methodLink (m_cn q.1.1) q.1.2 Lib.objectInit) q.2.2.2.1
  | 6 => m_wok (.methodLink (m_cn q.1.1) q.1.2 m_acn) q.2.2.2.1 && (m_wok (.native m_acn) q.2.2.2.2.1 && m_wok (.static m_acn) q.2.2.2.2.2)
  | 7 => m_wok (.methodLink (m_cn q.1.1) q.1.2 m_rbn) q.2.2.2.1 && (m_wok (.native m_rbn) q.2.2.2.2.1 && m_wok (.static m_rbn) q.2.2.2.2.2)
  | _ => false
theorem m_FL_ok : m_FL.all (fun q => m_wok (m_flw q) q.2.2.2) = true := by decide +kernel
theorem m_ML_ok : m_ML.all m_mlw = true := by decide +kernel
theorem m_CI_ok : m_CI.all (fun q => m_wok (.constant (m_cn q.1.1) q.1.2 (Int32.ofInt q.2.1)) q.2.2) = true := by decide +kernel
theorem m_CJ_ok : m_CJ.all (fun q => m_wok (.constantLong (m_cn q.1.1) q.1.2 (Int64.ofInt q.2.1)) q.2.2) = true := by decide +kernel
theorem m_CF_ok : m_CF.all (fun q => m_wok (.constantFloat (m_cn q.1.1) q.1.2 (UInt32.ofNat q.2.1)) q.2.2) = true := by decide +kernel
theorem m_NC_ok : m_NC.all (fun q => m_wok (.classLink (m_cn q.1.1) q.1.2 (m_cn q.2.1)) q.2.2) = true := by decide +kernel
def m_fn (k : Nat) : Nat := (m_FC.getD k []).length
theorem m_NP_ok : (List.range 10).all (fun k => m_wok (.instantiable (m_cn k) (m_fn k)) (m_NP.getD k (0, 0)).1 && m_wok (.initialized (m_cn k)) (m_NP.getD k (0, 0)).2) = true := by decide +kernel
theorem m_MP_ok2 : (List.range 197).all (fun y => m_wok (.initialized (m_nm y).cls) (m_MP.getD y (0, 0, 0)).2.1) = true := by decide +kernel
theorem m_MP_ok3 : (List.range 197).all (fun y => decide ((parseMethodDescriptor (m_nm y).desc).map (fun d => d.parameters.length) = some (m_MP.getD y (0, 0, 0)).2.2)) = true := by decide +kernel
theorem m_MP_ok4 : (List.range 197).all (fun y => plainFor (m_nm y) && (decide (m_ml y ≤ 16) && decide ((m_nm y).cls = m_cn (m_own y)))) = true := by decide +kernel
def m_cdw (y : Nat) : Prop := lw_tbl[(m_MP.getD y (0, 0, 0)).1]? = some (.code (m_nm y) (m_by y) (m_ml y) (m_rt y))
set_option maxRecDepth 20000 in
theorem m_cw0 : lw_tbl[44]? = some (Cond.code (m_nm 0) (m_by 0) (m_ml 0) (m_rt 0)) := by rfl
set_option maxRecDepth 20000 in
theorem m_cw1 : lw_tbl[52]? = some (Cond.code (m_nm 1) (m_by 1) (m_ml 1) (m_rt 1)) := by rfl
set_option maxRecDepth 20000 in
theorem m_cw2 : lw_tbl[69]? = some (Cond.code (m_nm 2) (m_by 2) (m_ml 2) (m_rt 2)) := by rfl
set_option maxRecDepth 20000 in
theorem m_cw3 : lw_tbl[87]? = some (Cond.code (m_nm 3) (m_by 3) (m_ml 3) (m_rt 3)) := by rfl
set_option maxRecDepth 20000 in
theorem m_cw4 : lw_tbl[93]? = some (Cond.code (m_nm 4) (m_by 4) (m_ml 4) (m_rt 4)) := by rfl
set_option maxRecDepth 20000 in
theorem m_cw5 : lw_tbl[137]? = some (Cond.code (m_nm 5) (m_by 5) (m_ml 5) (m_rt 5)) := by rfl
set_option maxRecDepth 20000 in
theorem m_cw6 : lw_tbl[144]? = some (Cond.code (m_nm 6) (m_by 6) (m_ml 6) (m_rt 6)) := by rfl
set_option maxRecDepth 20000 in
theorem m_cw7 : lw_tbl[205]? = some (Cond.code (m_nm 7) (m_by 7) (m_ml 7) (m_rt 7)) := by rfl
set_option maxRecDepth 20000 in
theorem m_cw8 : lw_tbl[225]? = some (Cond.code (m_nm 8) (m_by 8) (m_ml 8) (m_rt 8)) := by rfl
set_option maxRecDepth 20000 in
theorem m_cw9 : lw_tbl[231]? = some (Cond.code (m_nm 9) (m_by 9) (m_ml 9) (m_rt 9)) := by rfl
set_option maxRecDepth 20000 in
theorem m_cw10 : lw_tbl[257]? = some (Cond.code (m_nm 10) (m_by 10) (m_ml 10) (m_rt 10)) := by rfl
set_option maxRecDepth 20000 in
theorem m_cw11 : lw_tbl[654]? = some (Cond.code (m_nm 11) (m_by 11) (m_ml 11) (m_rt 11)) := by rfl
set_option maxRecDepth 20000 in
theorem m_cw12 : lw_tbl[658]? = some (Cond.code (m_nm 12) (m_by 12) (m_ml 12) (m_rt 12)) := by rfl
set_option maxRecDepth 20000 in
theorem m_cw13 : lw_tbl[650]? = some (Cond.code (m_nm 13) (m_by 13) (m_ml 13) (m_rt 13)) := by rfl
set_option maxRecDepth 20000 in
theorem m_cw14 : lw_tbl[662]? = some (Cond.code (m_nm 14) (m_by 14) (m_ml 14) (m_rt 14)) := by rfl
set_option maxRecDepth 20000 in
theorem m_cw15 : lw_tbl[666]? = some (Cond.code (m_nm 15) (m_by 15) (m_ml 15) (m_rt 15)) := by rfl
set_option maxRecDepth 20000 in
theorem m_cw16 : lw_tbl[576]? = some (Cond.code (m_nm 16) (m_by 16) (m_ml 16) (m_rt 16)) := by rfl
set_option maxRecDepth 20000 in
theorem m_cw17 : lw_tbl[671]? = some (Cond.code (m_nm 17) (m_by 17) (m_ml 17) (m_rt 17)) := by rfl
set_option maxRecDepth 20000 in
theorem m_cw18 : lw_tbl[675]? = some (Cond.code (m_nm 18) (m_by 18) (m_ml 18) (m_rt 18)) := by rfl
set_option maxRecDepth 20000 in
theorem m_cw19 : lw_tbl[679]? = some (Cond.code (m_nm 19) (m_by 19) (m_ml 19) (m_rt 19)) := by rfl
set_option maxRecDepth 20000 in
theorem m_cw20 : lw_tbl[683]? = some (Cond.code (m_nm 20) (m_by 20) (m_ml 20) (m_rt 20)) := by rfl
set_option maxRecDepth 20000 in
theorem m_cw21 : lw_tbl[451]? = some (Cond.code (m_nm 21) (m_by 21) (m_ml 21) (m_rt 21)) := by rfl
set_option maxRecDepth 20000 in
theorem m_cw22 : lw_tbl[447]? = some (Cond.code (m_nm 22) (m_by 22) (m_ml 22) (m_rt 22)) := by rfl
set_option maxRecDepth 20000 in
theorem m_cw23 : lw_tbl[688]? = some (Cond.code (m_nm 23) (m_by 23) (m_ml 23) (m_rt 23)) := by rfl
set_option maxRecDepth 20000 in
theorem m_cw24 : lw_tbl[692]? = some (Cond.code (m_nm 24) (m_by 24) (m_ml 24) (m_rt 24)) := by rfl
set_option maxRecDepth 20000 in
theorem m_cw25 : lw_tbl[571]? = some (Cond.code (m_nm 25) (m_by 25) (m_ml 25) (m_rt 25)) := by rfl
set_option maxRecDepth 20000 in
theorem m_cw26 : lw_tbl[369]? = some (Cond.code (m_nm 26) (m_by 26) (m_ml 26) (m_rt 26)) := by rfl
set_option maxRecDepth 20000 in
theorem m_cw27 : lw_tbl[580]? = some (Cond.code (m_nm 27) (m_by 27) (m_ml 27) (m_rt 27)) := by rfl
set_option maxRecDepth 20000 in
theorem m_cw28 : lw_tbl[584]? = some (Cond.code (m_nm 28) (m_by 28) (m_ml 28) (m_rt 28)) := by rfl
set_option maxRecDepth 20000 in
theorem m_cw29 : lw_tbl[389]? = some (Cond.code (m_nm 29) (m_by 29) (m_ml 29) (m_rt 29)) := by rfl
set_option maxRecDepth 20000 in
theorem m_cw30 : lw_tbl[589]? = some (Cond.code (m_nm 30) (m_by 30) (m_ml 30) (m_rt 30)) := by rfl
set_option maxRecDepth 20000 in
theorem m_cw31 : lw_tbl[347]? = some (Cond.code (m_nm 31) (m_by 31) (m_ml 31) (m_rt 31)) := by rfl
set_option maxRecDepth 20000 in
theorem m_cw32 : lw_tbl[305]? = some (Cond.code (m_nm 32) (m_by 32) (m_ml 32) (m_rt 32)) := by rfl
set_option maxRecDepth 20000 in
theorem m_cw33 : lw_tbl[309]? = some (Cond.code (m_nm 33) (m_by 33) (m_ml 33) (m_rt 33)) := by rfl
set_option maxRecDepth 20000 in
theorem m_cw34 : lw_tbl[313]? = some (Cond.code (m_nm 34) (m_by 34) (m_ml 34) (m_rt 34)) := by rfl
set_option maxRecDepth 20000 in
theorem m_cw35 : lw_tbl[316]? = some (Cond.code (m_nm 35) (m_by 35) (m_ml 35) (m_rt 35)) := by rfl
set_option maxRecDepth 20000 in
theorem m_cw36 : lw_tbl[320]? = some (Cond.code (m_nm 36) (m_by 36) (m_ml 36) (m_rt 36)) := by rfl
set_option maxRecDepth 20000 in
theorem m_cw37 : lw_tbl[327]? = some (Cond.code (m_nm 37) (m_by 37) (m_ml 37) (m_rt 37)) := by rfl
set_option maxRecDepth 20000 in
theorem m_cw38 : lw_tbl[333]? = some (Cond.code (m_nm 38) (m_by 38) (m_ml 38) (m_rt 38)) := by rfl
set_option maxRecDepth 20000 in
theorem m_cw39 : lw_tbl[337]? = some (Cond.code (m_nm 39) (m_by 39) (m_ml 39) (m_rt 39)) := by rfl
set_option maxRecDepth 20000 in
theorem m_cw40 : lw_tbl[567]? = some (Cond.code (m_nm 40) (m_by 40) (m_ml 40) (m_rt 40)) := by rfl
set_option maxRecDepth 20000 in
theorem m_cw41 : lw_tbl[553]? = some (Cond.code (m_nm 41) (m_by 41) (m_ml 41) (m_rt 41)) := by rfl
set_option maxRecDepth 20000 in
theorem m_cw42 : lw_tbl[526]? = some (Cond.code (m_nm 42) (m_by 42) (m_ml 42) (m_rt 42)) := by rfl
set_option maxRecDepth 20000 in
theorem m_cw43 : lw_tbl[522]? = some (Cond.code (m_nm 43) (m_by 43) (m_ml 43) (m_rt 43)) := by rfl
set_option maxRecDepth 20000 in
theorem m_cw44 : lw_tbl[594]? = some (Cond.code (m_nm 44) (m_by 44) (m_ml 44) (m_rt 44)) := by rfl
set_option maxRecDepth 20000 in
theorem m_cw45 : lw_tbl[563]? = some (Cond.code (m_nm 45) (m_by 45) (m_ml 45) (m_rt 45)) := by rfl
set_option maxRecDepth 20000 in
theorem m_cw46 : lw_tbl[548]? = some (Cond.code (m_nm 46) (m_by 46) (m_ml 46) (m_rt 46)) := by rfl
set_option maxRecDepth 20000 in
theorem m_cw47 : lw_tbl[558]? = some (Cond.code (m_nm 47) (m_by 47) (m_ml 47) (m_rt 47)) := by rfl
set_option maxRecDepth 20000 in
theorem m_cw48 : lw_tbl[341]? = some (Cond.code (m_nm 48) (m_by 48) (m_ml 48) (m_rt 48)) := by rfl
set_option maxRecDepth 20000 in
theorem m_cw49 : lw_tbl[344]? = some (Cond.code (m_nm 49) (m_by 49) (m_ml 49) (m_rt 49)) := by rfl
set_option maxRecDepth 20000 in
theorem m_cw50 : lw_tbl[351]? = some (Cond.code (m_nm 50) (m_by 50) (m_ml 50) (m_rt 50)) := by rfl
set_option maxRecDepth 20000 in
theorem m_cw51 : lw_tbl[355]? = some (Cond.code (m_nm 51) (m_by 51) (m_ml 51) (m_rt 51)) := by rfl
set_option maxRecDepth 20000 in
theorem m_cw52 : lw_tbl[361]? = some (Cond.code (m_nm 52) (m_by 52) (m_ml 52) (m_rt 52)) := by rfl
set_option maxRecDepth 20000 in
theorem m_cw53 : lw_tbl[365]? = some (Cond.code (m_nm 53) (m_by 53) (m_ml 53) (m_rt 53)) := by rfl
set_option maxRecDepth 20000 in
theorem m_cw54 : lw_tbl[373]? = some (Cond.code (m_nm 54) (m_by 54) (m_ml 54) (m_rt 54)) := by rfl
set_option maxRecDepth 20000 in
theorem m_cw55 : lw_tbl[377]? = some (Cond.code (m_nm 55) (m_by 55) (m_ml 55) (m_rt 55)) := by rfl
set_option maxRecDepth 20000 in
theorem m_cw56 : lw_tbl[381]? = some (Cond.code (m_nm 56) (m_by 56) (m_ml 56) (m_rt 56)) := by rfl
set_option maxRecDepth 20000 in
theorem m_cw57 : lw_tbl[385]? = some (Cond.code (m_nm 57) (m_by 57) (m_ml 57) (m_rt 57)) := by rfl
set_option maxRecDepth 20000 in
theorem m_cw58 : lw_tbl[393]? = some (Cond.code (m_nm 58) (m_by 58) (m_ml 58) (m_rt 58)) := by rfl
set_option maxRecDepth 20000 in
theorem m_cw59 : lw_tbl[397]? = some (Cond.code (m_nm 59) (m_by 59) (m_ml 59) (m_rt 59)) := by rfl
set_option maxRecDepth 20000 in
theorem m_cw60 : lw_tbl[401]? = some (Cond.code (m_nm 60) (m_by 60) (m_ml 60) (m_rt 60)) := by rfl
set_option maxRecDepth 20000 in
theorem m_cw61 : lw_tbl[405]? = some (Cond.code (m_nm 61) (m_by 61) (m_ml 61) (m_rt 61)) := by rfl
set_option maxRecDepth 20000 in
theorem m_cw62 : lw_tbl[408]? = some (Cond.code (m_nm 62) (m_by 62) (m_ml 62) (m_rt 62)) := by rfl
set_option maxRecDepth 20000 in
theorem m_cw63 : lw_tbl[412]? = some (Cond.code (m_nm 63) (m_by 63) (m_ml 63) (m_rt 63)) := by rfl
set_option maxRecDepth 20000 in
theorem m_cw64 : lw_tbl[416]? = some (Cond.code (m_nm 64) (m_by 64) (m_ml 64) (m_rt 64)) := by rfl
set_option maxRecDepth 20000 in
theorem m_cw65 : lw_tbl[420]? = some (Cond.code (m_nm 65) (m_by 65) (m_ml 65) (m_rt 65)) := by rfl
set_option maxRecDepth 20000 in
theorem m_cw66 : lw_tbl[424]? = some (Cond.code (m_nm 66) (m_by 66) (m_ml 66) (m_rt 66)) := by rfl
set_option maxRecDepth 20000 in
theorem m_cw67 : lw_tbl[427]? = some (Cond.code (m_nm 67) (m_by 67) (m_ml 67) (m_rt 67)) := by rfl
set_option maxRecDepth 20000 in
theorem m_cw68 : lw_tbl[347]? = some (Cond.code (m_nm 68) (m_by 68) (m_ml 68) (m_rt 68)) := by rfl
set_option maxRecDepth 20000 in
theorem m_cw69 : lw_tbl[439]? = some (Cond.code (m_nm 69) (m_by 69) (m_ml 69) (m_rt 69)) := by rfl
set_option maxRecDepth 20000 in
theorem m_cw70 : lw_tbl[443]? = some (Cond.code (m_nm 70) (m_by 70) (m_ml 70) (m_rt 70)) := by rfl
set_option maxRecDepth 20000 in
theorem m_cw71 : lw_tbl[456]? = some (Cond.code (m_nm 71) (m_by 71) (m_ml 71) (m_rt 71)) := by rfl
set_option maxRecDepth 20000 in
theorem m_cw72 : lw_tbl[459]? = some (Cond.code (m_nm 72) (m_by 72) (m_ml 72) (m_rt 72)) := by rfl
set_option maxRecDepth 20000 in
theorem m_cw73 : lw_tbl[466]? = some (Cond.code (m_nm 73) (m_by 73) (m_ml 73) (m_rt 73)) := by rfl
set_option maxRecDepth 20000 in
theorem m_cw74 : lw_tbl[469]? = some (Cond.code (m_nm 74) (m_by 74) (m_ml 74) (m_rt 74)) := by rfl
set_option maxRecDepth 20000 in
theorem m_cw75 : lw_tbl[473]? = some (Cond.code (m_nm 75) (m_by 75) (m_ml 75) (m_rt 75)) := by rfl
set_option maxRecDepth 20000 in
theorem m_cw76 : lw_tbl[479]? = some (Cond.code (m_nm 76) (m_by 76) (m_ml 76) (m_rt 76)) := by rfl
set_option maxRecDepth 20000 in
theorem m_cw77 : lw_tbl[483]? = some (Cond.code (m_nm 77) (m_by 77) (m_ml 77) (m_rt 77)) := by rfl
set_option maxRecDepth 20000 in
theorem m_cw78 : lw_tbl[487]? = some (Cond.code (m_nm 78) (m_by 78) (m_ml 78) (m_rt 78)) := by rfl
set_option maxRecDepth 20000 in
theorem m_cw79 : lw_tbl[491]? = some (Cond.code (m_nm 79) (m_by 79) (m_ml 79) (m_rt 79)) := by rfl
set_option maxRecDepth 20000 in
theorem m_cw80 : lw_tbl[495]? = some (Cond.code (m_nm 80) (m_by 80) (m_ml 80) (m_rt 80)) := by rfl
set_option maxRecDepth 20000 in
theorem m_cw81 : lw_tbl[499]? = some (Cond.code (m_nm 81) (m_by 81) (m_ml 81) (m_rt 81)) := by rfl
set_option maxRecDepth 20000 in
theorem m_cw82 : lw_tbl[503]? = some (Cond.code (m_nm 82) (m_by 82) (m_ml 82) (m_rt 82)) := by rfl
set_option maxRecDepth 20000 in
theorem m_cw83 : lw_tbl[507]? = some (Cond.code (m_nm 83) (m_by 83) (m_ml 83) (m_rt 83)) := by rfl
set_option maxRecDepth 20000 in
theorem m_cw84 : lw_tbl[431]? = some (Cond.code (m_nm 84) (m_by 84) (m_ml 84) (m_rt 84)) := by rfl
set_option maxRecDepth 20000 in
theorem m_cw85 : lw_tbl[435]? = some (Cond.code (m_nm 85) (m_by 85) (m_ml 85) (m_rt 85)) := by rfl
set_option maxRecDepth 20000 in
theorem m_cw86 : lw_tbl[630]? = some (Cond.code (m_nm 86) (m_by 86) (m_ml 86) (m_rt 86)) := by rfl
set_option maxRecDepth 20000 in
theorem m_cw87 : lw_tbl[634]? = some (Cond.code (m_nm 87) (m_by 87) (m_ml 87) (m_rt 87)) := by rfl
set_option maxRecDepth 20000 in
theorem m_cw88 : lw_tbl[511]? = some (Cond.code (m_nm 88) (m_by 88) (m_ml 88) (m_rt 88)) := by rfl
set_option maxRecDepth 20000 in
theorem m_cw89 : lw_tbl[643]? = some (Cond.code (m_nm 89) (m_by 89) (m_ml 89) (m_rt 89)) := by rfl
set_option maxRecDepth 20000 in
theorem m_cw90 : lw_tbl[347]? = some (Cond.code (m_nm 90) (m_by 90) (m_ml 90) (m_rt 90)) := by rfl
set_option maxRecDepth 20000 in
theorem m_cw91 : lw_tbl[347]? = some (Cond.code (m_nm 91) (m_by 91) (m_ml 91) (m_rt 91)) := by rfl
set_option maxRecDepth 20000 in
theorem m_cw92 : lw_tbl[347]? = some (Cond.code (m_nm 92) (m_by 92) (m_ml 92) (m_rt 92)) := by rfl
set_option maxRecDepth 20000 in
theorem m_cw93 : lw_tbl[347]? = some (Cond.code (m_nm 93) (m_by 93) (m_ml 93) (m_rt 93)) := by rfl
set_option maxRecDepth 20000 in
theorem m_cw94 : lw_tbl[347]? = some (Cond.code (m_nm 94) (m_by 94) (m_ml 94) (m_rt 94)) := by rfl
set_option maxRecDepth 20000 in
theorem m_cw95 : lw_tbl[347]? = some (Cond.code (m_nm 95) (m_by 95) (m_ml 95) (m_rt 95)) := by rfl
set_option maxRecDepth 20000 in
theorem m_cw96 : lw_tbl[347]? = some (Cond.code (m_nm 96) (m_by 96) (m_ml 96) (m_rt 96)) := by rfl
set_option maxRecDepth 20000 in
theorem m_cw97 : lw_tbl[347]? = some (Cond.code (m_nm 97) (m_by 97) (m_ml 97) (m_rt 97)) := by rfl
set_option maxRecDepth 20000 in
theorem m_cw98 : lw_tbl[347]? = some (Cond.code (m_nm 98) (m_by 98) (m_ml 98) (m_rt 98)) := by rfl
set_option maxRecDepth 20000 in
theorem m_cw99 : lw_tbl[347]? = some (Cond.code (m_nm 99) (m_by 99) (m_ml 99) (m_rt 99)) := by rfl
set_option maxRecDepth 20000 in
theorem m_cw100 : lw_tbl[347]? = some (Cond.code (m_nm 100) (m_by 100) (m_ml 100) (m_rt 100)) := by rfl
set_option maxRecDepth 20000 in
theorem m_cw101 : lw_tbl[347]? = some (Cond.code (m_nm 101) (m_by 101) (m_ml 101) (m_rt 101)) := by rfl
set_option maxRecDepth 20000 in
theorem m_cw102 : lw_tbl[347]? = some (Cond.code (m_nm 102) (m_by 102) (m_ml 102) (m_rt 102)) := by rfl
set_option maxRecDepth 20000 in
theorem m_cw103 : lw_tbl[347]? = some (Cond.code (m_nm 103) (m_by 103) (m_ml 103) (m_rt 103)) := by rfl
set_option maxRecDepth 20000 in
theorem m_cw104 : lw_tbl[347]? = some (Cond.code (m_nm 104) (m_by 104) (m_ml 104) (m_rt 104)) := by rfl
set_option maxRecDepth 20000 in
theorem m_cw105 : lw_tbl[347]? = some (Cond.code (m_nm 105) (m_by 105) (m_ml 105) (m_rt 105)) := by rfl
set_option maxRecDepth 20000 in
theorem m_cw106 : lw_tbl[347]? = some (Cond.code (m_nm 106) (m_by 106) (m_ml 106) (m_rt 106)) := by rfl
set_option maxRecDepth 20000 in
theorem m_cw107 : lw_tbl[347]? = some (Cond.code (m_nm 107) (m_by 107) (m_ml 107) (m_rt 107)) := by rfl
set_option maxRecDepth 20000 in
theorem m_cw108 : lw_tbl[347]? = some (Cond.code (m_nm 108) (m_by 108) (m_ml 108) (m_rt 108)) := by rfl
set_option maxRecDepth 20000 in
theorem m_cw109 : lw_tbl[347]? = some (Cond.code (m_nm 109) (m_by 109) (m_ml 109) (m_rt 109)) := by rfl
set_option maxRecDepth 20000 in
theorem m_cw110 : lw_tbl[347]? = some (Cond.code (m_nm 110) (m_by 110) (m_ml 110) (m_rt 110)) := by rfl
set_option maxRecDepth 20000 in
theorem m_cw111 : lw_tbl[347]? = some (Cond.code (m_nm 111) (m_by 111) (m_ml 111) (m_rt 111)) := by rfl
set_option maxRecDepth 20000 in
theorem m_cw112 : lw_tbl[347]? = some (Cond.code (m_nm 112) (m_by 112) (m_ml 112) (m_rt 112)) := by rfl
set_option maxRecDepth 20000 in
theorem m_cw113 : lw_tbl[347]? = some (Cond.code (m_nm 113) (m_by 113) (m_ml 113) (m_rt 113)) := by rfl
set_option maxRecDepth 20000 in
theorem m_cw114 : lw_tbl[347]? = some (Cond.code (m_nm 114) (m_by 114) (m_ml 114) (m_rt 114)) := by rfl
set_option maxRecDepth 20000 in
theorem m_cw115 : lw_tbl[518]? = some (Cond.code (m_nm 115) (m_by 115) (m_ml 115) (m_rt 115)) := by rfl
set_option maxRecDepth 20000 in
theorem m_cw116 : lw_tbl[347]? = some (Cond.code (m_nm 116) (m_by 116) (m_ml 116) (m_rt 116)) := by rfl
set_option maxRecDepth 20000 in
theorem m_cw117 : lw_tbl[347]? = some (Cond.code (m_nm 117) (m_by 117) (m_ml 117) (m_rt 117)) := by rfl
set_option maxRecDepth 20000 in
theorem m_cw118 : lw_tbl[347]? = some (Cond.code (m_nm 118) (m_by 118) (m_ml 118) (m_rt 118)) := by rfl
set_option maxRecDepth 20000 in
theorem m_cw119 : lw_tbl[347]? = some (Cond.code (m_nm 119) (m_by 119) (m_ml 119) (m_rt 119)) := by rfl
set_option maxRecDepth 20000 in
theorem m_cw120 : lw_tbl[347]? = some (Cond.code (m_nm 120) (m_by 120) (m_ml 120) (m_rt 120)) := by rfl
set_option maxRecDepth 20000 in
theorem m_cw121 : lw_tbl[347]? = some (Cond.code (m_nm 121) (m_by 121) (m_ml 121) (m_rt 121)) := by rfl
set_option maxRecDepth 20000 in
theorem m_cw122 : lw_tbl[347]? = some (Cond.code (m_nm 122) (m_by 122) (m_ml 122) (m_rt 122)) := by rfl
set_option maxRecDepth 20000 in
theorem m_cw123 : lw_tbl[347]? = some (Cond.code (m_nm 123) (m_by 123) (m_ml 123) (m_rt 123)) := by rfl
set_option maxRecDepth 20000 in
theorem m_cw124 : lw_tbl[530]? = some (Cond.code (m_nm 124) (m_by 124) (m_ml 124) (m_rt 124)) := by rfl
set_option maxRecDepth 20000 in
theorem m_cw125 : lw_tbl[534]? = some (Cond.code (m_nm 125) (m_by 125) (m_ml 125) (m_rt 125)) := by rfl
set_option maxRecDepth 20000 in
theorem m_cw126 : lw_tbl[538]? = some (Cond.code (m_nm 126) (m_by 126) (m_ml 126) (m_rt 126)) := by rfl
set_option maxRecDepth 20000 in
theorem m_cw127 : lw_tbl[541]? = some (Cond.code (m_nm 127) (m_by 127) (m_ml 127) (m_rt 127)) := by rfl
set_option maxRecDepth 20000 in
theorem m_cw128 : lw_tbl[608]? = some (Cond.code (m_nm 128) (m_by 128) (m_ml 128) (m_rt 128)) := by rfl
set_option maxRecDepth 20000 in
theorem m_cw129 : lw_tbl[605]? = some (Cond.code (m_nm 129) (m_by 129) (m_ml 129) (m_rt 129)) := by rfl
set_option maxRecDepth 20000 in
theorem m_cw130 : lw_tbl[617]? = some (Cond.code (m_nm 130) (m_by 130) (m_ml 130) (m_rt 130)) := by rfl
set_option maxRecDepth 20000 in
theorem m_cw131 : lw_tbl[614]? = some (Cond.code (m_nm 131) (m_by 131) (m_ml 131) (m_rt 131)) := by rfl
set_option maxRecDepth 20000 in
theorem m_cw132 : lw_tbl[598]? = some (Cond.code (m_nm 132) (m_by 132) (m_ml 132) (m_rt 132)) := by rfl
set_option maxRecDepth 20000 in
theorem m_cw133 : lw_tbl[544]? = some (Cond.code (m_nm 133) (m_by 133) (m_ml 133) (m_rt 133)) := by rfl
set_option maxRecDepth 20000 in
theorem m_cw134 : lw_tbl[602]? = some (Cond.code (m_nm 134) (m_by 134) (m_ml 134) (m_rt 134)) := by rfl
set_option maxRecDepth 20000 in
theorem m_cw135 : lw_tbl[620]? = some (Cond.code (m_nm 135) (m_by 135) (m_ml 135) (m_rt 135)) := by rfl
set_option maxRecDepth 20000 in
theorem m_cw136 : lw_tbl[611]? = some (Cond.code (m_nm 136) (m_by 136) (m_ml 136) (m_rt 136)) := by rfl
set_option maxRecDepth 20000 in
theorem m_cw137 : lw_tbl[623]? = some (Cond.code (m_nm 137) (m_by 137) (m_ml 137) (m_rt 137)) := by rfl
set_option maxRecDepth 20000 in
theorem m_cw138 : lw_tbl[626]? = some (Cond.code (m_nm 138) (m_by 138) (m_ml 138) (m_rt 138)) := by rfl
set_option maxRecDepth 20000 in
theorem m_cw139 : lw_tbl[639]? = some (Cond.code (m_nm 139) (m_by 139) (m_ml 139) (m_rt 139)) := by rfl
set_option maxRecDepth 20000 in
theorem m_cw140 : lw_tbl[646]? = some (Cond.code (m_nm 140) (m_by 140) (m_ml 140) (m_rt 140)) := by rfl
set_option maxRecDepth 20000 in
theorem m_cw141 : lw_tbl[347]? = some (Cond.code (m_nm 141) (m_by 141) (m_ml 141) (m_rt 141)) := by rfl
set_option maxRecDepth 20000 in
theorem m_cw142 : lw_tbl[347]? = some (Cond.code (m_nm 142) (m_by 142) (m_ml 142) (m_rt 142)) := by rfl
set_option maxRecDepth 20000 in
theorem m_cw143 : lw_tbl[347]? = some (Cond.code (m_nm 143) (m_by 143) (m_ml 143) (m_rt 143)) := by rfl
set_option maxRecDepth 20000 in
theorem m_cw144 : lw_tbl[347]? = some (Cond.code (m_nm 144) (m_by 144) (m_ml 144) (m_rt 144)) := by rfl
set_option maxRecDepth 20000 in
theorem m_cw145 : lw_tbl[347]? = some (Cond.code (m_nm 145) (m_by 145) (m_ml 145) (m_rt 145)) := by rfl
set_option maxRecDepth 20000 in
theorem m_cw146 : lw_tbl[347]? = some (Cond.code (m_nm 146) (m_by 146) (m_ml 146) (m_rt 146)) := by rfl
set_option maxRecDepth 20000 in
theorem m_cw147 : lw_tbl[347]? = some (Cond.code (m_nm 147) (m_by 147) (m_ml 147) (m_rt 147)) := by rfl
set_option maxRecDepth 20000 in
theorem m_cw148 : lw_tbl[347]? = some (Cond.code (m_nm 148) (m_by 148) (m_ml 148) (m_rt 148)) := by rfl
set_option maxRecDepth 20000 in
theorem m_cw149 : lw_tbl[347]? = some (Cond.code (m_nm 149) (m_by 149) (m_ml 149) (m_rt 149)) := by rfl
set_option maxRecDepth 20000 in
theorem m_cw150 : lw_tbl[347]? = some (Cond.code (m_nm 150) (m_by 150) (m_ml 150) (m_rt 150)) := by rfl
set_option maxRecDepth 20000 in
theorem m_cw151 : lw_tbl[347]? = some (Cond.code (m_nm 151) (m_by 151) (m_ml 151) (m_rt 151)) := by rfl
set_option maxRecDepth 20000 in
theorem m_cw152 : lw_tbl[347]? = some (Cond.code (m_nm 152) (m_by 152) (m_ml 152) (m_rt 152)) := by rfl
set_option maxRecDepth 20000 in
theorem m_cw153 : lw_tbl[347]? = some (Cond.code (m_nm 153) (m_by 153) (m_ml 153) (m_rt 153)) := by rfl
set_option maxRecDepth 20000 in
theorem m_cw154 : lw_tbl[347]? = some (Cond.code (m_nm 154) (m_by 154) (m_ml 154) (m_rt 154)) := by rfl
set_option maxRecDepth 20000 in
theorem m_cw155 : lw_tbl[347]? = some (Cond.code (m_nm 155) (m_by 155) (m_ml 155) (m_rt 155)) := by rfl
set_option maxRecDepth 20000 in
theorem m_cw156 : lw_tbl[347]? = some (Cond.code (m_nm 156) (m_by 156) (m_ml 156) (m_rt 156)) := by rfl
set_option maxRecDepth 20000 in
theorem m_cw157 : lw_tbl[347]? = some (Cond.code (m_nm 157) (m_by 157) (m_ml 157) (m_rt 157)) := by rfl
set_option maxRecDepth 20000 in
theorem m_cw158 : lw_tbl[347]? = some (Cond.code (m_nm 158) (m_by 158) (m_ml 158) (m_rt 158)) := by rfl
set_option maxRecDepth 20000 in
theorem m_cw159 : lw_tbl[347]? = some (Cond.code (m_nm 159) (m_by 159) (m_ml 159) (m_rt 159)) := by rfl
set_option maxRecDepth 20000 in
theorem m_cw160 : lw_tbl[347]? = some (Cond.code (m_nm 160) (m_by 160) (m_ml 160) (m_rt 160)) := by rfl
set_option maxRecDepth 20000 in
theorem m_cw161 : lw_tbl[347]? = some (Cond.code (m_nm 161) (m_by 161) (m_ml 161) (m_rt 161)) := by rfl
set_option maxRecDepth 20000 in
theorem m_cw162 : lw_tbl[347]? = some (Cond.code (m_nm 162) (m_by 162) (m_ml 162) (m_rt 162)) := by rfl
set_option maxRecDepth 20000 in
theorem m_cw163 : lw_tbl[347]? = some (Cond.code (m_nm 163) (m_by 163) (m_ml 163) (m_rt 163)) := by rfl
set_option maxRecDepth 20000 in
theorem m_cw164 : lw_tbl[347]? = some (Cond.code (m_nm 164) (m_by 164) (m_ml 164) (m_rt 164)) := by rfl
set_option maxRecDepth 20000 in
theorem m_cw165 : lw_tbl[347]? = some (Cond.code (m_nm 165) (m_by 165) (m_ml 165) (m_rt 165)) := by rfl
set_option maxRecDepth 20000 in
theorem m_cw166 : lw_tbl[347]? = some (Cond.code (m_nm 166) (m_by 166) (m_ml 166) (m_rt 166)) := by rfl
set_option maxRecDepth 20000 in
theorem m_cw167 : lw_tbl[347]? = some (Cond.code (m_nm 167) (m_by 167) (m_ml 167) (m_rt 167)) := by rfl
set_option maxRecDepth 20000 in
theorem m_cw168 : lw_tbl[347]? = some (Cond.code (m_nm 168) (m_by 168) (m_ml 168) (m_rt 168)) := by rfl
set_option maxRecDepth 20000 in
theorem m_cw169 : lw_tbl[347]? = some (Cond.code (m_nm 169) (m_by 169) (m_ml 169) (m_rt 169)) := by rfl
set_option maxRecDepth 20000 in
theorem m_cw170 : lw_tbl[347]? = some (Cond.code (m_nm 170) (m_by 170) (m_ml 170) (m_rt 170)) := by rfl
set_option maxRecDepth 20000 in
theorem m_cw171 : lw_tbl[347]? = some (Cond.code (m_nm 171) (m_by 171) (m_ml 171) (m_rt 171)) := by rfl
set_option maxRecDepth 20000 in
theorem m_cw172 : lw_tbl[347]? = some (Cond.code (m_nm 172) (m_by 172) (m_ml 172) (m_rt 172)) := by rfl
set_option maxRecDepth 20000 in
theorem m_cw173 : lw_tbl[347]? = some (Cond.code (m_nm 173) (m_by 173) (m_ml 173) (m_rt 173)) := by rfl
set_option maxRecDepth 20000 in
theorem m_cw174 : lw_tbl[347]? = some (Cond.code (m_nm 174) (m_by 174) (m_ml 174) (m_rt 174)) := by rfl
set_option maxRecDepth 20000 in
theorem m_cw175 : lw_tbl[347]? = some (Cond.code (m_nm 175) (m_by 175) (m_ml 175) (m_rt 175)) := by rfl
set_option maxRecDepth 20000 in
theorem m_cw176 : lw_tbl[347]? = some (Cond.code (m_nm 176) (m_by 176) (m_ml 176) (m_rt 176)) := by rfl
set_option maxRecDepth 20000 in
theorem m_cw177 : lw_tbl[347]? = some (Cond.code (m_nm 177) (m_by 177) (m_ml 177) (m_rt 177)) := by rfl
set_option maxRecDepth 20000 in
theorem m_cw178 : lw_tbl[347]? = some (Cond.code (m_nm 178) (m_by 178) (m_ml 178) (m_rt 178)) := by rfl
set_option maxRecDepth 20000 in
theorem m_cw179 : lw_tbl[347]? = some (Cond.code (m_nm 179) (m_by 179) (m_ml 179) (m_rt 179)) := by rfl
set_option maxRecDepth 20000 in
theorem m_cw180 : lw_tbl[347]? = some (Cond.code (m_nm 180) (m_by 180) (m_ml 180) (m_rt 180)) := by rfl
set_option maxRecDepth 20000 in
theorem m_cw181 : lw_tbl[347]? = some (Cond.code (m_nm 181) (m_by 181) (m_ml 181) (m_rt 181)) := by rfl
set_option maxRecDepth 20000 in
theorem m_cw182 : lw_tbl[347]? = some (Cond.code (m_nm 182) (m_by 182) (m_ml 182) (m_rt 182)) := by rfl
set_option maxRecDepth 20000 in
theorem m_cw183 : lw_tbl[347]? = some (Cond.code (m_nm 183) (m_by 183) (m_ml 183) (m_rt 183)) := by rfl
set_option maxRecDepth 20000 in
theorem m_cw184 : lw_tbl[347]? = some (Cond.code (m_nm 184) (m_by 184) (m_ml 184) (m_rt 184)) := by rfl
set_option maxRecDepth 20000 in
theorem m_cw185 : lw_tbl[347]? = some (Cond.code (m_nm 185) (m_by 185) (m_ml 185) (m_rt 185)) := by rfl
set_option maxRecDepth 20000 in
theorem m_cw186 : lw_tbl[347]? = some (Cond.code (m_nm 186) (m_by 186) (m_ml 186) (m_rt 186)) := by rfl
set_option maxRecDepth 20000 in
theorem m_cw187 : lw_tbl[347]? = some (Cond.code (m_nm 187) (m_by 187) (m_ml 187) (m_rt 187)) := by rfl
set_option maxRecDepth 20000 in
theorem m_cw188 : lw_tbl[347]? = some (Cond.code (m_nm 188) (m_by 188) (m_ml 188) (m_rt 188)) := by rfl
set_option maxRecDepth 20000 in
theorem m_cw189 : lw_tbl[347]? = some (Cond.code (m_nm 189) (m_by 189) (m_ml 189) (m_rt 189)) := by rfl
set_option maxRecDepth 20000 in
theorem m_cw190 : lw_tbl[347]? = some (Cond.code (m_nm 190) (m_by 190) (m_ml 190) (m_rt 190)) := by rfl
set_option maxRecDepth 20000 in
theorem m_cw191 : lw_tbl[347]? = some (Cond.code (m_nm 191) (m_by 191) (m_ml 191) (m_rt 191)) := by rfl
set_option maxRecDepth 20000 in
theorem m_cw192 : lw_tbl[347]? = some (Cond.code (m_nm 192) (m_by 192) (m_ml 192) (m_rt 192)) := by rfl
set_option maxRecDepth 20000 in
theorem m_cw193 : lw_tbl[347]? = some (Cond.code (m_nm 193) (m_by 193) (m_ml 193) (m_rt 193)) := by rfl
set_option maxRecDepth 20000 in
theorem m_cw194 : lw_tbl[347]? = some (Cond.code (m_nm 194) (m_by 194) (m_ml 194) (m_rt 194)) := by rfl
set_option maxRecDepth 20000 in
theorem m_cw195 : lw_tbl[347]? = some (Cond.code (m_nm 195) (m_by 195) (m_ml 195) (m_rt 195)) := by rfl
set_option maxRecDepth 20000 in
theorem m_cw196 : lw_tbl[347]? = some (Cond.code (m_nm 196) (m_by 196) (m_ml 196) (m_rt 196)) := by rfl
set_option maxRecDepth 20000 in
theorem m_cwa : ∀ y, y < 197 → m_cdw y := lt_s (lt_s (lt_s (lt_s (lt_s (lt_s (lt_s (lt_s (lt_s (lt_s (lt_s (lt_s (lt_s (lt_s (lt_s (lt_s (lt_s (lt_s (lt_s (lt_s (lt_s (lt_s (lt_s (lt_s (lt_s (lt_s (lt_s (lt_s (lt_s (lt_s (lt_s (lt_s (lt_s (lt_s (lt_s (lt_s (lt_s (lt_s (lt_s (lt_s (lt_s (lt_s (lt_s (lt_s (lt_s (lt_s (lt_s (lt_s (lt_s (lt_s (lt_s (lt_s (lt_s (lt_s (lt_s (lt_s (lt_s (lt_s (lt_s (lt_s (lt_s (lt_s (lt_s (lt_s (lt_s (lt_s (lt_s (lt_s (lt_s (lt_s (lt_s (lt_s (lt_s (lt_s (lt_s (lt_s (lt_s (lt_s (lt_s (lt_s (lt_s (lt_s (lt_s (lt_s (lt_s (lt_s (lt_s (lt_s (lt_s (lt_s (lt_s (lt_s (lt_s (lt_s (lt_s (lt_s (lt_s (lt_s (lt_s (lt_s (lt_s (lt_s (lt_s (lt_s (lt_s (lt_s (lt_s (lt_s (lt_s (lt_s (lt_s (lt_s (lt_s (lt_s (lt_s (lt_s (lt_s (lt_s (lt_s (lt_s (lt_s (lt_s (lt_s (lt_s (lt_s (lt_s (lt_s (lt_s (lt_s (lt_s (lt_s (lt_s (lt_s (lt_s (lt_s (lt_s (lt_s (lt_s (lt_s (lt_s (lt_s (lt_s (lt_s (lt_s (lt_s (lt_s (lt_s (lt_s (lt_s (lt_s (lt_s (lt_s (lt_s (lt_s (lt_s (lt_s (lt_s (lt_s (lt_s (lt_s (lt_s (lt_s (lt_s (lt_s (lt_s (lt_s (lt_s (lt_s (lt_s (lt_s (lt_s (lt_s (lt_s (lt_s (lt_s (lt_s (lt_s (lt_s (lt_s (lt_s (lt_s (lt_s (lt_s (lt_s (lt_s (lt_s (lt_s (lt_s (lt_s (lt_s (lt_s (lt_s (lt_s (lt_s (lt_s (lt_s (lt_s (lt_0) m_cw0) m_cw1) m_cw2) m_cw3) m_cw4) m_cw5) m_cw6) m_cw7) m_cw8) m_cw9) m_cw10) m_cw11) m_cw12) m_cw13) m_cw14) m_cw15) m_cw16) m_cw17) m_cw18) m_cw19) m_cw20) m_cw21) m_cw22) m_cw23) m_cw24) m_cw25) m_cw26) m_cw27) m_cw28) m_cw29) m_cw30) m_cw31) m_cw32) m_cw33) m_cw34) m_cw35) m_cw36) m_cw37) m_cw38) m_cw39) m_cw40) m_cw41) m_cw42) m_cw43) m_cw44) m_cw45) m_cw46) m_cw47) m_cw48) m_cw49) m_cw50) m_cw51) m_cw52) m_cw53) m_cw54) m_cw55) m_cw56) m_cw57) m_cw58) m_cw59) m_cw60) m_cw61) m_cw62) m_cw63) m_cw64) m_cw65) m_cw66) m_cw67) m_cw68) m_cw69) m_cw70) m_cw71) m_cw72) m_cw73) m_cw74) m_cw75) m_cw76) m_cw77) m_cw78) m_cw79) m_cw80) m_cw81) m_cw82) m_cw83) m_cw84) m_cw85) m_cw86) m_cw87) m_cw88) m_cw89) m_cw90) m_cw91) m_cw92) m_cw93) m_cw94) m_cw95) m_cw96) m_cw97) m_cw98) m_cw99) m_cw100) m_cw101) m_cw102) m_cw103) m_cw104) m_cw105) m_cw106) m_cw107) m_cw108) m_cw109) m_cw110) m_cw111) m_cw112) m_cw113) m_cw114) m_cw115) m_cw116) m_cw117) m_cw118) m_cw119) m_cw120) m_cw121) m_cw122) m_cw123) m_cw124) m_cw125) m_cw126) m_cw127) m_cw128) m_cw129) m_cw130) m_cw131) m_cw132) m_cw133) m_cw134) m_cw135) m_cw136) m_cw137) m_cw138) m_cw139) m_cw140) m_cw141) m_cw142) m_cw143) m_cw144) m_cw145) m_cw146) m_cw147) m_cw148) m_cw149) m_cw150) m_cw151) m_cw152) m_cw153) m_cw154) m_cw155) m_cw156) m_cw157) m_cw158) m_cw159) m_cw160) m_cw161) m_cw162) m_cw163) m_cw164) m_cw165) m_cw166) m_cw167) m_cw168) m_cw169) m_cw170) m_cw171) m_cw172) m_cw173) m_cw174) m_cw175) m_cw176) m_cw177) m_cw178) m_cw179) m_cw180) m_cw181) m_cw182) m_cw183) m_cw184) m_cw185) m_cw186) m_cw187) m_cw188) m_cw189) m_cw190) m_cw191) m_cw192) m_cw193) m_cw194) m_cw195) m_cw196
end
section
/-! that an instruction of the pure machine is the class file's at its place -/
def m_ldn (f : Fin 4 → Instr) (g : Nat → Instr) (r : Instr) (len a : Nat) : Bool :=
  (decide (r = g a) && decide (len = 2)) || (decide (len = 1) && ((decide (a = 0) && decide (r = f 0)) || ((decide (a = 1) && decide (r = f 1)) || ((decide (a = 2) && decide (r = f 2)) || (decide (a = 3) && decide (r = f 3))))))
theorem m_ldn_or {f : Fin 4 → Instr} {g : Nat → Instr} {r : Instr} {len a : Nat} (h : m_ldn f g r len a = true) : (r = g a ∧ len = 2) ∨ ∃ k : Fin 4, (k : Nat) = a ∧ r = f k ∧ len = 1 := by
  simp only [m_ldn, Bool.or_eq_true, Bool.and_eq_true, decide_eq_true_eq] at h
  rcases h with h | ⟨h1, ⟨h2, h3⟩ | ⟨h2, h3⟩ | ⟨h2, h3⟩ | ⟨h2, h3⟩⟩
  · exact Or.inl h
  · exact Or.inr ⟨0, h2.symm, h3, h1⟩
  · exact Or.inr ⟨1, h2.symm, h3, h1⟩
  · exact Or.inr ⟨2, h2.symm, h3, h1⟩
  · exact Or.inr ⟨3, h2.symm, h3, h1⟩
def m_oki (own : Nat) (r : Instr) (len : Nat) (z : Int) : Bool := match r with
  | .iconst n => decide (n = z) && decide (len = 1)
  | .bipush n => decide ((Int8.ofInt n).toInt32 = Int32.ofInt z) && decide (len = 2)
  | .sipush n => decide ((Int16.ofInt n).toInt32 = Int32.ofInt z) && decide (len = 3)
  | .ldc i => decide ((m_lk2 m_CI own i).map (fun q => q.1) = some z) && decide (len = 2)
  | .ldc_w i => decide ((m_lk2 m_CI own i).map (fun q => q.1) = some z) && decide (len = 3)
  | _ => false
def m_okj (own : Nat) (r : Instr) (len : Nat) (z : Int) : Bool := match r with
  | .lconst k => decide (Int64.ofNat k = Int64.ofInt z) && decide (len = 1)
  | .ldc2_w i => decide ((m_lk2 m_CJ own i).map (fun q => q.1) = some z) && decide (len = 3)
  | _ => false
def m_okf (own : Nat) (r : Instr) (len a : Nat) : Bool := match r with
  | .fconst k => ((decide (k = 0) && decide (UInt32.ofNat a = FP.fconst0)) || ((decide (k = 1) && decide (UInt32.ofNat a = FP.fconst1)) || (decide (k = 2) && decide (UInt32.ofNat a = FP.fconst2)))) && decide (len = 1)
  | .ldc i => decide ((m_lk2 m_CF own i).map (fun q => q.1) = some a) && decide (len = 2)
  | .ldc_w i => decide ((m_lk2 m_CF own i).map (fun q => q.1) = some a) && decide (len = 3)
  | _ => false
/-- stack alone -/
def m_oks (own : Nat) (r : Instr) (len op a : Nat) (z : Int) : Bool := match op with
  | 10 => decide (-2147483648 ≤ z) && (decide (z < 2147483648) && m_oki own r len z)
  | 11 => decide (-9223372036854775808 ≤ z) && (decide (z < 9223372036854775808) && m_okj own r len z)
  | 12 => m_okf own r len a
  | 13 => decide (r = .aconst_null) && decide (len = 1)
  | 23 => decide (r = .iadd) && decide (len = 1)
  | 24 => decide (r = .isub) && decide (len = 1)
  | 25 => decide (r = .imul) && decide (len = 1)
  | 26 => decide (r = .idiv) && decide (len = 1)
  | 27 => decide (r = .irem) && decide (len = 1)
  | 28 => decide (r = .ineg) && decide (len = 1)
  | 29 => decide (r = .iand) && decide (len = 1)
  | 30 => decide (r = .ixor) && decide (len = 1)
  | 31 => decide (r = .ishl) && decide (len = 1)
  | 32 => decide (r = .ishr) && decide (len = 1)
  | 33 => decide (r = .iushr) && decide (len = 1)
  | 34 => decide (r = .ladd) && decide (len = 1)
  | 35 => decide (r = .lsub) && decide (len = 1)
  | 36 => decide (r = .lmul) && decide (len = 1)
  | 37 => decide (r = .ldiv) && decide (len = 1)
  | 38 => decide (r = .lrem) && decide (len = 1)
  | 39 => decide (r = .lneg) && decide (len = 1)
  | 40 => decide (r = .lcmp) && decide (len = 1)
  | 41 => decide (r = .i2l) && decide (len = 1)
  | 42 => decide (r = .l2f) && decide (len = 1)
  | 43 => decide (r = .f2i) && decide (len = 1)
  | 44 => decide (r = .i2b) && decide (len = 1)
  | 45 => decide (r = .fmul) && decide (len = 1)
  | 46 => decide (r = .fsub) && decide (len = 1)
  | 47 => decide (r = .fdiv) && decide (len = 1)
  | 48 => decide (r = .fcmp .g) && decide (len = 1)
  | 49 => decide (r = .fcmp .l) && decide (len = 1)
  | 50 => decide (r = .dup) && decide (len = 1)
  | 51 => decide (r = .dup2) && decide (len = 1)
  | _ => false
/-- locals -/
def m_okl (nL : Nat) (r : Instr) (len op a : Nat) (z : Int) : Bool := match op with
  | 14 => m_ldn .iload_n .iload r len a
  | 15 => m_ldn .lload_n .lload r len a
  | 16 => m_ldn .fload_n .fload r len a
  | 17 => m_ldn .aload_n .aload r len a
  | 18 => decide (a < nL) && m_ldn .istore_n .istore r len a
  | 19 => decide (a + 1 < nL) && m_ldn .lstore_n .lstore r len a
  | 20 => decide (a < nL) && m_ldn .fstore_n .fstore r len a
  | 21 => decide (a < nL) && m_ldn .astore_n .astore r len a
  | 22 => decide (a < nL) && (decide (r = .iinc a z) && decide (len = 3))
  | _ => false
def m_fk (a b : Nat) : Int := ((m_FC.getD a []).getD b 9 : Nat)
def m_okx (r : Instr) (a : Nat) : Bool := match r with
  | .newarray .int => decide (a = 1)
  | .newarray .long => decide (a = 2)
  | .newarray .byte => decide (a = 3)
  | _ => false
def m_okg (own : Nat) (r : Instr) (a b : Nat) : Bool := match r with
  | .getfield i => decide ((m_lk2 m_FL own i).map (fun q => (q.1, q.2.1)) = some (a, b))
  | _ => false
def m_okp (own : Nat) (nm : String) (r : Instr) (a b : Nat) : Bool := match r with
  | .putfield i => decide ((m_lk2 m_FL own i).map (fun q => (q.1, q.2.1)) = some (a, b)) && (decide ((m_T a b).2.2.2 = false) || (decide ((m_T a b).2.2.2 = true) && (decide (nm = "<init>") && decide (a = own))))
  | _ => false
def m_okn (own : Nat) (r : Instr) (a : Nat) : Bool := match r with
  | .anewarray i => decide ((m_lk2 m_NC own i).map (fun q => q.1) = some 7)
  | .new i => decide ((m_lk2 m_NC own i).map (fun q => q.1) = some a)
  | _ => false
def m_isA (r : Instr) : Bool := match r with
  | .anewarray _ => true
  | _ => false
def m_okv (own : Nat) (r : Instr) (k : Nat) : Bool := match r with
  | .invokespecial i => decide ((m_lk2 m_ML own i).map (fun q => q.1) = some k) && decide (k = 5)
  | .invokestatic i => decide ((m_lk2 m_ML own i).map (fun q => q.1) = some k) && !decide (k = 5)
  | _ => false
/-- memory -/
def m_okm (own : Nat) (nm : String) (r : Instr) (len op a b : Nat) (z : Int) : Bool := match op with
  | 53 => decide (len = 3) && (decide (a < 10) && (decide (b < m_fn a) && (decide (z = m_fk a b) && m_okg own r a b)))
  | 54 => decide (len = 3) && (decide (a < 10) && (decide (b < m_fn a) && (decide (z = m_fk a b) && m_okp own nm r a b)))
  | 55 => decide (len = 2) && m_okx r a
  | 56 => decide (len = 3) && (m_isA r && m_okn own r a)
  | 57 => decide (len = 3) && (!m_isA r && (decide (a < 10) && (decide (z = (m_fn a : Nat)) && m_okn own r a)))
  | 58 => decide (r = .arraylength) && decide (len = 1)
  | 59 => decide (r = .iaload) && decide (len = 1)
  | 60 => decide (r = .laload) && decide (len = 1)
  | 61 => decide (r = .baload) && decide (len = 1)
  | 62 => decide (r = .aaload) && decide (len = 1)
  | 63 => decide (r = .iastore) && decide (len = 1)
  | 64 => decide (r = .lastore) && decide (len = 1)
  | 65 => decide (r = .bastore) && decide (len = 1)
  | 66 => decide (r = .aastore) && decide (len = 1)
  | 67 => decide (len = 3) && m_okv own r 5
  | 68 => decide (len = 3) && m_okv own r 6
  | 69 => false
  | _ => false
def m_cq (k : Nat) : Jvm.ClassFile.Cond := match k with
  | 0 => .eq
  | 1 => .ne
  | 2 => .lt
  | 3 => .ge
  | 4 => .gt
  | _ => .le
def m_isO (o : Option FieldType) : Bool := match o with
  | some (.object _) => true
  | _ => false
def m_okr (rt : Option FieldType) (r : Instr) (k : Nat) : Bool := match k with
  | 0 => decide (r = .return_) && decide (rt = none)
  | 1 => decide (r = .ireturn) && decide (rt = some .int)
  | 2 => decide (r = .ireturn) && decide (rt = some .boolean)
  | 3 => decide (r = .lreturn) && decide (rt = some .long)
  | 4 => decide (r = .areturn) && m_isO rt
  | _ => false
def m_okt (y pc : Nat) (r : Instr) (a : Nat) : Bool := match r with
  | .tableswitch d lo hi offs => decide (lo = (m_tsl a).1) && (decide (hi + 1 = (m_tsl a).1 + ((m_tsl a).2.2.length : Nat)) && (decide ((pc : Int) + d = (m_stt y (m_tsl a).2.1 : Nat)) && decide (offs.toList.map (fun o => (pc : Int) + o) = (m_tsl a).2.2.map (fun b => ((m_stt y b : Nat) : Int)))))
  | _ => false
def m_oku (y pc : Nat) (r : Instr) (a : Nat) : Bool := match r with
  | .lookupswitch d ps => (ps.toList.zip (ps.toList.drop 1)).all (fun (a, next) => a.1 < next.1) && (decide ((pc : Int) + d = (m_stt y (m_lsl a).1 : Nat)) && decide (ps.toList.map (fun q => (q.1, (pc : Int) + q.2)) = (m_lsl a).2.map (fun q => (q.1, ((m_stt y q.2 : Nat) : Int)))))
  | _ => false
/-- calls: which kind for which instruction -/
def m_okc (own : Nat) (r : Instr) (a b : Nat) (z : Int) : Bool := match r with
  | .invokevirtual i => decide ((m_lk2 m_ML own i).map (fun q => (q.1, q.2.1)) = some (0, a)) && (decide (b = (m_MP.getD a (0, 0, 0)).2.2 + 1) && decide (z = (m_own a : Nat)))
  | .invokestatic i => (decide ((m_lk2 m_ML own i).map (fun q => (q.1, q.2.1)) = some (1, a)) || decide ((m_lk2 m_ML own i).map (fun q => (q.1, q.2.1)) = some (4, a))) && (decide (b = (m_MP.getD a (0, 0, 0)).2.2) && decide (z = -1))
  | .invokespecial i => (decide ((m_lk2 m_ML own i).map (fun q => (q.1, q.2.1)) = some (2, a)) || decide ((m_lk2 m_ML own i).map (fun q => (q.1, q.2.1)) = some (3, a))) && (decide (b = (m_MP.getD a (0, 0, 0)).2.2 + 1) && (decide (z = -2) && decide ((m_nm a).name = "<init>")))
  | _ => false
def m_okB (y pc : Nat) (r : Instr) (len : Nat) (i : m_P) : Bool :=
  match i.1 with
  | 0 => decide (len = 3) && decide (r = .goto ((m_stt y i.2.1 : Nat) - (pc : Int)))
  | 1 => decide (len = 3) && decide (r = .ifCond (m_cq i.2.1) ((m_stt y i.2.2.1 : Nat) - (pc : Int)))
  | 2 => decide (len = 3) && decide (r = .if_icmp (m_cq i.2.1) ((m_stt y i.2.2.1 : Nat) - (pc : Int)))
  | 3 => decide (len = 3) && decide (r = .ifnull ((m_stt y i.2.1 : Nat) - (pc : Int)))
  | 4 => decide (len = 3) && decide (r = .ifnonnull ((m_stt y i.2.1 : Nat) - (pc : Int)))
  | 5 => m_okt y pc r i.2.1
  | 6 => decide (len = 1) && m_okr (m_rt y) r i.2.1
  | 7 => decide (len = 3) && (decide (i.2.1 < 197) && m_okc (m_own y) r i.2.1 i.2.2.1 i.2.2.2)
  | 9 => m_oku y pc r i.2.1
  | _ => if 53 ≤ i.1 then m_okm (m_own y) (m_nm y).name r len i.1 i.2.1 i.2.2.1 i.2.2.2
    else if 14 ≤ i.1 ∧ i.1 ≤ 22 then m_okl (m_ml y) r len i.1 i.2.1 i.2.2.2
    else m_oks (m_own y) r len i.1 i.2.1 i.2.2.2
def m_chk (y : Nat) : List m_P → Nat → Bool
  | [], _ => true
  | i :: is, pc => if i.1 = 8 then decide (m_stt y i.2.1 = pc) else match decode (m_by y) pc with
    | .ok (r, len) => m_okB y pc r len i && m_chk y is (pc + len)
    | .error _ => false
def m_chm (y : Nat) : Bool := match m_CD[y]? with
  | some l => decide (m_stt y 0 = 0) && l.all (fun q => m_chk y q.2 q.1)
  | none => false
end
section
/-! every method's code, checked -/
theorem m_ch0 : m_chm 0 = true := by decide +kernel
theorem m_ch1 : m_chm 1 = true := by decide +kernel
theorem m_ch2 : m_chm 2 = true := by decide +kernel
theorem m_ch3 : m_chm 3 = true := by decide +kernel
theorem m_ch4 : m_chm 4 = true := by decide +kernel
theorem m_ch5 : m_chm 5 = true := by decide +kernel
theorem m_ch6 : m_chm 6 = true := by decide +kernel
theorem m_ch7 : m_chm 7 = true := by decide +kernel
theorem m_ch8 : m_chm 8 = true := by decide +kernel
theorem m_ch9 : m_chm 9 = true := by decide +kernel
theorem m_ch10 : m_chm 10 = true := by decide +kernel
theorem m_ch11 : m_chm 11 = true := by decide +kernel
theorem m_ch12 : m_chm 12 = true := by decide +kernel
theorem m_ch13 : m_chm 13 = true := by decide +kernel
theorem m_ch14 : m_chm 14 = true := by decide +kernel
theorem m_ch15 : m_chm 15 = true := by decide +kernel
theorem m_ch16 : m_chm 16 = true := by decide +kernel
theorem m_ch17 : m_chm 17 = true := by decide +kernel
theorem m_ch18 : m_chm 18 = true := by decide +kernel
theorem m_ch19 : m_chm 19 = true := by decide +kernel
theorem m_ch20 : m_chm 20 = true := by decide +kernel
theorem m_ch21 : m_chm 21 = true := by decide +kernel
theorem m_ch22 : m_chm 22 = true := by decide +kernel
theorem m_ch23 : m_chm 23 = true := by decide +kernel
theorem m_ch24 : m_chm 24 = true := by decide +kernel
theorem m_ch25 : m_chm 25 = true := by decide +kernel
theorem m_ch26 : m_chm 26 = true := by decide +kernel
theorem m_ch27 : m_chm 27 = true := by decide +kernel
theorem m_ch28 : m_chm 28 = true := by decide +kernel
theorem m_ch29 : m_chm 29 = true := by decide +kernel
theorem m_ch30 : m_chm 30 = true := by decide +kernel
theorem m_ch31 : m_chm 31 = true := by decide +kernel
theorem m_ch32 : m_chm 32 = true := by decide +kernel
theorem m_ch33 : m_chm 33 = true := by decide +kernel
theorem m_ch34 : m_chm 34 = true := by decide +kernel
theorem m_ch35 : m_chm 35 = true := by decide +kernel
theorem m_ch36 : m_chm 36 = true := by decide +kernel
theorem m_ch37 : m_chm 37 = true := by decide +kernel
theorem m_ch38 : m_chm 38 = true := by decide +kernel
theorem m_ch39 : m_chm 39 = true := by decide +kernel
theorem m_ch40 : m_chm 40 = true := by decide +kernel
theorem m_ch41 : m_chm 41 = true := by decide +kernel
theorem m_ch42 : m_chm 42 = true := by decide +kernel
theorem m_ch43 : m_chm 43 = true := by decide +kernel
theorem m_ch44 : m_chm 44 = true := by decide +kernel
theorem m_ch45 : m_chm 45 = true := by decide +kernel
theorem m_ch46 : m_chm 46 = true := by decide +kernel
theorem m_ch47 : m_chm 47 = true := by decide +kernel
theorem m_ch48 : m_chm 48 = true := by decide +kernel
theorem m_ch49 : m_chm 49 = true := by decide +kernel
theorem m_ch50 : m_chm 50 = true := by decide +kernel
theorem m_ch51 : m_chm 51 = true := by decide +kernel
theorem m_ch52 : m_chm 52 = true := by decide +kernel
theorem m_ch53 : m_chm 53 = true := by decide +kernel
theorem m_ch54 : m_chm 54 = true := by decide +kernel
theorem m_ch55 : m_chm 55 = true := by decide +kernel
theorem m_ch56 : m_chm 56 = true := by decide +kernel
theorem m_ch57 : m_chm 57 = true := by decide +kernel
theorem m_ch58 : m_chm 58 = true := by decide +kernel
theorem m_ch59 : m_chm 59 = true := by decide +kernel
theorem m_ch60 : m_chm 60 = true := by decide +kernel
theorem m_ch61 : m_chm 61 = true := by decide +kernel
theorem m_ch62 : m_chm 62 = true := by decide +kernel
theorem m_ch63 : m_chm 63 = true := by decide +kernel
theorem m_ch64 : m_chm 64 = true := by decide +kernel
theorem m_ch65 : m_chm 65 = true := by decide +kernel
theorem m_ch66 : m_chm 66 = true := by decide +kernel
theorem m_ch67 : m_chm 67 = true := by decide +kernel
theorem m_ch68 : m_chm 68 = true := by decide +kernel
theorem m_ch69 : m_chm 69 = true := by decide +kernel
theorem m_ch70 : m_chm 70 = true := by decide +kernel
theorem m_ch71 : m_chm 71 = true := by decide +kernel
theorem m_ch72 : m_chm 72 = true := by decide +kernel
theorem m_ch73 : m_chm 73 = true := by decide +kernel
theorem m_ch74 : m_chm 74 = true := by decide +kernel
theorem m_ch75 : m_chm 75 = true := by decide +kernel
theorem m_ch76 : m_chm 76 = true := by decide +kernel
theorem m_ch77 : m_chm 77 = true := by decide +kernel
theorem m_ch78 : m_chm 78 = true := by decide +kernel
theorem m_ch79 : m_chm 79 = true := by decide +kernel
theorem m_ch80 : m_chm 80 = true := by decide +kernel
theorem m_ch81 : m_chm 81 = true := by decide +kernel
theorem m_ch82 : m_chm 82 = true := by decide +kernel
theorem m_ch83 : m_chm 83 = true := by decide +kernel
theorem m_ch84 : m_chm 84 = true := by decide +kernel
theorem m_ch85 : m_chm 85 = true := by decide +kernel
theorem m_ch86 : m_chm 86 = true := by decide +kernel
theorem m_ch87 : m_chm 87 = true := by decide +kernel
theorem m_ch88 : m_chm 88 = true := by decide +kernel
theorem m_ch89 : m_chm 89 = true := by decide +kernel
theorem m_ch90 : m_chm 90 = true := by decide +kernel
theorem m_ch91 : m_chm 91 = true := by decide +kernel
theorem m_ch92 : m_chm 92 = true := by decide +kernel
theorem m_ch93 : m_chm 93 = true := by decide +kernel
theorem m_ch94 : m_chm 94 = true := by decide +kernel
theorem m_ch95 : m_chm 95 = true := by decide +kernel
theorem m_ch96 : m_chm 96 = true := by decide +kernel
theorem m_ch97 : m_chm 97 = true := by decide +kernel
theorem m_ch98 : m_chm 98 = true := by decide +kernel
theorem m_ch99 : m_chm 99 = true := by decide +kernel
theorem m_ch100 : m_chm 100 = true := by decide +kernel
theorem m_ch101 : m_chm 101 = true := by decide +kernel
theorem m_ch102 : m_chm 102 = true := by decide +kernel
theorem m_ch103 : m_chm 103 = true := by decide +kernel
theorem m_ch104 : m_chm 104 = true := by decide +kernel
theorem m_ch105 : m_chm 105 = true := by decide +kernel
theorem m_ch106 : m_chm 106 = true := by decide +kernel
theorem m_ch107 : m_chm 107 = true := by decide +kernel
theorem m_ch108 : m_chm 108 = true := by decide +kernel
theorem m_ch109 : m_chm 109 = true := by decide +kernel
theorem m_ch110 : m_chm 110 = true := by decide +kernel
theorem m_ch111 : m_chm 111 = true := by decide +kernel
theorem m_ch112 : m_chm 112 = true := by decide +kernel
theorem m_ch113 : m_chm 113 = true := by decide +kernel
theorem m_ch114 : m_chm 114 = true := by decide +kernel
theorem m_ch115 : m_chm 115 = true := by decide +kernel
theorem m_ch116 : m_chm 116 = true := by decide +kernel
theorem m_ch117 : m_chm 117 = true := by decide +kernel
theorem m_ch118 : m_chm 118 = true := by decide +kernel
theorem m_ch119 : m_chm 119 = true := by decide +kernel
theorem m_ch120 : m_chm 120 = true := by decide +kernel
theorem m_ch121 : m_chm 121 = true := by decide +kernel
theorem m_ch122 : m_chm 122 = true := by decide +kernel
theorem m_ch123 : m_chm 123 = true := by decide +kernel
theorem m_ch124 : m_chm 124 = true := by decide +kernel
theorem m_ch125 : m_chm 125 = true := by decide +kernel
theorem m_ch126 : m_chm 126 = true := by decide +kernel
theorem m_ch127 : m_chm 127 = true := by decide +kernel
theorem m_ch128 : m_chm 128 = true := by decide +kernel
theorem m_ch129 : m_chm 129 = true := by decide +kernel
theorem m_ch130 : m_chm 130 = true := by decide +kernel
theorem m_ch131 : m_chm 131 = true := by decide +kernel
theorem m_ch132 : m_chm 132 = true := by decide +kernel
theorem m_ch133 : m_chm 133 = true := by decide +kernel
theorem m_ch134 : m_chm 134 = true := by decide +kernel
theorem m_ch135 : m_chm 135 = true := by decide +kernel
theorem m_ch136 : m_chm 136 = true := by decide +kernel
theorem m_ch137 : m_chm 137 = true := by decide +kernel
theorem m_ch138 : m_chm 138 = true := by decide +kernel
theorem m_ch139 : m_chm 139 = true := by decide +kernel
theorem m_ch140 : m_chm 140 = true := by decide +kernel
theorem m_ch141 : m_chm 141 = true := by decide +kernel
theorem m_ch142 : m_chm 142 = true := by decide +kernel
theorem m_ch143 : m_chm 143 = true := by decide +kernel
theorem m_ch144 : m_chm 144 = true := by decide +kernel
theorem m_ch145 : m_chm 145 = true := by decide +kernel
theorem m_ch146 : m_chm 146 = true := by decide +kernel
theorem m_ch147 : m_chm 147 = true := by decide +kernel
theorem m_ch148 : m_chm 148 = true := by decide +kernel
theorem m_ch149 : m_chm 149 = true := by decide +kernel
theorem m_ch150 : m_chm 150 = true := by decide +kernel
theorem m_ch151 : m_chm 151 = true := by decide +kernel
theorem m_ch152 : m_chm 152 = true := by decide +kernel
theorem m_ch153 : m_chm 153 = true := by decide +kernel
theorem m_ch154 : m_chm 154 = true := by decide +kernel
theorem m_ch155 : m_chm 155 = true := by decide +kernel
theorem m_ch156 : m_chm 156 = true := by decide +kernel
theorem m_ch157 : m_chm 157 = true := by decide +kernel
theorem m_ch158 : m_chm 158 = true := by decide +kernel
theorem m_ch159 : m_chm 159 = true := by decide +kernel
theorem m_ch160 : m_chm 160 = true := by decide +kernel
theorem m_ch161 : m_chm 161 = true := by decide +kernel
theorem m_ch162 : m_chm 162 = true := by decide +kernel
theorem m_ch163 : m_chm 163 = true := by decide +kernel
theorem m_ch164 : m_chm 164 = true := by decide +kernel
theorem m_ch165 : m_chm 165 = true := by decide +kernel
theorem m_ch166 : m_chm 166 = true := by decide +kernel
theorem m_ch167 : m_chm 167 = true := by decide +kernel
theorem m_ch168 : m_chm 168 = true := by decide +kernel
theorem m_ch169 : m_chm 169 = true := by decide +kernel
theorem m_ch170 : m_chm 170 = true := by decide +kernel
theorem m_ch171 : m_chm 171 = true := by decide +kernel
theorem m_ch172 : m_chm 172 = true := by decide +kernel
theorem m_ch173 : m_chm 173 = true := by decide +kernel
theorem m_ch174 : m_chm 174 = true := by decide +kernel
theorem m_ch175 : m_chm 175 = true := by decide +kernel
theorem m_ch176 : m_chm 176 = true := by decide +kernel
theorem m_ch177 : m_chm 177 = true := by decide +kernel
theorem m_ch178 : m_chm 178 = true := by decide +kernel
theorem m_ch179 : m_chm 179 = true := by decide +kernel
theorem m_ch180 : m_chm 180 = true := by decide +kernel
theorem m_ch181 : m_chm 181 = true := by decide +kernel
theorem m_ch182 : m_chm 182 = true := by decide +kernel
theorem m_ch183 : m_chm 183 = true := by decide +kernel
theorem m_ch184 : m_chm 184 = true := by decide +kernel
theorem m_ch185 : m_chm 185 = true := by decide +kernel
theorem m_ch186 : m_chm 186 = true := by decide +kernel
theorem m_ch187 : m_chm 187 = true := by decide +kernel
theorem m_ch188 : m_chm 188 = true := by decide +kernel
theorem m_ch189 : m_chm 189 = true := by decide +kernel
theorem m_ch190 : m_chm 190 = true := by decide +kernel
theorem m_ch191 : m_chm 191 = true := by decide +kernel
theorem m_ch192 : m_chm 192 = true := by decide +kernel
theorem m_ch193 : m_chm 193 = true := by decide +kernel
theorem m_ch194 : m_chm 194 = true := by decide +kernel
theorem m_ch195 : m_chm 195 = true := by decide +kernel
theorem m_ch196 : m_chm 196 = true := by decide +kernel
theorem m_all_cut {α : Type} {p : α → Bool} : ∀ (l : List α) (a n : Nat), ((l.drop a).take n).all p = true → (l.drop (a + n)).all p = true → (l.drop a).all p = true := by
  intro l a n h1 h2
  rw [← List.take_append_drop n (l.drop a), List.all_append, h1, List.drop_drop, h2]
  rfl
theorem m_chL0 : ((m_c197.drop 0).take 8).all (fun q => m_chk 197 q.2 q.1) = true := by decide +kernel
theorem m_chL8 : ((m_c197.drop 8).take 8).all (fun q => m_chk 197 q.2 q.1) = true := by decide +kernel
theorem m_chL16 : ((m_c197.drop 16).take 8).all (fun q => m_chk 197 q.2 q.1) = true := by decide +kernel
theorem m_chL24 : ((m_c197.drop 24).take 8).all (fun q => m_chk 197 q.2 q.1) = true := by decide +kernel
theorem m_chL32 : ((m_c197.drop 32).take 8).all (fun q => m_chk 197 q.2 q.1) = true := by decide +kernel
theorem m_chL40 : ((m_c197.drop 40).take 8).all (fun q => m_chk 197 q.2 q.1) = true := by decide +kernel
theorem m_chLe : (m_c197.drop 48).all (fun q => m_chk 197 q.2 q.1) = true := by decide +kernel
theorem m_chR40 : (m_c197.drop 40).all (fun q => m_chk 197 q.2 q.1) = true := m_all_cut m_c197 40 8 m_chL40 m_chLe
theorem m_chR32 : (m_c197.drop 32).all (fun q => m_chk 197 q.2 q.1) = true := m_all_cut m_c197 32 8 m_chL32 m_chR40
theorem m_chR24 : (m_c197.drop 24).all (fun q => m_chk 197 q.2 q.1) = true := m_all_cut m_c197 24 8 m_chL24 m_chR32
theorem m_chR16 : (m_c197.drop 16).all (fun q => m_chk 197 q.2 q.1) = true := m_all_cut m_c197 16 8 m_chL16 m_chR24
theorem m_chR8 : (m_c197.drop 8).all (fun q => m_chk 197 q.2 q.1) = true := m_all_cut m_c197 8 8 m_chL8 m_chR16
theorem m_chR0 : (m_c197.drop 0).all (fun q => m_chk 197 q.2 q.1) = true := m_all_cut m_c197 0 8 m_chL0 m_chR8
theorem m_ch197 : m_chm 197 = true := by
  show (decide (m_stt 197 0 = 0) && m_c197.all (fun q => m_chk 197 q.2 q.1)) = true
  rw [show m_c197.all (fun q => m_chk 197 q.2 q.1) = true from m_chR0]
  decide +kernel
set_option maxRecDepth 20000 in
theorem m_cha : ∀ y, y < 198 → m_chm y = true := lt_s (lt_s (lt_s (lt_s (lt_s (lt_s (lt_s (lt_s (lt_s (lt_s (lt_s (lt_s (lt_s (lt_s (lt_s (lt_s (lt_s (lt_s (lt_s (lt_s (lt_s (lt_s (lt_s (lt_s (lt_s (lt_s (lt_s (lt_s (lt_s (lt_s (lt_s (lt_s (lt_s (lt_s (lt_s (lt_s (lt_s (lt_s (lt_s (lt_s (lt_s (lt_s (lt_s (lt_s (lt_s (lt_s (lt_s (lt_s (lt_s (lt_s (lt_s (lt_s (lt_s (lt_s (lt_s (lt_s (lt_s (lt_s (lt_s (lt_s (lt_s (lt_s (lt_s (lt_s (lt_s (lt_s (lt_s (lt_s (lt_s (lt_s (lt_s (lt_s (lt_s (lt_s (lt_s (lt_s (lt_s (lt_s (lt_s (lt_s (lt_s (lt_s (lt_s (lt_s (lt_s (lt_s (lt_s (lt_s (lt_s (lt_s (lt_s (lt_s (lt_s (lt_s (lt_s (lt_s (lt_s (lt_s (lt_s (lt_s (lt_s (lt_s (lt_s (lt_s (lt_s (lt_s (lt_s (lt_s (lt_s (lt_s (lt_s (lt_s (lt_s (lt_s (lt_s (lt_s (lt_s (lt_s (lt_s (lt_s (lt_s (lt_s (lt_s (lt_s (lt_s (lt_s (lt_s (lt_s (lt_s (lt_s (lt_s (lt_s (lt_s (lt_s (lt_s (lt_s (lt_s (lt_s (lt_s (lt_s (lt_s (lt_s (lt_s (lt_s (lt_s (lt_s (lt_s (lt_s (lt_s (lt_s (lt_s (lt_s (lt_s (lt_s (lt_s (lt_s (lt_s (lt_s (lt_s (lt_s (lt_s (lt_s (lt_s (lt_s (lt_s (lt_s (lt_s (lt_s (lt_s (lt_s (lt_s (lt_s (lt_s (lt_s (lt_s (lt_s (lt_s (lt_s (lt_s (lt_s (lt_s (lt_s (lt_s (lt_s (lt_s (lt_s (lt_s (lt_s (lt_s (lt_s (lt_s (lt_s (lt_s (lt_s (lt_s (lt_s (lt_s (lt_s (lt_0) m_ch0) m_ch1) m_ch2) m_ch3) m_ch4) m_ch5) m_ch6) m_ch7) m_ch8) m_ch9) m_ch10) m_ch11) m_ch12) m_ch13) m_ch14) m_ch15) m_ch16) m_ch17) m_ch18) m_ch19) m_ch20) m_ch21) m_ch22) m_ch23) m_ch24) m_ch25) m_ch26) m_ch27) m_ch28) m_ch29) m_ch30) m_ch31) m_ch32) m_ch33) m_ch34) m_ch35) m_ch36) m_ch37) m_ch38) m_ch39) m_ch40) m_ch41) m_ch42) m_ch43) m_ch44) m_ch45) m_ch46) m_ch47) m_ch48) m_ch49) m_ch50) m_ch51) m_ch52) m_ch53) m_ch54) m_ch55) m_ch56) m_ch57) m_ch58) m_ch59) m_ch60) m_ch61) m_ch62) m_ch63) m_ch64) m_ch65) m_ch66) m_ch67) m_ch68) m_ch69) m_ch70) m_ch71) m_ch72) m_ch73) m_ch74) m_ch75) m_ch76) m_ch77) m_ch78) m_ch79) m_ch80) m_ch81) m_ch82) m_ch83) m_ch84) m_ch85) m_ch86) m_ch87) m_ch88) m_ch89) m_ch90) m_ch91) m_ch92) m_ch93) m_ch94) m_ch95) m_ch96) m_ch97) m_ch98) m_ch99) m_ch100) m_ch101) m_ch102) m_ch103) m_ch104) m_ch105) m_ch106) m_ch107) m_ch108) m_ch109) m_ch110) m_ch111) m_ch112) m_ch113) m_ch114) m_ch115) m_ch116) m_ch117) m_ch118) m_ch119) m_ch120) m_ch121) m_ch122) m_ch123) m_ch124) m_ch125) m_ch126) m_ch127) m_ch128) m_ch129) m_ch130) m_ch131) m_ch132) m_ch133) m_ch134) m_ch135) m_ch136) m_ch137) m_ch138) m_ch139) m_ch140) m_ch141) m_ch142) m_ch143) m_ch144) m_ch145) m_ch146) m_ch147) m_ch148) m_ch149) m_ch150) m_ch151) m_ch152) m_ch153) m_ch154) m_ch155) m_ch156) m_ch157) m_ch158) m_ch159) m_ch160) m_ch161) m_ch162) m_ch163) m_ch164) m_ch165) m_ch166) m_ch167) m_ch168) m_ch169) m_ch170) m_ch171) m_ch172) m_ch173) m_ch174) m_ch175) m_ch176) m_ch177) m_ch178) m_ch179) m_ch180) m_ch181) m_ch182) m_ch183) m_ch184) m_ch185) m_ch186) m_ch187) m_ch188) m_ch189) m_ch190) m_ch191) m_ch192) m_ch193) m_ch194) m_ch195) m_ch196) m_ch197
end
section
/-! THE PURE MACHINE: values, instructions as numbers, memory as cells by number. -/
abbrev m_V : Type := Int ⊕ (Int ⊕ (UInt32 ⊕ (Option Nat ⊕ Bool)))
abbrev m_I (z : Int) : m_V := Sum.inl z
abbrev m_J (z : Int) : m_V := Sum.inr (Sum.inl z)
abbrev m_F (z : UInt32) : m_V := Sum.inr (Sum.inr (Sum.inl z))
abbrev m_O (o : Option Nat) : m_V := Sum.inr (Sum.inr (Sum.inr (Sum.inl o)))
abbrev m_R (k : Nat) : m_V := m_O (some k)
abbrev m_N : m_V := m_O none
abbrev m_S : m_V := Sum.inr (Sum.inr (Sum.inr (Sum.inr true)))
abbrev m_U : m_V := Sum.inr (Sum.inr (Sum.inr (Sum.inr false)))
/-- a cell's kind (0 an object, 1 ints, 2 longs, 3 bytes, 4 references), its sort or length, the references that it holds -/
abbrev m_G : Type := (Nat × Nat) × List (Option Nat)
abbrev m_M : Type := List m_G × (Nat → Nat → Int)
def m_w (z : Int) : Int := (z + 2147483648) % 4294967296 - 2147483648
def m_x (z : Int) : Int := (z + 9223372036854775808) % 18446744073709551616 - 9223372036854775808
def m_b (z : Int) : Int := (z + 128) % 256 - 128
def m_and (x y : Int) : Int := (Int32.ofInt x &&& Int32.ofInt y).toInt
def m_xor (x y : Int) : Int := (Int32.ofInt x ^^^ Int32.ofInt y).toInt
def m_shl (x y : Int) : Int := (Int32.ofInt x <<< (Int32.ofInt y &&& 31)).toInt
def m_shr (x y : Int) : Int := (Int32.ofInt x >>> (Int32.ofInt y &&& 31)).toInt
def m_ush (x y : Int) : Int := ((Int32.ofInt x).toUInt32 >>> ((Int32.ofInt y).toUInt32 &&& Int32.toUInt32 31)).toInt32.toInt
def m_cmp (x y : Int) : Int := if y < x then 1 else if x = y then 0 else -1
def m_fg (x y : UInt32) (o : CmpOp) : Int := (Op.cmpValue (FP.fcmp x y) o).toInt
/-- locals -/
def m_ld : List m_V → Nat → m_V
  | [], _ => m_U
  | v :: _, 0 => v
  | _ :: r, n + 1 => m_ld r n
def m_st : List m_V → Nat → m_V → List m_V
  | [], _, _ => []
  | _ :: r, 0, v => v :: r
  | a :: r, n + 1, v => a :: m_st r n v
def m_kl (ls : List m_V) (i : Nat) : List m_V := match m_ld ls (i - 1) with
  | .inr (.inl _) => m_st ls (i - 1) m_U
  | _ => ls
def m_s1 (ls : List m_V) (i : Nat) (v : m_V) : List m_V := m_st (m_kl ls i) i v
def m_s2 (ls : List m_V) (i : Nat) (v : m_V) : List m_V := m_st (m_st (m_kl ls i) i v) (i + 1) m_U
/-- the locals with which a method begins -/
def m_en : Nat → List m_V → List m_V
  | n, [] => List.replicate n m_U
  | 0, _ :: _ => []
  | n + 1, .inr (.inl z) :: r => m_J z :: m_U :: m_en (n - 1) r
  | n + 1, v :: r => v :: m_en n r
/-- memory -/
def m_up (σ : Nat → Nat → Int) (c k : Nat) (z : Int) : Nat → Nat → Int := fun c' k' => if c' = c ∧ k' = k then z else σ c' k'
def m_zr (σ : Nat → Nat → Int) (c : Nat) : Nat → Nat → Int := fun c' k' => if c' = c then 0 else σ c' k'
def m_cp (σ : Nat → Nat → Int) (cs cd sp dp n : Nat) : Nat → Nat → Int := fun c k => if c = cd ∧ dp ≤ k ∧ k < dp + n then σ cs (sp + (k - dp)) else σ c k
def m_g (μ : m_M) (c : Nat) : m_G := μ.1.getD c ((9, 0), [])
def m_gk (μ : m_M) (c : Nat) : Nat × Nat := (m_g μ c).1
def m_gr (μ : m_M) (c k : Nat) : Option Nat := ((m_g μ c).2[k]?).join
def m_sr (G : List m_G) (c k : Nat) (o : Option Nat) : List m_G := G.set c ((G.getD c ((9, 0), [])).1, (G.getD c ((9, 0), [])).2.set k o)
def m_ii (f : Int → Int → Int) : List m_V → Option (List m_V)
  | .inl y :: .inl x :: r => some (m_I (f x y) :: r)
  | _ => none
def m_id (f : Int → Int → Int) : List m_V → Option (List m_V)
  | .inl y :: .inl x :: r => if y = 0 then none else some (m_I (f x y) :: r)
  | _ => none
def m_jj (f : Int → Int → Int) : List m_V → Option (List m_V)
  | .inr (.inl y) :: .inr (.inl x) :: r => some (m_J (f x y) :: r)
  | _ => none
def m_jd (f : Int → Int → Int) : List m_V → Option (List m_V)
  | .inr (.inl y) :: .inr (.inl x) :: r => if y = 0 then none else some (m_J (f x y) :: r)
  | _ => none
def m_ff (f : UInt32 → UInt32 → UInt32) : List m_V → Option (List m_V)
  | .inr (.inr (.inl y)) :: .inr (.inr (.inl x)) :: r => if f x y &&& 0x7fffffff ≤ 0x7f800000 then some (m_F (f x y) :: r) else none
  | _ => none
/-- what works on the stack alone -/
def m_sk (op a : Nat) (z : Int) (st : List m_V) : Option (List m_V) :=
  match op with
  | 10 => some (m_I z :: st)
  | 11 => some (m_J z :: st)
  | 12 => some (m_F (UInt32.ofNat a) :: st)
  | 13 => some (m_N :: st)
  | 23 => m_ii (fun x y => m_w (x + y)) st
  | 24 => m_ii (fun x y => m_w (x - y)) st
  | 25 => m_ii (fun x y => m_w (x * y)) st
  | 26 => m_id (fun x y => m_w (Int.tdiv x y)) st
  | 27 => m_id (fun x y => Int.tmod x y) st
  | 28 => match st with
    | .inl x :: r => some (m_I (m_w (-x)) :: r)
    | _ => none
  | 29 => m_ii m_and st
  | 30 => m_ii m_xor st
  | 31 => m_ii m_shl st
  | 32 => m_ii m_shr st
  | 33 => m_ii m_ush st
  | 34 => m_jj (fun x y => m_x (x + y)) st
  | 35 => m_jj (fun x y => m_x (x - y)) st
  | 36 => m_jj (fun x y => m_x (x * y)) st
  | 37 => m_jd (fun x y => m_x (Int.tdiv x y)) st
  | 38 => m_jd (fun x y => Int.tmod x y) st
  | 39 => match st with
    | .inr (.inl x) :: r => some (m_J (m_x (-x)) :: r)
    | _ => none
  | 40 => match st with
    | .inr (.inl y) :: .inr (.inl x) :: r => some (m_I (m_cmp x y) :: r)
    | _ => none
  | 41 => match st with
    | .inl x :: r => some (m_J x :: r)
    | _ => none
  | 42 => match st with
    | .inr (.inl x) :: r => some (m_F (FP.l2f (Int64.ofInt x)) :: r)
    | _ => none
  | 43 => match st with
    | .inr (.inr (.inl x)) :: r => some (m_I (FP.f2i x).toInt :: r)
    | _ => none
  | 44 => match st with
    | .inl x :: r => some (m_I (m_b x) :: r)
    | _ => none
  | 45 => m_ff FP.fmul st
  | 46 => m_ff FP.fsub st
  | 47 => m_ff FP.fdiv st
  | 48 => match st with
    | .inr (.inr (.inl y)) :: .inr (.inr (.inl x)) :: r => some (m_I (m_fg x y .g) :: r)
    | _ => none
  | 49 => match st with
    | .inr (.inr (.inl y)) :: .inr (.inr (.inl x)) :: r => some (m_I (m_fg x y .l) :: r)
    | _ => none
  | 50 => match st with
    | .inr (.inr (.inr (.inl o))) :: r => some (m_O o :: m_O o :: r)
    | .inl x :: r => some (m_I x :: m_I x :: r)
    | _ => none
  | 51 => match st with
    | .inl x :: .inr (.inr (.inr (.inl o))) :: r => some (m_I x :: m_O o :: m_I x :: m_O o :: r)
    | _ => none
  | _ => none
/-- what works on locals and the stack -/
def m_lk (op a : Nat) (z : Int) (ls st : List m_V) : Option (List m_V × List m_V) :=
  match op with
  | 14 => match m_ld ls a with
    | .inl x => some (ls, m_I x :: st)
    | _ => none
  | 15 => match m_ld ls a with
    | .inr (.inl x) => some (ls, m_J x :: st)
    | _ => none
  | 16 => match m_ld ls a with
    | .inr (.inr (.inl x)) => some (ls, m_F x :: st)
    | _ => none
  | 17 => match m_ld ls a with
    | .inr (.inr (.inr (.inl (some x)))) => some (ls, m_R x :: st)
    | .inr (.inr (.inr (.inr true))) => some (ls, m_S :: st)
    | _ => none
  | 18 => match st with
    | .inl x :: r => some (m_s1 ls a (m_I x), r)
    | _ => none
  | 19 => match st with
    | .inr (.inl x) :: r => some (m_s2 ls a (m_J x), r)
    | _ => none
  | 20 => match st with
    | .inr (.inr (.inl x)) :: r => some (m_s1 ls a (m_F x), r)
    | _ => none
  | 21 => match st with
    | .inr (.inr (.inr (.inl (some x)))) :: r => some (m_s1 ls a (m_R x), r)
    | _ => none
  | 22 => match m_ld ls a with
    | .inl x => some (m_s1 ls a (m_I (m_w (x + z))), st)
    | _ => none
  | _ => none
/-- what a field of a kind (0 int, 1 boolean, 2 long, 3 a reference) holds -/
def m_fv (μ : m_M) (c k : Nat) (t : Int) : m_V := if t = 2 then m_J (μ.2 c k) else if t = 3 then m_O (m_gr μ c k) else m_I (μ.2 c k)
/-- what works on the stack and memory; X: the script -/
def m_mk (X : Option (Nat × (Nat → Int))) (op a b : Nat) (z : Int) (st : List m_V) (μ : m_M) : Option (List m_V × m_M) :=
  match op with
  | 53 => match st with
    | .inr (.inr (.inr (.inl (some c)))) :: r => if m_gk μ c = (0, a) then some (m_fv μ c b z :: r, μ) else none
    | _ => none
  | 54 => match st with
    | .inl x :: .inr (.inr (.inr (.inl (some c)))) :: r => if m_gk μ c = (0, a) ∧ (z = 0 ∨ z = 1 ∧ (x = 0 ∨ x = 1)) then some (r, (μ.1, m_up μ.2 c b x)) else none
    | .inr (.inl x) :: .inr (.inr (.inr (.inl (some c)))) :: r => if m_gk μ c = (0, a) ∧ z = 2 then some (r, (μ.1, m_up μ.2 c b x)) else none
    | .inr (.inr (.inr (.inl o))) :: .inr (.inr (.inr (.inl (some c)))) :: r => if m_gk μ c = (0, a) ∧ z = 3 ∧ b < (m_g μ c).2.length then some (r, (m_sr μ.1 c b o, μ.2)) else none
    | _ => none
  | 55 => match st with
    | .inl n :: r => if 0 ≤ n ∧ n ≤ 4096 then some (m_R μ.1.length :: r, (μ.1 ++ [((a, n.toNat), [])], m_zr μ.2 μ.1.length)) else none
    | _ => none
  | 56 => match st with
    | .inl n :: r => if 0 ≤ n ∧ n ≤ 4096 then some (m_R μ.1.length :: r, (μ.1 ++ [((4, n.toNat), List.replicate n.toNat none)], μ.2)) else none
    | _ => none
  | 57 => some (m_R μ.1.length :: st, (μ.1 ++ [((0, a), List.replicate z.toNat none)], m_zr μ.2 μ.1.length))
  | 58 => match st with
    | .inr (.inr (.inr (.inl (some c)))) :: r => if 1 ≤ (m_gk μ c).1 ∧ (m_gk μ c).1 ≤ 4 then some (m_I (m_gk μ c).2 :: r, μ) else none
    | .inr (.inr (.inr (.inr true))) :: r => match X with
      | some x => some (m_I x.1 :: r, μ)
      | none => none
    | _ => none
  | 59 => match st with
    | .inl i :: .inr (.inr (.inr (.inl (some c)))) :: r => if (m_gk μ c).1 = 1 ∧ 0 ≤ i ∧ i < (m_gk μ c).2 then some (m_I (μ.2 c i.toNat) :: r, μ) else none
    | .inl i :: .inr (.inr (.inr (.inr true))) :: r => match X with
      | some x => if 0 ≤ i ∧ i < x.1 then some (m_I (x.2 i.toNat) :: r, μ) else none
      | none => none
    | _ => none
  | 60 => match st with
    | .inl i :: .inr (.inr (.inr (.inl (some c)))) :: r => if (m_gk μ c).1 = 2 ∧ 0 ≤ i ∧ i < (m_gk μ c).2 then some (m_J (μ.2 c i.toNat) :: r, μ) else none
    | _ => none
  | 61 => match st with
    | .inl i :: .inr (.inr (.inr (.inl (some c)))) :: r => if (m_gk μ c).1 = 3 ∧ 0 ≤ i ∧ i < (m_gk μ c).2 then some (m_I (μ.2 c i.toNat) :: r, μ) else none
    | _ => none
  | 62 => match st with
    | .inl i :: .inr (.inr (.inr (.inl (some c)))) :: r => if (m_gk μ c).1 = 4 ∧ 0 ≤ i ∧ i < (m_gk μ c).2 then some (m_O (m_gr μ c i.toNat) :: r, μ) else none
    | _ => none
  | 63 => match st with
    | .inl x :: .inl i :: .inr (.inr (.inr (.inl (some c)))) :: r => if (m_gk μ c).1 = 1 ∧ 0 ≤ i ∧ i < (m_gk μ c).2 then some (r, (μ.1, m_up μ.2 c i.toNat x)) else none
    | _ => none
  | 64 => match st with
    | .inr (.inl x) :: .inl i :: .inr (.inr (.inr (.inl (some c)))) :: r => if (m_gk μ c).1 = 2 ∧ 0 ≤ i ∧ i < (m_gk μ c).2 then some (r, (μ.1, m_up μ.2 c i.toNat x)) else none
    | _ => none
  | 65 => match st with
    | .inl x :: .inl i :: .inr (.inr (.inr (.inl (some c)))) :: r => if (m_gk μ c).1 = 3 ∧ 0 ≤ i ∧ i < (m_gk μ c).2 then some (r, (μ.1, m_up μ.2 c i.toNat (m_b x))) else none
    | _ => none
  | 66 => match st with
    | .inr (.inr (.inr (.inl (some j)))) :: .inl i :: .inr (.inr (.inr (.inl (some c)))) :: r => if (m_gk μ c).1 = 4 ∧ 0 ≤ i ∧ i < (m_gk μ c).2 ∧ m_gk μ j = (0, 7) ∧ i.toNat < (m_g μ c).2.length then some (r, (m_sr μ.1 c i.toNat (some j), μ.2)) else none
    | _ => none
  | 67 => match st with
    | .inr (.inr (.inr (.inl (some _)))) :: r => if r.length ≤ 4 then some (r, μ) else none
    | _ => none
  | 68 => match st with
    | .inl n :: .inl dp :: .inr (.inr (.inr (.inl (some d)))) :: .inl sp :: .inr (.inr (.inr (.inl (some c)))) :: r =>
      if (m_gk μ c).1 = 1 ∧ (m_gk μ d).1 = 1 ∧ 0 ≤ sp ∧ 0 ≤ dp ∧ 0 ≤ n ∧ sp + n ≤ (m_gk μ c).2 ∧ dp + n ≤ (m_gk μ d).2 ∧ r.length ≤ 4 then some (r, (μ.1, m_cp μ.2 c d sp.toNat dp.toNat n.toNat)) else none
    | _ => none
  | 69 => match st with
    | .inr (.inr (.inl x)) :: r => if r.length ≤ 4 then some (m_I x.toInt32.toInt :: r, μ) else none
    | _ => none
  | _ => none
def m_stp (X : Option (Nat × (Nat → Int))) (i : m_P) (ls st : List m_V) (μ : m_M) : Option (List m_V × List m_V × m_M) :=
  if 53 ≤ i.1 then (m_mk X i.1 i.2.1 i.2.2.1 i.2.2.2 st μ).map (fun q => (ls, q.1, q.2))
  else if 14 ≤ i.1 ∧ i.1 ≤ 22 then (m_lk i.1 i.2.1 i.2.2.2 ls st).map (fun q => (q.1, q.2, μ))
  else (m_sk i.1 i.2.1 i.2.2.2 st).map (fun q => (ls, q, μ))
def m_cnd (c : Nat) (x y : Int) : Bool := match c with
  | 0 => decide (x = y)
  | 1 => decide (¬ x = y)
  | 2 => decide (x < y)
  | 3 => decide (y ≤ x)
  | 4 => decide (y < x)
  | _ => decide (x ≤ y)
def m_ret (k : Nat) (st : List m_V) (μ : m_M) : Option (Option m_V × m_M) := match k, st with
  | 0, [] => some (none, μ)
  | 1, [.inl x] => some (some (m_I x), μ)
  | 2, [.inl x] => if x = 0 ∨ x = 1 then some (some (m_I x), μ) else none
  | 3, [.inr (.inl x)] => some (some (m_J x), μ)
  | 4, [.inr (.inr (.inr (.inl o)))] => some (some (m_O o), μ)
  | _, _ => none
/-- whether a call's first argument is one of its class (z ≥ 0), any reference (-2), or it has none such (-1) -/
def m_rcv (z : Int) (as : List m_V) (μ : m_M) : Bool := if z = -1 then true else match as with
  | .inr (.inr (.inr (.inl (some c)))) :: _ => if z = -2 then true else decide (m_gk μ c = (0, z.toNat))
  | _ => false
abbrev m_C : Type := Nat → List m_V → m_M → Option (Option m_V × m_M)
/-- a call: n arguments are taken, the method's answer is put -/
def m_cal (f : m_C) (y n : Nat) (z : Int) (st : List m_V) (μ : m_M) : Option (List m_V × m_M) :=
  if n ≤ st.length ∧ (st.drop n).length ≤ 4 ∧ m_rcv z (st.take n).reverse μ = true then (f y (st.take n).reverse μ).map (fun q => (q.1.toList ++ st.drop n, q.2)) else none
def m_tsb (t : Int × Nat × List Nat) (x : Int) : Nat := if x < t.1 ∨ t.1 + t.2.2.length ≤ x then t.2.1 else t.2.2.getD (x - t.1).toNat t.2.1
def m_lsb : List (Int × Nat) → Nat → Int → Nat
  | [], d, _ => d
  | q :: r, d, x => if x = q.1 then q.2 else m_lsb r d x
def m_run (X : Option (Nat × (Nat → Int))) (f : m_C) (y : Nat) : Nat → List m_P → List m_V → List m_V → m_M → Option (Option m_V × m_M)
  | 0, _, _, _, _ => none
  | _ + 1, [], _, _, _ => none
  | n + 1, i :: is, ls, st, μ =>
    match i.1 with
    | 0 => m_run X f y n (m_blk y i.2.1) ls st μ
    | 1 => match st with
      | .inl a :: r => if m_cnd i.2.1 a 0 = true then m_run X f y n (m_blk y i.2.2.1) ls r μ else m_run X f y n is ls r μ
      | _ => none
    | 2 => match st with
      | .inl b :: .inl a :: r => if m_cnd i.2.1 a b = true then m_run X f y n (m_blk y i.2.2.1) ls r μ else m_run X f y n is ls r μ
      | _ => none
    | 3 => match st with
      | .inr (.inr (.inr (.inl none))) :: r => m_run X f y n (m_blk y i.2.1) ls r μ
      | .inr (.inr (.inr (.inl (some _)))) :: r => m_run X f y n is ls r μ
      | _ => none
    | 4 => match st with
      | .inr (.inr (.inr (.inl none))) :: r => m_run X f y n is ls r μ
      | .inr (.inr (.inr (.inl (some _)))) :: r => m_run X f y n (m_blk y i.2.1) ls r μ
      | _ => none
    | 5 => match st with
      | .inl a :: r => m_run X f y n (m_blk y (m_tsb (m_tsl i.2.1) a)) ls r μ
      | _ => none
    | 6 => m_ret i.2.1 st μ
    | 7 => match m_cal f i.2.1 i.2.2.1 i.2.2.2 st μ with
      | some q => m_run X f y n is ls q.1 q.2
      | none => none
    | 8 => m_run X f y n (m_blk y i.2.1) ls st μ
    | 9 => match st with
      | .inl a :: r => m_run X f y n (m_blk y (m_lsb (m_lsl i.2.1).2 (m_lsl i.2.1).1 a)) ls r μ
      | _ => none
    | _ => match m_stp X i ls st μ with
      | some q => m_run X f y n is q.1 q.2.1 q.2.2
      | none => none
/-- how many locals arguments take -/
def m_as : List m_V → Nat
  | [] => 0
  | .inr (.inl _) :: r => m_as r + 2
  | _ :: r => m_as r + 1
/-- a run that a program can follow to its end -/
def m_go (n : Nat) : Nat → m_C
  | 0, _, _, _ => none
  | d + 1, y, as, μ => if m_as as ≤ m_ml y then m_run none (m_go n d) y n (m_blk y 0) (m_en (m_ml y) as) [] μ else none
end
section
/-! the pure machine's values and the machine's -/
def m_in (z : Int) : Prop := -2147483648 ≤ z ∧ z < 2147483648
def m_il (z : Int) : Prop := -9223372036854775808 ≤ z ∧ z < 9223372036854775808
def m_re (ads : Nat → Nat) (b : Nat) : m_V → Value
  | .inl z => .int (Int32.ofInt z)
  | .inr (.inl z) => .long (Int64.ofInt z)
  | .inr (.inr (.inl f)) => .float f
  | .inr (.inr (.inr (.inl o))) => va_rf (o.map ads)
  | .inr (.inr (.inr (.inr true))) => .ref b
  | .inr (.inr (.inr (.inr false))) => .null
/-- in range; references to cells below n -/
def m_okw (n : Nat) : m_V → Prop
  | .inl z => m_in z
  | .inr (.inl z) => m_il z
  | .inr (.inr (.inr (.inl o))) => ∀ k, o = some k → k < n
  | _ => True
theorem m_ofI {z : Int} (h : m_in z) : (Int32.ofInt z).toInt = z := Int32.toInt_ofInt_of_le (by have := h.1; omega) (by have := h.2; omega)
theorem m_ofL {z : Int} (h : m_il z) : (Int64.ofInt z).toInt = z := Int64.toInt_ofInt_of_le (by have := h.1; omega) (by have := h.2; omega)
theorem m_inI (x : Int32) : m_in x.toInt := ⟨by have := x.le_toInt; omega, by have := x.toInt_lt; omega⟩
theorem m_ilL (x : Int64) : m_il x.toInt := ⟨by have := x.le_toInt; omega, by have := x.toInt_lt; omega⟩
theorem m_w_bm (z : Int) : m_w z = z.bmod (2 ^ 32) := by
  unfold m_w Int.bmod
  simp only [show (2 ^ 32 : Nat) = 4294967296 from rfl]
  split <;> omega
theorem m_inw (z : Int) : m_in (m_w z) := by unfold m_in m_w; omega
theorem m_ilx (z : Int) : m_il (m_x z) := by unfold m_il m_x; omega
theorem m_x_bm (z : Int) : m_x z = z.bmod (2 ^ 64) := by
  unfold m_x Int.bmod
  simp only [show (2 ^ 64 : Nat) = 18446744073709551616 from rfl]
  split <;> omega
theorem m_b_bm (z : Int) : m_b z = z.bmod (2 ^ 8) := by
  unfold m_b Int.bmod
  simp only [show (2 ^ 8 : Nat) = 256 from rfl]
  split <;> omega
theorem m_eqI {z : Int} (h : m_in z) {x : Int32} (e : x.toInt = z) : Int32.ofInt z = x := Int32.toInt_inj.mp ((m_ofI h).trans e.symm)
theorem m_eqL {z : Int} (h : m_il z) {x : Int64} (e : x.toInt = z) : Int64.ofInt z = x := Int64.toInt_inj.mp ((m_ofL h).trans e.symm)
theorem m_add {x y : Int} (hx : m_in x) (hy : m_in y) : Int32.ofInt (m_w (x + y)) = Int32.ofInt x + Int32.ofInt y := m_eqI (m_inw _) (by rw [Int32.toInt_add, m_ofI hx, m_ofI hy, m_w_bm])
theorem m_sub {x y : Int} (hx : m_in x) (hy : m_in y) : Int32.ofInt (m_w (x - y)) = Int32.ofInt x - Int32.ofInt y := m_eqI (m_inw _) (by rw [Int32.toInt_sub, m_ofI hx, m_ofI hy, m_w_bm])
theorem m_mul {x y : Int} (hx : m_in x) (hy : m_in y) : Int32.ofInt (m_w (x * y)) = Int32.ofInt x * Int32.ofInt y := m_eqI (m_inw _) (by rw [Int32.toInt_mul, m_ofI hx, m_ofI hy, m_w_bm])
theorem m_div {x y : Int} (hx : m_in x) (hy : m_in y) : Int32.ofInt (m_w (Int.tdiv x y)) = Int32.ofInt x / Int32.ofInt y := m_eqI (m_inw _) (by rw [Int32.toInt_div, m_ofI hx, m_ofI hy, m_w_bm])
theorem m_neg {x : Int} (hx : m_in x) : Int32.ofInt (m_w (-x)) = -Int32.ofInt x := m_eqI (m_inw _) (by rw [Int32.toInt_neg, m_ofI hx, m_w_bm])
theorem m_rem_t {x y : Int} (hx : m_in x) (hy : m_in y) : (Int32.ofInt x - Int32.ofInt x / Int32.ofInt y * Int32.ofInt y).toInt = Int.tmod x y := by rw [rem_toInt, m_ofI hx, m_ofI hy]
theorem m_rem {x y : Int} (hx : m_in x) (hy : m_in y) : m_in (Int.tmod x y) ∧ Int32.ofInt (Int.tmod x y) = Int32.ofInt x - Int32.ofInt x / Int32.ofInt y * Int32.ofInt y := by
  have h : m_in (Int.tmod x y) := by rw [← m_rem_t hx hy]; exact m_inI _
  exact ⟨h, m_eqI h (m_rem_t hx hy)⟩
theorem m_ne0 {y : Int} (hy : m_in y) (h : ¬ y = 0) : ¬ Int32.ofInt y = 0 := fun q => h (by rw [← m_ofI hy, q]; decide)
theorem m_ne0L {y : Int} (hy : m_il y) (h : ¬ y = 0) : ¬ Int64.ofInt y = 0 := fun q => h (by rw [← m_ofL hy, q]; decide)
theorem m_addL {x y : Int} (hx : m_il x) (hy : m_il y) : Int64.ofInt (m_x (x + y)) = Int64.ofInt x + Int64.ofInt y := m_eqL (m_ilx _) (by rw [Int64.toInt_add, m_ofL hx, m_ofL hy, m_x_bm])
theorem m_subL {x y : Int} (hx : m_il x) (hy : m_il y) : Int64.ofInt (m_x (x - y)) = Int64.ofInt x - Int64.ofInt y := m_eqL (m_ilx _) (by rw [Int64.toInt_sub, m_ofL hx, m_ofL hy, m_x_bm])
theorem m_mulL {x y : Int} (hx : m_il x) (hy : m_il y) : Int64.ofInt (m_x (x * y)) = Int64.ofInt x * Int64.ofInt y := m_eqL (m_ilx _) (by rw [Int64.toInt_mul, m_ofL hx, m_ofL hy, m_x_bm])
theorem m_divL {x y : Int} (hx : m_il x) (hy : m_il y) : Int64.ofInt (m_x (Int.tdiv x y)) = Int64.ofInt x / Int64.ofInt y := m_eqL (m_ilx _) (by rw [Int64.toInt_div, m_ofL hx, m_ofL hy, m_x_bm])
theorem m_negL {x : Int} (hx : m_il x) : Int64.ofInt (m_x (-x)) = -Int64.ofInt x := m_eqL (m_ilx _) (by rw [Int64.toInt_neg, m_ofL hx, m_x_bm])
theorem m_lrem (x y : Int64) : x - x / y * y = x % y := by
  apply Int64.toInt_inj.mp
  have h1 := Int64.le_toInt (x % y)
  have h2 := Int64.toInt_lt (x % y)
  rw [Int64.toInt_sub, Int64.toInt_mul, Int64.toInt_div, Int.bmod_mul_bmod, Int.sub_bmod_bmod, Int.mul_comm (x.toInt.tdiv y.toInt), ← Int.tmod_def, ← Int64.toInt_mod]
  exact Int.bmod_eq_of_le_mul_two (by omega) (by omega)
theorem m_rem_tL {x y : Int} (hx : m_il x) (hy : m_il y) : (Int64.ofInt x - Int64.ofInt x / Int64.ofInt y * Int64.ofInt y).toInt = Int.tmod x y := by rw [m_lrem, Int64.toInt_mod, m_ofL hx, m_ofL hy]
theorem m_remL {x y : Int} (hx : m_il x) (hy : m_il y) : m_il (Int.tmod x y) ∧ Int64.ofInt (Int.tmod x y) = Int64.ofInt x - Int64.ofInt x / Int64.ofInt y * Int64.ofInt y := by
  have h : m_il (Int.tmod x y) := by rw [← m_rem_tL hx hy]; exact m_ilL _
  exact ⟨h, m_eqL h (m_rem_tL hx hy)⟩
theorem m_cmp_in (x y : Int) : m_in (m_cmp x y) := by
  unfold m_cmp m_in
  split
  · decide
  · split <;> decide
theorem m_cmpL {x y : Int} (hx : m_il x) (hy : m_il y) : Int32.ofInt (m_cmp x y) = lg_cmp (Int64.ofInt x) (Int64.ofInt y) := by
  have e1 : (Int64.ofInt x > Int64.ofInt y) ↔ y < x := by rw [gt_iff_lt, Int64.lt_iff_toInt_lt, m_ofL hx, m_ofL hy]
  have e2 : (Int64.ofInt x = Int64.ofInt y) ↔ x = y := by rw [← Int64.toInt_inj, m_ofL hx, m_ofL hy]
  unfold m_cmp lg_cmp
  by_cases h1 : y < x
  · rw [if_pos h1, if_pos (e1.mpr h1)]; decide
  · rw [if_neg h1, if_neg (fun q => h1 (e1.mp q))]
    by_cases h2 : x = y
    · rw [if_pos h2, if_pos (e2.mpr h2)]; decide
    · rw [if_neg h2, if_neg (fun q => h2 (e2.mp q))]; decide
theorem m_i2l {x : Int} (hx : m_in x) : (Int32.ofInt x).toInt64 = Int64.ofInt x := (m_eqL ⟨by have := hx.1; omega, by have := hx.2; omega⟩ (by rw [Int32.toInt_toInt64, m_ofI hx])).symm
theorem m_in_b (x : Int) : m_in (m_b x) := by unfold m_in m_b; omega
theorem m_i2b {x : Int} (hx : m_in x) : (Int32.ofInt x).toInt8.toInt32 = Int32.ofInt (m_b x) := (m_eqI (m_in_b x) (by rw [lg_i2b_toInt, m_ofI hx, m_b_bm])).symm
theorem m_lt {x y : Int} (hx : m_in x) (hy : m_in y) : Int32.ofInt x < Int32.ofInt y ↔ x < y := by rw [Int32.lt_iff_toInt_lt, m_ofI hx, m_ofI hy]
theorem m_le {x y : Int} (hx : m_in x) (hy : m_in y) : Int32.ofInt x ≤ Int32.ofInt y ↔ x ≤ y := by rw [Int32.le_iff_toInt_le, m_ofI hx, m_ofI hy]
theorem m_eq {x y : Int} (hx : m_in x) (hy : m_in y) : Int32.ofInt x = Int32.ofInt y ↔ x = y := by rw [← Int32.toInt_inj, m_ofI hx, m_ofI hy]
theorem m_in0 : m_in 0 := by unfold m_in; decide
theorem m_of0 : Int32.ofInt 0 = 0 := by decide
theorem m_vpin {x : Int} (hx : m_in x) {n : Nat} (h0 : 0 ≤ x) (h1 : x < n) : vp_in (Int32.ofInt x) n := vp_in_iff.mpr (by rw [m_ofI hx]; exact ⟨h0, h1⟩)
theorem m_cl {x : Int} (hx : m_in x) : (Int32.ofInt x).toNatClampNeg = x.toNat := by
  show (Int32.ofInt x).toInt.toNat = x.toNat
  rw [m_ofI hx]
theorem m_nneg {x : Int} (hx : m_in x) (h : 0 ≤ x) : ¬ Int32.ofInt x < 0 := by
  rw [← m_of0, m_lt hx m_in0]; omega
/-! locals -/
theorem m_ld_st (v : m_V) : ∀ (l : List m_V) (i j : Nat), m_ld (m_st l i v) j = if j = i ∧ i < l.length then v else m_ld l j
  | [], i, j => by simp [m_st, m_ld]
  | a :: r, 0, 0 => by simp [m_st, m_ld]
  | a :: r, 0, j + 1 => by simp [m_st, m_ld]
  | a :: r, i + 1, 0 => by simp [m_st, m_ld]
  | a :: r, i + 1, j + 1 => by
    simp only [m_st, m_ld, List.length_cons, Nat.add_lt_add_iff_right, Nat.add_right_cancel_iff]
    exact m_ld_st v r i j
theorem m_len_st (v : m_V) : ∀ (l : List m_V) (i : Nat), (m_st l i v).length = l.length
  | [], _ => rfl
  | _ :: _, 0 => rfl
  | _ :: r, i + 1 => by simp [m_st, m_len_st v r i]
theorem m_ld_out : ∀ (l : List m_V) (j : Nat), l.length ≤ j → m_ld l j = m_U
  | [], _, _ => rfl
  | _ :: r, 0, h => absurd h (by simp)
  | _ :: r, j + 1, h => m_ld_out r j (by simpa using h)
theorem m_ld_rep (n j : Nat) : m_ld (List.replicate n m_U) j = m_U := by
  induction n generalizing j with
  | zero => rfl
  | succ n ih => cases j with
    | zero => rfl
    | succ j => exact ih j
def m_lg (v : m_V) : Bool := match v with
  | .inr (.inl _) => true
  | _ => false
theorem m_len_kl (l : List m_V) (i : Nat) : (m_kl l i).length = l.length := by
  unfold m_kl
  split
  · exact m_len_st _ _ _
  · rfl
theorem m_ld_kl (l : List m_V) (i j : Nat) : m_ld (m_kl l i) j = if j = i - 1 ∧ m_lg (m_ld l (i - 1)) = true then m_U else m_ld l j := by
  unfold m_kl
  split
  next z h =>
    rw [m_ld_st, h]
    have hl : i - 1 < l.length := Nat.not_le.mp fun q => by rw [m_ld_out l _ q] at h; cases h
    by_cases hj : j = i - 1
    · rw [if_pos ⟨hj, hl⟩, if_pos ⟨hj, rfl⟩]
    · rw [if_neg (fun q => hj q.1), if_neg (fun q => hj q.1)]
  next h =>
    rw [if_neg]
    rintro ⟨-, q⟩
    unfold m_lg at q
    split at q
    next z e => exact h z e
    next => cases q
theorem m_cat {ads : Nat → Nat} {b : Nat} (v : m_V) (h : m_lg v = false) : (m_re ads b v).category = 1 := by
  rcases v with z | z | z | o | u
  · rfl
  · cases h
  · rfl
  · cases o <;> rfl
  · cases u <;> rfl
def m_lh (ads : Nat → Nat) (b nL : Nat) (pls : List m_V) (ls : Array Slot) : Prop := pls.length = nL ∧ ls.size = nL ∧ lv_wf ls ∧ ∀ i, ¬ m_ld pls i = m_U → ls[i]? = some (.val (m_re ads b (m_ld pls i)))
def m_ll (ads : Nat → Nat) (b : Nat) (pls : List m_V) : List (Nat × Value) := ((List.range pls.length).filter (fun i => !decide (m_ld pls i = m_U))).map (fun i => (i, m_re ads b (m_ld pls i)))
theorem m_ll_in {ads : Nat → Nat} {b : Nat} {pls : List m_V} {j : Nat} (h : ¬ m_ld pls j = m_U) : (j, m_re ads b (m_ld pls j)) ∈ m_ll ads b pls := by
  refine List.mem_map.mpr ⟨j, List.mem_filter.mpr ⟨List.mem_range.mpr ?_, by simp [h]⟩, rfl⟩
  exact Nat.not_le.mp fun q => h (m_ld_out _ _ q)
theorem m_lh_has {ads : Nat → Nat} {b nL : Nat} {pls : List m_V} {ls : Array Slot} (h : m_lh ads b nL pls ls) : lv_has ls nL (m_ll ads b pls) := by
  refine ⟨h.2.1, h.2.2.1, fun q hq => ?_⟩
  obtain ⟨i, hi, rfl⟩ := List.mem_map.mp hq
  have := (List.mem_filter.mp hi).2
  exact h.2.2.2 i (by simpa using this)
theorem m_lh_s1 {ads : Nat → Nat} {b nL i : Nat} {pls : List m_V} {v : m_V} (hl : pls.length = nL) {ls' : Array Slot} (h : lv_has ls' nL ((i, m_re ads b v) :: (m_ll ads b pls).filter (fun q => !(q.1 == i) && !(q.1 + 1 == i && q.2.category == 2)))) : m_lh ads b nL (m_s1 pls i v) ls' := by
  refine ⟨?_, h.1, h.2.1, fun j hj => ?_⟩
  · rw [m_s1, m_len_st, m_len_kl, hl]
  · refine h.2.2 (j, _) ?_
    revert hj
    rw [m_s1, m_ld_st]
    by_cases hji : j = i ∧ i < (m_kl pls i).length
    · rw [if_pos hji]
      intro _
      rw [hji.1]
      exact List.mem_cons_self
    · rw [if_neg hji, m_ld_kl]
      split
      · intro q; exact absurd rfl q
      next hn =>
        intro hj
        refine List.mem_cons_of_mem _ (List.mem_filter.mpr ⟨m_ll_in hj, ?_⟩)
        have hne : j ≠ i := fun e => hji ⟨e, by
          rw [m_len_kl, ← e]
          exact Nat.not_le.mp fun q => hj (m_ld_out _ _ q)⟩
        simp only [Bool.and_eq_true, Bool.not_eq_true', beq_eq_false_iff_ne, ne_eq, hne, not_false_eq_true, true_and, Bool.and_eq_false_imp, beq_iff_eq]
        intro e
        have e2 : i - 1 = j := by omega
        have e3 : m_lg (m_ld pls j) = false := by
          cases q : m_lg (m_ld pls j) with
          | false => rfl
          | true => exact absurd ⟨e2.symm, by rw [e2]; exact q⟩ hn
        intro q
        exact absurd ((m_cat (ads := ads) (b := b) _ e3).symm.trans q) (by decide)
theorem m_lh_s2 {ads : Nat → Nat} {b nL i : Nat} {pls : List m_V} {v : m_V} (hl : pls.length = nL) {ls' : Array Slot} (h : lv_has ls' nL ((i, m_re ads b v) :: (m_ll ads b pls).filter (fun q => !(q.1 == i) && (!(q.1 == i + 1) && !(q.1 + 1 == i && q.2.category == 2))))) : m_lh ads b nL (m_s2 pls i v) ls' := by
  refine ⟨?_, h.1, h.2.1, fun j hj => ?_⟩
  · rw [m_s2, m_len_st, m_len_st, m_len_kl, hl]
  · refine h.2.2 (j, _) ?_
    revert hj
    rw [m_s2, m_ld_st]
    split
    · intro q; exact absurd rfl q
    next hn1 =>
    rw [m_ld_st]
    by_cases hji : j = i ∧ i < (m_kl pls i).length
    · rw [if_pos hji]
      intro _
      rw [hji.1]
      exact List.mem_cons_self
    · rw [if_neg hji, m_ld_kl]
      split
      · intro q; exact absurd rfl q
      next hn =>
        intro hj
        refine List.mem_cons_of_mem _ (List.mem_filter.mpr ⟨m_ll_in hj, ?_⟩)
        have hlt : j < pls.length := Nat.not_le.mp fun q => hj (m_ld_out _ _ q)
        have hne : j ≠ i := fun e => hji ⟨e, by rw [m_len_kl, ← e]; exact hlt⟩
        have hne2 : j ≠ i + 1 := fun e => hn1 ⟨e, by rw [m_len_st, m_len_kl, ← e]; exact hlt⟩
        simp only [Bool.and_eq_true, Bool.not_eq_true', beq_eq_false_iff_ne, ne_eq, hne, hne2, not_false_eq_true, true_and, Bool.and_eq_false_imp, beq_iff_eq]
        intro e
        have e2 : i - 1 = j := by omega
        have e3 : m_lg (m_ld pls j) = false := by
          cases q : m_lg (m_ld pls j) with
          | false => rfl
          | true => exact absurd ⟨e2.symm, by rw [e2]; exact q⟩ hn
        intro q
        exact absurd ((m_cat (ads := ads) (b := b) _ e3).symm.trans q) (by decide)
end
section
/-! the pure machine's memory as cells of the heap -/
def m_fval (ads : Nat → Nat) (σ : Nat → Nat → Int) (refs : List (Option Nat)) (c k t : Nat) : Value := match t with
  | 2 => .long (Int64.ofInt (σ c k))
  | 3 => va_rf (((refs[k]?).join).map ads)
  | _ => .int (Int32.ofInt (σ c k))
def m_fs (ads : Nat → Nat) (σ : Nat → Nat → Int) (refs : List (Option Nat)) (c : Nat) : Nat → List Nat → List Value
  | _, [] => []
  | k, t :: ts => m_fval ads σ refs c k t :: m_fs ads σ refs c (k + 1) ts
def m_ce (tc : Nat → ClassId) (ads : Nat → Nat) (σ : Nat → Nat → Int) (c : Nat) (g : m_G) : va_E := match g.1.1 with
  | 0 => .inr (g.1.2, m_fs ads σ g.2 c 0 (m_FC.getD g.1.2 []))
  | 1 => .inl (tc 0, g.1.2, .inl (fun j => Int32.ofInt (σ c j)))
  | 2 => .inl (tc 1, g.1.2, .inr (.inl (fun j => Int64.ofInt (σ c j))))
  | 3 => .inl (tc 2, g.1.2, .inl (fun j => Int32.ofInt (σ c j)))
  | _ => .inl (tc 3, g.1.2, .inr (.inr (.inr (.inr (fun j => ((g.2[j]?).join).map ads)))))
def m_ws (tc : Nat → ClassId) (ads : Nat → Nat) (μ : m_M) : va_W := (List.range μ.1.length).map (fun c => (ads c, m_ce tc ads μ.2 c (m_g μ c)))
abbrev m_tys (tc : Nat → ClassId) : List (ClassId × FieldType) := [(tc 0, .int), (tc 1, .long), (tc 2, .byte), (tc 3, .object RX7)]
theorem m_fs_get (ads : Nat → Nat) (σ : Nat → Nat → Int) (refs : List (Option Nat)) (c : Nat) : ∀ (ts : List Nat) (k j : Nat), (m_fs ads σ refs c k ts)[j]? = (ts[j]?).map (fun t => m_fval ads σ refs c (k + j) t)
  | [], _, _ => by simp [m_fs]
  | t :: ts, k, 0 => by simp [m_fs]
  | t :: ts, k, j + 1 => by
    simp only [m_fs, List.getElem?_cons_succ]
    rw [m_fs_get ads σ refs c ts (k + 1) j, show k + 1 + j = k + (j + 1) by omega]
theorem m_fs_len (ads : Nat → Nat) (σ : Nat → Nat → Int) (refs : List (Option Nat)) (c : Nat) : ∀ (ts : List Nat) (k : Nat), (m_fs ads σ refs c k ts).length = ts.length
  | [], _ => rfl
  | _ :: ts, k => by simp [m_fs, m_fs_len ads σ refs c ts (k + 1)]
theorem m_ws_get {tc : Nat → ClassId} {ads : Nat → Nat} {μ : m_M} {c : Nat} (h : c < μ.1.length) : (m_ws tc ads μ)[c]? = some (ads c, m_ce tc ads μ.2 c (m_g μ c)) := by
  simp [m_ws, h]
theorem m_ws_len {tc : Nat → ClassId} {ads : Nat → Nat} {μ : m_M} : (m_ws tc ads μ).length = μ.1.length := by simp [m_ws]
theorem m_ws_set {tc : Nat → ClassId} {ads : Nat → Nat} {μ μ' : m_M} {c : Nat} {X : va_E} (hl : μ'.1.length = μ.1.length) (hc : c < μ.1.length) (hne : ∀ c', c' ≠ c → m_ce tc ads μ'.2 c' (m_g μ' c') = m_ce tc ads μ.2 c' (m_g μ c')) (he : m_ce tc ads μ'.2 c (m_g μ' c) = X) : (m_ws tc ads μ).set c (ads c, X) = m_ws tc ads μ' := by
  apply List.ext_getElem?
  intro i
  by_cases hi : i < μ.1.length
  · rw [m_ws_get (by rw [hl]; exact hi)]
    by_cases e : c = i
    · subst e
      rw [List.getElem?_set_self (by rw [m_ws_len]; exact hi), he]
    · rw [List.getElem?_set_ne e, m_ws_get hi, hne i (fun q => e q.symm)]
  · rw [List.getElem?_eq_none (by rw [List.length_set, m_ws_len]; omega), List.getElem?_eq_none (by rw [m_ws_len]; omega)]
theorem m_ws_push {tc : Nat → ClassId} {ads ads' : Nat → Nat} {μ μ' : m_M} {q : Nat} {X : va_E} (hl : μ'.1.length = μ.1.length + 1) (hq : ads' μ.1.length = q) (ha : ∀ c, c < μ.1.length → ads' c = ads c) (hne : ∀ c, c < μ.1.length → m_ce tc ads' μ'.2 c (m_g μ' c) = m_ce tc ads μ.2 c (m_g μ c)) (he : m_ce tc ads' μ'.2 μ.1.length (m_g μ' μ.1.length) = X) : m_ws tc ads μ ++ [(q, X)] = m_ws tc ads' μ' := by
  apply List.ext_getElem?
  intro i
  by_cases hi : i < μ.1.length
  · rw [m_ws_get (by omega), List.getElem?_append_left (by rw [m_ws_len]; exact hi), m_ws_get hi, hne i hi, ha i hi]
  · by_cases e : i = μ.1.length
    · subst e
      rw [m_ws_get (by omega), List.getElem?_append_right (by rw [m_ws_len]; omega), m_ws_len, Nat.sub_self, List.getElem?_cons_zero, he, hq]
    · rw [List.getElem?_eq_none (by rw [List.length_append, m_ws_len]; simp; omega), List.getElem?_eq_none (by rw [m_ws_len]; omega)]
/-- the kind of a place: 0 and 1 ints, 2 longs -/
def m_tk (G : List m_G) (c k : Nat) : Nat := match (G.getD c ((9, 0), [])).1.1 with
  | 0 => (m_FC.getD (G.getD c ((9, 0), [])).1.2 []).getD k 9
  | 1 => 0
  | 2 => 2
  | 3 => 0
  | _ => 9
def m_mok (μ : m_M) : Prop := (∀ c k, m_tk μ.1 c k ≤ 1 → m_in (μ.2 c k)) ∧ (∀ c k, m_tk μ.1 c k = 2 → m_il (μ.2 c k)) ∧ (∀ c k j, m_gr μ c k = some j → j < μ.1.length) ∧ ∀ c, (m_gk μ c).2 ≤ 4096
theorem m_lt_of {μ : m_M} {c : Nat} (h : ¬ (m_gk μ c).1 = 9) : c < μ.1.length := by
  refine Nat.not_le.mp fun q => h ?_
  rw [m_gk, m_g, List.getD_eq_getElem?_getD, List.getElem?_eq_none q]
  rfl
theorem m_ce_up {tc : Nat → ClassId} {ads : Nat → Nat} {σ : Nat → Nat → Int} {c c' k : Nat} {z : Int} {g : m_G} (h : c' ≠ c) : m_ce tc ads (m_up σ c k z) c' g = m_ce tc ads σ c' g := by
  have e : ∀ j, m_up σ c k z c' j = σ c' j := fun j => by unfold m_up; rw [if_neg (fun q => h q.1)]
  have e2 : ∀ (ts : List Nat) (i : Nat), m_fs ads (m_up σ c k z) g.2 c' i ts = m_fs ads σ g.2 c' i ts := by
    intro ts
    induction ts with
    | nil => intro i; rfl
    | cons t ts ih =>
      intro i
      simp only [m_fs, ih]
      congr 1
      unfold m_fval
      split <;> simp [e]
  unfold m_ce
  split <;> simp only [e, e2]
theorem m_ce_zr {tc : Nat → ClassId} {ads : Nat → Nat} {σ : Nat → Nat → Int} {c c' : Nat} {g : m_G} (h : c' ≠ c) : m_ce tc ads (m_zr σ c) c' g = m_ce tc ads σ c' g := by
  have e : ∀ j, m_zr σ c c' j = σ c' j := fun j => by unfold m_zr; rw [if_neg h]
  have e2 : ∀ (ts : List Nat) (i : Nat), m_fs ads (m_zr σ c) g.2 c' i ts = m_fs ads σ g.2 c' i ts := by
    intro ts
    induction ts with
    | nil => intro i; rfl
    | cons t ts ih =>
      intro i
      simp only [m_fs, ih]
      congr 1
      unfold m_fval
      split <;> simp [e]
  unfold m_ce
  split <;> simp only [e, e2]
theorem m_ce_cp {tc : Nat → ClassId} {ads : Nat → Nat} {σ : Nat → Nat → Int} {cs c c' sp dp n : Nat} {g : m_G} (h : c' ≠ c) : m_ce tc ads (m_cp σ cs c sp dp n) c' g = m_ce tc ads σ c' g := by
  have e : ∀ j, m_cp σ cs c sp dp n c' j = σ c' j := fun j => by unfold m_cp; rw [if_neg (fun q => h q.1)]
  have e2 : ∀ (ts : List Nat) (i : Nat), m_fs ads (m_cp σ cs c sp dp n) g.2 c' i ts = m_fs ads σ g.2 c' i ts := by
    intro ts
    induction ts with
    | nil => intro i; rfl
    | cons t ts ih =>
      intro i
      simp only [m_fs, ih]
      congr 1
      unfold m_fval
      split <;> simp [e]
  unfold m_ce
  split <;> simp only [e, e2]
/-- references below n look the same at addresses that agree below n -/
theorem m_map_eq {ads ads' : Nat → Nat} {n : Nat} (ha : ∀ c, c < n → ads' c = ads c) {o : Option Nat} (h : ∀ j, o = some j → j < n) : o.map ads' = o.map ads := by
  cases o with
  | none => rfl
  | some j => simp [ha j (h j rfl)]
theorem m_ce_ads {tc : Nat → ClassId} {ads ads' : Nat → Nat} {σ : Nat → Nat → Int} {c n : Nat} {g : m_G} (ha : ∀ c, c < n → ads' c = ads c) (h : ∀ (k j : Nat), (g.2[k]?).join = some j → j < n) : m_ce tc ads' σ c g = m_ce tc ads σ c g := by
  have e : ∀ k, ((g.2[k]?).join).map ads' = ((g.2[k]?).join).map ads := fun k => m_map_eq ha (h k)
  have e2 : ∀ (ts : List Nat) (i : Nat), m_fs ads' σ g.2 c i ts = m_fs ads σ g.2 c i ts := by
    intro ts
    induction ts with
    | nil => intro i; rfl
    | cons t ts ih =>
      intro i
      simp only [m_fs, ih]
      congr 1
      unfold m_fval
      split <;> simp [e]
  unfold m_ce
  split <;> simp only [e, e2]
theorem m_re_ads {ads ads' : Nat → Nat} {b n : Nat} (ha : ∀ c, c < n → ads' c = ads c) {v : m_V} (h : m_okw n v) : m_re ads' b v = m_re ads b v := by
  rcases v with z | z | z | o | u
  · rfl
  · rfl
  · rfl
  · show va_rf (o.map ads') = va_rf (o.map ads)
    rw [m_map_eq ha h]
  · cases u <;> rfl
theorem m_okw_mono {n n' : Nat} (h : n ≤ n') {v : m_V} (hv : m_okw n v) : m_okw n' v := by
  rcases v with z | z | z | o | u
  · exact hv
  · exact hv
  · exact hv
  · exact fun k hk => Nat.lt_of_lt_of_le (hv k hk) h
  · exact hv
def m_sz : List m_G → Nat
  | [] => 0
  | g :: r => (if g.1.1 = 0 then m_fn g.1.2 else g.1.2) + m_sz r
theorem m_sz_app (G : List m_G) (g : m_G) : m_sz (G ++ [g]) = m_sz G + (if g.1.1 = 0 then m_fn g.1.2 else g.1.2) := by
  induction G with
  | nil => simp [m_sz]
  | cons a r ih => simp only [List.cons_append, m_sz, ih]; omega
end
section
/-! one step of the pure machine is one step of the machine: what works on the stack alone, and on locals -/
/-- what is the same all along a frame's walk -/
def m_Fx (p : Program) (R : Room) (s : State) (m : MethodId) (args : Array Value) (meth : Method) (c : Code) (dC : Nat → ClassId) (dI : Nat → Nat → Nat) (tc : Nat → ClassId) (A : Nat → Prop) (X : Option (Nat × (Nat → Int))) (b y : Nat) : Prop :=
  p.tables.exec = Jvm.exec ∧ c.code = m_by y ∧ c.maxLocals = m_ml y ∧ s.vm.findClass (m_cn (m_own y)) = some m.cls ∧ (∀ w ∈ lw_tbl.filter goodWord, w.before args s = true) ∧ va_K (dC, dI) vwCl (m_tys tc) s ∧
  (∀ q ∈ m_ML, q.2.1 = 3 ∨ q.2.1 = 4 → va_Nw (.methodLinkNest (m_cn q.1.1) q.1.2 (m_nm q.2.2.1) RX9) s) ∧ va_AO RX7 s ∧ (∀ q, s.heap.size ≤ q → A q) ∧ meth.name = (m_nm y).name ∧
  (∀ x, X = some x → va_X b x.1 (fun j => Int32.ofInt (x.2 j)) s s.heap ∧ b < s.heap.size ∧ ¬ A b ∧ (∀ j, m_in (x.2 j)) ∧ x.1 ≤ 2560) ∧ 1 ≤ R.frames ∧ 35 ≤ R.locals
/-- from the pure machine's state at pc, in any heap that holds it, the goal is reached; n0 and z0: cells and slots at the frame's beginning, ads0: the addresses then -/
def m_W (p : Program) (l : Launch) (e : Env) (R : Room) (s : State) (m : MethodId) (args : Array Value) (below : List Frame) (meth : Method) (c : Code) (Q : State → Prop) (dC : Nat → ClassId) (dI : Nat → Nat → Nat) (tc : Nat → ClassId) (A : Nat → Prop) (b nL n0 z0 : Nat) (ads0 : Nat → Nat) (pc : Nat) (pls st : List m_V) (μ : m_M) : Prop :=
  ∀ (ads : Nat → Nat) (H : Heap) (locs : List Loc) (ls : Array Slot), (∀ k, k < n0 → ads k = ads0 k) → n0 ≤ μ.1.length → z0 ≤ m_sz μ.1 → va_P (dC, dI) vwCl (m_ws tc ads μ) H → va_D A (m_ws tc ads μ) → va_S A s.heap H locs → m_mok μ →
    m_lh ads b nL pls ls → (∀ i, m_okw μ.1.length (m_ld pls i)) → (∀ v ∈ st, m_okw μ.1.length v) →
    W p l e R s m args below meth c H locs (μ.1.length - n0) (m_sz μ.1 - z0) Q (F0 m pc ls (st.map (m_re ads b)))
section MS
variable {p : Program} {l : Launch} {e : Env} {R : Room} {s : State} {m : MethodId} {args : Array Value} {below : List Frame} {meth : Method} {c : Code} {Q : State → Prop}
variable {H : Heap} {locs : List Loc} {cells slots : Nat} {ls : Array Slot}
variable {dC : Nat → ClassId} {dI : Nat → Nat → Nat} {tc : Nat → ClassId} {A : Nat → Prop} {X : Option (Nat × (Nat → Int))} {b y : Nat}
theorem m_ldcwf {cc : ByteArray} {pc : Nat} {rest : List Value} (hexec : p.tables.exec = Jvm.exec) (hb : c.code = cc) {own : String} {index : Nat} {v : UInt32} (hown : s.vm.findClass own = some m.cls) (hconst : (Jvm.Cond.constantFloat own index v).before args s = true) (hdg : decode cc pc = .ok (.ldc_w index, 3)) (k : W p l e R s m args below meth c H locs cells slots Q (F0 m (pc + 3) ls (.float v :: rest))) : W p l e R s m args below meth c H locs cells slots Q (F0 m pc ls rest) := by
  intro T hT X
  obtain ⟨t, a, b1⟩ := k T hT X
  refine ⟨t, ?_, b1⟩
  obtain ⟨k, cf, hk, hcf, hcp⟩ := Cond.constantFloat_spec hown hconst
  obtain ⟨k', hk', he⟩ := X.warmed.alike.2.2 _ _ hk
  subst hb
  jvm_step X.here [hexec, hdg, ldc_w.wp_float (s := T) (f := F0 m pc ls rest) X.here.top hk' (by rw [he]; exact hcf) hcp]
  exact a
theorem m_ii_inv {f : Int → Int → Int} {st st' : List m_V} (h : m_ii f st = some st') : ∃ x y r, st = m_I y :: m_I x :: r ∧ st' = m_I (f x y) :: r := by
  unfold m_ii at h
  split at h
  next y x r => cases h; exact ⟨x, y, r, rfl, rfl⟩
  next => cases h
theorem m_id_inv {f : Int → Int → Int} {st st' : List m_V} (h : m_id f st = some st') : ∃ x y r, st = m_I y :: m_I x :: r ∧ st' = m_I (f x y) :: r ∧ ¬ y = 0 := by
  unfold m_id at h
  split at h
  next y x r =>
    split at h
    next => cases h
    next hn => cases h; exact ⟨x, y, r, rfl, rfl, hn⟩
  next => cases h
theorem m_jj_inv {f : Int → Int → Int} {st st' : List m_V} (h : m_jj f st = some st') : ∃ x y r, st = m_J y :: m_J x :: r ∧ st' = m_J (f x y) :: r := by
  unfold m_jj at h
  split at h
  next y x r => cases h; exact ⟨x, y, r, rfl, rfl⟩
  next => cases h
theorem m_jd_inv {f : Int → Int → Int} {st st' : List m_V} (h : m_jd f st = some st') : ∃ x y r, st = m_J y :: m_J x :: r ∧ st' = m_J (f x y) :: r ∧ ¬ y = 0 := by
  unfold m_jd at h
  split at h
  next y x r =>
    split at h
    next => cases h
    next hn => cases h; exact ⟨x, y, r, rfl, rfl, hn⟩
  next => cases h
theorem m_ff_inv {f : UInt32 → UInt32 → UInt32} {st st' : List m_V} (h : m_ff f st = some st') : ∃ x y r, st = m_F y :: m_F x :: r ∧ st' = m_F (f x y) :: r ∧ vf_n32 (f x y) := by
  unfold m_ff at h
  split at h
  next y x r =>
    split at h
    next hn => cases h; exact ⟨x, y, r, rfl, rfl, hn⟩
    next => cases h
  next => cases h
theorem m_two {n : Nat} {v w : m_V} {r : List m_V} (h : ∀ u ∈ v :: w :: r, m_okw n u) : m_okw n v ∧ m_okw n w ∧ ∀ u ∈ r, m_okw n u :=
  ⟨h v List.mem_cons_self, h w (List.mem_cons_of_mem _ List.mem_cons_self), fun u hu => h u (List.mem_cons_of_mem _ (List.mem_cons_of_mem _ hu))⟩
theorem m_one {n : Nat} {v : m_V} {r : List m_V} (h : ∀ u ∈ v :: r, m_okw n u) : m_okw n v ∧ ∀ u ∈ r, m_okw n u :=
  ⟨h v List.mem_cons_self, fun u hu => h u (List.mem_cons_of_mem _ hu)⟩
theorem m_put {n : Nat} {v : m_V} {r : List m_V} (hv : m_okw n v) (h : ∀ u ∈ r, m_okw n u) : ∀ u ∈ v :: r, m_okw n u := by
  intro u hu
  rcases List.mem_cons.mp hu with rfl | hu
  · exact hv
  · exact h u hu
theorem m_ok_s1 {n i : Nat} {pls : List m_V} {v : m_V} (h : ∀ j, m_okw n (m_ld pls j)) (hv : m_okw n v) : ∀ j, m_okw n (m_ld (m_s1 pls i v) j) := by
  intro j
  rw [m_s1, m_ld_st]
  split
  · exact hv
  · rw [m_ld_kl]
    split
    · exact trivial
    · exact h j
theorem m_ok_s2 {n i : Nat} {pls : List m_V} {v : m_V} (h : ∀ j, m_okw n (m_ld pls j)) (hv : m_okw n v) : ∀ j, m_okw n (m_ld (m_s2 pls i v) j) := by
  intro j
  rw [m_s2, m_ld_st]
  split
  · exact trivial
  · rw [m_ld_st]
    split
    · exact hv
    · rw [m_ld_kl]
      split
      · exact trivial
      · exact h j
set_option maxHeartbeats 4000000 in
/-- an instruction that works on the stack alone -/
theorem m_sk_ok {ads : Nat → Nat} {n pc op a len : Nat} {z : Int} {r : Instr} {st st' : List m_V} (hF : m_Fx p R s m args meth c dC dI tc A X b y) (hr : m_oks (m_own y) r len op a z = true) (hd : decode (m_by y) pc = .ok (r, len)) (h : m_sk op a z st = some st') (hok : ∀ v ∈ st, m_okw n v) :
    (∀ v ∈ st', m_okw n v) ∧ (W p l e R s m args below meth c H locs cells slots Q (F0 m (pc + len) ls (st'.map (m_re ads b))) → W p l e R s m args below meth c H locs cells slots Q (F0 m pc ls (st.map (m_re ads b)))) := by
  obtain ⟨hx, hb, hml, hown, hts, hK, hN, hO, hA, hin, hX, hfr, hlo⟩ := hF
  unfold m_sk at h
  split at h
  · -- a small number
    cases h
    simp only [m_oks, Bool.and_eq_true, decide_eq_true_eq] at hr
    obtain ⟨h1, h2, hr⟩ := hr
    refine ⟨m_put (show m_in z from ⟨h1, h2⟩) hok, fun k => ?_⟩
    unfold m_oki at hr
    split at hr
    · simp only [Bool.and_eq_true, decide_eq_true_eq] at hr
      obtain ⟨rfl, rfl⟩ := hr
      exact lv_iconst hx hb hd rfl k
    · simp only [Bool.and_eq_true, decide_eq_true_eq] at hr
      obtain ⟨e, rfl⟩ := hr
      exact lv_bipush hx hb hd e k
    · simp only [Bool.and_eq_true, decide_eq_true_eq] at hr
      obtain ⟨e, rfl⟩ := hr
      exact lv_sipush hx hb hd e k
    · simp only [Bool.and_eq_true, decide_eq_true_eq, Option.map_eq_some_iff] at hr
      obtain ⟨⟨q, e, rfl⟩, rfl⟩ := hr
      exact lv_ldc hx hb hown (hts _ (m_wok_in (List.all_eq_true.mp m_CI_ok _ (m_lk2_in e)))) hd k
    · simp only [Bool.and_eq_true, decide_eq_true_eq, Option.map_eq_some_iff] at hr
      obtain ⟨⟨q, e, rfl⟩, rfl⟩ := hr
      exact lv_ldcw hx hb hown (hts _ (m_wok_in (List.all_eq_true.mp m_CI_ok _ (m_lk2_in e)))) hd k
    · cases hr
  · cases h
    simp only [m_oks, Bool.and_eq_true, decide_eq_true_eq] at hr
    obtain ⟨h1, h2, hr⟩ := hr
    refine ⟨m_put (show m_il z from ⟨h1, h2⟩) hok, fun k => ?_⟩
    unfold m_okj at hr
    split at hr
    · simp only [Bool.and_eq_true, decide_eq_true_eq] at hr
      obtain ⟨e, rfl⟩ := hr
      exact lv_lconst hx hb hd e k
    · simp only [Bool.and_eq_true, decide_eq_true_eq, Option.map_eq_some_iff] at hr
      obtain ⟨⟨q, e, rfl⟩, rfl⟩ := hr
      exact lv_ldc2 hx hb hown (hts _ (m_wok_in (List.all_eq_true.mp m_CJ_ok _ (m_lk2_in e)))) hd k
    · cases hr
  · cases h
    simp only [m_oks] at hr
    refine ⟨m_put trivial hok, fun k => ?_⟩
    have k : W p l e R s m args below meth c H locs cells slots Q (F0 m (pc + len) ls (.float (UInt32.ofNat a) :: st.map (m_re ads b))) := k
    unfold m_okf at hr
    split at hr
    · simp only [Bool.and_eq_true, Bool.or_eq_true, decide_eq_true_eq] at hr
      obtain ⟨⟨rfl, e⟩ | ⟨rfl, e⟩ | ⟨rfl, e⟩, rfl⟩ := hr
      · rw [e] at k; exact lv_fconst0 hx hb hd k
      · rw [e] at k; exact lv_fconst1 hx hb hd k
      · rw [e] at k; exact lv_fconst2 hx hb hd k
    · simp only [Bool.and_eq_true, decide_eq_true_eq, Option.map_eq_some_iff] at hr
      obtain ⟨⟨q, e, rfl⟩, rfl⟩ := hr
      exact lv_ldcf hx hb hown (hts _ (m_wok_in (List.all_eq_true.mp m_CF_ok _ (m_lk2_in e)))) hd k
    · simp only [Bool.and_eq_true, decide_eq_true_eq, Option.map_eq_some_iff] at hr
      obtain ⟨⟨q, e, rfl⟩, rfl⟩ := hr
      exact m_ldcwf hx hb hown (hts _ (m_wok_in (List.all_eq_true.mp m_CF_ok _ (m_lk2_in e)))) hd k
    · cases hr
  · cases h
    simp only [m_oks, Bool.and_eq_true, decide_eq_true_eq] at hr
    obtain ⟨rfl, rfl⟩ := hr
    exact ⟨m_put (fun k hk => by cases hk) hok, fun k => lv_null hx hb hd k⟩
  · simp only [m_oks, Bool.and_eq_true, decide_eq_true_eq] at hr
    obtain ⟨rfl, rfl⟩ := hr
    obtain ⟨x, w, r, rfl, rfl⟩ := m_ii_inv h
    obtain ⟨hw, hx2, hr2⟩ := m_two hok
    refine ⟨m_put (m_inw _) hr2, fun k => ?_⟩
    exact lv_iadd hx hb hd (by rw [← m_add hx2 hw]; exact k)
  · simp only [m_oks, Bool.and_eq_true, decide_eq_true_eq] at hr
    obtain ⟨rfl, rfl⟩ := hr
    obtain ⟨x, w, r, rfl, rfl⟩ := m_ii_inv h
    obtain ⟨hw, hx2, hr2⟩ := m_two hok
    refine ⟨m_put (m_inw _) hr2, fun k => ?_⟩
    exact lv_isub hx hb hd (by rw [← m_sub hx2 hw]; exact k)
  · simp only [m_oks, Bool.and_eq_true, decide_eq_true_eq] at hr
    obtain ⟨rfl, rfl⟩ := hr
    obtain ⟨x, w, r, rfl, rfl⟩ := m_ii_inv h
    obtain ⟨hw, hx2, hr2⟩ := m_two hok
    refine ⟨m_put (m_inw _) hr2, fun k => ?_⟩
    exact lv_imul hx hb hd (by rw [← m_mul hx2 hw]; exact k)
  · simp only [m_oks, Bool.and_eq_true, decide_eq_true_eq] at hr
    obtain ⟨rfl, rfl⟩ := hr
    obtain ⟨x, w, r, rfl, rfl, hne⟩ := m_id_inv h
    obtain ⟨hw, hx2, hr2⟩ := m_two hok
    refine ⟨m_put (m_inw _) hr2, fun k => ?_⟩
    exact lv_idiv hx hb hd (m_ne0 hw hne) (by rw [← m_div hx2 hw]; exact k)
  · simp only [m_oks, Bool.and_eq_true, decide_eq_true_eq] at hr
    obtain ⟨rfl, rfl⟩ := hr
    obtain ⟨x, w, r, rfl, rfl, hne⟩ := m_id_inv h
    obtain ⟨hw, hx2, hr2⟩ := m_two hok
    refine ⟨m_put (m_rem hx2 hw).1 hr2, fun k => ?_⟩
    exact lv_irem hx hb hd (m_ne0 hw hne) (by rw [← (m_rem hx2 hw).2]; exact k)
  · simp only [m_oks, Bool.and_eq_true, decide_eq_true_eq] at hr
    obtain ⟨rfl, rfl⟩ := hr
    split at h
    next x r =>
      cases h
      obtain ⟨hw, hr2⟩ := m_one hok
      exact ⟨m_put (m_inw _) hr2, fun k => lv_ineg hx hb hd (by rw [← m_neg hw]; exact k)⟩
    next => cases h
  · simp only [m_oks, Bool.and_eq_true, decide_eq_true_eq] at hr
    obtain ⟨rfl, rfl⟩ := hr
    obtain ⟨x, w, r, rfl, rfl⟩ := m_ii_inv h
    obtain ⟨hw, hx2, hr2⟩ := m_two hok
    refine ⟨m_put (m_inI _) hr2, fun k => ?_⟩
    exact lv_iand hx hb hd (by have k : W p l e R s m args below meth c H locs cells slots Q (F0 m (pc + 1) ls (.int (Int32.ofInt (Int32.toInt _)) :: r.map (m_re ads b))) := k; rw [Int32.ofInt_toInt] at k; exact k)
  · simp only [m_oks, Bool.and_eq_true, decide_eq_true_eq] at hr
    obtain ⟨rfl, rfl⟩ := hr
    obtain ⟨x, w, r, rfl, rfl⟩ := m_ii_inv h
    obtain ⟨hw, hx2, hr2⟩ := m_two hok
    refine ⟨m_put (m_inI _) hr2, fun k => ?_⟩
    exact lv_ixor hx hb hd (by have k : W p l e R s m args below meth c H locs cells slots Q (F0 m (pc + 1) ls (.int (Int32.ofInt (Int32.toInt _)) :: r.map (m_re ads b))) := k; rw [Int32.ofInt_toInt] at k; exact k)
  · simp only [m_oks, Bool.and_eq_true, decide_eq_true_eq] at hr
    obtain ⟨rfl, rfl⟩ := hr
    obtain ⟨x, w, r, rfl, rfl⟩ := m_ii_inv h
    obtain ⟨hw, hx2, hr2⟩ := m_two hok
    refine ⟨m_put (m_inI _) hr2, fun k => ?_⟩
    exact lv_ishl hx hb hd (by have k : W p l e R s m args below meth c H locs cells slots Q (F0 m (pc + 1) ls (.int (Int32.ofInt (Int32.toInt _)) :: r.map (m_re ads b))) := k; rw [Int32.ofInt_toInt] at k; exact k)
  · simp only [m_oks, Bool.and_eq_true, decide_eq_true_eq] at hr
    obtain ⟨rfl, rfl⟩ := hr
    obtain ⟨x, w, r, rfl, rfl⟩ := m_ii_inv h
    obtain ⟨hw, hx2, hr2⟩ := m_two hok
    refine ⟨m_put (m_inI _) hr2, fun k => ?_⟩
    exact lv_ishr hx hb hd (by have k : W p l e R s m args below meth c H locs cells slots Q (F0 m (pc + 1) ls (.int (Int32.ofInt (Int32.toInt _)) :: r.map (m_re ads b))) := k; rw [Int32.ofInt_toInt] at k; exact k)
  · simp only [m_oks, Bool.and_eq_true, decide_eq_true_eq] at hr
    obtain ⟨rfl, rfl⟩ := hr
    obtain ⟨x, w, r, rfl, rfl⟩ := m_ii_inv h
    obtain ⟨hw, hx2, hr2⟩ := m_two hok
    refine ⟨m_put (m_inI _) hr2, fun k => ?_⟩
    exact lv_iushr hx hb hd rfl (by have k : W p l e R s m args below meth c H locs cells slots Q (F0 m (pc + 1) ls (.int (Int32.ofInt (Int32.toInt _)) :: r.map (m_re ads b))) := k; rw [Int32.ofInt_toInt] at k; exact k)
  · simp only [m_oks, Bool.and_eq_true, decide_eq_true_eq] at hr
    obtain ⟨rfl, rfl⟩ := hr
    obtain ⟨x, w, r, rfl, rfl⟩ := m_jj_inv h
    obtain ⟨hw, hx2, hr2⟩ := m_two hok
    refine ⟨m_put (m_ilx _) hr2, fun k => ?_⟩
    exact lv_ladd hx hb hd (by rw [← m_addL hx2 hw]; exact k)
  · simp only [m_oks, Bool.and_eq_true, decide_eq_true_eq] at hr
    obtain ⟨rfl, rfl⟩ := hr
    obtain ⟨x, w, r, rfl, rfl⟩ := m_jj_inv h
    obtain ⟨hw, hx2, hr2⟩ := m_two hok
    refine ⟨m_put (m_ilx _) hr2, fun k => ?_⟩
    exact lv_lsub hx hb hd (by rw [← m_subL hx2 hw]; exact k)
  · simp only [m_oks, Bool.and_eq_true, decide_eq_true_eq] at hr
    obtain ⟨rfl, rfl⟩ := hr
    obtain ⟨x, w, r, rfl, rfl⟩ := m_jj_inv h
    obtain ⟨hw, hx2, hr2⟩ := m_two hok
    refine ⟨m_put (m_ilx _) hr2, fun k => ?_⟩
    exact lv_lmul hx hb hd (by rw [← m_mulL hx2 hw]; exact k)
  · simp only [m_oks, Bool.and_eq_true, decide_eq_true_eq] at hr
    obtain ⟨rfl, rfl⟩ := hr
    obtain ⟨x, w, r, rfl, rfl, hne⟩ := m_jd_inv h
    obtain ⟨hw, hx2, hr2⟩ := m_two hok
    refine ⟨m_put (m_ilx _) hr2, fun k => ?_⟩
    exact lv_ldiv hx hb hd (m_ne0L hw hne) (by rw [← m_divL hx2 hw]; exact k)
  · simp only [m_oks, Bool.and_eq_true, decide_eq_true_eq] at hr
    obtain ⟨rfl, rfl⟩ := hr
    obtain ⟨x, w, r, rfl, rfl, hne⟩ := m_jd_inv h
    obtain ⟨hw, hx2, hr2⟩ := m_two hok
    refine ⟨m_put (m_remL hx2 hw).1 hr2, fun k => ?_⟩
    exact lv_lrem hx hb hd (m_ne0L hw hne) (by rw [← (m_remL hx2 hw).2]; exact k)
  · simp only [m_oks, Bool.and_eq_true, decide_eq_true_eq] at hr
    obtain ⟨rfl, rfl⟩ := hr
    split at h
    next x r =>
      cases h
      obtain ⟨hw, hr2⟩ := m_one hok
      exact ⟨m_put (m_ilx _) hr2, fun k => lv_lneg hx hb hd (by rw [← m_negL hw]; exact k)⟩
    next => cases h
  · simp only [m_oks, Bool.and_eq_true, decide_eq_true_eq] at hr
    obtain ⟨rfl, rfl⟩ := hr
    split at h
    next w x r =>
      cases h
      obtain ⟨hw, hx2, hr2⟩ := m_two hok
      exact ⟨m_put (m_cmp_in _ _) hr2, fun k => W.lcmp hx hb hd (by rw [← m_cmpL hx2 hw]; exact k)⟩
    next => cases h
  · simp only [m_oks, Bool.and_eq_true, decide_eq_true_eq] at hr
    obtain ⟨rfl, rfl⟩ := hr
    split at h
    next x r =>
      cases h
      obtain ⟨hw, hr2⟩ := m_one hok
      exact ⟨m_put (show m_il _ from ⟨by have := hw.1; omega, by have := hw.2; omega⟩) hr2, fun k => lv_i2l hx hb hd (m_i2l hw) k⟩
    next => cases h
  · simp only [m_oks, Bool.and_eq_true, decide_eq_true_eq] at hr
    obtain ⟨rfl, rfl⟩ := hr
    split at h
    next x r =>
      cases h
      obtain ⟨hw, hr2⟩ := m_one hok
      exact ⟨m_put (show True from trivial) hr2, fun k => lv_l2f hx hb hd k⟩
    next => cases h
  · simp only [m_oks, Bool.and_eq_true, decide_eq_true_eq] at hr
    obtain ⟨rfl, rfl⟩ := hr
    split at h
    next x r =>
      cases h
      obtain ⟨hw, hr2⟩ := m_one hok
      exact ⟨m_put (m_inI _) hr2, fun k => lv_f2i hx hb hd (by have k : W p l e R s m args below meth c H locs cells slots Q (F0 m (pc + 1) ls (.int (Int32.ofInt (Int32.toInt _)) :: r.map (m_re ads b))) := k; rw [Int32.ofInt_toInt] at k; exact k)⟩
    next => cases h
  · simp only [m_oks, Bool.and_eq_true, decide_eq_true_eq] at hr
    obtain ⟨rfl, rfl⟩ := hr
    split at h
    next x r =>
      cases h
      obtain ⟨hw, hr2⟩ := m_one hok
      exact ⟨m_put (m_in_b _) hr2, fun k => lv_i2b hx hb hd (m_i2b hw) k⟩
    next => cases h
  · simp only [m_oks, Bool.and_eq_true, decide_eq_true_eq] at hr
    obtain ⟨rfl, rfl⟩ := hr
    obtain ⟨x, w, r, rfl, rfl, hne⟩ := m_ff_inv h
    obtain ⟨hw, hx2, hr2⟩ := m_two hok
    exact ⟨m_put trivial hr2, fun k => lv_fmul hx hb hd hne k⟩
  · simp only [m_oks, Bool.and_eq_true, decide_eq_true_eq] at hr
    obtain ⟨rfl, rfl⟩ := hr
    obtain ⟨x, w, r, rfl, rfl, hne⟩ := m_ff_inv h
    obtain ⟨hw, hx2, hr2⟩ := m_two hok
    exact ⟨m_put trivial hr2, fun k => lv_fsub hx hb hd hne k⟩
  · simp only [m_oks, Bool.and_eq_true, decide_eq_true_eq] at hr
    obtain ⟨rfl, rfl⟩ := hr
    obtain ⟨x, w, r, rfl, rfl, hne⟩ := m_ff_inv h
    obtain ⟨hw, hx2, hr2⟩ := m_two hok
    exact ⟨m_put trivial hr2, fun k => lv_fdiv hx hb hd hne k⟩
  · simp only [m_oks, Bool.and_eq_true, decide_eq_true_eq] at hr
    obtain ⟨rfl, rfl⟩ := hr
    split at h
    next w x r =>
      cases h
      obtain ⟨hw, hx2, hr2⟩ := m_two hok
      exact ⟨m_put (m_inI _) hr2, fun k => lv_fcmp hx hb hd (by have k : W p l e R s m args below meth c H locs cells slots Q (F0 m (pc + 1) ls (.int (Int32.ofInt (Int32.toInt _)) :: r.map (m_re ads b))) := k; rw [Int32.ofInt_toInt] at k; exact k)⟩
    next => cases h
  · simp only [m_oks, Bool.and_eq_true, decide_eq_true_eq] at hr
    obtain ⟨rfl, rfl⟩ := hr
    split at h
    next w x r =>
      cases h
      obtain ⟨hw, hx2, hr2⟩ := m_two hok
      exact ⟨m_put (m_inI _) hr2, fun k => lv_fcmp hx hb hd (by have k : W p l e R s m args below meth c H locs cells slots Q (F0 m (pc + 1) ls (.int (Int32.ofInt (Int32.toInt _)) :: r.map (m_re ads b))) := k; rw [Int32.ofInt_toInt] at k; exact k)⟩
    next => cases h
  · simp only [m_oks, Bool.and_eq_true, decide_eq_true_eq] at hr
    obtain ⟨rfl, rfl⟩ := hr
    split at h
    next o r =>
      cases h
      obtain ⟨hw, hr2⟩ := m_one hok
      exact ⟨m_put hw hok, fun k => lv_dup hx hb hd (m_cat _ rfl) k⟩
    next x r =>
      cases h
      obtain ⟨hw, hr2⟩ := m_one hok
      exact ⟨m_put hw hok, fun k => lv_dup hx hb hd (m_cat _ rfl) k⟩
    next => cases h
  · simp only [m_oks, Bool.and_eq_true, decide_eq_true_eq] at hr
    obtain ⟨rfl, rfl⟩ := hr
    split at h
    next x o r =>
      cases h
      obtain ⟨hw, hx2, hr2⟩ := m_two hok
      exact ⟨m_put hw (m_put hx2 hok), fun k => lv_dup2_11 hx hb hd (m_cat _ rfl) (m_cat _ rfl) k⟩
    next => cases h
  · cases h
set_option maxHeartbeats 4000000 in
/-- an instruction that works on locals and the stack -/
theorem m_lk_ok {ads : Nat → Nat} {n pc op a len : Nat} {z : Int} {r : Instr} {pls pls' st st' : List m_V} (hF : m_Fx p R s m args meth c dC dI tc A X b y) (hr : m_okl (m_ml y) r len op a z = true) (hd : decode (m_by y) pc = .ok (r, len)) (h : m_lk op a z pls st = some (pls', st')) (hl : m_lh ads b (m_ml y) pls ls) (hokl : ∀ i, m_okw n (m_ld pls i)) (hok : ∀ v ∈ st, m_okw n v) :
    (∀ i, m_okw n (m_ld pls' i)) ∧ (∀ v ∈ st', m_okw n v) ∧ ((∀ ls', m_lh ads b (m_ml y) pls' ls' → W p l e R s m args below meth c H locs cells slots Q (F0 m (pc + len) ls' (st'.map (m_re ads b)))) → W p l e R s m args below meth c H locs cells slots Q (F0 m pc ls (st.map (m_re ads b)))) := by
  obtain ⟨hx, hb, hml, hown, hts, hK, hN, hO, hA, hin, hX, hfr, hlo⟩ := hF
  unfold m_lk at h
  split at h
  · simp only [m_okl] at hr
    split at h
    next x e0 =>
      cases h
      have hv := hl.2.2.2 a (by rw [e0]; exact fun q => by cases q)
      have ho := hokl a
      rw [e0] at hv ho
      refine ⟨hokl, m_put ho hok, fun k => ?_⟩
      rcases m_ldn_or hr with ⟨rfl, rfl⟩ | ⟨i, hi, rfl, rfl⟩
      · exact lv_iload hx hb hd hv (k ls hl)
      · exact lv_iload_n hx hb hd hi hv (k ls hl)
    next => cases h
  · simp only [m_okl] at hr
    split at h
    next x e0 =>
      cases h
      have hv := hl.2.2.2 a (by rw [e0]; exact fun q => by cases q)
      have ho := hokl a
      rw [e0] at hv ho
      refine ⟨hokl, m_put ho hok, fun k => ?_⟩
      rcases m_ldn_or hr with ⟨rfl, rfl⟩ | ⟨i, hi, rfl, rfl⟩
      · exact lv_lload hx hb hd hv (k ls hl)
      · exact lv_lload_n hx hb hd hi hv (k ls hl)
    next => cases h
  · simp only [m_okl] at hr
    split at h
    next x e0 =>
      cases h
      have hv := hl.2.2.2 a (by rw [e0]; exact fun q => by cases q)
      have ho := hokl a
      rw [e0] at hv ho
      refine ⟨hokl, m_put ho hok, fun k => ?_⟩
      rcases m_ldn_or hr with ⟨rfl, rfl⟩ | ⟨i, hi, rfl, rfl⟩
      · exact lv_fload hx hb hd hv (k ls hl)
      · exact lv_fload_n hx hb hd hi hv (k ls hl)
    next => cases h
  · simp only [m_okl] at hr
    split at h
    next x e0 =>
      cases h
      have hv := hl.2.2.2 a (by rw [e0]; exact fun q => by cases q)
      have ho := hokl a
      rw [e0] at hv ho
      refine ⟨hokl, m_put ho hok, fun k => ?_⟩
      rcases m_ldn_or hr with ⟨rfl, rfl⟩ | ⟨i, hi, rfl, rfl⟩
      · exact lv_aload hx hb hd hv (k ls hl)
      · exact lv_aload_n hx hb hd hi hv (k ls hl)
    next e0 =>
      cases h
      have hv := hl.2.2.2 a (by rw [e0]; exact fun q => by cases q)
      have ho := hokl a
      rw [e0] at hv ho
      refine ⟨hokl, m_put ho hok, fun k => ?_⟩
      rcases m_ldn_or hr with ⟨rfl, rfl⟩ | ⟨i, hi, rfl, rfl⟩
      · exact lv_aload hx hb hd hv (k ls hl)
      · exact lv_aload_n hx hb hd hi hv (k ls hl)
    next => cases h
  · simp only [m_okl, Bool.and_eq_true, decide_eq_true_eq] at hr
    obtain ⟨ha, hr⟩ := hr
    split at h
    next x r0 =>
      cases h
      obtain ⟨hw, hr2⟩ := m_one hok
      refine ⟨m_ok_s1 hokl hw, hr2, fun k => ?_⟩
      rcases m_ldn_or hr with ⟨rfl, rfl⟩ | ⟨i, hi, rfl, rfl⟩
      · exact lv_istore hx hb hd (m_lh_has hl) ha rfl (fun ls' h' => k ls' (m_lh_s1 hl.1 h'))
      · exact lv_istore_n hx hb hd hi (m_lh_has hl) ha rfl (fun ls' h' => k ls' (m_lh_s1 hl.1 h'))
    next => cases h
  · simp only [m_okl, Bool.and_eq_true, decide_eq_true_eq] at hr
    obtain ⟨ha, hr⟩ := hr
    split at h
    next x r0 =>
      cases h
      obtain ⟨hw, hr2⟩ := m_one hok
      refine ⟨m_ok_s2 hokl hw, hr2, fun k => ?_⟩
      rcases m_ldn_or hr with ⟨rfl, rfl⟩ | ⟨i, hi, rfl, rfl⟩
      · exact lv_lstore hx hb hd (m_lh_has hl) ha rfl (fun ls' h' => k ls' (m_lh_s2 hl.1 h'))
      · exact lv_lstore_n hx hb hd hi (m_lh_has hl) ha rfl (fun ls' h' => k ls' (m_lh_s2 hl.1 h'))
    next => cases h
  · simp only [m_okl, Bool.and_eq_true, decide_eq_true_eq] at hr
    obtain ⟨ha, hr⟩ := hr
    split at h
    next x r0 =>
      cases h
      obtain ⟨hw, hr2⟩ := m_one hok
      refine ⟨m_ok_s1 hokl hw, hr2, fun k => ?_⟩
      rcases m_ldn_or hr with ⟨rfl, rfl⟩ | ⟨i, hi, rfl, rfl⟩
      · exact lv_fstore hx hb hd (m_lh_has hl) ha rfl (fun ls' h' => k ls' (m_lh_s1 hl.1 h'))
      · exact lv_fstore_n hx hb hd hi (m_lh_has hl) ha rfl (fun ls' h' => k ls' (m_lh_s1 hl.1 h'))
    next => cases h
  · simp only [m_okl, Bool.and_eq_true, decide_eq_true_eq] at hr
    obtain ⟨ha, hr⟩ := hr
    split at h
    next x r0 =>
      cases h
      obtain ⟨hw, hr2⟩ := m_one hok
      refine ⟨m_ok_s1 hokl hw, hr2, fun k => ?_⟩
      rcases m_ldn_or hr with ⟨rfl, rfl⟩ | ⟨i, hi, rfl, rfl⟩
      · exact lv_astore hx hb hd (m_lh_has hl) ha rfl (fun ls' h' => k ls' (m_lh_s1 hl.1 h'))
      · exact lv_astore_n hx hb hd hi (m_lh_has hl) ha rfl (fun ls' h' => k ls' (m_lh_s1 hl.1 h'))
    next => cases h
  · simp only [m_okl, Bool.and_eq_true, decide_eq_true_eq] at hr
    obtain ⟨ha, rfl, rfl⟩ := hr
    split at h
    next x e0 =>
      cases h
      have ho := hokl a
      rw [e0] at ho
      have hin2 := m_ll_in (ads := ads) (b := b) (pls := pls) (j := a) (by rw [e0]; exact fun q => by cases q)
      rw [e0] at hin2
      obtain ⟨k0, hk0⟩ := List.getElem?_of_mem hin2
      refine ⟨m_ok_s1 hokl (m_inw _), hok, fun k => ?_⟩
      refine lv_iinc (v := Int32.ofInt (m_w (x + z))) hx hb hd (m_lh_has hl) hk0 ?_ ha rfl (fun ls' h' => k ls' (m_lh_s1 (v := m_I (m_w (x + z))) hl.1 h'))
      refine (m_eqI (m_inw _) ?_).symm
      rw [Int32.toInt_add, m_ofI ho, Int32.toInt_ofInt, m_w_bm]
      exact Int.add_bmod_bmod
    next => cases h
  · cases h
end MS
end
section
/-! one step of the pure machine is one step of the machine: fields, arrays, new cells -/
theorem m_cl_at : ∀ a, a < 10 → vwCl[a]? = some (m_cn a, m_T a, m_fn a) := lt_s (lt_s (lt_s (lt_s (lt_s (lt_s (lt_s (lt_s (lt_s (lt_s lt_0 rfl) rfl) rfl) rfl) rfl) rfl) rfl) rfl) rfl) rfl
theorem m_cl_in : ∀ a, a < 10 → ∀ w ∈ u_ws (m_cn a) (m_T a) (m_fn a), w ∈ lw_tbl.filter goodWord := lt_s (lt_s (lt_s (lt_s (lt_s (lt_s (lt_s (lt_s (lt_s (lt_s lt_0 m_inX0) m_inX1) m_inX2) m_inX3) m_inX4) m_inX5) m_inX6) m_inX7) m_inX8) m_inX9
theorem m_cl_ty : ∀ a, a < 10 → ∀ k, k < m_fn a → parseFieldDescriptor (m_T a k).2.2.1 = some (m_ty a k) := lt_s (lt_s (lt_s (lt_s (lt_s (lt_s (lt_s (lt_s (lt_s (lt_s lt_0 tyX0_ok) tyX1_ok) tyX2_ok) tyX3_ok) tyX4_ok) tyX5_ok) tyX6_ok) tyX7_ok) tyX8_ok) tyX9_ok
theorem m_cl_nm : ∀ a, a < 10 → ∀ i, i < m_fn a → ∀ j, j < m_fn a → i ≠ j → (m_T a i).2.1 ≠ (m_T a j).2.1 := lt_s (lt_s (lt_s (lt_s (lt_s (lt_s (lt_s (lt_s (lt_s (lt_s lt_0 nmX0) nmX1) nmX2) nmX3) nmX4) nmX5) nmX6) nmX7) nmX8) nmX9
def m_isR (t : FieldType) : Bool := match t with
  | .object _ => true
  | .array _ => true
  | _ => false
def m_tyq (a k : Nat) : Bool := match (m_FC.getD a []).getD k 9 with
  | 0 => decide (m_ty a k = .int)
  | 1 => decide (m_ty a k = .boolean)
  | 2 => decide (m_ty a k = .long)
  | 3 => m_isR (m_ty a k)
  | _ => false
theorem m_tyq_ok : (List.range 10).all (fun a => (List.range (m_fn a)).all (fun k => m_tyq a k)) = true := by decide +kernel
theorem m_tyq_at {a k : Nat} (ha : a < 10) (hk : k < m_fn a) : m_tyq a k = true := List.all_eq_true.mp (List.all_eq_true.mp m_tyq_ok a (List.mem_range.mpr ha)) k (List.mem_range.mpr hk)
theorem m_fits_rf {t : FieldType} (h : m_isR t = true) (o : Option Nat) : narrow t (va_rf o) = va_rf o ∧ fits t (va_rf o) = true := by
  cases t <;> first | (cases h; done) | (cases o <;> exact ⟨rfl, rfl⟩)
theorem m_T_1 : ∀ a, a < 10 → ∀ k, k < m_fn a → (m_T a k).1 = m_cn a := by decide +kernel
theorem m_tk_obj {μ : m_M} {c a k : Nat} (h : m_gk μ c = (0, a)) : m_tk μ.1 c k = (m_FC.getD a []).getD k 9 := by
  have h2 : (μ.1.getD c ((9, 0), [])).1 = (0, a) := h
  unfold m_tk
  rw [h2]
  rfl
theorem m_tk_1 {μ : m_M} {c k : Nat} (h : (m_gk μ c).1 = 1) : m_tk μ.1 c k = 0 := by
  have h2 : (μ.1.getD c ((9, 0), [])).1.1 = 1 := h
  unfold m_tk
  rw [h2]
  rfl
theorem m_tk_2 {μ : m_M} {c k : Nat} (h : (m_gk μ c).1 = 2) : m_tk μ.1 c k = 2 := by
  have h2 : (μ.1.getD c ((9, 0), [])).1.1 = 2 := h
  unfold m_tk
  rw [h2]
  rfl
theorem m_tk_3 {μ : m_M} {c k : Nat} (h : (m_gk μ c).1 = 3) : m_tk μ.1 c k = 0 := by
  have h2 : (μ.1.getD c ((9, 0), [])).1.1 = 3 := h
  unfold m_tk
  rw [h2]
  rfl
theorem m_ce_0 {tc : Nat → ClassId} {ads : Nat → Nat} {σ : Nat → Nat → Int} {c a : Nat} {g : m_G} (h : g.1 = (0, a)) : m_ce tc ads σ c g = .inr (a, m_fs ads σ g.2 c 0 (m_FC.getD a [])) := by
  unfold m_ce; rw [h]; rfl
theorem m_ce_1 {tc : Nat → ClassId} {ads : Nat → Nat} {σ : Nat → Nat → Int} {c : Nat} {g : m_G} (h : g.1.1 = 1) : m_ce tc ads σ c g = .inl (tc 0, g.1.2, .inl (fun j => Int32.ofInt (σ c j))) := by
  unfold m_ce; rw [h]; rfl
theorem m_ce_2 {tc : Nat → ClassId} {ads : Nat → Nat} {σ : Nat → Nat → Int} {c : Nat} {g : m_G} (h : g.1.1 = 2) : m_ce tc ads σ c g = .inl (tc 1, g.1.2, .inr (.inl (fun j => Int64.ofInt (σ c j)))) := by
  unfold m_ce; rw [h]; rfl
theorem m_ce_3 {tc : Nat → ClassId} {ads : Nat → Nat} {σ : Nat → Nat → Int} {c : Nat} {g : m_G} (h : g.1.1 = 3) : m_ce tc ads σ c g = .inl (tc 2, g.1.2, .inl (fun j => Int32.ofInt (σ c j))) := by
  unfold m_ce; rw [h]; rfl
theorem m_ce_4 {tc : Nat → ClassId} {ads : Nat → Nat} {σ : Nat → Nat → Int} {c : Nat} {g : m_G} (h : g.1.1 = 4) : m_ce tc ads σ c g = .inl (tc 3, g.1.2, .inr (.inr (.inr (.inr (fun j => ((g.2[j]?).join).map ads))))) := by
  unfold m_ce; rw [h]; rfl
theorem m_fs_up {ads : Nat → Nat} {σ σ' : Nat → Nat → Int} {refs refs' : List (Option Nat)} {c f t : Nat} {ts : List Nat} {v : Value} (ht : ts[f]? = some t) (hv : m_fval ads σ' refs' c f t = v) (hne : ∀ j t, j ≠ f → m_fval ads σ' refs' c j t = m_fval ads σ refs c j t) : m_fs ads σ' refs' c 0 ts = (m_fs ads σ refs c 0 ts).set f v := by
  apply List.ext_getElem?
  intro j
  rw [m_fs_get, Nat.zero_add]
  by_cases e : f = j
  · subst e
    have hl : f < (m_fs ads σ refs c 0 ts).length := by rw [m_fs_len]; exact (List.getElem?_eq_some_iff.mp ht).1
    rw [List.getElem?_set_self hl, ht]
    simp [hv]
  · rw [List.getElem?_set_ne e, m_fs_get, Nat.zero_add]
    cases ts[j]? with
    | none => rfl
    | some t' => simp [hne j t' (fun q => e q.symm)]
theorem m_re_fv {ads : Nat → Nat} {b c k t : Nat} {μ : m_M} : m_re ads b (m_fv μ c k (t : Int)) = m_fval ads μ.2 (m_g μ c).2 c k t := by
  unfold m_fv m_fval
  by_cases h2 : t = 2
  · subst h2; rfl
  · rw [if_neg (by omega)]
    by_cases h3 : t = 3
    · subst h3; rfl
    · rw [if_neg (by omega)]
      split
      · exact absurd rfl h2
      · exact absurd rfl h3
      · rfl
theorem m_mok_up {μ : m_M} {c k : Nat} {z : Int} (h : m_mok μ) (h1 : m_tk μ.1 c k ≤ 1 → m_in z) (h2 : m_tk μ.1 c k = 2 → m_il z) : m_mok (μ.1, m_up μ.2 c k z) := by
  obtain ⟨a1, a2, a3, a4⟩ := h
  refine ⟨fun c' k' hk => ?_, fun c' k' hk => ?_, a3, a4⟩
  · show m_in (m_up μ.2 c k z c' k')
    unfold m_up
    split
    next q => obtain ⟨rfl, rfl⟩ := q; exact h1 hk
    next => exact a1 c' k' hk
  · show m_il (m_up μ.2 c k z c' k')
    unfold m_up
    split
    next q => obtain ⟨rfl, rfl⟩ := q; exact h2 hk
    next => exact a2 c' k' hk
theorem m_cats {ads : Nat → Nat} {b : Nat} : ∀ (r : List m_V) (n : Nat), r.length ≤ n → ((r.map (m_re ads b)).map fun v => v.category).sum ≤ 2 * n
  | [], _, _ => by simp
  | v :: r, 0, h => absurd h (by simp)
  | v :: r, n + 1, h => by
    have h1 := m_cats (ads := ads) (b := b) r n (by simpa using h)
    have h2 := lv_cat (m_re ads b v)
    simp only [List.map_cons, List.sum_cons]
    omega
theorem m_g_set {G : List m_G} {σ : Nat → Nat → Int} {c c' : Nat} {g : m_G} (h : c' ≠ c) : m_g (G.set c g, σ) c' = m_g (G, σ) c' := by
  unfold m_g
  simp only [List.getD_eq_getElem?_getD]
  rw [List.getElem?_set_ne (Ne.symm h)]
theorem m_g_set_self {G : List m_G} {σ : Nat → Nat → Int} {c : Nat} {g : m_G} (h : c < G.length) : m_g (G.set c g, σ) c = g := by
  unfold m_g
  simp only [List.getD_eq_getElem?_getD]
  rw [List.getElem?_set_self h]
  rfl
theorem m_g_app {G : List m_G} {σ : Nat → Nat → Int} {c : Nat} {g : m_G} (h : c < G.length) : m_g (G ++ [g], σ) c = m_g (G, σ) c := by
  unfold m_g
  simp only [List.getD_eq_getElem?_getD]
  rw [List.getElem?_append_left h]
theorem m_g_app_self {G : List m_G} {σ : Nat → Nat → Int} {g : m_G} : m_g (G ++ [g], σ) G.length = g := by
  unfold m_g
  simp only [List.getD_eq_getElem?_getD]
  rw [List.getElem?_append_right (Nat.le_refl _)]
  simp
theorem m_g_out {G : List m_G} {σ : Nat → Nat → Int} {c : Nat} (h : G.length ≤ c) : m_g (G, σ) c = ((9, 0), []) := by
  unfold m_g
  simp only [List.getD_eq_getElem?_getD]
  rw [List.getElem?_eq_none h]
  rfl
theorem m_sz_set : ∀ (G : List m_G) (c : Nat) (g : m_G), g.1 = (G.getD c ((9, 0), [])).1 → m_sz (G.set c g) = m_sz G
  | [], _, _, _ => rfl
  | a :: r, 0, g, h => by
    have h : g.1 = a.1 := h
    simp only [List.set_cons_zero, m_sz, h]
  | a :: r, c + 1, g, h => by
    have h : g.1 = (r.getD c ((9, 0), [])).1 := h
    simp only [List.set_cons_succ, m_sz, m_sz_set r c g h]
/-- a cell's references changed at one place -/
theorem m_mok_sr {μ : m_M} {c k : Nat} {o : Option Nat} (h : m_mok μ) (hc : c < μ.1.length) (ho : ∀ j, o = some j → j < μ.1.length) : m_mok (m_sr μ.1 c k o, μ.2) := by
  obtain ⟨a1, a2, a3, a4⟩ := h
  have hk : ∀ c', m_gk (m_sr μ.1 c k o, μ.2) c' = m_gk μ c' := by
    intro c'
    unfold m_gk m_sr
    by_cases e : c' = c
    · subst e; rw [m_g_set_self hc]; rfl
    · rw [m_g_set e]
  have ht : ∀ c' k', m_tk (m_sr μ.1 c k o) c' k' = m_tk μ.1 c' k' := by
    intro c' k'
    have := hk c'
    unfold m_gk m_g at this
    unfold m_tk
    rw [this]
  refine ⟨fun c' k' q => a1 c' k' (by rw [← ht]; exact q), fun c' k' q => a2 c' k' (by rw [← ht]; exact q), fun c' k' j q => ?_, fun c' => by rw [hk]; exact a4 c'⟩
  have hl : (m_sr μ.1 c k o, μ.2).1.length = μ.1.length := by simp [m_sr]
  rw [hl]
  unfold m_gr m_sr at q
  by_cases e : c' = c
  · subst e
    rw [m_g_set_self hc] at q
    by_cases e2 : k = k'
    · subst e2
      simp only [List.getElem?_set, if_true] at q
      split at q
      · exact ho j q
      · cases q
    · rw [List.getElem?_set_ne e2] at q
      exact a3 c' k' j q
  · rw [m_g_set e] at q
    exact a3 c' k' j q
end
section
theorem m_lt_obj {μ : m_M} {c a : Nat} (h : m_gk μ c = (0, a)) : c < μ.1.length := m_lt_of (by rw [h]; exact fun q => by cases q)
section MM
variable {p : Program} {l : Launch} {e : Env} {R : Room} {s : State} {m : MethodId} {args : Array Value} {below : List Frame} {meth : Method} {c : Code} {Q : State → Prop}
variable {H : Heap} {locs : List Loc} {ls : Array Slot}
variable {dC : Nat → ClassId} {dI : Nat → Nat → Nat} {tc : Nat → ClassId} {A : Nat → Prop} {X : Option (Nat × (Nat → Int))} {b y : Nat}
/-- what a step of memory comes to -/
def m_Nx (p : Program) (l : Launch) (e : Env) (R : Room) (s : State) (m : MethodId) (args : Array Value) (below : List Frame) (meth : Method) (c : Code) (Q : State → Prop) (dC : Nat → ClassId) (dI : Nat → Nat → Nat) (tc : Nat → ClassId) (A : Nat → Prop) (b n0 z0 : Nat) (ls : Array Slot) (H : Heap) (locs : List Loc) (ads : Nat → Nat) (pc pc' : Nat) (st st' : List m_V) (μ μ' : m_M) : Prop :=
  μ.1.length ≤ μ'.1.length ∧ m_sz μ.1 ≤ m_sz μ'.1 ∧ (∀ v ∈ st', m_okw μ'.1.length v) ∧ m_mok μ' ∧
  ((∀ (ads' : Nat → Nat) (H' : Heap) (locs' : List Loc), (∀ c, c < μ.1.length → ads' c = ads c) → va_P (dC, dI) vwCl (m_ws tc ads' μ') H' → va_D A (m_ws tc ads' μ') → va_S A s.heap H' locs' →
      W p l e R s m args below meth c H' locs' (μ'.1.length - n0) (m_sz μ'.1 - z0) Q (F0 m pc' ls (st'.map (m_re ads' b)))) →
    W p l e R s m args below meth c H locs (μ.1.length - n0) (m_sz μ.1 - z0) Q (F0 m pc ls (st.map (m_re ads b))))
/-- a step that leaves memory as it is -/
theorem m_Nx_same {ads : Nat → Nat} {n0 z0 pc pc' : Nat} {st st' : List m_V} {μ : m_M} (hP : va_P (dC, dI) vwCl (m_ws tc ads μ) H) (hD : va_D A (m_ws tc ads μ)) (hS : va_S A s.heap H locs) (hM : m_mok μ) (hok : ∀ v ∈ st', m_okw μ.1.length v)
    (k : W p l e R s m args below meth c H locs (μ.1.length - n0) (m_sz μ.1 - z0) Q (F0 m pc' ls (st'.map (m_re ads b))) → W p l e R s m args below meth c H locs (μ.1.length - n0) (m_sz μ.1 - z0) Q (F0 m pc ls (st.map (m_re ads b)))) :
    m_Nx p l e R s m args below meth c Q dC dI tc A b n0 z0 ls H locs ads pc pc' st st' μ μ :=
  ⟨Nat.le_refl _, Nat.le_refl _, hok, hM, fun kk => k (kk ads H locs (fun _ _ => rfl) hP hD hS)⟩
/-- a step that changes one cell -/
theorem m_Nx_cell {ads : Nat → Nat} {n0 z0 pc pc' c0 : Nat} {E : va_E} {st st' : List m_V} {μ μ' : m_M} (hl : μ'.1.length = μ.1.length) (hz : m_sz μ'.1 = m_sz μ.1) (hc0 : c0 < μ.1.length) (hok : ∀ v ∈ st', m_okw μ.1.length v) (hM : m_mok μ')
    (hne : ∀ c', c' ≠ c0 → m_ce tc ads μ'.2 c' (m_g μ' c') = m_ce tc ads μ.2 c' (m_g μ c')) (he : m_ce tc ads μ'.2 c0 (m_g μ' c0) = E)
    (k : (∀ (H1 : Heap) (locs1 : List Loc), va_P (dC, dI) vwCl ((m_ws tc ads μ).set c0 (ads c0, E)) H1 → va_D A ((m_ws tc ads μ).set c0 (ads c0, E)) → va_S A s.heap H1 locs1 → W p l e R s m args below meth c H1 locs1 (μ.1.length - n0) (m_sz μ.1 - z0) Q (F0 m pc' ls (st'.map (m_re ads b)))) → W p l e R s m args below meth c H locs (μ.1.length - n0) (m_sz μ.1 - z0) Q (F0 m pc ls (st.map (m_re ads b)))) :
    m_Nx p l e R s m args below meth c Q dC dI tc A b n0 z0 ls H locs ads pc pc' st st' μ μ' := by
  refine ⟨by omega, by omega, fun v hv => m_okw_mono (by omega) (hok v hv), hM, fun kk => k fun H1 locs1 hP hD hS => ?_⟩
  rw [m_ws_set hl hc0 hne he] at hP hD
  have := kk ads H1 locs1 (fun _ _ => rfl) hP hD hS
  rw [hl, hz] at this
  exact this
set_option maxHeartbeats 4000000 in
theorem m_get_ok {ads : Nat → Nat} {n0 z0 pc a f len : Nat} {z : Int} {r : Instr} {st st' : List m_V} {μ μ' : m_M} (hF : m_Fx p R s m args meth c dC dI tc A X b y) (hr : m_okm (m_own y) (m_nm y).name r len 53 a f z = true) (hd : decode (m_by y) pc = .ok (r, len)) (h : m_mk X 53 a f z st μ = some (st', μ'))
    (hP : va_P (dC, dI) vwCl (m_ws tc ads μ) H) (hD : va_D A (m_ws tc ads μ)) (hS : va_S A s.heap H locs) (hM : m_mok μ) (hok : ∀ v ∈ st, m_okw μ.1.length v) : m_Nx p l e R s m args below meth c Q dC dI tc A b n0 z0 ls H locs ads pc (pc + len) st st' μ μ' := by
  obtain ⟨hx, hb, hml, hown, hts, hK, hN, hO, hA, hin, hX, hfr, hlo⟩ := hF
  simp only [m_okm, Bool.and_eq_true, decide_eq_true_eq] at hr
  obtain ⟨rfl, ha, hf, hz, hr⟩ := hr
  simp only [m_mk] at h
  split at h
  next q r0 =>
    split at h
    next hg =>
      cases h
      have hlt := m_lt_obj hg
      obtain ⟨-, hr2⟩ := m_one hok
      have hq := m_tyq_at ha hf
      obtain ⟨t, ht⟩ : ∃ t, (m_FC.getD a [])[f]? = some t := ⟨_, List.getElem?_eq_getElem hf⟩
      have hgd : (m_FC.getD a []).getD f 9 = t := by rw [List.getD_eq_getElem?_getD, ht]; rfl
      have hzt : z = (t : Int) := by rw [hz, m_fk, hgd]
      subst hzt
      have hokv : m_okw μ.1.length (m_fv μ q f (t : Int)) := by
        unfold m_fv
        split
        next h2 => exact hM.2.1 q f (by rw [m_tk_obj hg, hgd]; omega)
        next h2 =>
          split
          next h3 => exact fun j hj => hM.2.2.1 q f j hj
          next h3 =>
            refine hM.1 q f ?_
            rw [m_tk_obj hg, hgd]
            unfold m_tyq at hq
            rw [hgd] at hq
            split at hq
            · decide
            · decide
            · omega
            · omega
            · cases hq
      refine m_Nx_same hP hD hS hM (m_put hokv hr2) fun k => ?_
      unfold m_okg at hr
      split at hr
      next i =>
        simp only [decide_eq_true_eq, Option.map_eq_some_iff] at hr
        obtain ⟨⟨q1, q2, q3⟩, e1, e2⟩ := hr
        cases e2
        have hw := hts _ (m_wok_in (List.all_eq_true.mp m_FL_ok _ (m_lk2_in e1)))
        have he : (m_ws tc ads μ)[q]? = some (ads q, .inr (q1, m_fs ads μ.2 (m_g μ q).2 q 0 (m_FC.getD q1 []))) := by rw [m_ws_get hlt, m_ce_0 hg]
        refine va_get (C := m_cn q1) (T := m_T q1) (N := m_fn q1) hx hb hts (m_cl_in q1 ha) hown hK hP q he (m_cl_at q1 ha) q2 hf hw (fun _ h9 => h9) (v := m_fval ads μ.2 (m_g μ q).2 q q2 t) ?_ hd ?_
        · rw [m_fs_get, ht, Nat.zero_add]; rfl
        · rw [← m_re_fv (b := b)]
          exact k
      next => cases hr
    next => cases h
  next => cases h
set_option maxHeartbeats 4000000 in
/-- a field is written, of whatever kind: what the kit's two rows have in common -/
theorem m_put_row {ads : Nat → Nat} {cells slots : Nat} {pc a f q t : Nat} {r : Instr} {μ : m_M} {v : Value} {rest : List Value} (hF : m_Fx p R s m args meth c dC dI tc A X b y) (ha : a < 10) (hf : f < m_fn a) (hr : m_okp (m_own y) (m_nm y).name r a f = true) (hd : decode (m_by y) pc = .ok (r, 3)) (hg : m_gk μ q = (0, a))
    (hP : va_P (dC, dI) vwCl (m_ws tc ads μ) H) (hD : va_D A (m_ws tc ads μ)) (hS : va_S A s.heap H locs) (ht : (m_FC.getD a [])[f]? = some t) (hv : narrow (m_ty a f) v = v ∧ fits (m_ty a f) v = true)
    (kk : ∀ (H1 : Heap) (locs1 : List Loc), va_P (dC, dI) vwCl ((m_ws tc ads μ).set q (ads q, .inr (a, (m_fs ads μ.2 (m_g μ q).2 q 0 (m_FC.getD a [])).set f v))) H1 → va_D A ((m_ws tc ads μ).set q (ads q, .inr (a, (m_fs ads μ.2 (m_g μ q).2 q 0 (m_FC.getD a [])).set f v))) → va_S A s.heap H1 locs1 → W p l e R s m args below meth c H1 locs1 cells slots Q (F0 m (pc + 3) ls rest)) :
    W p l e R s m args below meth c H locs cells slots Q (F0 m pc ls (v :: .ref (ads q) :: rest)) := by
  obtain ⟨hx, hb, hml, hown, hts, hK, hN, hO, hA, hin, hX, hfr, hlo⟩ := hF
  have hlt := m_lt_obj hg
  have he : (m_ws tc ads μ)[q]? = some (ads q, .inr (a, m_fs ads μ.2 (m_g μ q).2 q 0 (m_FC.getD a []))) := by rw [m_ws_get hlt, m_ce_0 hg]
  have hlen : f < (m_fs ads μ.2 (m_g μ q).2 q 0 (m_FC.getD a [])).length := by rw [m_fs_len]; exact hf
  unfold m_okp at hr
  split at hr
  next i =>
    simp only [Bool.and_eq_true, Bool.or_eq_true, decide_eq_true_eq, Option.map_eq_some_iff] at hr
    obtain ⟨⟨⟨q1, q2, q3⟩, e1, e2⟩, hfin⟩ := hr
    cases e2
    have hw := hts _ (m_wok_in (List.all_eq_true.mp m_FL_ok _ (m_lk2_in e1)))
    rcases hfin with hfin | ⟨hfin, hnm, how⟩
    · exact va_put (C := m_cn q1) (T := m_T q1) (N := m_fn q1) hx hb hts (m_cl_in q1 ha) (m_ty q1) (m_cl_ty q1 ha) (m_cl_nm q1 ha) hown hK hP hD hS q he (m_cl_at q1 ha) q2 hf hw (fun _ h9 => h9) hfin (m_cl_ty q1 ha q2 hf) hv.1 hv.2 hlen hd kk
    · exact va_putF (C := m_cn q1) (T := m_T q1) (N := m_fn q1) hx hb hts (m_cl_in q1 ha) (m_ty q1) (m_cl_ty q1 ha) (m_cl_nm q1 ha) hown hK hP hD hS q he (m_cl_at q1 ha) q2 hf hw (fun _ h9 => h9) hfin (by rw [hin]; exact hnm) (by rw [← how]; exact m_T_1 q1 ha q2 hf) (m_cl_ty q1 ha q2 hf) hv.1 hv.2 hlen hd kk
  next => cases hr
theorem m_fval_up {ads : Nat → Nat} {σ : Nat → Nat → Int} {refs : List (Option Nat)} {q f j t : Nat} {z : Int} (h : j ≠ f) : m_fval ads (m_up σ q f z) refs q j t = m_fval ads σ refs q j t := by
  have e : m_up σ q f z q j = σ q j := by unfold m_up; rw [if_neg (fun w => h w.2)]
  unfold m_fval
  split <;> simp [e]
theorem m_up_self {σ : Nat → Nat → Int} {q f : Nat} {z : Int} : m_up σ q f z q f = z := by unfold m_up; rw [if_pos ⟨rfl, rfl⟩]
theorem m_narrow_b {x : Int} (h : x = 0 ∨ x = 1) : narrow .boolean (.int (Int32.ofInt x)) = .int (Int32.ofInt x) ∧ fits .boolean (.int (Int32.ofInt x)) = true := by
  rcases h with rfl | rfl <;> exact ⟨by decide +kernel, by decide +kernel⟩
set_option maxHeartbeats 4000000 in
theorem m_putf_ok {ads : Nat → Nat} {n0 z0 pc a f len : Nat} {z : Int} {r : Instr} {st st' : List m_V} {μ μ' : m_M} (hF : m_Fx p R s m args meth c dC dI tc A X b y) (hr : m_okm (m_own y) (m_nm y).name r len 54 a f z = true) (hd : decode (m_by y) pc = .ok (r, len)) (h : m_mk X 54 a f z st μ = some (st', μ'))
    (hP : va_P (dC, dI) vwCl (m_ws tc ads μ) H) (hD : va_D A (m_ws tc ads μ)) (hS : va_S A s.heap H locs) (hM : m_mok μ) (hok : ∀ v ∈ st, m_okw μ.1.length v) : m_Nx p l e R s m args below meth c Q dC dI tc A b n0 z0 ls H locs ads pc (pc + len) st st' μ μ' := by
  simp only [m_okm, Bool.and_eq_true, decide_eq_true_eq] at hr
  obtain ⟨rfl, ha, hf, hz, hr⟩ := hr
  have hq := m_tyq_at ha hf
  obtain ⟨t, ht⟩ : ∃ t, (m_FC.getD a [])[f]? = some t := ⟨_, List.getElem?_eq_getElem hf⟩
  have hgd : (m_FC.getD a []).getD f 9 = t := by rw [List.getD_eq_getElem?_getD, ht]; rfl
  have hzt : z = (t : Int) := by rw [hz, m_fk, hgd]
  unfold m_tyq at hq
  rw [hgd] at hq
  simp only [m_mk] at h
  split at h
  next x q r0 =>
    split at h
    next hg =>
      cases h
      obtain ⟨hg, hzz⟩ := hg
      obtain ⟨hw, -, hr2⟩ := m_two hok
      have hlt := m_lt_obj hg
      have htk : m_tk μ.1 q f = t := by rw [m_tk_obj hg, hgd]
      have hv : narrow (m_ty a f) (.int (Int32.ofInt x)) = .int (Int32.ofInt x) ∧ fits (m_ty a f) (.int (Int32.ofInt x)) = true := by
        rcases hzz with h0 | ⟨h1, hx01⟩
        · have t0 : t = 0 := by omega
          subst t0
          rw [of_decide_eq_true hq]
          exact ⟨rfl, rfl⟩
        · have t1 : t = 1 := by omega
          subst t1
          rw [of_decide_eq_true hq]
          exact m_narrow_b hx01
      have hfv : m_fval ads (m_up μ.2 q f x) (m_g μ q).2 q f t = .int (Int32.ofInt x) := by
        unfold m_fval
        split
        · omega
        · omega
        · rw [m_up_self]
      refine m_Nx_cell (c0 := q) rfl rfl hlt hr2 (m_mok_up hM (fun _ => hw) (fun h2 => by omega)) (fun c' hc' => m_ce_up hc') ?_ (fun kk => m_put_row hF ha hf hr hd hg hP hD hS ht hv kk)
      show m_ce tc ads (m_up μ.2 q f x) q (m_g μ q) = _
      rw [m_ce_0 hg, m_fs_up ht hfv (fun j t' hj => m_fval_up hj)]
      rfl
    next => cases h
  next x q r0 =>
    split at h
    next hg =>
      cases h
      obtain ⟨hg, hzz⟩ := hg
      obtain ⟨hw, -, hr2⟩ := m_two hok
      have hlt := m_lt_obj hg
      have htk : m_tk μ.1 q f = t := by rw [m_tk_obj hg, hgd]
      have t2 : t = 2 := by omega
      subst t2
      have hv : narrow (m_ty a f) (.long (Int64.ofInt x)) = .long (Int64.ofInt x) ∧ fits (m_ty a f) (.long (Int64.ofInt x)) = true := by
        rw [of_decide_eq_true hq]
        exact ⟨rfl, rfl⟩
      have hfv : m_fval ads (m_up μ.2 q f x) (m_g μ q).2 q f 2 = .long (Int64.ofInt x) := by
        show Value.long (Int64.ofInt (m_up μ.2 q f x q f)) = _
        rw [m_up_self]
      refine m_Nx_cell (c0 := q) rfl rfl hlt hr2 (m_mok_up hM (fun h2 => by omega) (fun _ => hw)) (fun c' hc' => m_ce_up hc') ?_ (fun kk => m_put_row hF ha hf hr hd hg hP hD hS ht hv kk)
      show m_ce tc ads (m_up μ.2 q f x) q (m_g μ q) = _
      rw [m_ce_0 hg, m_fs_up ht hfv (fun j t' hj => m_fval_up hj)]
      rfl
    next => cases h
  next o q r0 =>
    split at h
    next hg =>
      cases h
      obtain ⟨hg, hzz, hbl⟩ := hg
      obtain ⟨hw, -, hr2⟩ := m_two hok
      have hlt := m_lt_obj hg
      have t3 : t = 3 := by omega
      subst t3
      have hv := m_fits_rf hq (o.map ads)
      have hg1 : m_g (m_sr μ.1 q f o, μ.2) q = ((m_g μ q).1, (m_g μ q).2.set f o) := by unfold m_sr; rw [m_g_set_self hlt]; rfl
      have hfv : m_fval ads μ.2 ((m_g μ q).2.set f o) q f 3 = va_rf (o.map ads) := by
        show va_rf (((((m_g μ q).2.set f o)[f]?).join).map ads) = _
        rw [List.getElem?_set_self hbl]
        rfl
      refine m_Nx_cell (c0 := q) (by simp [m_sr]) (m_sz_set _ _ _ rfl) hlt hr2 (m_mok_sr hM hlt hw) (fun c' hc' => by unfold m_sr; rw [m_g_set hc']) ?_ (fun kk => m_put_row hF ha hf hr hd hg hP hD hS ht hv kk)
      show m_ce tc ads μ.2 q (m_g (m_sr μ.1 q f o, μ.2) q) = _
      rw [hg1, m_ce_0 (g := ((m_g μ q).1, (m_g μ q).2.set f o)) (a := a) hg]
      congr 2
      refine m_fs_up ht hfv (fun j t' hj => ?_)
      unfold m_fval
      split
      · rfl
      · rw [List.getElem?_set_ne (Ne.symm hj)]
      · rfl
    next => cases h
  next => cases h
end MM
end
section
theorem m_ofN (n : Nat) : Int32.ofInt (n : Int) = Int32.ofNat n := by
  apply Int32.toInt_inj.mp
  rw [Int32.toInt_ofInt, Int32.toInt_ofNat']
theorem m_rep_none (n k : Nat) : ((List.replicate n (none : Option Nat))[k]?).join = none := by
  rw [List.getElem?_replicate]
  split <;> rfl
theorem m_oi_ok : m_wok (.instanceMethod Lib.objectInit) 46 = true := by decide +kernel
theorem m_oc_ok : m_wok (.code Lib.objectInit ⟨#[0xb1]⟩ 1 none) 47 = true := by decide +kernel
theorem m_sy_ok : m_wok (.initialized "java/lang/System") 38 = true := by decide +kernel
theorem m_a1_ok : m_wok (.arrayClass .int) 82 = true := by decide +kernel
theorem m_a2_ok : m_wok (.arrayClass .long) 245 = true := by decide +kernel
theorem m_a3_ok : m_wok (.arrayClass .byte) 64 = true := by decide +kernel
section MA
variable {p : Program} {l : Launch} {e : Env} {R : Room} {s : State} {m : MethodId} {args : Array Value} {below : List Frame} {meth : Method} {c : Code} {Q : State → Prop}
variable {H : Heap} {locs : List Loc} {ls : Array Slot}
variable {dC : Nat → ClassId} {dI : Nat → Nat → Nat} {tc : Nat → ClassId} {A : Nat → Prop} {X : Option (Nat × (Nat → Int))} {b y : Nat}
set_option maxHeartbeats 4000000 in
theorem m_len_ok {ads : Nat → Nat} {n0 z0 pc a f len : Nat} {z : Int} {r : Instr} {st st' : List m_V} {μ μ' : m_M} (hF : m_Fx p R s m args meth c dC dI tc A X b y) (hr : m_okm (m_own y) (m_nm y).name r len 58 a f z = true) (hd : decode (m_by y) pc = .ok (r, len)) (h : m_mk X 58 a f z st μ = some (st', μ'))
    (hP : va_P (dC, dI) vwCl (m_ws tc ads μ) H) (hD : va_D A (m_ws tc ads μ)) (hS : va_S A s.heap H locs) (hM : m_mok μ) (hok : ∀ v ∈ st, m_okw μ.1.length v) : m_Nx p l e R s m args below meth c Q dC dI tc A b n0 z0 ls H locs ads pc (pc + len) st st' μ μ' := by
  obtain ⟨hx, hb, hml, hown, hts, hK, hN, hO, hA, hin, hX, hfr, hlo⟩ := hF
  simp only [m_okm, Bool.and_eq_true, decide_eq_true_eq] at hr
  obtain ⟨rfl, rfl⟩ := hr
  simp only [m_mk] at h
  split at h
  next q r0 =>
    split at h
    next hg =>
      cases h
      obtain ⟨hg1, hg4⟩ := hg
      have hlt := m_lt_of (μ := μ) (c := q) (by omega)
      obtain ⟨-, hr2⟩ := m_one hok
      have h4 := hM.2.2.2 q
      refine m_Nx_same hP hD hS hM (m_put (show m_in _ from ⟨by omega, by omega⟩) hr2) fun k => ?_
      have he := m_ws_get (tc := tc) (ads := ads) hlt
      have hc : (m_gk μ q).1 = 1 ∨ (m_gk μ q).1 = 2 ∨ (m_gk μ q).1 = 3 ∨ (m_gk μ q).1 = 4 := by omega
      rcases hc with hc | hc | hc | hc
      · rw [m_ce_1 hc] at he
        exact va_alen hx hb hK hP q 0 he rfl (m_ofN _).symm hd k
      · rw [m_ce_2 hc] at he
        exact va_alen hx hb hK hP q 1 he rfl (m_ofN _).symm hd k
      · rw [m_ce_3 hc] at he
        exact va_alen hx hb hK hP q 2 he rfl (m_ofN _).symm hd k
      · rw [m_ce_4 hc] at he
        exact va_alen hx hb hK hP q 3 he rfl (m_ofN _).symm hd k
    next => cases h
  next r0 =>
    split at h
    next x =>
      cases h
      obtain ⟨hXv, hbl, hbA, -, hx25⟩ := hX x rfl
      obtain ⟨-, hr2⟩ := m_one hok
      refine m_Nx_same hP hD hS hM (m_put (show m_in _ from ⟨by omega, by omega⟩) hr2) fun k => ?_
      refine va_slen hx hb hXv hbl hbA hS hd ?_
      rw [← m_ofN]
      exact k
    next => cases h
  next => cases h

set_option maxHeartbeats 4000000 in
theorem m_iald_ok {ads : Nat → Nat} {n0 z0 pc a f len : Nat} {z : Int} {r : Instr} {st st' : List m_V} {μ μ' : m_M} (hF : m_Fx p R s m args meth c dC dI tc A X b y) (hr : m_okm (m_own y) (m_nm y).name r len 59 a f z = true) (hd : decode (m_by y) pc = .ok (r, len)) (h : m_mk X 59 a f z st μ = some (st', μ'))
    (hP : va_P (dC, dI) vwCl (m_ws tc ads μ) H) (hD : va_D A (m_ws tc ads μ)) (hS : va_S A s.heap H locs) (hM : m_mok μ) (hok : ∀ v ∈ st, m_okw μ.1.length v) : m_Nx p l e R s m args below meth c Q dC dI tc A b n0 z0 ls H locs ads pc (pc + len) st st' μ μ' := by
  obtain ⟨hx, hb, hml, hown, hts, hK, hN, hO, hA, hin, hX, hfr, hlo⟩ := hF
  simp only [m_okm, Bool.and_eq_true, decide_eq_true_eq] at hr
  obtain ⟨rfl, rfl⟩ := hr
  simp only [m_mk] at h
  split at h
  next i q r0 =>
    split at h
    next hg =>
      cases h
      obtain ⟨hg1, hi0, hi1⟩ := hg
      have hlt := m_lt_of (μ := μ) (c := q) (by omega)
      obtain ⟨hw, -, hr2⟩ := m_two hok
      refine m_Nx_same hP hD hS hM (m_put (show m_in _ from hM.1 q _ (by rw [m_tk_1 hg1]; decide)) hr2) fun k => ?_
      have he := m_ws_get (tc := tc) (ads := ads) hlt
      rw [m_ce_1 hg1] at he
      refine va_iald hx hb hK hP q 0 he rfl (m_vpin hw hi0 hi1) hd ?_
      rw [m_cl hw]
      exact k
    next => cases h
  next i r0 =>
    split at h
    next x =>
      split at h
      next hg =>
        cases h
        obtain ⟨hi0, hi1⟩ := hg
        obtain ⟨hXv, hbl, hbA, hxi, hx25⟩ := hX x rfl
        obtain ⟨hw, -, hr2⟩ := m_two hok
        refine m_Nx_same hP hD hS hM (m_put (show m_in _ from hxi _) hr2) fun k => ?_
        refine va_sld hx hb hXv hbl hbA hS (m_vpin hw hi0 hi1) hd ?_
        rw [m_cl hw]
        exact k
      next => cases h
    next => cases h
  next => cases h

set_option maxHeartbeats 4000000 in
theorem m_lald_ok {ads : Nat → Nat} {n0 z0 pc a f len : Nat} {z : Int} {r : Instr} {st st' : List m_V} {μ μ' : m_M} (hF : m_Fx p R s m args meth c dC dI tc A X b y) (hr : m_okm (m_own y) (m_nm y).name r len 60 a f z = true) (hd : decode (m_by y) pc = .ok (r, len)) (h : m_mk X 60 a f z st μ = some (st', μ'))
    (hP : va_P (dC, dI) vwCl (m_ws tc ads μ) H) (hD : va_D A (m_ws tc ads μ)) (hS : va_S A s.heap H locs) (hM : m_mok μ) (hok : ∀ v ∈ st, m_okw μ.1.length v) : m_Nx p l e R s m args below meth c Q dC dI tc A b n0 z0 ls H locs ads pc (pc + len) st st' μ μ' := by
  obtain ⟨hx, hb, hml, hown, hts, hK, hN, hO, hA, hin, hX, hfr, hlo⟩ := hF
  simp only [m_okm, Bool.and_eq_true, decide_eq_true_eq] at hr
  obtain ⟨rfl, rfl⟩ := hr
  simp only [m_mk] at h
  split at h
  next i q r0 =>
    split at h
    next hg =>
      cases h
      obtain ⟨hg1, hi0, hi1⟩ := hg
      have hlt := m_lt_of (μ := μ) (c := q) (by omega)
      obtain ⟨hw, -, hr2⟩ := m_two hok
      refine m_Nx_same hP hD hS hM (m_put (show m_il _ from hM.2.1 q _ (m_tk_2 hg1)) hr2) fun k => ?_
      have he := m_ws_get (tc := tc) (ads := ads) hlt
      rw [m_ce_2 hg1] at he
      refine va_lald hx hb hK hP q 1 he rfl (m_vpin hw hi0 hi1) hd ?_
      rw [m_cl hw]
      exact k
    next => cases h
  next => cases h

set_option maxHeartbeats 4000000 in
theorem m_bald_ok {ads : Nat → Nat} {n0 z0 pc a f len : Nat} {z : Int} {r : Instr} {st st' : List m_V} {μ μ' : m_M} (hF : m_Fx p R s m args meth c dC dI tc A X b y) (hr : m_okm (m_own y) (m_nm y).name r len 61 a f z = true) (hd : decode (m_by y) pc = .ok (r, len)) (h : m_mk X 61 a f z st μ = some (st', μ'))
    (hP : va_P (dC, dI) vwCl (m_ws tc ads μ) H) (hD : va_D A (m_ws tc ads μ)) (hS : va_S A s.heap H locs) (hM : m_mok μ) (hok : ∀ v ∈ st, m_okw μ.1.length v) : m_Nx p l e R s m args below meth c Q dC dI tc A b n0 z0 ls H locs ads pc (pc + len) st st' μ μ' := by
  obtain ⟨hx, hb, hml, hown, hts, hK, hN, hO, hA, hin, hX, hfr, hlo⟩ := hF
  simp only [m_okm, Bool.and_eq_true, decide_eq_true_eq] at hr
  obtain ⟨rfl, rfl⟩ := hr
  simp only [m_mk] at h
  split at h
  next i q r0 =>
    split at h
    next hg =>
      cases h
      obtain ⟨hg1, hi0, hi1⟩ := hg
      have hlt := m_lt_of (μ := μ) (c := q) (by omega)
      obtain ⟨hw, -, hr2⟩ := m_two hok
      refine m_Nx_same hP hD hS hM (m_put (show m_in _ from hM.1 q _ (by rw [m_tk_3 hg1]; decide)) hr2) fun k => ?_
      have he := m_ws_get (tc := tc) (ads := ads) hlt
      rw [m_ce_3 hg1] at he
      refine va_bald hx hb hK hP q 2 he rfl (m_vpin hw hi0 hi1) hd ?_
      rw [m_cl hw]
      exact k
    next => cases h
  next => cases h

set_option maxHeartbeats 4000000 in
theorem m_aald_ok {ads : Nat → Nat} {n0 z0 pc a f len : Nat} {z : Int} {r : Instr} {st st' : List m_V} {μ μ' : m_M} (hF : m_Fx p R s m args meth c dC dI tc A X b y) (hr : m_okm (m_own y) (m_nm y).name r len 62 a f z = true) (hd : decode (m_by y) pc = .ok (r, len)) (h : m_mk X 62 a f z st μ = some (st', μ'))
    (hP : va_P (dC, dI) vwCl (m_ws tc ads μ) H) (hD : va_D A (m_ws tc ads μ)) (hS : va_S A s.heap H locs) (hM : m_mok μ) (hok : ∀ v ∈ st, m_okw μ.1.length v) : m_Nx p l e R s m args below meth c Q dC dI tc A b n0 z0 ls H locs ads pc (pc + len) st st' μ μ' := by
  obtain ⟨hx, hb, hml, hown, hts, hK, hN, hO, hA, hin, hX, hfr, hlo⟩ := hF
  simp only [m_okm, Bool.and_eq_true, decide_eq_true_eq] at hr
  obtain ⟨rfl, rfl⟩ := hr
  simp only [m_mk] at h
  split at h
  next i q r0 =>
    split at h
    next hg =>
      cases h
      obtain ⟨hg1, hi0, hi1⟩ := hg
      have hlt := m_lt_of (μ := μ) (c := q) (by omega)
      obtain ⟨hw, -, hr2⟩ := m_two hok
      refine m_Nx_same hP hD hS hM (m_put (fun j hj => hM.2.2.1 q _ j hj) hr2) fun k => ?_
      have he := m_ws_get (tc := tc) (ads := ads) hlt
      rw [m_ce_4 hg1] at he
      refine va_aldq hx hb hK hP q 3 he rfl (m_vpin hw hi0 hi1) hd ?_
      rw [m_cl hw]
      exact k
    next => cases h
  next => cases h

set_option maxHeartbeats 4000000 in
theorem m_iast_ok {ads : Nat → Nat} {n0 z0 pc a f len : Nat} {z : Int} {r : Instr} {st st' : List m_V} {μ μ' : m_M} (hF : m_Fx p R s m args meth c dC dI tc A X b y) (hr : m_okm (m_own y) (m_nm y).name r len 63 a f z = true) (hd : decode (m_by y) pc = .ok (r, len)) (h : m_mk X 63 a f z st μ = some (st', μ'))
    (hP : va_P (dC, dI) vwCl (m_ws tc ads μ) H) (hD : va_D A (m_ws tc ads μ)) (hS : va_S A s.heap H locs) (hM : m_mok μ) (hok : ∀ v ∈ st, m_okw μ.1.length v) : m_Nx p l e R s m args below meth c Q dC dI tc A b n0 z0 ls H locs ads pc (pc + len) st st' μ μ' := by
  obtain ⟨hx, hb, hml, hown, hts, hK, hN, hO, hA, hin, hX, hfr, hlo⟩ := hF
  simp only [m_okm, Bool.and_eq_true, decide_eq_true_eq] at hr
  obtain ⟨rfl, rfl⟩ := hr
  simp only [m_mk] at h
  split at h
  next x i q r0 =>
    split at h
    next hg =>
      cases h
      obtain ⟨hg1, hi0, hi1⟩ := hg
      have hlt := m_lt_of (μ := μ) (c := q) (by omega)
      obtain ⟨hw, hwi, hr1⟩ := m_two hok
      obtain ⟨-, hr2⟩ := m_one hr1
      have he := m_ws_get (tc := tc) (ads := ads) hlt
      rw [m_ce_1 hg1] at he
      refine m_Nx_cell (c0 := q) rfl rfl hlt hr2 (m_mok_up hM (fun _ => hw) (fun h2 => by rw [m_tk_1 hg1] at h2; cases h2)) (fun c' hc' => m_ce_up hc') ?_ (fun kk => va_iast hx hb hK hP hD hS q 0 he rfl (m_vpin hwi hi0 hi1) hd kk)
      show m_ce tc ads (m_up μ.2 q i.toNat x) q (m_g μ q) = _
      rw [m_ce_1 hg1, m_cl hwi]
      congr
      funext j
      unfold upd m_up
      by_cases hj : j = i.toNat
      · rw [if_pos hj, if_pos ⟨rfl, hj⟩]
      · rw [if_neg hj, if_neg (fun w => hj w.2)]
    next => cases h
  next => cases h

set_option maxHeartbeats 4000000 in
theorem m_last_ok {ads : Nat → Nat} {n0 z0 pc a f len : Nat} {z : Int} {r : Instr} {st st' : List m_V} {μ μ' : m_M} (hF : m_Fx p R s m args meth c dC dI tc A X b y) (hr : m_okm (m_own y) (m_nm y).name r len 64 a f z = true) (hd : decode (m_by y) pc = .ok (r, len)) (h : m_mk X 64 a f z st μ = some (st', μ'))
    (hP : va_P (dC, dI) vwCl (m_ws tc ads μ) H) (hD : va_D A (m_ws tc ads μ)) (hS : va_S A s.heap H locs) (hM : m_mok μ) (hok : ∀ v ∈ st, m_okw μ.1.length v) : m_Nx p l e R s m args below meth c Q dC dI tc A b n0 z0 ls H locs ads pc (pc + len) st st' μ μ' := by
  obtain ⟨hx, hb, hml, hown, hts, hK, hN, hO, hA, hin, hX, hfr, hlo⟩ := hF
  simp only [m_okm, Bool.and_eq_true, decide_eq_true_eq] at hr
  obtain ⟨rfl, rfl⟩ := hr
  simp only [m_mk] at h
  split at h
  next x i q r0 =>
    split at h
    next hg =>
      cases h
      obtain ⟨hg1, hi0, hi1⟩ := hg
      have hlt := m_lt_of (μ := μ) (c := q) (by omega)
      obtain ⟨hw, hwi, hr1⟩ := m_two hok
      obtain ⟨-, hr2⟩ := m_one hr1
      have he := m_ws_get (tc := tc) (ads := ads) hlt
      rw [m_ce_2 hg1] at he
      refine m_Nx_cell (c0 := q) rfl rfl hlt hr2 (m_mok_up hM (fun h2 => by rw [m_tk_2 hg1] at h2; omega) (fun _ => hw)) (fun c' hc' => m_ce_up hc') ?_ (fun kk => va_last hx hb hK hP hD hS q 1 he rfl (m_vpin hwi hi0 hi1) hd kk)
      show m_ce tc ads (m_up μ.2 q i.toNat x) q (m_g μ q) = _
      rw [m_ce_2 hg1, m_cl hwi]
      congr
      funext j
      unfold vp_updL m_up
      by_cases hj : j = i.toNat
      · rw [if_pos hj, if_pos ⟨rfl, hj⟩]
      · rw [if_neg hj, if_neg (fun w => hj w.2)]
    next => cases h
  next => cases h

set_option maxHeartbeats 4000000 in
theorem m_bast_ok {ads : Nat → Nat} {n0 z0 pc a f len : Nat} {z : Int} {r : Instr} {st st' : List m_V} {μ μ' : m_M} (hF : m_Fx p R s m args meth c dC dI tc A X b y) (hr : m_okm (m_own y) (m_nm y).name r len 65 a f z = true) (hd : decode (m_by y) pc = .ok (r, len)) (h : m_mk X 65 a f z st μ = some (st', μ'))
    (hP : va_P (dC, dI) vwCl (m_ws tc ads μ) H) (hD : va_D A (m_ws tc ads μ)) (hS : va_S A s.heap H locs) (hM : m_mok μ) (hok : ∀ v ∈ st, m_okw μ.1.length v) : m_Nx p l e R s m args below meth c Q dC dI tc A b n0 z0 ls H locs ads pc (pc + len) st st' μ μ' := by
  obtain ⟨hx, hb, hml, hown, hts, hK, hN, hO, hA, hin, hX, hfr, hlo⟩ := hF
  simp only [m_okm, Bool.and_eq_true, decide_eq_true_eq] at hr
  obtain ⟨rfl, rfl⟩ := hr
  simp only [m_mk] at h
  split at h
  next x i q r0 =>
    split at h
    next hg =>
      cases h
      obtain ⟨hg1, hi0, hi1⟩ := hg
      have hlt := m_lt_of (μ := μ) (c := q) (by omega)
      obtain ⟨hw, hwi, hr1⟩ := m_two hok
      obtain ⟨-, hr2⟩ := m_one hr1
      have he := m_ws_get (tc := tc) (ads := ads) hlt
      rw [m_ce_3 hg1] at he
      refine m_Nx_cell (c0 := q) rfl rfl hlt hr2 (m_mok_up hM (fun _ => m_in_b _) (fun h2 => by rw [m_tk_3 hg1] at h2; cases h2)) (fun c' hc' => m_ce_up hc') ?_ (fun kk => va_bast hx hb hK hP hD hS q 2 he rfl (m_vpin hwi hi0 hi1) hd kk)
      show m_ce tc ads (m_up μ.2 q i.toNat (m_b x)) q (m_g μ q) = _
      rw [m_ce_3 hg1, m_cl hwi]
      congr
      funext j
      unfold upd m_up
      by_cases hj : j = i.toNat
      · rw [if_pos hj, if_pos ⟨rfl, hj⟩]
        exact (m_i2b hw).symm
      · rw [if_neg hj, if_neg (fun w => hj w.2)]
    next => cases h
  next => cases h

set_option maxHeartbeats 4000000 in
theorem m_aast_ok {ads : Nat → Nat} {n0 z0 pc a f len : Nat} {z : Int} {r : Instr} {st st' : List m_V} {μ μ' : m_M} (hF : m_Fx p R s m args meth c dC dI tc A X b y) (hr : m_okm (m_own y) (m_nm y).name r len 66 a f z = true) (hd : decode (m_by y) pc = .ok (r, len)) (h : m_mk X 66 a f z st μ = some (st', μ'))
    (hP : va_P (dC, dI) vwCl (m_ws tc ads μ) H) (hD : va_D A (m_ws tc ads μ)) (hS : va_S A s.heap H locs) (hM : m_mok μ) (hok : ∀ v ∈ st, m_okw μ.1.length v) : m_Nx p l e R s m args below meth c Q dC dI tc A b n0 z0 ls H locs ads pc (pc + len) st st' μ μ' := by
  obtain ⟨hx, hb, hml, hown, hts, hK, hN, hO, hA, hin, hX, hfr, hlo⟩ := hF
  simp only [m_okm, Bool.and_eq_true, decide_eq_true_eq] at hr
  obtain ⟨rfl, rfl⟩ := hr
  simp only [m_mk] at h
  split at h
  next j i q r0 =>
    split at h
    next hg =>
      cases h
      obtain ⟨hg1, hi0, hi1, hgj, hrl⟩ := hg
      have hlt := m_lt_of (μ := μ) (c := q) (by omega)
      have hltj := m_lt_obj hgj
      obtain ⟨hw, hwi, hr1⟩ := m_two hok
      obtain ⟨-, hr2⟩ := m_one hr1
      have he := m_ws_get (tc := tc) (ads := ads) hlt
      rw [m_ce_4 hg1] at he
      have hej := m_ws_get (tc := tc) (ads := ads) hltj
      rw [m_ce_0 hgj] at hej
      have hg2 : m_g (m_sr μ.1 q i.toNat (some j), μ.2) q = ((m_g μ q).1, (m_g μ q).2.set i.toNat (some j)) := by unfold m_sr; rw [m_g_set_self hlt]; rfl
      refine m_Nx_cell (c0 := q) (by simp [m_sr]) (m_sz_set _ _ _ rfl) hlt hr2 (m_mok_sr hM hlt hw) (fun c' hc' => by unfold m_sr; rw [m_g_set hc']) ?_ (fun kk => va_astq hx hb hK hP hD hS q 3 j 7 he rfl hej rfl (m_vpin hwi hi0 hi1) hd kk)
      show m_ce tc ads μ.2 q (m_g (m_sr μ.1 q i.toNat (some j), μ.2) q) = _
      rw [hg2, m_ce_4 (g := ((m_g μ q).1, (m_g μ q).2.set i.toNat (some j))) hg1, m_cl hwi]
      congr
      funext k
      unfold va_up
      by_cases hk : k = i.toNat
      · subst hk
        rw [if_pos rfl]
        show ((((m_g μ q).2.set i.toNat (some j))[i.toNat]?).join).map ads = _
        rw [List.getElem?_set_self hrl]
        rfl
      · rw [if_neg hk]
        show ((((m_g μ q).2.set i.toNat (some j))[k]?).join).map ads = _
        rw [List.getElem?_set_ne (Ne.symm hk)]
    next => cases h
  next => cases h

set_option maxHeartbeats 4000000 in
theorem m_obj_ok {ads : Nat → Nat} {n0 z0 pc a f len : Nat} {z : Int} {r : Instr} {st st' : List m_V} {μ μ' : m_M} (hF : m_Fx p R s m args meth c dC dI tc A X b y) (hr : m_okm (m_own y) (m_nm y).name r len 67 a f z = true) (hd : decode (m_by y) pc = .ok (r, len)) (h : m_mk X 67 a f z st μ = some (st', μ'))
    (hP : va_P (dC, dI) vwCl (m_ws tc ads μ) H) (hD : va_D A (m_ws tc ads μ)) (hS : va_S A s.heap H locs) (hM : m_mok μ) (hok : ∀ v ∈ st, m_okw μ.1.length v) (hls : ls.size = c.maxLocals) : m_Nx p l e R s m args below meth c Q dC dI tc A b n0 z0 ls H locs ads pc (pc + len) st st' μ μ' := by
  obtain ⟨hx, hb, hml, hown, hts, hK, hN, hO, hA, hin, hX, hfr, hlo⟩ := hF
  simp only [m_okm, Bool.and_eq_true, decide_eq_true_eq] at hr
  obtain ⟨rfl, hr⟩ := hr
  simp only [m_mk] at h
  split at h
  next q r0 =>
    split at h
    next hrl =>
      cases h
      obtain ⟨-, hr2⟩ := m_one hok
      refine m_Nx_same hP hD hS hM hr2 fun k => ?_
      unfold m_okv at hr
      split at hr
      next i =>
        simp only [Bool.and_eq_true, decide_eq_true_eq, Option.map_eq_some_iff] at hr
        obtain ⟨⟨⟨q1, q2, q3⟩, e1, e2⟩, -⟩ := hr
        cases e2
        have hw := List.all_eq_true.mp m_ML_ok _ (m_lk2_in e1)
        have hw : m_wok (.methodLink (m_cn (m_own y)) i Lib.objectInit) _ = true := hw
        have hc8 := m_cats (ads := ads) (b := b) _ 4 hrl
        refine W.objInit hx hb hown (hts _ (m_wok_in hw)) (hts _ (m_wok_in m_oi_ok)) (hts _ (m_wok_in m_oc_ok)) rfl hls rfl hd hfr ?_ k
        show 2 * 0 + _ + 12 ≤ _
        omega
      next => simp at hr
      next => cases hr
    next => cases h
  next => cases h

set_option maxHeartbeats 4000000 in
theorem m_acp_ok {ads : Nat → Nat} {n0 z0 pc a f len : Nat} {z : Int} {r : Instr} {st st' : List m_V} {μ μ' : m_M} (hF : m_Fx p R s m args meth c dC dI tc A X b y) (hr : m_okm (m_own y) (m_nm y).name r len 68 a f z = true) (hd : decode (m_by y) pc = .ok (r, len)) (h : m_mk X 68 a f z st μ = some (st', μ'))
    (hP : va_P (dC, dI) vwCl (m_ws tc ads μ) H) (hD : va_D A (m_ws tc ads μ)) (hS : va_S A s.heap H locs) (hM : m_mok μ) (hok : ∀ v ∈ st, m_okw μ.1.length v) (hls : ls.size = c.maxLocals) : m_Nx p l e R s m args below meth c Q dC dI tc A b n0 z0 ls H locs ads pc (pc + len) st st' μ μ' := by
  obtain ⟨hx, hb, hml, hown, hts, hK, hN, hO, hA, hin, hX, hfr, hlo⟩ := hF
  simp only [m_okm, Bool.and_eq_true, decide_eq_true_eq] at hr
  obtain ⟨rfl, hr⟩ := hr
  simp only [m_mk] at h
  split at h
  next n dp d sp q r0 =>
    split at h
    next hg =>
      cases h
      obtain ⟨hg1, hg2, hs0, hd0, hn0, hs1, hd1, hrl⟩ := hg
      have hlt := m_lt_of (μ := μ) (c := q) (by omega)
      have hltd := m_lt_of (μ := μ) (c := d) (by omega)
      obtain ⟨hwn, hwd, hr1⟩ := m_two hok
      obtain ⟨-, hws, hr3⟩ := m_two hr1
      obtain ⟨-, hr2⟩ := m_one hr3
      have he := m_ws_get (tc := tc) (ads := ads) hlt
      rw [m_ce_1 hg1] at he
      have hed := m_ws_get (tc := tc) (ads := ads) hltd
      rw [m_ce_1 hg2] at hed
      have hmok : m_mok (μ.1, m_cp μ.2 q d sp.toNat dp.toNat n.toNat) := by
        refine ⟨fun c' k' hk => ?_, fun c' k' hk => ?_, hM.2.2.1, hM.2.2.2⟩
        · show m_in (m_cp _ _ _ _ _ _ c' k')
          unfold m_cp
          split
          · exact hM.1 q _ (by rw [m_tk_1 hg1]; decide)
          · exact hM.1 c' k' hk
        · show m_il (m_cp _ _ _ _ _ _ c' k')
          unfold m_cp
          split
          next w => rw [w.1, m_tk_1 hg2] at hk; cases hk
          · exact hM.2.1 c' k' hk
      refine m_Nx_cell (c0 := d) rfl rfl hltd hr2 hmok (fun c' hc' => m_ce_cp hc') (E := .inl (tc 0, (m_g μ d).1.2, .inl (va_cpy (fun j => Int32.ofInt (μ.2 q j)) (fun j => Int32.ofInt (μ.2 d j)) sp.toNat dp.toNat n.toNat))) ?_ (fun kk => ?_)
      · show m_ce tc ads (m_cp μ.2 q d sp.toNat dp.toNat n.toNat) d (m_g μ d) = _
        rw [m_ce_1 hg2]
        congr
        funext j
        unfold va_cpy m_cp
        by_cases hj : dp.toNat ≤ j ∧ j < dp.toNat + n.toNat
        · rw [if_pos hj, if_pos ⟨rfl, hj⟩]
        · rw [if_neg hj, if_neg (fun w => hj w.2)]
      · unfold m_okv at hr
        split at hr
        next => simp at hr
        next i =>
          simp only [Bool.and_eq_true, decide_eq_true_eq, Option.map_eq_some_iff] at hr
          obtain ⟨⟨⟨q1, q2, q3, q4, q5⟩, e1, e2⟩, -⟩ := hr
          cases e2
          have hw := List.all_eq_true.mp m_ML_ok _ (m_lk2_in e1)
          simp only [m_mlw, Bool.and_eq_true] at hw
          have hc8 := m_cats (ads := ads) (b := b) _ 4 hrl
          have hnw : nativeFrameWords "java/lang/System" "arraycopy" 5 ≤ 16 := by decide
          refine va_copyi hx hb (by rw [hls]) hown (hts _ (m_wok_in hw.1)) (hts _ (m_wok_in hw.2.1)) (hts _ (m_wok_in hw.2.2)) (hts _ (m_wok_in m_sy_ok)) hK hP hD hS q d 0 0 he hed rfl rfl rfl (m_nneg hws hs0) (m_nneg hwd hd0) (m_nneg hwn hn0) ?_ ?_ (fun _ _ => rfl) hfr (by omega) hd ?_
          · rw [m_cl hws, m_cl hwn]
            show _ ≤ (m_gk μ q).2
            omega
          · rw [m_cl hwd, m_cl hwn]
            show _ ≤ (m_gk μ d).2
            omega
          · rw [m_cl hws, m_cl hwd, m_cl hwn]
            exact kk
        next => cases hr
    next => cases h
  next => cases h

set_option maxHeartbeats 4000000 in
theorem m_raw_ok {ads : Nat → Nat} {n0 z0 pc a f len : Nat} {z : Int} {r : Instr} {st st' : List m_V} {μ μ' : m_M} (hF : m_Fx p R s m args meth c dC dI tc A X b y) (hr : m_okm (m_own y) (m_nm y).name r len 69 a f z = true) (hd : decode (m_by y) pc = .ok (r, len)) (h : m_mk X 69 a f z st μ = some (st', μ'))
    (hP : va_P (dC, dI) vwCl (m_ws tc ads μ) H) (hD : va_D A (m_ws tc ads μ)) (hS : va_S A s.heap H locs) (hM : m_mok μ) (hok : ∀ v ∈ st, m_okw μ.1.length v) (hls : ls.size = c.maxLocals) : m_Nx p l e R s m args below meth c Q dC dI tc A b n0 z0 ls H locs ads pc (pc + len) st st' μ μ' := by
  exfalso
  simp [m_okm] at hr


/-- a step that makes a cell -/
theorem m_Nx_new {ads : Nat → Nat} {n0 z0 pc pc' nn : Nat} {E : va_E} {g : m_G} {σ : Nat → Nat → Int} {st r0 : List m_V} {μ : m_M} (hn0 : n0 ≤ μ.1.length) (hz0 : z0 ≤ m_sz μ.1) (hM : m_mok μ) (hok : ∀ v ∈ r0, m_okw μ.1.length v) (hnn : (if g.1.1 = 0 then m_fn g.1.2 else g.1.2) = nn)
    (hgk : g.1.2 ≤ 4096) (hgr : ∀ (k j : Nat), (g.2[k]?).join = some j → False) (hσ : ∀ c' k, c' ≠ μ.1.length → σ c' k = μ.2 c' k) (hσ0 : ∀ k, m_tk (μ.1 ++ [g]) μ.1.length k ≤ 2 → σ μ.1.length k = 0)
    (hne : ∀ c', c' ≠ μ.1.length → ∀ (ads' : Nat → Nat) (g' : m_G), m_ce tc ads' σ c' g' = m_ce tc ads' μ.2 c' g') (he : ∀ ads' : Nat → Nat, m_ce tc ads' σ μ.1.length g = E)
    (k : (∀ (q : Nat) (H1 : Heap), va_P (dC, dI) vwCl (m_ws tc ads μ ++ [(q, E)]) H1 → va_D A (m_ws tc ads μ ++ [(q, E)]) → va_S A s.heap H1 locs → W p l e R s m args below meth c H1 locs (μ.1.length - n0 + 1) (m_sz μ.1 - z0 + nn) Q (F0 m pc' ls (.ref q :: r0.map (m_re ads b)))) → W p l e R s m args below meth c H locs (μ.1.length - n0) (m_sz μ.1 - z0) Q (F0 m pc ls (st.map (m_re ads b)))) :
    m_Nx p l e R s m args below meth c Q dC dI tc A b n0 z0 ls H locs ads pc pc' st (m_R μ.1.length :: r0) μ (μ.1 ++ [g], σ) := by
  have hl : (μ.1 ++ [g]).length = μ.1.length + 1 := by simp
  have hsz := m_sz_app μ.1 g
  rw [hnn] at hsz
  have hgg : ∀ c', c' < μ.1.length → m_g (μ.1 ++ [g], σ) c' = m_g μ c' := fun c' hc' => m_g_app hc'
  have htk : ∀ c' k, c' ≠ μ.1.length → m_tk (μ.1 ++ [g]) c' k = m_tk μ.1 c' k := by
    intro c' k hc'
    unfold m_tk
    by_cases hlt : c' < μ.1.length
    · rw [show (μ.1 ++ [g]).getD c' ((9, 0), []) = μ.1.getD c' ((9, 0), []) from hgg c' hlt]
    · rw [show (μ.1 ++ [g]).getD c' ((9, 0), []) = ((9, 0), []) from m_g_out (G := μ.1 ++ [g]) (σ := σ) (by omega), show μ.1.getD c' ((9, 0), []) = ((9, 0), []) from m_g_out (G := μ.1) (σ := σ) (by omega)]
  have hmok : m_mok (μ.1 ++ [g], σ) := by
    refine ⟨fun c' k' hk => ?_, fun c' k' hk => ?_, fun c' k' j hj => ?_, fun c' => ?_⟩
    · show m_in (σ c' k')
      by_cases hc' : c' = μ.1.length
      · subst hc'
        rw [hσ0 k' (Nat.le_trans hk (by decide))]
        exact m_in0
      · rw [hσ c' k' hc']
        exact hM.1 c' k' (by rw [← htk c' k' hc']; exact hk)
    · show m_il (σ c' k')
      by_cases hc' : c' = μ.1.length
      · subst hc'
        rw [hσ0 k' (Nat.le_of_eq hk)]
        unfold m_il
        decide
      · rw [hσ c' k' hc']
        exact hM.2.1 c' k' (by rw [← htk c' k' hc']; exact hk)
    · show j < (μ.1 ++ [g]).length
      rw [hl]
      by_cases hlt : c' < μ.1.length
      · unfold m_gr at hj
        rw [hgg c' hlt] at hj
        exact Nat.lt_succ_of_lt (hM.2.2.1 c' k' j hj)
      · by_cases hc' : c' = μ.1.length
        · subst hc'
          unfold m_gr at hj
          rw [m_g_app_self] at hj
          exact (hgr k' j hj).elim
        · unfold m_gr at hj
          rw [m_g_out (by rw [hl]; omega)] at hj
          simp at hj
    · show (m_g (μ.1 ++ [g], σ) c').1.2 ≤ 4096
      by_cases hlt : c' < μ.1.length
      · rw [hgg c' hlt]; exact hM.2.2.2 c'
      · by_cases hc' : c' = μ.1.length
        · subst hc'; rw [m_g_app_self]; exact hgk
        · rw [m_g_out (by rw [hl]; omega)]; decide
  refine ⟨by show _ ≤ (μ.1 ++ [g]).length; omega, by show _ ≤ m_sz (μ.1 ++ [g]); omega, m_put (fun k hk => by cases hk; show _ < (μ.1 ++ [g]).length; omega) (fun v hv => m_okw_mono (by show _ ≤ (μ.1 ++ [g]).length; omega) (hok v hv)), hmok, fun kk => k fun q H1 hP hD hS => ?_⟩
  have ha : ∀ c', c' < μ.1.length → (fun c'' => if c'' = μ.1.length then q else ads c'') c' = ads c' := fun c' hc' => if_neg (Nat.ne_of_lt hc')
  have hw : m_ws tc ads μ ++ [(q, E)] = m_ws tc (fun c'' => if c'' = μ.1.length then q else ads c'') (μ.1 ++ [g], σ) := by
    refine m_ws_push (μ' := (μ.1 ++ [g], σ)) hl (if_pos rfl) ha (fun c' hc' => ?_) ?_
    · rw [hgg c' hc', hne c' (Nat.ne_of_lt hc')]
      exact m_ce_ads ha (fun k j hj => hM.2.2.1 c' k j hj)
    · rw [m_g_app_self]
      exact he _
  rw [hw] at hP hD
  have := kk _ H1 locs ha hP hD hS
  have e1 : (μ.1 ++ [g]).length - n0 = μ.1.length - n0 + 1 := by omega
  have e2 : m_sz (μ.1 ++ [g]) - z0 = m_sz μ.1 - z0 + nn := by omega
  have e3 : r0.map (m_re (fun c'' => if c'' = μ.1.length then q else ads c'') b) = r0.map (m_re ads b) := List.map_congr_left fun v hv => m_re_ads ha (hok v hv)
  have e4 : m_re (fun c'' => if c'' = μ.1.length then q else ads c'') b (m_R μ.1.length) = .ref q := by
    show va_rf (some (if μ.1.length = μ.1.length then q else ads μ.1.length)) = .ref q
    rw [if_pos rfl]
    rfl
  rw [e1, e2, List.map_cons, e3, e4] at this
  exact this
set_option maxHeartbeats 4000000 in
theorem m_newa_ok {ads : Nat → Nat} {n0 z0 pc a f len : Nat} {z : Int} {r : Instr} {st st' : List m_V} {μ μ' : m_M} (hF : m_Fx p R s m args meth c dC dI tc A X b y) (hr : m_okm (m_own y) (m_nm y).name r len 55 a f z = true) (hd : decode (m_by y) pc = .ok (r, len)) (h : m_mk X 55 a f z st μ = some (st', μ'))
    (hP : va_P (dC, dI) vwCl (m_ws tc ads μ) H) (hD : va_D A (m_ws tc ads μ)) (hS : va_S A s.heap H locs) (hM : m_mok μ) (hok : ∀ v ∈ st, m_okw μ.1.length v) (hn0 : n0 ≤ μ.1.length) (hz0 : z0 ≤ m_sz μ.1) (hcR : μ'.1.length - n0 ≤ R.cells) (hsR : m_sz μ'.1 - z0 ≤ R.slots) : m_Nx p l e R s m args below meth c Q dC dI tc A b n0 z0 ls H locs ads pc (pc + len) st st' μ μ' := by
  obtain ⟨hx, hb, hml, hown, hts, hK, hN, hO, hA, hin, hX, hfr, hlo⟩ := hF
  simp only [m_okm, Bool.and_eq_true, decide_eq_true_eq] at hr
  obtain ⟨rfl, hr⟩ := hr
  simp only [m_mk] at h
  split at h
  next n r0 =>
    split at h
    next hg =>
      cases h
      obtain ⟨hw, hr2⟩ := m_one hok
      unfold m_okx at hr
      split at hr
      next =>
        simp only [decide_eq_true_eq] at hr
        subst hr
        refine m_Nx_new (nn := n.toNat) (E := .inl (tc 0, n.toNat, .inl (fun _ => 0))) hn0 hz0 hM hr2 (by simp) (by show n.toNat ≤ 4096; omega) (fun k j hj => by simp at hj) (fun c' k hc' => by unfold m_zr; rw [if_neg hc']) (fun k _ => by unfold m_zr; rw [if_pos rfl]) (fun c' hc' ads' g' => m_ce_zr hc') (fun ads' => ?_) (fun kk => ?_)
        · rw [m_ce_1 (g := ((1, n.toNat), [])) rfl]
          congr
          funext j
          unfold m_zr
          rw [if_pos rfl]
          rfl
        · have hl2 : (μ.1 ++ [((1, n.toNat), ([] : List (Option Nat)))]).length = μ.1.length + 1 := by simp
          have hs2 : m_sz (μ.1 ++ [((1, n.toNat), ([] : List (Option Nat)))]) = m_sz μ.1 + n.toNat := by rw [m_sz_app]; simp
          have hcR : (μ.1 ++ [((1, n.toNat), ([] : List (Option Nat)))]).length - n0 ≤ R.cells := hcR
          have hsR : m_sz (μ.1 ++ [((1, n.toNat), ([] : List (Option Nat)))]) - z0 ≤ R.slots := hsR
          refine va_newa (atype := .int) (ty := .int) (a0 := (n.toNat, .inl (fun _ => 0))) hx hb (hts _ (m_wok_in m_a1_ok)) rfl hK hP hD hS hA (fun _ => rfl) (m_nneg hw hg.1) (m_cl hw) (by show n.toNat * 4 ≤ _; omega) (by omega) (by omega) hd (fun q cA H1 hK' hP' hD' hS' => ?_)
          have e1 : cA = tc 0 := by
            have w1 := (hK'.2 4 (cA, .int) rfl).2
            have w2 := (hK.2 0 (tc 0, .int) rfl).2
            exact Option.some.inj (w1.symm.trans w2)
          subst e1
          exact kk q H1 hP' hD' hS'
      next =>
        simp only [decide_eq_true_eq] at hr
        subst hr
        refine m_Nx_new (nn := n.toNat) (E := .inl (tc 1, n.toNat, .inr (.inl (fun _ => 0)))) hn0 hz0 hM hr2 (by simp) (by show n.toNat ≤ 4096; omega) (fun k j hj => by simp at hj) (fun c' k hc' => by unfold m_zr; rw [if_neg hc']) (fun k _ => by unfold m_zr; rw [if_pos rfl]) (fun c' hc' ads' g' => m_ce_zr hc') (fun ads' => ?_) (fun kk => ?_)
        · rw [m_ce_2 (g := ((2, n.toNat), [])) rfl]
          congr
          funext j
          unfold m_zr
          rw [if_pos rfl]
          rfl
        · have hl2 : (μ.1 ++ [((2, n.toNat), ([] : List (Option Nat)))]).length = μ.1.length + 1 := by simp
          have hs2 : m_sz (μ.1 ++ [((2, n.toNat), ([] : List (Option Nat)))]) = m_sz μ.1 + n.toNat := by rw [m_sz_app]; simp
          have hcR : (μ.1 ++ [((2, n.toNat), ([] : List (Option Nat)))]).length - n0 ≤ R.cells := hcR
          have hsR : m_sz (μ.1 ++ [((2, n.toNat), ([] : List (Option Nat)))]) - z0 ≤ R.slots := hsR
          refine va_newa (atype := .long) (ty := .long) (a0 := (n.toNat, .inr (.inl (fun _ => 0)))) hx hb (hts _ (m_wok_in m_a2_ok)) rfl hK hP hD hS hA (fun _ => rfl) (m_nneg hw hg.1) (m_cl hw) (by show n.toNat * 8 ≤ _; omega) (by omega) (by omega) hd (fun q cA H1 hK' hP' hD' hS' => ?_)
          have e1 : cA = tc 1 := by
            have w1 := (hK'.2 4 (cA, .long) rfl).2
            have w2 := (hK.2 1 (tc 1, .long) rfl).2
            exact Option.some.inj (w1.symm.trans w2)
          subst e1
          exact kk q H1 hP' hD' hS'
      next =>
        simp only [decide_eq_true_eq] at hr
        subst hr
        refine m_Nx_new (nn := n.toNat) (E := .inl (tc 2, n.toNat, .inl (fun _ => 0))) hn0 hz0 hM hr2 (by simp) (by show n.toNat ≤ 4096; omega) (fun k j hj => by simp at hj) (fun c' k hc' => by unfold m_zr; rw [if_neg hc']) (fun k _ => by unfold m_zr; rw [if_pos rfl]) (fun c' hc' ads' g' => m_ce_zr hc') (fun ads' => ?_) (fun kk => ?_)
        · rw [m_ce_3 (g := ((3, n.toNat), [])) rfl]
          congr
          funext j
          unfold m_zr
          rw [if_pos rfl]
          rfl
        · have hl2 : (μ.1 ++ [((3, n.toNat), ([] : List (Option Nat)))]).length = μ.1.length + 1 := by simp
          have hs2 : m_sz (μ.1 ++ [((3, n.toNat), ([] : List (Option Nat)))]) = m_sz μ.1 + n.toNat := by rw [m_sz_app]; simp
          have hcR : (μ.1 ++ [((3, n.toNat), ([] : List (Option Nat)))]).length - n0 ≤ R.cells := hcR
          have hsR : m_sz (μ.1 ++ [((3, n.toNat), ([] : List (Option Nat)))]) - z0 ≤ R.slots := hsR
          refine va_newa (atype := .byte) (ty := .byte) (a0 := (n.toNat, .inl (fun _ => 0))) hx hb (hts _ (m_wok_in m_a3_ok)) rfl hK hP hD hS hA (fun _ => rfl) (m_nneg hw hg.1) (m_cl hw) (by show n.toNat * 1 ≤ _; omega) (by omega) (by omega) hd (fun q cA H1 hK' hP' hD' hS' => ?_)
          have e1 : cA = tc 2 := by
            have w1 := (hK'.2 4 (cA, .byte) rfl).2
            have w2 := (hK.2 2 (tc 2, .byte) rfl).2
            exact Option.some.inj (w1.symm.trans w2)
          subst e1
          exact kk q H1 hP' hD' hS'
      next => cases hr
    next => cases h
  next => cases h

set_option maxHeartbeats 4000000 in
theorem m_newq_ok {ads : Nat → Nat} {n0 z0 pc a f len : Nat} {z : Int} {r : Instr} {st st' : List m_V} {μ μ' : m_M} (hF : m_Fx p R s m args meth c dC dI tc A X b y) (hr : m_okm (m_own y) (m_nm y).name r len 56 a f z = true) (hd : decode (m_by y) pc = .ok (r, len)) (h : m_mk X 56 a f z st μ = some (st', μ'))
    (hP : va_P (dC, dI) vwCl (m_ws tc ads μ) H) (hD : va_D A (m_ws tc ads μ)) (hS : va_S A s.heap H locs) (hM : m_mok μ) (hok : ∀ v ∈ st, m_okw μ.1.length v) (hn0 : n0 ≤ μ.1.length) (hz0 : z0 ≤ m_sz μ.1) (hcR : μ'.1.length - n0 ≤ R.cells) (hsR : m_sz μ'.1 - z0 ≤ R.slots) : m_Nx p l e R s m args below meth c Q dC dI tc A b n0 z0 ls H locs ads pc (pc + len) st st' μ μ' := by
  obtain ⟨hx, hb, hml, hown, hts, hK, hN, hO, hA, hin, hX, hfr, hlo⟩ := hF
  simp only [m_okm, Bool.and_eq_true, decide_eq_true_eq] at hr
  obtain ⟨rfl, hr⟩ := hr
  simp only [m_mk] at h
  split at h
  next n r0 =>
    split at h
    next hg =>
      cases h
      obtain ⟨hw, hr2⟩ := m_one hok
      refine m_Nx_new (nn := n.toNat) (E := .inl (tc 3, n.toNat, .inr (.inr (.inr (.inr (fun _ => none)))))) hn0 hz0 hM hr2 (by simp) (by show n.toNat ≤ 4096; omega) (fun k j hj => by rw [m_rep_none] at hj; cases hj) (fun c' k hc' => rfl) (fun k hk => ?_) (fun c' hc' ads' g' => rfl) (fun ads' => ?_) (fun kk => ?_)
      · unfold m_tk at hk
        have e9 : (μ.1 ++ [((4, n.toNat), List.replicate n.toNat (none : Option Nat))]).getD μ.1.length ((9, 0), []) = ((4, n.toNat), List.replicate n.toNat none) := m_g_app_self (G := μ.1) (σ := μ.2)
        rw [e9] at hk
        exact absurd hk (by simp)
      · rw [m_ce_4 (g := ((4, n.toNat), List.replicate n.toNat none)) rfl]
        congr
        funext j
        rw [m_rep_none]
        rfl
      · have hl2 : (μ.1 ++ [((4, n.toNat), List.replicate n.toNat (none : Option Nat))]).length = μ.1.length + 1 := by simp
        have hs2 : m_sz (μ.1 ++ [((4, n.toNat), List.replicate n.toNat (none : Option Nat))]) = m_sz μ.1 + n.toNat := by rw [m_sz_app]; simp
        have hcR : (μ.1 ++ [((4, n.toNat), List.replicate n.toNat (none : Option Nat))]).length - n0 ≤ R.cells := hcR
        have hsR : m_sz (μ.1 ++ [((4, n.toNat), List.replicate n.toNat (none : Option Nat))]) - z0 ≤ R.slots := hsR
        unfold m_isA at hr
        split at hr
        next i =>
          simp only [m_okn, decide_eq_true_eq, Option.map_eq_some_iff, true_and] at hr
          obtain ⟨⟨q1, q2⟩, e1, e2⟩ := hr
          cases e2
          have hw2 := hts _ (m_wok_in (List.all_eq_true.mp m_NC_ok _ (m_lk2_in e1)))
          refine va_newq (C := RX7) hx hb hown hw2 hO hK hP hD hS hA (m_nneg hw hg.1) (m_cl hw) (by omega) (by omega) (by omega) hd (fun q cA H1 hK' hP' hD' hS' => ?_)
          have e3 : cA = tc 3 := by
            obtain ⟨k1, c1, -, -, -, w1⟩ := (hK'.2 4 (cA, .object RX7) rfl).2
            obtain ⟨k2, c2, -, -, -, w2⟩ := (hK.2 3 (tc 3, .object RX7) rfl).2
            exact Option.some.inj (w1.symm.trans w2)
          subst e3
          exact kk q H1 hP' hD' hS'
        next => simp at hr
    next => cases h
  next => cases h

set_option maxHeartbeats 4000000 in
theorem m_new_ok {ads : Nat → Nat} {n0 z0 pc a f len : Nat} {z : Int} {r : Instr} {st st' : List m_V} {μ μ' : m_M} (hF : m_Fx p R s m args meth c dC dI tc A X b y) (hr : m_okm (m_own y) (m_nm y).name r len 57 a f z = true) (hd : decode (m_by y) pc = .ok (r, len)) (h : m_mk X 57 a f z st μ = some (st', μ'))
    (hP : va_P (dC, dI) vwCl (m_ws tc ads μ) H) (hD : va_D A (m_ws tc ads μ)) (hS : va_S A s.heap H locs) (hM : m_mok μ) (hok : ∀ v ∈ st, m_okw μ.1.length v) (hn0 : n0 ≤ μ.1.length) (hz0 : z0 ≤ m_sz μ.1) (hcR : μ'.1.length - n0 ≤ R.cells) (hsR : m_sz μ'.1 - z0 ≤ R.slots) : m_Nx p l e R s m args below meth c Q dC dI tc A b n0 z0 ls H locs ads pc (pc + len) st st' μ μ' := by
  obtain ⟨hx, hb, hml, hown, hts, hK, hN, hO, hA, hin, hX, hfr, hlo⟩ := hF
  simp only [m_okm, Bool.and_eq_true, decide_eq_true_eq, Bool.not_eq_true'] at hr
  obtain ⟨rfl, hnA, ha, hzv, hr⟩ := hr
  simp only [m_mk] at h
  cases h
  have hzn : z.toNat = m_fn a := by omega
  refine m_Nx_new (nn := m_fn a) (E := .inr (a, m_fs ads (m_zr μ.2 μ.1.length) (List.replicate z.toNat none) μ.1.length 0 (m_FC.getD a []))) hn0 hz0 hM hok (by simp) (by show a ≤ 4096; omega) (fun k j hj => by rw [m_rep_none] at hj; cases hj) (fun c' k hc' => by unfold m_zr; rw [if_neg hc']) (fun k _ => by unfold m_zr; rw [if_pos rfl]) (fun c' hc' ads' g' => m_ce_zr hc') (fun ads' => ?_) (fun kk => ?_)
  · rw [← m_ce_0 (tc := tc) (ads := ads) (σ := m_zr μ.2 μ.1.length) (c := μ.1.length) (g := ((0, a), List.replicate z.toNat none)) rfl]
    exact m_ce_ads (n := 0) (fun c' hc' => absurd hc' (Nat.not_lt_zero _)) (fun k j hj => by rw [m_rep_none] at hj; cases hj)
  · have hl2 : (μ.1 ++ [((0, a), List.replicate z.toNat (none : Option Nat))]).length = μ.1.length + 1 := by simp
    have hs2 : m_sz (μ.1 ++ [((0, a), List.replicate z.toNat (none : Option Nat))]) = m_sz μ.1 + m_fn a := by rw [m_sz_app]; simp
    have hcR : (μ.1 ++ [((0, a), List.replicate z.toNat (none : Option Nat))]).length - n0 ≤ R.cells := hcR
    have hsR : m_sz (μ.1 ++ [((0, a), List.replicate z.toNat (none : Option Nat))]) - z0 ≤ R.slots := hsR
    have hc1 : μ.1.length - n0 + 1 ≤ R.cells := by omega
    have hs1 : m_sz μ.1 - z0 + m_fn a ≤ R.slots := by omega
    unfold m_okn at hr
    split at hr
    next => simp [m_isA] at hnA
    next i =>
      simp only [decide_eq_true_eq, Option.map_eq_some_iff] at hr
      obtain ⟨⟨q1, q2⟩, e1, e2⟩ := hr
      cases e2
      have hw2 := hts _ (m_wok_in (List.all_eq_true.mp m_NC_ok _ (m_lk2_in e1)))
      have hnp := List.all_eq_true.mp m_NP_ok q1 (List.mem_range.mpr ha)
      simp only [Bool.and_eq_true] at hnp
      refine va_new (C := m_cn q1) (T := m_T q1) (N := m_fn q1) hx hb hts (m_cl_in q1 ha) (m_ty q1) (m_cl_ty q1 ha) hown hw2 (hts _ (m_wok_in hnp.1)) (hts _ (m_wok_in hnp.2)) hK hP hD hS hA (m_cl_at q1 ha) (fun j hj => ?_) hc1 hs1 hd kk
      have hq := m_tyq_at ha hj
      obtain ⟨t, ht⟩ : ∃ t, (m_FC.getD q1 [])[j]? = some t := ⟨_, List.getElem?_eq_getElem hj⟩
      have hgd : (m_FC.getD q1 []).getD j 9 = t := by rw [List.getD_eq_getElem?_getD, ht]; rfl
      unfold m_tyq at hq
      rw [hgd] at hq
      unfold vp_V
      rw [List.getD_eq_getElem?_getD, m_fs_get, ht, Nat.zero_add]
      show _ = m_fval _ _ _ _ _ _
      have hz0' : m_zr μ.2 μ.1.length μ.1.length j = 0 := by unfold m_zr; rw [if_pos rfl]
      split at hq
      · rw [of_decide_eq_true hq]; show _ = Value.int (Int32.ofInt (m_zr μ.2 μ.1.length μ.1.length j)); rw [hz0']; rfl
      · rw [of_decide_eq_true hq]; show _ = Value.int (Int32.ofInt (m_zr μ.2 μ.1.length μ.1.length j)); rw [hz0']; rfl
      · rw [of_decide_eq_true hq]; show _ = Value.long (Int64.ofInt (m_zr μ.2 μ.1.length μ.1.length j)); rw [hz0']; rfl
      · show _ = va_rf ((((List.replicate z.toNat (none : Option Nat))[j]?).join).map ads)
        have e5 : ((List.replicate z.toNat (none : Option Nat))[j]?).join = none := by
          exact m_rep_none _ _
        rw [e5]
        cases hty : m_ty q1 j with
        | object _ => rfl
        | array _ => rfl
        | _ => rw [hty] at hq; cases hq
      · cases hq
    next => cases hr

end MA
end
section
/-! runs: control, calls; what a run comes to is what the machine comes to -/
theorem m_MP_ok5 : (List.range 197).all (fun y => !decide ((m_nm y).name = "<init>") || decide (m_rt y = none)) = true := by decide +kernel
theorem m_MP_ok6 : (List.range 197).all (fun y => decide ((m_nm y).cls ≠ "java/lang/invoke/MethodHandle") && (decide ((m_nm y).cls ≠ "java/lang/invoke/VarHandle") && goodWord (.code (m_nm y) (m_by y) (m_ml y) (m_rt y)))) = true := by decide +kernel
theorem m_rng {p : Nat → Bool} {n : Nat} (h : (List.range n).all p = true) {y : Nat} (hy : y < n) : p y = true := List.all_eq_true.mp h y (List.mem_range.mpr hy)
def m_wd (y : Nat) : List Cond := .code (m_nm y) (m_by y) (m_ml y) (m_rt y) :: lw_tbl.filter goodWord
theorem m_wd_in {y : Nat} (hy : y < 197) : ∀ w ∈ m_wd y, w ∈ lw_tbl.filter goodWord := by
  intro w hw
  rcases List.mem_cons.mp hw with rfl | hw
  · have h1 := m_cwa y hy
    have h2 := m_rng m_MP_ok6 hy
    simp only [Bool.and_eq_true] at h2
    exact List.mem_filter.mpr ⟨List.mem_of_getElem? h1, h2.2.2⟩
  · exact hw
theorem m_wd_good {y : Nat} (hy : y < 197) : ∀ w ∈ m_wd y, w ∈ lw_tbl.filter goodWord ∧ ((w.onTables && w.keeps) = true ∨ ∃ ty, w = .arrayClass ty) :=
  fun w hw => ⟨m_wd_in hy w hw, good_of_word (List.mem_filter.mp (m_wd_in hy w hw)).2⟩
def m_rm (d k z : Nat) : Room := { frames := d, cells := k, slots := z, locals := 35 * d }
def m_KN (dC : Nat → ClassId) (dI : Nat → Nat → Nat) (tc : Nat → ClassId) (U : State) : Prop :=
  va_K (dC, dI) vwCl (m_tys tc) U ∧ (∀ q ∈ m_ML, q.2.1 = 3 ∨ q.2.1 = 4 → va_Nw (.methodLinkNest (m_cn q.1.1) q.1.2 (m_nm q.2.2.1) RX9) U) ∧ va_AO RX7 U
/-- what a method may suppose and what it comes to -/
def m_Pre (dC : Nat → ClassId) (dI : Nat → Nat → Nat) (tc : Nat → ClassId) (A : Nat → Prop) (X : Option (Nat × (Nat → Int))) (b : Nat) (ads : Nat → Nat) (μ : m_M) (U : State) : Prop :=
  va_P (dC, dI) vwCl (m_ws tc ads μ) U.heap ∧ va_D A (m_ws tc ads μ) ∧ m_KN dC dI tc U ∧ (∀ q, U.heap.size ≤ q → A q) ∧ (∀ x, X = some x → va_X b x.1 (fun j => Int32.ofInt (x.2 j)) U U.heap ∧ b < U.heap.size ∧ ¬ A b ∧ (∀ j, m_in (x.2 j)) ∧ x.1 ≤ 2560)
def m_Qc (dC : Nat → ClassId) (dI : Nat → Nat → Nat) (tc : Nat → ClassId) (A : Nat → Prop) (b : Nat) (ads : Nat → Nat) (μ : m_M) (r : Option m_V) (μ' : m_M) : Array Value → State → Outcome → State → Prop := fun _ st o t =>
  (∃ ads' : Nat → Nat, (∀ c, c < μ.1.length → ads' c = ads c) ∧ o = .returned (r.map (m_re ads' b)) ∧ va_P (dC, dI) vwCl (m_ws tc ads' μ') t.heap ∧ va_D A (m_ws tc ads' μ') ∧ m_mok μ' ∧ ∀ v, r = some v → m_okw μ'.1.length v) ∧ va_F A st t
def m_grow (μ μ' : m_M) : Prop := μ.1.length ≤ μ'.1.length ∧ m_sz μ.1 ≤ m_sz μ'.1
def m_Con (l : Launch) (dC : Nat → ClassId) (dI : Nat → Nat → Nat) (tc : Nat → ClassId) (A : Nat → Prop) (X : Option (Nat × (Nat → Int))) (b d : Nat) (f : m_C) : Prop :=
  ∀ (y : Nat) (as : List m_V) (μ : m_M) (r : Option m_V) (μ' : m_M), y < 197 → f y as μ = some (r, μ') → m_grow μ μ' ∧ ∀ ads : Nat → Nat, m_mok μ → (∀ v ∈ as, m_okw μ.1.length v) →
    Met l (m_nm y) (m_wd y) (m_rm d (μ'.1.length - μ.1.length) (m_sz μ'.1 - m_sz μ.1)) (va_Pc (as.map (m_re ads b)) (m_Pre dC dI tc A X b ads μ)) (m_Qc dC dI tc A b ads μ r μ') (μ'.1.length - μ.1.length) (m_sz μ'.1 - m_sz μ.1) A
/-! memory only grows -/
theorem m_grow_rf (μ : m_M) : m_grow μ μ := ⟨Nat.le_refl _, Nat.le_refl _⟩
theorem m_grow_tr {μ μ' μ'' : m_M} (h : m_grow μ μ') (h' : m_grow μ' μ'') : m_grow μ μ'' := ⟨Nat.le_trans h.1 h'.1, Nat.le_trans h.2 h'.2⟩
theorem m_grow_sr (μ : m_M) (c k : Nat) (o : Option Nat) : m_grow μ (m_sr μ.1 c k o, μ.2) := by
  refine ⟨by simp [m_sr], Nat.le_of_eq ?_⟩
  exact (m_sz_set μ.1 c ((μ.1.getD c ((9, 0), [])).1, (μ.1.getD c ((9, 0), [])).2.set k o) rfl).symm
theorem m_grow_app (μ : m_M) (g : m_G) (σ : Nat → Nat → Int) : m_grow μ (μ.1 ++ [g], σ) := by
  refine ⟨by simp, ?_⟩
  show _ ≤ m_sz (μ.1 ++ [g])
  rw [m_sz_app]
  omega
theorem m_mk_grow {X : Option (Nat × (Nat → Int))} {op a f : Nat} {z : Int} {st st' : List m_V} {μ μ' : m_M} (h : m_mk X op a f z st μ = some (st', μ')) : m_grow μ μ' := by
  unfold m_mk at h
  split at h
  all_goals
    repeat' split at h
    all_goals first | (cases h; done) | (cases h; first | exact m_grow_rf _ | exact m_grow_sr _ _ _ _ | exact m_grow_app _ _ _)
theorem m_stp_grow {X : Option (Nat × (Nat → Int))} {i : m_P} {ls st : List m_V} {μ : m_M} {q : List m_V × List m_V × m_M} (h : m_stp X i ls st μ = some q) : m_grow μ q.2.2 := by
  unfold m_stp at h
  split at h
  · obtain ⟨⟨w1, w2⟩, h1, rfl⟩ := Option.map_eq_some_iff.mp h
    exact m_mk_grow h1
  · split at h
    · obtain ⟨w, -, rfl⟩ := Option.map_eq_some_iff.mp h
      exact m_grow_rf _
    · obtain ⟨w, -, rfl⟩ := Option.map_eq_some_iff.mp h
      exact m_grow_rf _
theorem m_ret_same {k : Nat} {st : List m_V} {μ : m_M} {q : Option m_V × m_M} (h : m_ret k st μ = some q) : q.2 = μ := by
  unfold m_ret at h
  split at h <;> (try split at h) <;> first | (cases h; rfl) | cases h
theorem m_cal_grow {f : m_C} (hf : ∀ y as μ q, f y as μ = some q → m_grow μ q.2) {y n : Nat} {z : Int} {st : List m_V} {μ : m_M} {q : List m_V × m_M} (h : m_cal f y n z st μ = some q) : m_grow μ q.2 := by
  unfold m_cal at h
  split at h
  · obtain ⟨w, h1, rfl⟩ := Option.map_eq_some_iff.mp h
    exact hf _ _ _ _ h1
  · cases h
theorem m_run_grow {X : Option (Nat × (Nat → Int))} {f : m_C} (hf : ∀ y as μ q, f y as μ = some q → m_grow μ q.2) {y : Nat} : ∀ (n : Nat) (is : List m_P) (ls st : List m_V) (μ : m_M) (q : Option m_V × m_M), m_run X f y n is ls st μ = some q → m_grow μ q.2
  | 0, _, _, _, _, _, h => by cases h
  | _ + 1, [], _, _, _, _, h => by cases h
  | n + 1, i :: is, ls, st, μ, q, h => by
    unfold m_run at h
    split at h
    · exact m_run_grow hf n _ _ _ _ _ h
    · split at h
      · split at h <;> exact m_run_grow hf n _ _ _ _ _ h
      · cases h
    · split at h
      · split at h <;> exact m_run_grow hf n _ _ _ _ _ h
      · cases h
    · split at h
      · exact m_run_grow hf n _ _ _ _ _ h
      · exact m_run_grow hf n _ _ _ _ _ h
      · cases h
    · split at h
      · exact m_run_grow hf n _ _ _ _ _ h
      · exact m_run_grow hf n _ _ _ _ _ h
      · cases h
    · split at h
      · exact m_run_grow hf n _ _ _ _ _ h
      · cases h
    · rw [m_ret_same h]; exact m_grow_rf _
    · split at h
      next w hw => exact m_grow_tr (m_cal_grow hf hw) (m_run_grow hf n _ _ _ _ _ h)
      next => cases h
    · exact m_run_grow hf n _ _ _ _ _ h
    · split at h
      · exact m_run_grow hf n _ _ _ _ _ h
      · cases h
    · split at h
      next w hw => exact m_grow_tr (m_stp_grow hw) (m_run_grow hf n _ _ _ _ _ h)
      next => cases h
end
section
/-! the places of the blocks -/
theorem m_blk_chk {y : Nat} (hy : y < 198) (k : Nat) : m_chk y (m_blk y k) (m_stt y k) = true := by
  have h := m_cha y hy
  unfold m_chm at h
  split at h
  next l hl =>
    simp only [Bool.and_eq_true] at h
    unfold m_blk m_stt
    rw [hl]
    dsimp only
    cases hk : l[k]? with
    | none => rfl
    | some q => exact List.all_eq_true.mp h.2 q (List.mem_of_getElem? hk)
  next => cases h
theorem m_stt_0 {y : Nat} (hy : y < 198) : m_stt y 0 = 0 := by
  have h := m_cha y hy
  unfold m_chm at h
  split at h
  next l hl =>
    simp only [Bool.and_eq_true, decide_eq_true_eq] at h
    exact h.1
  next => cases h
section MR
variable {p : Program} {l : Launch} {e : Env} {R : Room} {s : State} {m : MethodId} {args : Array Value} {below : List Frame} {meth : Method} {c : Code} {Q : State → Prop}
variable {dC : Nat → ClassId} {dI : Nat → Nat → Nat} {tc : Nat → ClassId} {A : Nat → Prop} {X : Option (Nat × (Nat → Int))} {b y n0 z0 : Nat} {ads0 : Nat → Nat}
/-- a call's end: what came back, and the walk goes on -/
theorem m_call_go {H : Heap} {locs : List Loc} {ls : Array Slot} {ads : Nat → Nat} {pc nL : Nat} {pls stR : List m_V} {st0 rest : List Value} {μ μ2 : m_M} {rv : Option m_V} {a : Array Value}
    (hr : va_Run p l e R s m args below meth c H locs (μ.1.length - n0) (m_sz μ.1 - z0) (μ2.1.length - μ.1.length) (m_sz μ2.1 - m_sz μ.1) (F0 m pc ls st0) rest (m_Qc dC dI tc A b ads μ rv μ2 a) A)
    (hA : ∀ q, s.heap.size ≤ q → A q) (hS : va_S A s.heap H locs) (hrest : rest = stR.map (m_re ads b)) (hads : ∀ k, k < n0 → ads k = ads0 k) (hn0 : n0 ≤ μ.1.length) (hz0 : z0 ≤ m_sz μ.1) (hg : m_grow μ μ2)
    (hl : m_lh ads b nL pls ls) (hokl : ∀ i, m_okw μ.1.length (m_ld pls i)) (hok : ∀ v ∈ stR, m_okw μ.1.length v)
    (kk : m_W p l e R s m args below meth c Q dC dI tc A b nL n0 z0 ads0 (pc + 3) pls (rv.toList ++ stR) μ2) :
    W p l e R s m args below meth c H locs (μ.1.length - n0) (m_sz μ.1 - z0) Q (F0 m pc ls st0) := by
  intro T hT XX
  obtain ⟨v, st₀, t, T', L, h0, X', hL, e1, e2, ⟨⟨ads', ha, ho, hP', hD', hM', hok'⟩, hF'⟩, st⟩ := hr T hT XX
  cases ho
  obtain ⟨hg1, hg2⟩ := hg
  have hS' : va_S A s.heap T'.heap (locs ++ L) := by
    refine ⟨Nat.le_trans hS.1 (by rw [e1, ← h0]; exact hF'.1), fun q h1 h2 => ?_, fun q hq => ?_⟩
    · rw [e1, hF'.2 q (by rw [h0]; exact Nat.lt_of_lt_of_le h1 hS.1) h2, h0]
      exact hS.2.1 q h1 h2
    · rcases List.mem_append.mp hq with h | h
      · exact hS.2.2 q h
      · exact hL q h
  have hl' : m_lh ads' b nL pls ls := ⟨hl.1, hl.2.1, hl.2.2.1, fun i hi => by rw [m_re_ads ha (hokl i)]; exact hl.2.2.2 i hi⟩
  have hr' : stR.map (m_re ads' b) = stR.map (m_re ads b) := List.map_congr_left fun v hv => m_re_ads ha (hok v hv)
  have k1 := kk ads' T'.heap (locs ++ L) ls (fun k hk => by rw [ha k (Nat.lt_of_lt_of_le hk hn0)]; exact hads k hk) (by omega) (by omega) (by rw [e1]; exact hP') hD' hS' hM' hl' (fun i => m_okw_mono hg1 (hokl i)) (fun v hv => by
    rcases List.mem_append.mp hv with h | h
    · exact hok' v (Option.mem_toList.mp h)
    · exact m_okw_mono hg1 (hok v h))
  have c1 : μ2.1.length - n0 = μ.1.length - n0 + (μ2.1.length - μ.1.length) := by omega
  have c2 : m_sz μ2.1 - z0 = m_sz μ.1 - z0 + (m_sz μ2.1 - m_sz μ.1) := by omega
  rw [c1, c2] at k1
  obtain ⟨t2, a1, b1⟩ := k1 T' rfl X'
  refine ⟨t2, st t2 ?_, b1⟩
  have e5 : (rv.toList ++ stR).map (m_re ads' b) = (rv.map (m_re ads' b)).toList ++ rest := by
    rw [List.map_append, hr', hrest]
    cases rv <;> rfl
  rw [e5] at a1
  exact a1
theorem m_KN_moved {u U : State} (h : m_KN dC dI tc u) (hW : u.WarmedH U.vm) : m_KN dC dI tc U :=
  ⟨va_K.moved hW.alike h.1, fun q hq hk => va_Nw.warmM hW (h.2.1 q hq hk), va_AO.moved hW.alike h.2.2⟩
theorem m_blind {as : List Value} {ads : Nat → Nat} {μ : m_M} : FrameBlind (va_Pc as (m_Pre dC dI tc A X b ads μ)) := by
  intro a U g mk h
  obtain ⟨h0, hP, hD, hK, hA, hX⟩ := h
  exact ⟨h0, hP, hD, ⟨va_K.moved (u := U) (U := U.calling g mk a) (Vm.Alike.refl U.vm) hK.1, fun q hq hk => va_Nw.same (u := U) (U := U.calling g mk a) rfl rfl (hK.2.1 q hq hk), va_AO.moved (u := U) (U := U.calling g mk a) (Vm.Alike.refl U.vm) hK.2.2⟩, hA, fun x hx => ⟨va_X.moved (u := U) (U := U.calling g mk a) (Vm.Alike.refl U.vm) (hX x hx).1, (hX x hx).2⟩⟩
theorem m_mp3 {a : Nat} (ha : a < 197) : (parseMethodDescriptor (m_nm a).desc).map (fun d => d.parameters.length) = some (m_MP.getD a (0, 0, 0)).2.2 := of_decide_eq_true (m_rng m_MP_ok3 ha)
theorem m_ini {a : Nat} (ha : a < 197) : Cond.initialized (m_nm a).cls ∈ lw_tbl.filter goodWord := m_wok_in (m_rng m_MP_ok2 ha)
theorem m_cod {a : Nat} (ha : a < 197) : Cond.code (m_nm a) (m_by a) (m_ml a) (m_rt a) ∈ lw_tbl.filter goodWord := m_wd_in ha _ List.mem_cons_self
theorem m_ml16 {a : Nat} (ha : a < 197) : m_ml a ≤ 16 := by
  have h := m_rng m_MP_ok4 ha
  simp only [Bool.and_eq_true, decide_eq_true_eq] at h
  exact h.2.1
theorem m_clsn {a : Nat} (ha : a < 197) : (m_nm a).cls = m_cn (m_own a) := by
  have h := m_rng m_MP_ok4 ha
  simp only [Bool.and_eq_true, decide_eq_true_eq] at h
  exact h.2.2
theorem m_noMH {a : Nat} (ha : a < 197) : (m_nm a).cls ≠ "java/lang/invoke/MethodHandle" ∧ (m_nm a).cls ≠ "java/lang/invoke/VarHandle" := by
  have h := m_rng m_MP_ok6 ha
  simp only [Bool.and_eq_true, decide_eq_true_eq] at h
  exact ⟨h.1, h.2.1⟩
theorem m_arity {a n : Nat} (ha : a < 197) (hn : n = (m_MP.getD a (0, 0, 0)).2.2) : ∀ sig, parseMethodDescriptor (m_nm a).desc = some sig → n = sig.parameters.length := by
  intro sig h
  have h2 := m_mp3 ha
  rw [h] at h2
  exact hn.trans (Option.some.inj h2).symm
theorem m_callB {a index n mc ms d : Nat} (ha : a < 197) (hn : n = (m_MP.getD a (0, 0, 0)).2.2) (hts : ∀ w ∈ lw_tbl.filter goodWord, w.before args s = true) (hl : (Cond.methodLink (m_cn (m_own y)) index (m_nm a)).before args s = true) (hf : d + 1 ≤ R.frames) (hlo : 35 * d + 35 ≤ R.locals) :
    CallB R s args (m_cn (m_own y)) index (m_nm a) (m_by a) (m_ml a) (m_rt a) (m_wd a) (m_rm d mc ms) mc ms n := by
  have h16 := m_ml16 ha
  exact ⟨rfl, rfl, hf, by show 8 + (m_ml a + 11) + 35 * d ≤ _; omega, pay_in hts (m_wd_good ha), List.mem_cons_self, hts _ (m_cod ha), hts _ (m_ini ha), m_noMH ha, m_arity ha hn, hl⟩
theorem m_callN {a index n mc ms d : Nat} (ha : a < 197) (hn : n = (m_MP.getD a (0, 0, 0)).2.2) (hts : ∀ w ∈ lw_tbl.filter goodWord, w.before args s = true) (hl : va_Nw (.methodLinkNest (m_cn (m_own y)) index (m_nm a) RX9) s) (hf : d + 1 ≤ R.frames) (hlo : 35 * d + 35 ≤ R.locals) :
    va_CN R s args (m_cn (m_own y)) index (m_nm a) RX9 (m_by a) (m_ml a) (m_rt a) (m_wd a) (m_rm d mc ms) mc ms n := by
  have h16 := m_ml16 ha
  exact ⟨⟨rfl, rfl, hf, by show 8 + (m_ml a + 11) + 35 * d ≤ _; omega, pay_in hts (m_wd_good ha), List.mem_cons_self⟩, hts _ (m_cod ha), hts _ (m_ini ha), m_noMH ha, m_arity ha hn, va_Nw.use rfl hl⟩
theorem m_take {α : Type} (st : List α) (n : Nat) : st = ((st.take n).reverse).reverse ++ st.drop n := by rw [List.reverse_reverse, List.take_append_drop]
end MR
end
section
section MR
variable {p : Program} {l : Launch} {e : Env} {R : Room} {s : State} {m : MethodId} {args : Array Value} {below : List Frame} {meth : Method} {c : Code} {Q : State → Prop}
variable {dC : Nat → ClassId} {dI : Nat → Nat → Nat} {tc : Nat → ClassId} {A : Nat → Prop} {X : Option (Nat × (Nat → Int))} {b y n0 z0 : Nat} {ads0 : Nat → Nat}
set_option maxHeartbeats 4000000 in
/-- a call -/
theorem m_cal_ok {H : Heap} {locs : List Loc} {ls : Array Slot} {ads : Nat → Nat} {pc a n d len : Nat} {z : Int} {r : Instr} {pls st : List m_V} {μ : m_M} {q : List m_V × m_M} {f : m_C} (hF : m_Fx p R s m args meth c dC dI tc A X b y) (hC : m_Con l dC dI tc A X b d f) (hfr : d + 1 ≤ R.frames) (hlo : 35 * d + 35 ≤ R.locals)
    (ha : a < 197) (hr : m_okc (m_own y) r a n z = true) (hd : decode (m_by y) pc = .ok (r, 3)) (h : m_cal f a n z st μ = some q)
    (hads : ∀ k, k < n0 → ads k = ads0 k) (hn0 : n0 ≤ μ.1.length) (hz0 : z0 ≤ m_sz μ.1) (hcR : q.2.1.length - n0 ≤ R.cells) (hsR : m_sz q.2.1 - z0 ≤ R.slots)
    (hP : va_P (dC, dI) vwCl (m_ws tc ads μ) H) (hD : va_D A (m_ws tc ads μ)) (hS : va_S A s.heap H locs) (hM : m_mok μ) (hl : m_lh ads b (m_ml y) pls ls) (hokl : ∀ i, m_okw μ.1.length (m_ld pls i)) (hok : ∀ v ∈ st, m_okw μ.1.length v)
    (kk : m_W p l e R s m args below meth c Q dC dI tc A b (m_ml y) n0 z0 ads0 (pc + 3) pls q.1 q.2) :
    W p l e R s m args below meth c H locs (μ.1.length - n0) (m_sz μ.1 - z0) Q (F0 m pc ls (st.map (m_re ads b))) := by
  have hF' := hF
  obtain ⟨hx, hb, hml, hown, hts, hK, hN, hO, hA, hin, hX, hfr1, hlo1⟩ := hF
  unfold m_cal at h
  split at h
  next hc =>
    obtain ⟨hc1, hc2, hc3⟩ := hc
    obtain ⟨⟨rv, μ2⟩, hf, rfl⟩ := Option.map_eq_some_iff.mp h
    obtain ⟨hg, hMet⟩ := hC a _ μ rv μ2 ha hf
    have hoka : ∀ v ∈ (st.take n).reverse, m_okw μ.1.length v := fun v hv => hok v (List.mem_of_mem_take (List.mem_reverse.mp hv))
    have hokr : ∀ v ∈ st.drop n, m_okw μ.1.length v := fun v hv => hok v (List.mem_of_mem_drop hv)
    have hMt := hMet ads hM hoka
    have hsub : μ.1.length - n0 + (μ2.1.length - μ.1.length) ≤ R.cells ∧ m_sz μ.1 - z0 + (m_sz μ2.1 - m_sz μ.1) ≤ R.slots := by
      have h1 := hg.1
      have h2 := hg.2
      have hcR : μ2.1.length - n0 ≤ R.cells := hcR
      have hsR : m_sz μ2.1 - z0 ≤ R.slots := hsR
      constructor <;> omega
    have hlsz : ls.size = m_ml y := hl.2.1
    have hroom : 2 * (F0 m pc ls (st.map (m_re ads b))).monitorRoom + (((st.drop n).map (m_re ads b)).map fun v => v.category).sum ≤ 8 := by
      have h8 := m_cats (ads := ads) (b := b) (st.drop n) 4 hc2
      exact lv_room (by omega)
    have hCF : CallFix p m c (m_by y) (m_ml y) s args (lw_tbl.filter goodWord) (m_cn (m_own y)) := ⟨hx, hb, hml, hown, hts⟩
    have hKN : m_KN dC dI tc s := ⟨hK, hN, hO⟩
    have hpre : ∀ U : State, U.heap = H → s.WarmedH U.vm → va_Pc ((st.take n).reverse.map (m_re ads b)) (m_Pre dC dI tc A X b ads μ) ((st.take n).reverse.map (m_re ads b)).toArray U :=
      fun U hU hW => ⟨rfl, by rw [hU]; exact hP, hD, m_KN_moved hKN hW, fun w hw => hA w (Nat.le_trans hS.1 (by rw [← hU]; exact hw)), fun x hx => (by
        obtain ⟨x1, x2, x3, x4⟩ := hX x hx
        exact ⟨va_X.moved hW.alike (va_X.kept x1 (by rw [hU]; exact hS.2.1 b x2 x3)), Nat.lt_of_lt_of_le x2 (by rw [hU]; exact hS.1), x3, x4⟩)⟩
    have hst : st.map (m_re ads b) = ((st.take n).reverse.map (m_re ads b)).reverse ++ (st.drop n).map (m_re ads b) := by
      rw [← List.map_reverse, List.reverse_reverse, ← List.map_append, List.take_append_drop]
    have hlen : (st.take n).reverse.length = n := by rw [List.length_reverse, List.length_take]; omega
    unfold m_okc at hr
    split at hr
    next i =>
      simp only [Bool.and_eq_true, decide_eq_true_eq, Option.map_eq_some_iff] at hr
      obtain ⟨⟨⟨q1, q2, q3, q4, q5⟩, e1, e2⟩, hn, rfl⟩ := hr
      cases e2
      have hw := List.all_eq_true.mp m_ML_ok _ (m_lk2_in e1)
      simp only [m_mlw, Bool.and_eq_true] at hw
      unfold m_rcv at hc3
      rw [if_neg (by omega)] at hc3
      split at hc3
      next w as has =>
        rw [if_neg (by omega)] at hc3
        have hgk : m_gk μ w = (0, m_own q2) := of_decide_eq_true hc3
        rw [has] at hpre hst hlen hMt
        have hlt := m_lt_obj hgk
        have he : (m_ws tc ads μ)[w]? = some (ads w, .inr (m_own q2, m_fs ads μ.2 (m_g μ w).2 w 0 (m_FC.getD (m_own q2) []))) := by rw [m_ws_get hlt, m_ce_0 hgk]
        obtain ⟨q', hq', -⟩ := hP w _ he
        have hown11 : m_own q2 < 10 := (List.getElem?_eq_some_iff.mp hq').1
        have hrecv := va_recv hK hP (m_cl_at (m_own q2) hown11) he
        refine m_call_go (va_runV (As := as.map (m_re ads b)) (rest := (st.drop n).map (m_re ads b)) (n := (m_MP.getD q2 (0, 0, 0)).2.2) (C := (m_nm q2).cls) hCF hMt ⟨m_callB ha rfl hts (hts _ (m_wok_in hw.1)) hfr hlo, hts _ (m_wok_in hw.2.1), hts _ (m_wok_in hw.2.2)⟩ ⟨m_blind, by rw [m_clsn ha]; exact hrecv, hpre⟩ rfl ?_ hlsz ?_ hroom hd hsub) hA hS rfl hads hn0 hz0 hg hl hokl hokr kk
        · rw [List.length_map]
          have h1 : as.length + 1 = n := hlen
          have h2 : n = (m_MP.getD q2 (0, 0, 0)).2.2 + 1 := hn
          omega
        · rw [hst]
          show (m_re ads b (m_R w) :: as.map (m_re ads b)).reverse ++ _ = _
          rw [List.reverse_cons, List.append_assoc]
          rfl
      next => cases hc3
    next i =>
      simp only [Bool.and_eq_true, Bool.or_eq_true, decide_eq_true_eq, Option.map_eq_some_iff] at hr
      obtain ⟨⟨⟨q1, q2, q3, q4, q5⟩, e1, e2⟩ | ⟨⟨q1, q2, q3, q4, q5⟩, e1, e2⟩, hn, rfl⟩ := hr
      · cases e2
        have hw := List.all_eq_true.mp m_ML_ok _ (m_lk2_in e1)
        simp only [m_mlw, Bool.and_eq_true] at hw
        refine m_call_go (va_runS (As := (st.take n).reverse.map (m_re ads b)) (rest := (st.drop n).map (m_re ads b)) (n := n) hCF hMt ⟨m_callB ha hn hts (hts _ (m_wok_in hw.1)) hfr hlo, hts _ (m_wok_in hw.2)⟩ ⟨m_blind, hpre⟩ rfl ?_ hlsz hst hroom hd hsub) hA hS rfl hads hn0 hz0 hg hl hokl hokr kk
        rw [List.length_map]; exact hlen
      · cases e2
        have hin2 := m_lk2_in e1
        have hw := List.all_eq_true.mp m_ML_ok _ hin2
        simp only [m_mlw, Bool.and_eq_true] at hw
        refine m_call_go (va_runSN (As := (st.take n).reverse.map (m_re ads b)) (rest := (st.drop n).map (m_re ads b)) (n := n) hCF hMt ⟨m_callN ha hn hts (hN _ hin2 (Or.inr rfl)) hfr hlo, hts _ (m_wok_in hw.2), trivial⟩ ⟨m_blind, hpre⟩ rfl ?_ hlsz hst hroom hd hsub) hA hS rfl hads hn0 hz0 hg hl hokl hokr kk
        rw [List.length_map]; exact hlen
    next i =>
      simp only [Bool.and_eq_true, Bool.or_eq_true, decide_eq_true_eq, Option.map_eq_some_iff] at hr
      obtain ⟨hkind, hn, rfl, hnm⟩ := hr
      have hrt : m_rt a = none := by
        have h5 := m_rng m_MP_ok5 ha
        simp only [Bool.or_eq_true, Bool.not_eq_true', decide_eq_false_iff_not, decide_eq_true_eq] at h5
        rcases h5 with h5 | h5
        · exact absurd hnm h5
        · exact h5
      unfold m_rcv at hc3
      rw [if_neg (by decide)] at hc3
      split at hc3
      next w as has =>
        rw [has] at hpre hst hlen hMt
        have hlen2 : (as.map (m_re ads b)).length = (m_MP.getD a (0, 0, 0)).2.2 := by
          rw [List.length_map]
          have : as.length + 1 = n := hlen
          omega
        have hst2 : st.map (m_re ads b) = (as.map (m_re ads b)).reverse ++ .ref (ads w) :: (st.drop n).map (m_re ads b) := by
          rw [hst]
          show (m_re ads b (m_R w) :: as.map (m_re ads b)).reverse ++ _ = _
          rw [List.reverse_cons, List.append_assoc]
          rfl
        obtain ⟨⟨q1, q2, q3, q4, q5⟩, e1, e2⟩ | ⟨⟨q1, q2, q3, q4, q5⟩, e1, e2⟩ := hkind
        · cases e2
          have hw := List.all_eq_true.mp m_ML_ok _ (m_lk2_in e1)
          simp only [m_mlw, Bool.and_eq_true] at hw
          have hB := m_callB (R := R) (d := d) (mc := μ2.1.length - μ.1.length) (ms := m_sz μ2.1 - m_sz μ.1) ha rfl hts (hts _ (m_wok_in hw.1)) hfr hlo
          rw [hrt] at hB
          exact m_call_go (va_runI (As := as.map (m_re ads b)) (rest := (st.drop n).map (m_re ads b)) (n := (m_MP.getD q2 (0, 0, 0)).2.2) hCF hMt ⟨hB, hnm, hts _ (m_wok_in hw.2)⟩ ⟨m_blind, hpre⟩ rfl hlen2 hlsz hst2 hroom hd hsub) hA hS rfl hads hn0 hz0 hg hl hokl hokr kk
        · cases e2
          have hin2 := m_lk2_in e1
          have hw := List.all_eq_true.mp m_ML_ok _ hin2
          simp only [m_mlw, Bool.and_eq_true] at hw
          have hB := m_callN (R := R) (args := args) (d := d) (mc := μ2.1.length - μ.1.length) (ms := m_sz μ2.1 - m_sz μ.1) ha rfl hts (hN _ hin2 (Or.inl rfl)) hfr hlo
          rw [hrt] at hB
          exact m_call_go (va_runIN (As := as.map (m_re ads b)) (rest := (st.drop n).map (m_re ads b)) (n := (m_MP.getD q2 (0, 0, 0)).2.2) hCF hMt ⟨hB, hnm, hts _ (m_wok_in hw.2)⟩ ⟨m_blind, hpre⟩ rfl hlen2 hlsz hst2 hroom hd hsub) hA hS rfl hads hn0 hz0 hg hl hokl hokr kk
      next => cases hc3
    next => cases hr
  next => cases h
end MR
end
section
/-! branches and switches by the pure machine's conditions -/
section MB
variable {p : Program} {l : Launch} {e : Env} {R : Room} {s : State} {m : MethodId} {args : Array Value} {below : List Frame} {meth : Method} {c : Code} {H : Heap} {locs : List Loc} {cells slots : Nat} {Q : State → Prop}
variable {cc : ByteArray} {pc : Nat} {ls : Array Slot} {rest : List Value}
theorem m_k6 (k : Nat) : k = 0 ∨ k = 1 ∨ k = 2 ∨ k = 3 ∨ k = 4 ∨ ∃ j, k = j + 5 := by
  rcases Nat.lt_or_ge k 5 with h | h
  · omega
  · exact Or.inr (Or.inr (Or.inr (Or.inr (Or.inr ⟨k - 5, by omega⟩))))
theorem m_if_row {k tgt : Nat} {x off : Int} (hx : p.tables.exec = Jvm.exec) (hb : c.code = cc) (hd : decode cc pc = .ok (.ifCond (m_cq k) off, 3)) (ht : (pc : Int) + off = (tgt : Int)) (hi : m_in x)
    (kt : m_cnd k x 0 = true → W p l e R s m args below meth c H locs cells slots Q (F0 m tgt ls rest)) (kf : m_cnd k x 0 = false → W p l e R s m args below meth c H locs cells slots Q (F0 m (pc + 3) ls rest)) : W p l e R s m args below meth c H locs cells slots Q (F0 m pc ls (.int (Int32.ofInt x) :: rest)) := by
  have e0 : (Int32.ofInt x = 0) ↔ x = 0 := by rw [← m_of0, m_eq hi m_in0]
  have e1 : (Int32.ofInt x < 0) ↔ x < 0 := by rw [← m_of0, m_lt hi m_in0]
  have e2 : (0 ≤ Int32.ofInt x) ↔ 0 ≤ x := by rw [← m_of0, m_le m_in0 hi]
  have e3 : (0 < Int32.ofInt x) ↔ 0 < x := by rw [← m_of0, m_lt m_in0 hi]
  have e4 : (Int32.ofInt x ≤ 0) ↔ x ≤ 0 := by rw [← m_of0, m_le hi m_in0]
  rcases m_k6 k with rfl | rfl | rfl | rfl | rfl | ⟨j, rfl⟩
  · exact lv_if_eq hx hb hd ht (fun h => kt (decide_eq_true (e0.mp h))) (fun h => kf (decide_eq_false (fun q => h (e0.mpr q))))
  · exact lv_if_ne hx hb hd ht (fun h => kt (decide_eq_true (fun q => h (e0.mpr q)))) (fun h => kf (decide_eq_false (fun q => q (e0.mp h))))
  · exact lv_if_lt hx hb hd ht (fun h => kt (decide_eq_true (e1.mp h))) (fun h => kf (decide_eq_false (fun q => h (e1.mpr q))))
  · exact lv_if_ge hx hb hd ht (fun h => kt (decide_eq_true (e2.mp h))) (fun h => kf (decide_eq_false (fun q => h (e2.mpr q))))
  · exact lv_if_gt hx hb hd ht (fun h => kt (decide_eq_true (e3.mp h))) (fun h => kf (decide_eq_false (fun q => h (e3.mpr q))))
  · exact lv_if_le hx hb hd ht (fun h => kt (decide_eq_true (e4.mp h))) (fun h => kf (decide_eq_false (fun q => h (e4.mpr q))))
theorem m_icmp_row {k tgt : Nat} {x w off : Int} (hx : p.tables.exec = Jvm.exec) (hb : c.code = cc) (hd : decode cc pc = .ok (.if_icmp (m_cq k) off, 3)) (ht : (pc : Int) + off = (tgt : Int)) (hi : m_in x) (hw : m_in w)
    (kt : m_cnd k x w = true → W p l e R s m args below meth c H locs cells slots Q (F0 m tgt ls rest)) (kf : m_cnd k x w = false → W p l e R s m args below meth c H locs cells slots Q (F0 m (pc + 3) ls rest)) : W p l e R s m args below meth c H locs cells slots Q (F0 m pc ls (.int (Int32.ofInt w) :: .int (Int32.ofInt x) :: rest)) := by
  have e0 := m_eq hi hw
  have e1 := m_lt hi hw
  have e2 := m_le hw hi
  have e3 := m_lt hw hi
  have e4 := m_le hi hw
  rcases m_k6 k with rfl | rfl | rfl | rfl | rfl | ⟨j, rfl⟩
  · exact lv_icmp_eq hx hb hd ht (fun h => kt (decide_eq_true (e0.mp h))) (fun h => kf (decide_eq_false (fun q => h (e0.mpr q))))
  · exact lv_icmp_ne hx hb hd ht (fun h => kt (decide_eq_true (fun q => h (e0.mpr q)))) (fun h => kf (decide_eq_false (fun q => q (e0.mp h))))
  · exact lv_icmp_lt hx hb hd ht (fun h => kt (decide_eq_true (e1.mp h))) (fun h => kf (decide_eq_false (fun q => h (e1.mpr q))))
  · exact lv_icmp_ge hx hb hd ht (fun h => kt (decide_eq_true (e2.mp h))) (fun h => kf (decide_eq_false (fun q => h (e2.mpr q))))
  · exact lv_icmp_gt hx hb hd ht (fun h => kt (decide_eq_true (e3.mp h))) (fun h => kf (decide_eq_false (fun q => h (e3.mpr q))))
  · exact lv_icmp_le hx hb hd ht (fun h => kt (decide_eq_true (e4.mp h))) (fun h => kf (decide_eq_false (fun q => h (e4.mpr q))))
theorem m_ls_off {y : Nat} {d x : Int} {dd : Nat} (hd : (pc : Int) + d = (m_stt y dd : Nat)) : ∀ (ps : List (Int × Int)) (ks : List (Int × Nat)), ps.map (fun q => (q.1, (pc : Int) + q.2)) = ks.map (fun q => (q.1, ((m_stt y q.2 : Nat) : Int))) → (pc : Int) + Op.lookupswitch.offset ps d x = (m_stt y (m_lsb ks dd x) : Nat)
  | [], [], _ => by simpa [Op.lookupswitch.offset, m_lsb] using hd
  | [], _ :: _, h => by simp at h
  | _ :: _, [], h => by simp at h
  | (a, o) :: ps, (k, w) :: ks, h => by
    simp only [List.map_cons, List.cons.injEq, Prod.mk.injEq] at h
    obtain ⟨⟨rfl, h2⟩, h3⟩ := h
    rw [Op.lookupswitch.offset_cons]
    unfold m_lsb
    by_cases hc : x = a
    · rw [if_pos hc.symm, if_pos hc]; exact h2
    · rw [if_neg (fun q => hc q.symm), if_neg hc]; exact m_ls_off hd ps ks h3
theorem m_ts_row {y a len : Nat} {x : Int} {r : Instr} (hx : p.tables.exec = Jvm.exec) (hb : c.code = cc) (hr : m_okt y pc r a = true) (hd : decode cc pc = .ok (r, len)) (hi : m_in x)
    (k : W p l e R s m args below meth c H locs cells slots Q (F0 m (m_stt y (m_tsb (m_tsl a) x)) ls rest)) : W p l e R s m args below meth c H locs cells slots Q (F0 m pc ls (.int (Int32.ofInt x) :: rest)) := by
  unfold m_okt at hr
  split at hr
  next d lo hi2 offs =>
    simp only [Bool.and_eq_true, decide_eq_true_eq] at hr
    obtain ⟨h1, h2, h3, h4⟩ := hr
    have ex := m_ofI hi
    unfold m_tsb at k
    split at k
    next hc => exact lv_tableOut hx hb hd (by rw [ex]; omega) h3 k
    next hc =>
      have hk : (x - (m_tsl a).1).toNat < (m_tsl a).2.2.length := by omega
      have hg : (m_tsl a).2.2[(x - (m_tsl a).1).toNat]? = some ((m_tsl a).2.2.getD (x - (m_tsl a).1).toNat (m_tsl a).2.1) := by
        rw [List.getD_eq_getElem?_getD, List.getElem?_eq_getElem hk]; rfl
      have h5 := congrArg (fun l => l[(x - (m_tsl a).1).toNat]?) h4
      simp only [List.getElem?_map, hg, Option.map_some] at h5
      obtain ⟨o, ho, ho2⟩ := Option.map_eq_some_iff.mp h5
      exact lv_tableIn hx hb hd (by rw [ex]; omega) (by rw [ex]; omega) (off := o) (by rw [ex, h1, ← Array.getElem?_toList]; exact ho) ho2 k
  next => cases hr
theorem m_ls_row {y a len : Nat} {x : Int} {r : Instr} (hx : p.tables.exec = Jvm.exec) (hb : c.code = cc) (hr : m_oku y pc r a = true) (hd : decode cc pc = .ok (r, len)) (hi : m_in x)
    (k : W p l e R s m args below meth c H locs cells slots Q (F0 m (m_stt y (m_lsb (m_lsl a).2 (m_lsl a).1 x)) ls rest)) : W p l e R s m args below meth c H locs cells slots Q (F0 m pc ls (.int (Int32.ofInt x) :: rest)) := by
  unfold m_oku at hr
  split at hr
  next d ps =>
    simp only [Bool.and_eq_true, decide_eq_true_eq] at hr
    obtain ⟨h1, h2, h3⟩ := hr
    have ex := m_ofI hi
    exact lv_lookup hx hb hd h1 rfl (by rw [ex]; exact m_ls_off h2 _ _ h3) k
  next => cases hr
end MB
end
section
section MO
variable {p : Program} {l : Launch} {e : Env} {R : Room} {s : State} {m : MethodId} {args : Array Value} {below : List Frame} {meth : Method} {c : Code} {Q : State → Prop}
variable {dC : Nat → ClassId} {dI : Nat → Nat → Nat} {tc : Nat → ClassId} {A : Nat → Prop} {X : Option (Nat × (Nat → Int))} {b y n0 z0 : Nat} {ads0 : Nat → Nat}
theorem m_rf_or {ads : Nat → Nat} {b : Nat} (o : Option Nat) : (o = none ∧ m_re ads b (m_O o) = .null) ∨ ∃ k, o = some k ∧ m_re ads b (m_O o) = .ref (ads k) := by
  cases o with
  | none => exact Or.inl ⟨rfl, rfl⟩
  | some k => exact Or.inr ⟨k, rfl, rfl⟩
set_option maxHeartbeats 4000000 in
/-- one step that is no branch, no call, no return -/
theorem m_stp_ok {pc len : Nat} {i : m_P} {r : Instr} {pls st : List m_V} {μ : m_M} {q : List m_V × List m_V × m_M} (hF : m_Fx p R s m args meth c dC dI tc A X b y) (hr : (if 53 ≤ i.1 then m_okm (m_own y) (m_nm y).name r len i.1 i.2.1 i.2.2.1 i.2.2.2 else if 14 ≤ i.1 ∧ i.1 ≤ 22 then m_okl (m_ml y) r len i.1 i.2.1 i.2.2.2 else m_oks (m_own y) r len i.1 i.2.1 i.2.2.2) = true)
    (hd : decode (m_by y) pc = .ok (r, len)) (h : m_stp X i pls st μ = some q) (hcR : q.2.2.1.length - n0 ≤ R.cells) (hsR : m_sz q.2.2.1 - z0 ≤ R.slots)
    (kk : m_W p l e R s m args below meth c Q dC dI tc A b (m_ml y) n0 z0 ads0 (pc + len) q.1 q.2.1 q.2.2) : m_W p l e R s m args below meth c Q dC dI tc A b (m_ml y) n0 z0 ads0 pc pls st μ := by
  intro ads H locs ls hads hn0 hz0 hP hD hS hM hl hokl hok
  have hml : c.maxLocals = m_ml y := hF.2.2.1
  have hls : ls.size = c.maxLocals := by rw [hml]; exact hl.2.1
  unfold m_stp at h
  split at h
  next h53 =>
    rw [if_pos h53] at hr
    obtain ⟨⟨st', μ'⟩, h1, rfl⟩ := Option.map_eq_some_iff.mp h
    have key : m_Nx p l e R s m args below meth c Q dC dI tc A b n0 z0 ls H locs ads pc (pc + len) st st' μ μ' := by
      obtain ⟨op, a, f, z⟩ := i
      have hop : op = 53 ∨ op = 54 ∨ op = 55 ∨ op = 56 ∨ op = 57 ∨ op = 58 ∨ op = 59 ∨ op = 60 ∨ op = 61 ∨ op = 62 ∨ op = 63 ∨ op = 64 ∨ op = 65 ∨ op = 66 ∨ op = 67 ∨ op = 68 ∨ op = 69 ∨ 70 ≤ op := by
        have h53 : 53 ≤ op := h53
        omega
      rcases hop with rfl | rfl | rfl | rfl | rfl | rfl | rfl | rfl | rfl | rfl | rfl | rfl | rfl | rfl | rfl | rfl | rfl | hop
      · exact m_get_ok hF hr hd h1 hP hD hS hM hok
      · exact m_putf_ok hF hr hd h1 hP hD hS hM hok
      · exact m_newa_ok hF hr hd h1 hP hD hS hM hok hn0 hz0 hcR hsR
      · exact m_newq_ok hF hr hd h1 hP hD hS hM hok hn0 hz0 hcR hsR
      · exact m_new_ok hF hr hd h1 hP hD hS hM hok hn0 hz0 hcR hsR
      · exact m_len_ok hF hr hd h1 hP hD hS hM hok
      · exact m_iald_ok hF hr hd h1 hP hD hS hM hok
      · exact m_lald_ok hF hr hd h1 hP hD hS hM hok
      · exact m_bald_ok hF hr hd h1 hP hD hS hM hok
      · exact m_aald_ok hF hr hd h1 hP hD hS hM hok
      · exact m_iast_ok hF hr hd h1 hP hD hS hM hok
      · exact m_last_ok hF hr hd h1 hP hD hS hM hok
      · exact m_bast_ok hF hr hd h1 hP hD hS hM hok
      · exact m_aast_ok hF hr hd h1 hP hD hS hM hok
      · exact m_obj_ok hF hr hd h1 hP hD hS hM hok hls
      · exact m_acp_ok hF hr hd h1 hP hD hS hM hok hls
      · exact m_raw_ok hF hr hd h1 hP hD hS hM hok hls
      · obtain ⟨j, rfl⟩ : ∃ j, op = j + 70 := ⟨op - 70, by omega⟩
        cases hr
    obtain ⟨g1, g2, hok', hM', kw⟩ := key
    refine kw fun ads' H' locs' ha hP' hD' hS' => ?_
    exact kk ads' H' locs' ls (fun k hk => by rw [ha k (Nat.lt_of_lt_of_le hk hn0)]; exact hads k hk) (Nat.le_trans hn0 g1) (Nat.le_trans hz0 g2) hP' hD' hS' hM' ⟨hl.1, hl.2.1, hl.2.2.1, fun i hi => by rw [m_re_ads ha (hokl i)]; exact hl.2.2.2 i hi⟩ (fun i => m_okw_mono g1 (hokl i)) hok'
  next h53 =>
    rw [if_neg h53] at hr
    split at h
    next h14 =>
      rw [if_pos h14] at hr
      obtain ⟨⟨pls', st'⟩, h1, rfl⟩ := Option.map_eq_some_iff.mp h
      obtain ⟨k1, k2, k3⟩ := m_lk_ok (H := H) (locs := locs) (cells := μ.1.length - n0) (slots := m_sz μ.1 - z0) (Q := Q) (l := l) (e := e) (below := below) hF hr hd h1 hl hokl hok
      exact k3 fun ls' hl' => kk ads H locs ls' hads hn0 hz0 hP hD hS hM hl' k1 k2
    next h14 =>
      rw [if_neg h14] at hr
      obtain ⟨st', h1, rfl⟩ := Option.map_eq_some_iff.mp h
      obtain ⟨k1, k2⟩ := m_sk_ok (ads := ads) (H := H) (locs := locs) (ls := ls) (cells := μ.1.length - n0) (slots := m_sz μ.1 - z0) (Q := Q) (l := l) (e := e) (below := below) hF hr hd h1 hok
      exact k2 (kk ads H locs ls hads hn0 hz0 hP hD hS hM hl hokl k1)
set_option maxHeartbeats 4000000 in
/-- what a run comes to is what the machine comes to -/
theorem m_run_ok {d : Nat} {f : m_C} {rv : Option m_V} {μ' : m_M} (hF : m_Fx p R s m args meth c dC dI tc A X b y) (hC : m_Con l dC dI tc A X b d f) (hfr : d + 1 ≤ R.frames) (hlo : 35 * d + 35 ≤ R.locals) (hy : y < 198) (hf : ∀ y as μ q, f y as μ = some q → m_grow μ q.2)
    (hcR : μ'.1.length - n0 ≤ R.cells) (hsR : m_sz μ'.1 - z0 ≤ R.slots)
    (hex : ∀ (pcR k : Nat) (plsR stR : List m_V) (ins : Instr), decode (m_by y) pcR = .ok (ins, 1) → m_okr (m_rt y) ins k = true → m_ret k stR μ' = some (rv, μ') → m_W p l e R s m args below meth c Q dC dI tc A b (m_ml y) n0 z0 ads0 pcR plsR stR μ') :
    ∀ (n : Nat) (is : List m_P) (pc : Nat) (pls st : List m_V) (μ : m_M), m_chk y is pc = true → m_run X f y n is pls st μ = some (rv, μ') → m_W p l e R s m args below meth c Q dC dI tc A b (m_ml y) n0 z0 ads0 pc pls st μ
  | 0, _, _, _, _, _, _, h => by cases h
  | _ + 1, [], _, _, _, _, _, h => by cases h
  | n + 1, i :: is, pc, pls, st, μ, hc, h => by
    have ih := m_run_ok hF hC hfr hlo hy hf hcR hsR hex n
    have hx : p.tables.exec = Jvm.exec := hF.1
    have hb : c.code = m_by y := hF.2.1
    unfold m_chk at hc
    split at hc
    next h8 =>
      obtain ⟨op, a, f2, z⟩ := i
      have h8 : op = 8 := h8
      subst h8
      have e1 : m_stt y a = pc := of_decide_eq_true hc
      have h : m_run X f y n (m_blk y a) pls st μ = some (rv, μ') := h
      rw [← e1]
      exact ih _ _ _ _ _ (m_blk_chk hy a) h
    next h8 =>
      split at hc
      next r len hd =>
        simp only [Bool.and_eq_true] at hc
        obtain ⟨hr, hc⟩ := hc
        unfold m_run at h
        split at h
        next h0 =>
          obtain ⟨op, a, f2, z⟩ := i
          have h0 : op = 0 := h0
          subst h0
          simp only [m_okB, Bool.and_eq_true, decide_eq_true_eq] at hr
          obtain ⟨rfl, rfl⟩ := hr
          have k := ih _ _ _ _ _ (m_blk_chk hy a) h
          intro ads H locs ls hads hn0 hz0 hP hD hS hM hl hokl hok
          exact lv_goto hx hb hd (by omega) (k ads H locs ls hads hn0 hz0 hP hD hS hM hl hokl hok)
        next h0 =>
          obtain ⟨op, a, f2, z⟩ := i
          have h0 : op = 1 := h0
          subst h0
          simp only [m_okB, Bool.and_eq_true, decide_eq_true_eq] at hr
          obtain ⟨rfl, rfl⟩ := hr
          split at h
          next x r0 =>
            intro ads H locs ls hads hn0 hz0 hP hD hS hM hl hokl hok
            obtain ⟨hw, hr2⟩ := m_one hok
            refine m_if_row (tgt := m_stt y f2) hx hb hd (by omega) hw (fun ht => ?_) (fun ht => ?_)
            · rw [if_pos ht] at h
              exact ih _ _ _ _ _ (m_blk_chk hy f2) h ads H locs ls hads hn0 hz0 hP hD hS hM hl hokl hr2
            · rw [if_neg (by rw [show m_cnd a x 0 = false from ht]; decide)] at h
              exact ih _ _ _ _ _ hc h ads H locs ls hads hn0 hz0 hP hD hS hM hl hokl hr2
          next => cases h
        next h0 =>
          obtain ⟨op, a, f2, z⟩ := i
          have h0 : op = 2 := h0
          subst h0
          simp only [m_okB, Bool.and_eq_true, decide_eq_true_eq] at hr
          obtain ⟨rfl, rfl⟩ := hr
          split at h
          next w x r0 =>
            intro ads H locs ls hads hn0 hz0 hP hD hS hM hl hokl hok
            obtain ⟨hw, hx2, hr2⟩ := m_two hok
            refine m_icmp_row (tgt := m_stt y f2) hx hb hd (by omega) hx2 hw (fun ht => ?_) (fun ht => ?_)
            · rw [if_pos ht] at h
              exact ih _ _ _ _ _ (m_blk_chk hy f2) h ads H locs ls hads hn0 hz0 hP hD hS hM hl hokl hr2
            · rw [if_neg (by rw [show m_cnd a x w = false from ht]; decide)] at h
              exact ih _ _ _ _ _ hc h ads H locs ls hads hn0 hz0 hP hD hS hM hl hokl hr2
          next => cases h
        next h0 =>
          obtain ⟨op, a, f2, z⟩ := i
          have h0 : op = 3 := h0
          subst h0
          simp only [m_okB, Bool.and_eq_true, decide_eq_true_eq] at hr
          obtain ⟨rfl, rfl⟩ := hr
          split at h
          next r0 =>
            have k := ih _ _ _ _ _ (m_blk_chk hy a) h
            intro ads H locs ls hads hn0 hz0 hP hD hS hM hl hokl hok
            exact lv_ifnullN hx hb hd (by omega) (k ads H locs ls hads hn0 hz0 hP hD hS hM hl hokl (m_one hok).2)
          next w r0 =>
            have k := ih _ _ _ _ _ hc h
            intro ads H locs ls hads hn0 hz0 hP hD hS hM hl hokl hok
            exact lv_ifnull hx hb hd (k ads H locs ls hads hn0 hz0 hP hD hS hM hl hokl (m_one hok).2)
          next => cases h
        next h0 =>
          obtain ⟨op, a, f2, z⟩ := i
          have h0 : op = 4 := h0
          subst h0
          simp only [m_okB, Bool.and_eq_true, decide_eq_true_eq] at hr
          obtain ⟨rfl, rfl⟩ := hr
          split at h
          next r0 =>
            have k := ih _ _ _ _ _ hc h
            intro ads H locs ls hads hn0 hz0 hP hD hS hM hl hokl hok
            exact lv_ifnonnullN hx hb hd (k ads H locs ls hads hn0 hz0 hP hD hS hM hl hokl (m_one hok).2)
          next w r0 =>
            have k := ih _ _ _ _ _ (m_blk_chk hy a) h
            intro ads H locs ls hads hn0 hz0 hP hD hS hM hl hokl hok
            exact lv_ifnonnull hx hb hd (by omega) (k ads H locs ls hads hn0 hz0 hP hD hS hM hl hokl (m_one hok).2)
          next => cases h
        next h0 =>
          obtain ⟨op, a, f2, z⟩ := i
          have h0 : op = 5 := h0
          subst h0
          split at h
          next x r0 =>
            have k := ih _ _ _ _ _ (m_blk_chk hy _) h
            intro ads H locs ls hads hn0 hz0 hP hD hS hM hl hokl hok
            obtain ⟨hw, hr2⟩ := m_one hok
            exact m_ts_row hx hb hr hd hw (k ads H locs ls hads hn0 hz0 hP hD hS hM hl hokl hr2)
          next => cases h
        next h0 =>
          obtain ⟨op, a, f2, z⟩ := i
          have h0 : op = 6 := h0
          subst h0
          simp only [m_okB, Bool.and_eq_true, decide_eq_true_eq] at hr
          obtain ⟨rfl, hr⟩ := hr
          have e1 : μ' = μ := m_ret_same h
          subst e1
          exact hex pc a pls st r hd hr h
        next h0 =>
          obtain ⟨op, a, f2, z⟩ := i
          have h0 : op = 7 := h0
          subst h0
          simp only [m_okB, Bool.and_eq_true, decide_eq_true_eq] at hr
          obtain ⟨rfl, ha, hr⟩ := hr
          split at h
          next q hq =>
            have hg2 := m_run_grow hf n _ _ _ _ _ h
            have k := ih _ _ _ _ _ hc h
            intro ads H locs ls hads hn0 hz0 hP hD hS hM hl hokl hok
            refine m_cal_ok (len := 0) hF hC hfr hlo ha hr hd hq hads hn0 hz0 (Nat.le_trans (Nat.sub_le_sub_right hg2.1 n0) hcR) (Nat.le_trans (Nat.sub_le_sub_right hg2.2 z0) hsR) hP hD hS hM hl hokl hok k
          next => cases h
        next h0 => exact absurd h0 h8
        next h0 =>
          obtain ⟨op, a, f2, z⟩ := i
          have h0 : op = 9 := h0
          subst h0
          split at h
          next x r0 =>
            have k := ih _ _ _ _ _ (m_blk_chk hy _) h
            intro ads H locs ls hads hn0 hz0 hP hD hS hM hl hokl hok
            obtain ⟨hw, hr2⟩ := m_one hok
            exact m_ls_row hx hb hr hd hw (k ads H locs ls hads hn0 hz0 hP hD hS hM hl hokl hr2)
          next => cases h
        next h0 h1 h2 h3 h4 h5 h6 h7 _ h9 =>
          have hr2 : (if 53 ≤ i.1 then m_okm (m_own y) (m_nm y).name r len i.1 i.2.1 i.2.2.1 i.2.2.2 else if 14 ≤ i.1 ∧ i.1 ≤ 22 then m_okl (m_ml y) r len i.1 i.2.1 i.2.2.2 else m_oks (m_own y) r len i.1 i.2.1 i.2.2.2) = true := by
            unfold m_okB at hr
            split at hr
            next q => exact absurd q h0
            next q => exact absurd q h1
            next q => exact absurd q h2
            next q => exact absurd q h3
            next q => exact absurd q h4
            next q => exact absurd q h5
            next q => exact absurd q h6
            next q => exact absurd q h7
            next q => exact absurd q h9
            next => exact hr
          split at h
          next q hq =>
            have hg2 := m_run_grow hf n _ _ _ _ _ h
            exact m_stp_ok hF hr2 hd hq (Nat.le_trans (Nat.sub_le_sub_right hg2.1 n0) hcR) (Nat.le_trans (Nat.sub_le_sub_right hg2.2 z0) hsR) (ih _ _ _ _ _ hc h)
          next => cases h
      next => cases hc
end MO
end
section
/-! what a run comes to, as a value; a method's contract -/
noncomputable def m_lim {α : Type} (f : Nat → Option α) : Option α := @dite _ (∃ n, (f n).isSome = true) (Classical.propDecidable _) (fun h => f (Classical.choose h)) (fun _ => none)
def m_mono {α : Type} (f : Nat → Option α) : Prop := ∀ n a, f n = some a → f (n + 1) = some a
theorem m_mono_le {α : Type} {f : Nat → Option α} (h : m_mono f) {n k : Nat} {a : α} (hn : f n = some a) (hk : n ≤ k) : f k = some a := by
  induction hk with
  | refl => exact hn
  | step _ ih => exact h _ _ ih
theorem m_lim_of {α : Type} {f : Nat → Option α} (h : m_mono f) {n : Nat} {a : α} (hn : f n = some a) : m_lim f = some a := by
  have hex : ∃ n, (f n).isSome = true := ⟨n, by rw [hn]; rfl⟩
  unfold m_lim
  rw [dif_pos hex]
  have hc := Classical.choose_spec hex
  obtain ⟨a', ha'⟩ := Option.isSome_iff_exists.mp hc
  rcases Nat.le_total n (Classical.choose hex) with q | q
  · exact m_mono_le h hn q
  · rw [ha', ← m_mono_le h ha' q]; exact hn
theorem m_lim_ex {α : Type} {f : Nat → Option α} {a : α} (h : m_lim f = some a) : ∃ n, f n = some a := by
  unfold m_lim at h
  split at h
  next hex => exact ⟨_, h⟩
  next => cases h
theorem m_lim_eq {α : Type} {f g : Nat → Option α} (hf : m_mono f) (hg : m_mono g) (h : ∀ n, f (n + 1) = g n) : m_lim f = m_lim g := by
  cases hg2 : m_lim g with
  | some a =>
    obtain ⟨n, hn⟩ := m_lim_ex hg2
    exact m_lim_of hf ((h n).trans hn)
  | none =>
    cases hf2 : m_lim f with
    | none => rfl
    | some a =>
      obtain ⟨n, hn⟩ := m_lim_ex hf2
      have h2 : g n = some a := (h n).symm.trans (hf n a hn)
      rw [m_lim_of hg h2] at hg2
      cases hg2
theorem m_run_mono {X : Option (Nat × (Nat → Int))} {f : m_C} {y : Nat} : ∀ (n : Nat) (is : List m_P) (ls st : List m_V) (μ : m_M) (q : Option m_V × m_M), m_run X f y n is ls st μ = some q → m_run X f y (n + 1) is ls st μ = some q
  | 0, _, _, _, _, _, h => by cases h
  | _ + 1, [], _, _, _, _, h => by cases h
  | n + 1, i :: is, ls, st, μ, q, h => by
    have ih := @m_run_mono X f y n
    unfold m_run at h ⊢
    split at h
    · exact ih _ _ _ _ _ h
    · split at h
      · split at h
        next hc => rw [if_pos hc]; exact ih _ _ _ _ _ h
        next hc => rw [if_neg hc]; exact ih _ _ _ _ _ h
      · cases h
    · split at h
      · split at h
        next hc => rw [if_pos hc]; exact ih _ _ _ _ _ h
        next hc => rw [if_neg hc]; exact ih _ _ _ _ _ h
      · cases h
    · split at h
      · exact ih _ _ _ _ _ h
      · exact ih _ _ _ _ _ h
      · cases h
    · split at h
      · exact ih _ _ _ _ _ h
      · exact ih _ _ _ _ _ h
      · cases h
    · split at h
      · exact ih _ _ _ _ _ h
      · cases h
    · exact h
    · split at h
      next w hw => exact ih _ _ _ _ _ h
      next => cases h
    · exact ih _ _ _ _ _ h
    · split at h
      · exact ih _ _ _ _ _ h
      · cases h
    · split at h
      next w hw => exact ih _ _ _ _ _ h
      next => cases h
/-- from a state within a method -/
noncomputable def m_e (X : Option (Nat × (Nat → Int))) (f : m_C) (y : Nat) (is : List m_P) (ls st : List m_V) (μ : m_M) : Option (Option m_V × m_M) := m_lim (fun n => m_run X f y n is ls st μ)
/-- a method's answer, with calls d deep -/
noncomputable def m_ev : Nat → m_C
  | 0, _, _, _ => none
  | d + 1, y, as, μ => if m_as as ≤ m_ml y then m_e none (m_ev d) y (m_blk y 0) (m_en (m_ml y) as) [] μ else none
theorem m_e_mono (X : Option (Nat × (Nat → Int))) (f : m_C) (y : Nat) (is : List m_P) (ls st : List m_V) (μ : m_M) : m_mono (fun n => m_run X f y n is ls st μ) := fun n q h => m_run_mono n is ls st μ q h
/-! a program's run gives the value -/
theorem m_run_le {X : Option (Nat × (Nat → Int))} {f g : m_C} (hfg : ∀ y as μ q, f y as μ = some q → g y as μ = some q) {y : Nat} : ∀ (n : Nat) (is : List m_P) (ls st : List m_V) (μ : m_M) (q : Option m_V × m_M), m_run X f y n is ls st μ = some q → m_run X g y n is ls st μ = some q
  | 0, _, _, _, _, _, h => by cases h
  | _ + 1, [], _, _, _, _, h => by cases h
  | n + 1, i :: is, ls, st, μ, q, h => by
    have ih := m_run_le (X := X) hfg (y := y) n
    unfold m_run at h ⊢
    split at h
    · exact ih _ _ _ _ _ h
    · split at h
      · split at h
        next hc => rw [if_pos hc]; exact ih _ _ _ _ _ h
        next hc => rw [if_neg hc]; exact ih _ _ _ _ _ h
      · cases h
    · split at h
      · split at h
        next hc => rw [if_pos hc]; exact ih _ _ _ _ _ h
        next hc => rw [if_neg hc]; exact ih _ _ _ _ _ h
      · cases h
    · split at h
      · exact ih _ _ _ _ _ h
      · exact ih _ _ _ _ _ h
      · cases h
    · split at h
      · exact ih _ _ _ _ _ h
      · exact ih _ _ _ _ _ h
      · cases h
    · split at h
      · exact ih _ _ _ _ _ h
      · cases h
    · exact h
    · split at h
      next w hw =>
        have hw2 : m_cal g i.2.1 i.2.2.1 i.2.2.2 st μ = some w := by
          unfold m_cal at hw ⊢
          split at hw
          next hc =>
            rw [if_pos hc]
            obtain ⟨u, hu, rfl⟩ := Option.map_eq_some_iff.mp hw
            rw [hfg _ _ _ _ hu]
            rfl
          next => cases hw
        rw [hw2]
        exact ih _ _ _ _ _ h
      next => cases h
    · exact ih _ _ _ _ _ h
    · split at h
      · exact ih _ _ _ _ _ h
      · cases h
    · split at h
      next w hw => exact ih _ _ _ _ _ h
      next => cases h
theorem m_go_ev {n : Nat} : ∀ (d y : Nat) (as : List m_V) (μ : m_M) (q : Option m_V × m_M), m_go n d y as μ = some q → m_ev d y as μ = some q
  | 0, _, _, _, _, h => by cases h
  | d + 1, y, as, μ, q, h => by
    unfold m_go at h
    unfold m_ev
    split at h
    next hc =>
      rw [if_pos hc]
      exact m_lim_of (m_e_mono _ _ _ _ _ _ _) (m_run_le (m_go_ev d) n _ _ _ _ _ h)
    next => cases h
/-- deeper calls change nothing -/
theorem m_ev_le : ∀ (d y : Nat) (as : List m_V) (μ : m_M) (q : Option m_V × m_M), m_ev d y as μ = some q → m_ev (d + 1) y as μ = some q
  | 0, _, _, _, _, h => by cases h
  | d + 1, y, as, μ, q, h => by
    unfold m_ev at h ⊢
    split at h
    next hc =>
      rw [if_pos hc]
      obtain ⟨n, hn⟩ := m_lim_ex h
      exact m_lim_of (m_e_mono _ _ _ _ _ _ _) (m_run_le (m_ev_le d) n _ _ _ _ _ hn)
    next => cases h
theorem m_ev_up {d k y : Nat} {as : List m_V} {μ : m_M} {q : Option m_V × m_M} (h : m_ev d y as μ = some q) (hk : d ≤ k) : m_ev k y as μ = some q := by
  induction hk with
  | refl => exact h
  | step _ ih => exact m_ev_le _ _ _ _ _ ih
theorem m_ev_grow : ∀ (d y : Nat) (as : List m_V) (μ : m_M) (q : Option m_V × m_M), m_ev d y as μ = some q → m_grow μ q.2
  | 0, _, _, _, _, h => by cases h
  | d + 1, y, as, μ, q, h => by
    unfold m_ev at h
    split at h
    next hc =>
      obtain ⟨n, hn⟩ := m_lim_ex h
      exact m_run_grow (m_ev_grow d) n _ _ _ _ _ hn
    next => cases h
/-! the locals with which a method begins -/
theorem m_en_len : ∀ (as : List m_V) (n : Nat), m_as as ≤ n → (m_en n as).length = n
  | [], n, _ => by cases n <;> simp [m_en]
  | v :: r, 0, h => by
    rcases v with z | z | z | o | u <;> (simp only [m_as] at h; omega)
  | v :: r, n + 1, h => by
    rcases v with z | z | z | o | u
    · simp only [m_as] at h
      simp [m_en, m_en_len r n (by omega)]
    · simp only [m_as] at h
      obtain ⟨n, rfl⟩ : ∃ k, n = k + 1 := ⟨n - 1, by omega⟩
      simp [m_en, m_en_len r n (by omega)]
    · simp only [m_as] at h
      simp [m_en, m_en_len r n (by omega)]
    · simp only [m_as] at h
      simp [m_en, m_en_len r n (by omega)]
    · simp only [m_as] at h
      simp [m_en, m_en_len r n (by omega)]
theorem m_sl_cons (v : Value) (vs : List Value) : (lg_sl (v :: vs)).length = (if v.category = 2 then 2 else 1) + (lg_sl vs).length := by
  unfold lg_sl
  rw [List.flatMap_cons, List.length_append]
  congr 1
  split <;> rfl
theorem m_sl_len {ads : Nat → Nat} {b : Nat} : ∀ (as : List m_V), (lg_sl (as.map (m_re ads b))).length = m_as as
  | [] => rfl
  | v :: r => by
    have h := m_sl_len (ads := ads) (b := b) r
    rw [List.map_cons, m_sl_cons, h]
    rcases v with z | z | z | o | u
    · rw [if_neg (by rw [m_cat _ rfl]; decide)]; simp only [m_as]; omega
    · rw [if_pos (show (m_re ads b (Sum.inr (Sum.inl z))).category = 2 from rfl)]; simp only [m_as]; omega
    · rw [if_neg (by rw [m_cat _ rfl]; decide)]; simp only [m_as]; omega
    · rw [if_neg (by rw [m_cat _ rfl]; decide)]; simp only [m_as]; omega
    · rw [if_neg (by rw [m_cat _ rfl]; decide)]; simp only [m_as]; omega
theorem m_en_in {ads : Nat → Nat} {b : Nat} : ∀ (as : List m_V) (n k j : Nat), m_as as ≤ n → ¬ m_ld (m_en n as) j = m_U → (k + j, m_re ads b (m_ld (m_en n as) j)) ∈ lv_args k (as.map (m_re ads b))
  | [], n, k, j, _, h => by
    have e : m_en n [] = List.replicate n m_U := by cases n <;> rfl
    rw [e, m_ld_rep] at h
    exact absurd rfl h
  | v :: r, 0, k, j, h, _ => by
    rcases v with z | z | z | o | u <;> (simp only [m_as] at h; omega)
  | v :: r, n + 1, k, j, h, hj => by
    by_cases hlg : m_lg v = true
    · rcases v with z | z | z | o | u
      · cases hlg
      · simp only [m_as] at h
        obtain ⟨n, rfl⟩ : ∃ k, n = k + 1 := ⟨n - 1, by omega⟩
        have e : lv_args k ((Sum.inr (Sum.inl z) :: r).map (m_re ads b)) = (k, m_re ads b (Sum.inr (Sum.inl z))) :: lv_args (k + 2) (r.map (m_re ads b)) := rfl
        rw [e]
        match j, hj with
        | 0, _ => exact List.mem_cons_self
        | 1, hj => exact absurd rfl hj
        | j + 2, hj =>
          have h2 := m_en_in (ads := ads) (b := b) r n (k + 2) j (by omega) hj
          rw [show k + 2 + j = k + (j + 2) by omega] at h2
          exact List.mem_cons_of_mem _ h2
      · cases hlg
      · cases hlg
      · cases hlg
    · have hlg : m_lg v = false := by cases q : m_lg v <;> simp_all
      have ec := m_cat (ads := ads) (b := b) v hlg
      have e : lv_args k ((v :: r).map (m_re ads b)) = (k, m_re ads b v) :: lv_args (k + 1) (r.map (m_re ads b)) := by
        show (k, m_re ads b v) :: lv_args (if (m_re ads b v).category = 2 then k + 2 else k + 1) (r.map (m_re ads b)) = _
        rw [if_neg (by rw [ec]; decide)]
      have e2 : m_en (n + 1) (v :: r) = v :: m_en n r := by
        rcases v with z | z | z | o | u
        · rfl
        · cases hlg
        · rfl
        · rfl
        · rfl
      have e3 : m_as r ≤ n := by
        rcases v with z | z | z | o | u
        · simp only [m_as] at h; omega
        · cases hlg
        · simp only [m_as] at h; omega
        · simp only [m_as] at h; omega
        · simp only [m_as] at h; omega
      rw [e2] at hj ⊢
      rw [e]
      match j, hj with
      | 0, _ => exact List.mem_cons_self
      | j + 1, hj =>
        have h2 := m_en_in (ads := ads) (b := b) r n (k + 1) j e3 hj
        rw [show k + 1 + j = k + (j + 1) by omega] at h2
        exact List.mem_cons_of_mem _ h2
theorem m_en_ok {N : Nat} : ∀ (as : List m_V) (n : Nat), (∀ v ∈ as, m_okw N v) → ∀ j, m_okw N (m_ld (m_en n as) j)
  | [], n, _, j => by
    have e : m_en n [] = List.replicate n m_U := by cases n <;> rfl
    rw [e, m_ld_rep]
    exact trivial
  | v :: r, 0, _, j => by
    rcases v with z | z | z | o | u <;> exact trivial
  | v :: r, n + 1, h, j => by
    have h1 := h v List.mem_cons_self
    have h2 := fun j => m_en_ok r n (fun u hu => h u (List.mem_cons_of_mem _ hu)) j
    have h3 := fun j => m_en_ok r (n - 1) (fun u hu => h u (List.mem_cons_of_mem _ hu)) j
    rcases v with z | z | z | o | u
    · cases j with
      | zero => exact h1
      | succ j => exact h2 j
    · match j with
      | 0 => exact h1
      | 1 => exact trivial
      | j + 2 => exact h3 j
    · cases j with
      | zero => exact h1
      | succ j => exact h2 j
    · cases j with
      | zero => exact h1
      | succ j => exact h2 j
    · cases j with
      | zero => exact h1
      | succ j => exact h2 j
theorem m_en_lh {ads : Nat → Nat} {b n : Nat} {as : List m_V} (h : m_as as ≤ n) : m_lh ads b n (m_en n as) (lg_sl (as.map (m_re ads b)) ++ List.replicate (n - (lg_sl (as.map (m_re ads b))).length) Slot.unset).toArray := by
  have hl := lv_entry (as.map (m_re ads b)) (n := n) (by rw [m_sl_len]; exact h)
  refine ⟨m_en_len as n h, hl.1, hl.2.1, fun i hi => ?_⟩
  have h2 := m_en_in (ads := ads) (b := b) as n 0 i h hi
  rw [Nat.zero_add] at h2
  exact hl.2.2 _ h2
/-- the same, the script standing in every call -/
noncomputable def m_evX (X : Option (Nat × (Nat → Int))) : Nat → m_C
  | 0, _, _, _ => none
  | d + 1, y, as, μ => if m_as as ≤ m_ml y then m_e X (m_evX X d) y (m_blk y 0) (m_en (m_ml y) as) [] μ else none
theorem m_evX_grow (X : Option (Nat × (Nat → Int))) : ∀ (d y : Nat) (as : List m_V) (μ : m_M) (q : Option m_V × m_M), m_evX X d y as μ = some q → m_grow μ q.2
  | 0, _, _, _, _, h => by cases h
  | d + 1, y, as, μ, q, h => by
    unfold m_evX at h
    split at h
    next has =>
      obtain ⟨n, hn⟩ := m_lim_ex h
      exact m_run_grow (m_evX_grow X d) n _ _ _ _ _ hn
    next => cases h
theorem m_mk_X {X : Option (Nat × (Nat → Int))} {op a b : Nat} {z : Int} {st : List m_V} {μ : m_M} {q : List m_V × m_M} (h : m_mk none op a b z st μ = some q) : m_mk X op a b z st μ = some q := by
  unfold m_mk at h ⊢
  split at h
  all_goals first | exact h | skip
  · split at h
    · exact h
    · cases h
    · cases h
  · split at h
    · exact h
    · cases h
    · cases h
theorem m_stp_X {X : Option (Nat × (Nat → Int))} {i : m_P} {ls st : List m_V} {μ : m_M} {q : List m_V × List m_V × m_M} (h : m_stp none i ls st μ = some q) : m_stp X i ls st μ = some q := by
  unfold m_stp at h ⊢
  split at h
  next h53 =>
    rw [if_pos h53]
    obtain ⟨w, h1, rfl⟩ := Option.map_eq_some_iff.mp h
    rw [m_mk_X h1]
    rfl
  next h53 => rw [if_neg h53]; exact h
theorem m_run_X {X : Option (Nat × (Nat → Int))} {f g : m_C} (hfg : ∀ y as μ q, f y as μ = some q → g y as μ = some q) {y : Nat} : ∀ (n : Nat) (is : List m_P) (ls st : List m_V) (μ : m_M) (q : Option m_V × m_M), m_run none f y n is ls st μ = some q → m_run X g y n is ls st μ = some q
  | 0, _, _, _, _, _, h => by cases h
  | _ + 1, [], _, _, _, _, h => by cases h
  | n + 1, i :: is, ls, st, μ, q, h => by
    have ih := m_run_X (X := X) hfg (y := y) n
    unfold m_run at h ⊢
    split at h
    · exact ih _ _ _ _ _ h
    · split at h
      · split at h
        next hc => rw [if_pos hc]; exact ih _ _ _ _ _ h
        next hc => rw [if_neg hc]; exact ih _ _ _ _ _ h
      · cases h
    · split at h
      · split at h
        next hc => rw [if_pos hc]; exact ih _ _ _ _ _ h
        next hc => rw [if_neg hc]; exact ih _ _ _ _ _ h
      · cases h
    · split at h
      · exact ih _ _ _ _ _ h
      · exact ih _ _ _ _ _ h
      · cases h
    · split at h
      · exact ih _ _ _ _ _ h
      · exact ih _ _ _ _ _ h
      · cases h
    · split at h
      · exact ih _ _ _ _ _ h
      · cases h
    · exact h
    · split at h
      next w hw =>
        have hw2 : m_cal g i.2.1 i.2.2.1 i.2.2.2 st μ = some w := by
          unfold m_cal at hw ⊢
          split at hw
          next hc =>
            rw [if_pos hc]
            obtain ⟨u, hu, rfl⟩ := Option.map_eq_some_iff.mp hw
            rw [hfg _ _ _ _ hu]
            rfl
          next => cases hw
        rw [hw2]
        exact ih _ _ _ _ _ h
      next => cases h
    · exact ih _ _ _ _ _ h
    · split at h
      · exact ih _ _ _ _ _ h
      · cases h
    · split at h
      next w hw => rw [m_stp_X hw]; exact ih _ _ _ _ _ h
      next => cases h
theorem m_ev_X (X : Option (Nat × (Nat → Int))) : ∀ (d y : Nat) (as : List m_V) (μ : m_M) (q : Option m_V × m_M), m_ev d y as μ = some q → m_evX X d y as μ = some q
  | 0, _, _, _, _, h => by cases h
  | d + 1, y, as, μ, q, h => by
    unfold m_ev at h
    unfold m_evX
    split at h
    next has =>
      rw [if_pos has]
      obtain ⟨n, hn⟩ := m_lim_ex h
      exact m_lim_of (m_e_mono _ _ _ _ _ _ _) (m_run_X (m_ev_X X d) n _ _ _ _ _ hn)
    next => cases h
set_option maxHeartbeats 4000000 in
/-- every method's contract, out of what the pure machine answers -/
theorem m_con (l : Launch) (dC : Nat → ClassId) (dI : Nat → Nat → Nat) (tc : Nat → ClassId) (A : Nat → Prop) (X : Option (Nat × (Nat → Int))) (b : Nat) : ∀ d, m_Con l dC dI tc A X b d (m_evX X d)
  | 0 => fun _ _ _ _ _ _ h => by cases h
  | d + 1 => by
    intro y as μ rv μ' hy h
    have hg := m_evX_grow _ _ _ _ _ _ h
    refine ⟨hg, fun ads hM hok => ?_⟩
    unfold m_evX at h
    split at h
    next has =>
      obtain ⟨n, hn⟩ := m_lim_ex h
      have h4 := m_rng m_MP_ok4 hy
      simp only [Bool.and_eq_true, decide_eq_true_eq] at h4
      refine va_MetF (cc := m_by y) (maxL := m_ml y) (ret := m_rt y) h4.1 rfl ?_
      intro p e s m args below meth c s₁ B hml hv
      obtain ⟨rfl, hP, hD, hKN, hA, hXX⟩ := hv
      have hts0 := atoms_spec (ws := m_wd y) B.pre
      have hts : ∀ w ∈ lw_tbl.filter goodWord, w.before (as.map (m_re ads b)).toArray s = true := fun w hw => hts0 w (List.mem_cons_of_mem _ hw)
      have hown : s.vm.findClass (m_cn (m_own y)) = some m.cls := by rw [← m_clsn hy]; exact findClass_of_methodNamed B.named
      have hlocks := B.notSynchronized
      have hr := B.returns
      have hx := B.exec
      have hb := B.bytes
      have hF : m_Fx p (headSpec (m_wd y) (m_rm (d + 1) (μ'.1.length - μ.1.length) (m_sz μ'.1 - m_sz μ.1))).room s m (as.map (m_re ads b)).toArray meth c dC dI tc A X b y :=
        ⟨hx, hb, hml, hown, hts, hKN.1, hKN.2.1, hKN.2.2, hA, (name_of_methodNamed B.named B.method).1, hXX, by show 1 ≤ d + 1; omega, by show 35 ≤ 35 * (d + 1); omega⟩
      have key := m_run_ok (l := l) (e := e) (below := below) (Q := MQ below (m_Qc dC dI tc A b ads μ rv μ') (as.map (m_re ads b)).toArray s (μ'.1.length - μ.1.length) (m_sz μ'.1 - m_sz μ.1) A) (n0 := μ.1.length) (z0 := m_sz μ.1) (ads0 := ads) (d := d) (f := m_evX X d) (rv := rv) (μ' := μ') hF (m_con l dC dI tc A X b d) (by show d + 1 ≤ d + 1; omega) (by show 35 * d + 35 ≤ 35 * (d + 1); omega) (by omega) (m_evX_grow X d) (Nat.le_refl _) (Nat.le_refl _) ?_ n _ (m_stt y 0) _ _ _ (m_blk_chk (by omega) 0) hn
      · have k := key ads s.heap [] _ (fun _ _ => rfl) (Nat.le_refl _) (Nat.le_refl _) hP hD va_S.rf hM (m_en_lh has) (m_en_ok as _ hok) (fun v hv => by cases hv)
        rw [m_stt_0 (by omega), Nat.sub_self, Nat.sub_self] at k
        rw [lg_entry_eq]
        exact k
      · intro pcR k plsR stR ins hd hk hret
        intro ads' H' locs' ls' hads' hn0 hz0 hP' hD' hS' hM' hl' hokl' hok'
        have hQ : ∀ (o : Option m_V), rv = o → (∀ v, o = some v → m_okw μ'.1.length v) → ∀ t : State, t.heap = H' → s.WarmedH t.vm → m_Qc dC dI tc A b ads μ rv μ' (as.map (m_re ads b)).toArray s (.returned (o.map (m_re ads' b))) t := by
          intro o ho hov t ht hW
          subst ho
          exact ⟨⟨ads', hads', rfl, by rw [ht]; exact hP', hD', hM', hov⟩, hS'.F ht⟩
        unfold m_okr at hk
        unfold m_ret at hret
        split at hret
        · simp only [Bool.and_eq_true, decide_eq_true_eq] at hk
          cases hret
          obtain ⟨rfl, hrt⟩ := hk
          exact W.vret hx hb (by rw [hr]; exact hrt) (fun t ht hW => hQ none rfl (fun v hv => by cases hv) t ht hW) hS'.2.2 hd
        next x =>
          simp only [Bool.and_eq_true, decide_eq_true_eq] at hk
          cases hret
          obtain ⟨rfl, hrt⟩ := hk
          exact W.iret hx hb (by rw [hr]; exact hrt) (fun t ht hW => hQ (some (m_I x)) rfl (fun v hv => by cases hv; exact hok' _ List.mem_cons_self) t ht hW) hS'.2.2 hd
        next x =>
          simp only [Bool.and_eq_true, decide_eq_true_eq] at hk
          split at hret
          next h01 =>
            cases hret
            obtain ⟨rfl, hrt⟩ := hk
            exact W.zret hx hb (ty := .boolean) (by rw [hr]; exact hrt) (m_narrow_b h01).1 (fun t ht hW => hQ (some (m_I x)) rfl (fun v hv => by cases hv; exact hok' _ List.mem_cons_self) t ht hW) hS'.2.2 hd
          next => cases hret
        next x =>
          simp only [Bool.and_eq_true, decide_eq_true_eq] at hk
          cases hret
          obtain ⟨rfl, hrt⟩ := hk
          exact W.lret hx hb (by rw [hr]; exact hrt) (fun t ht hW => hQ (some (m_J x)) rfl (fun v hv => by cases hv; exact hok' _ List.mem_cons_self) t ht hW) hS'.2.2 hd
        next o =>
          simp only [Bool.and_eq_true, decide_eq_true_eq] at hk
          cases hret
          obtain ⟨rfl, hrt⟩ := hk
          have hrt2 : ∃ nm, m_rt y = some (.object nm) := by
            unfold m_isO at hrt
            split at hrt
            next nm hq => exact ⟨nm, hq⟩
            next => cases hrt
          obtain ⟨nm, hnm⟩ := hrt2
          refine W.aret hx hb (rt := .object nm) (by rw [hr]; exact hnm) (Or.inl ⟨nm, rfl⟩) ?_ (fun t ht hW => hQ (some (m_O o)) rfl (fun v hv => by cases hv; exact hok' _ List.mem_cons_self) t ht hW) hS'.2.2 hd
          rcases m_rf_or (ads := ads') (b := b) o with ⟨-, e1⟩ | ⟨k, -, e1⟩
          · exact Or.inl e1
          · exact Or.inr ⟨_, e1⟩
        next => cases hret
    next => cases h
end
section
/-! the value of a run, an instruction at a time -/
section EQ
variable {X : Option (Nat × (Nat → Int))} {f : m_C} {y : Nat} {is : List m_P} {ls st : List m_V} {μ : m_M}
theorem e_step {i : m_P} {q : List m_V × List m_V × m_M} (h8 : 10 ≤ i.1) (h : m_stp X i ls st μ = some q) : m_e X f y (i :: is) ls st μ = m_e X f y is q.1 q.2.1 q.2.2 := by
  refine m_lim_eq (m_e_mono _ _ _ _ _ _ _) (m_e_mono _ _ _ _ _ _ _) (fun n => ?_)
  obtain ⟨op, a, b, z⟩ := i
  obtain ⟨j, rfl⟩ : ∃ j, op = j + 10 := ⟨op - 10, by have : 10 ≤ op := h8; omega⟩
  show (match m_stp X (j + 10, a, b, z) ls st μ with
      | some q => m_run X f y n is q.1 q.2.1 q.2.2
      | none => none) = _
  rw [h]
theorem e_goto {a b : Nat} {z : Int} : m_e X f y ((0, b, a, z) :: is) ls st μ = m_e X f y (m_blk y b) ls st μ := m_lim_eq (m_e_mono _ _ _ _ _ _ _) (m_e_mono _ _ _ _ _ _ _) (fun _ => rfl)
theorem e_fall {a b : Nat} {z : Int} : m_e X f y ((8, b, a, z) :: is) ls st μ = m_e X f y (m_blk y b) ls st μ := m_lim_eq (m_e_mono _ _ _ _ _ _ _) (m_e_mono _ _ _ _ _ _ _) (fun _ => rfl)
theorem e_if {k b : Nat} {z x : Int} {r : List m_V} : m_e X f y ((1, k, b, z) :: is) ls (m_I x :: r) μ = if m_cnd k x 0 = true then m_e X f y (m_blk y b) ls r μ else m_e X f y is ls r μ := by
  split
  next h => exact m_lim_eq (m_e_mono _ _ _ _ _ _ _) (m_e_mono _ _ _ _ _ _ _) (fun n => if_pos h)
  next h => exact m_lim_eq (m_e_mono _ _ _ _ _ _ _) (m_e_mono _ _ _ _ _ _ _) (fun n => if_neg h)
theorem e_icmp {k b : Nat} {z x w : Int} {r : List m_V} : m_e X f y ((2, k, b, z) :: is) ls (m_I w :: m_I x :: r) μ = if m_cnd k x w = true then m_e X f y (m_blk y b) ls r μ else m_e X f y is ls r μ := by
  split
  next h => exact m_lim_eq (m_e_mono _ _ _ _ _ _ _) (m_e_mono _ _ _ _ _ _ _) (fun n => if_pos h)
  next h => exact m_lim_eq (m_e_mono _ _ _ _ _ _ _) (m_e_mono _ _ _ _ _ _ _) (fun n => if_neg h)
theorem e_if0 {b : Nat} {z x : Int} {r : List m_V} : m_e X f y ((1, 0, b, z) :: is) ls (m_I x :: r) μ = if x = 0 then m_e X f y (m_blk y b) ls r μ else m_e X f y is ls r μ := by
  rw [e_if]; simp only [m_cnd, decide_eq_true_eq]
theorem e_ic0 {b : Nat} {z x w : Int} {r : List m_V} : m_e X f y ((2, 0, b, z) :: is) ls (m_I w :: m_I x :: r) μ = if x = w then m_e X f y (m_blk y b) ls r μ else m_e X f y is ls r μ := by
  rw [e_icmp]; simp only [m_cnd, decide_eq_true_eq]
theorem e_if1 {b : Nat} {z x : Int} {r : List m_V} : m_e X f y ((1, 1, b, z) :: is) ls (m_I x :: r) μ = if ¬ x = 0 then m_e X f y (m_blk y b) ls r μ else m_e X f y is ls r μ := by
  rw [e_if]; simp only [m_cnd, decide_eq_true_eq]
theorem e_ic1 {b : Nat} {z x w : Int} {r : List m_V} : m_e X f y ((2, 1, b, z) :: is) ls (m_I w :: m_I x :: r) μ = if ¬ x = w then m_e X f y (m_blk y b) ls r μ else m_e X f y is ls r μ := by
  rw [e_icmp]; simp only [m_cnd, decide_eq_true_eq]
theorem e_if2 {b : Nat} {z x : Int} {r : List m_V} : m_e X f y ((1, 2, b, z) :: is) ls (m_I x :: r) μ = if x < 0 then m_e X f y (m_blk y b) ls r μ else m_e X f y is ls r μ := by
  rw [e_if]; simp only [m_cnd, decide_eq_true_eq]
theorem e_ic2 {b : Nat} {z x w : Int} {r : List m_V} : m_e X f y ((2, 2, b, z) :: is) ls (m_I w :: m_I x :: r) μ = if x < w then m_e X f y (m_blk y b) ls r μ else m_e X f y is ls r μ := by
  rw [e_icmp]; simp only [m_cnd, decide_eq_true_eq]
theorem e_if3 {b : Nat} {z x : Int} {r : List m_V} : m_e X f y ((1, 3, b, z) :: is) ls (m_I x :: r) μ = if 0 ≤ x then m_e X f y (m_blk y b) ls r μ else m_e X f y is ls r μ := by
  rw [e_if]; simp only [m_cnd, decide_eq_true_eq]
theorem e_ic3 {b : Nat} {z x w : Int} {r : List m_V} : m_e X f y ((2, 3, b, z) :: is) ls (m_I w :: m_I x :: r) μ = if w ≤ x then m_e X f y (m_blk y b) ls r μ else m_e X f y is ls r μ := by
  rw [e_icmp]; simp only [m_cnd, decide_eq_true_eq]
theorem e_if4 {b : Nat} {z x : Int} {r : List m_V} : m_e X f y ((1, 4, b, z) :: is) ls (m_I x :: r) μ = if 0 < x then m_e X f y (m_blk y b) ls r μ else m_e X f y is ls r μ := by
  rw [e_if]; simp only [m_cnd, decide_eq_true_eq]
theorem e_ic4 {b : Nat} {z x w : Int} {r : List m_V} : m_e X f y ((2, 4, b, z) :: is) ls (m_I w :: m_I x :: r) μ = if w < x then m_e X f y (m_blk y b) ls r μ else m_e X f y is ls r μ := by
  rw [e_icmp]; simp only [m_cnd, decide_eq_true_eq]
theorem e_if5 {b : Nat} {z x : Int} {r : List m_V} : m_e X f y ((1, 5, b, z) :: is) ls (m_I x :: r) μ = if x ≤ 0 then m_e X f y (m_blk y b) ls r μ else m_e X f y is ls r μ := by
  rw [e_if]; simp only [m_cnd, decide_eq_true_eq]
theorem e_ic5 {b : Nat} {z x w : Int} {r : List m_V} : m_e X f y ((2, 5, b, z) :: is) ls (m_I w :: m_I x :: r) μ = if x ≤ w then m_e X f y (m_blk y b) ls r μ else m_e X f y is ls r μ := by
  rw [e_icmp]; simp only [m_cnd, decide_eq_true_eq]
theorem e_null_n {a b : Nat} {z : Int} {r : List m_V} : m_e X f y ((3, b, a, z) :: is) ls (m_N :: r) μ = m_e X f y (m_blk y b) ls r μ := m_lim_eq (m_e_mono _ _ _ _ _ _ _) (m_e_mono _ _ _ _ _ _ _) (fun _ => rfl)
theorem e_null_r {a b k : Nat} {z : Int} {r : List m_V} : m_e X f y ((3, b, a, z) :: is) ls (m_R k :: r) μ = m_e X f y is ls r μ := m_lim_eq (m_e_mono _ _ _ _ _ _ _) (m_e_mono _ _ _ _ _ _ _) (fun _ => rfl)
theorem e_nonn_n {a b : Nat} {z : Int} {r : List m_V} : m_e X f y ((4, b, a, z) :: is) ls (m_N :: r) μ = m_e X f y is ls r μ := m_lim_eq (m_e_mono _ _ _ _ _ _ _) (m_e_mono _ _ _ _ _ _ _) (fun _ => rfl)
theorem e_nonn_r {a b k : Nat} {z : Int} {r : List m_V} : m_e X f y ((4, b, a, z) :: is) ls (m_R k :: r) μ = m_e X f y (m_blk y b) ls r μ := m_lim_eq (m_e_mono _ _ _ _ _ _ _) (m_e_mono _ _ _ _ _ _ _) (fun _ => rfl)
theorem e_tsw {a b : Nat} {z x : Int} {r : List m_V} : m_e X f y ((5, b, a, z) :: is) ls (m_I x :: r) μ = m_e X f y (m_blk y (m_tsb (m_tsl b) x)) ls r μ := m_lim_eq (m_e_mono _ _ _ _ _ _ _) (m_e_mono _ _ _ _ _ _ _) (fun _ => rfl)
theorem e_lsw {a b : Nat} {z x : Int} {r : List m_V} : m_e X f y ((9, b, a, z) :: is) ls (m_I x :: r) μ = m_e X f y (m_blk y (m_lsb (m_lsl b).2 (m_lsl b).1 x)) ls r μ := m_lim_eq (m_e_mono _ _ _ _ _ _ _) (m_e_mono _ _ _ _ _ _ _) (fun _ => rfl)
theorem e_ret0 {b : Nat} {z : Int} : m_e X f y ((6, 0, b, z) :: is) ls [] μ = some (none, μ) := m_lim_of (m_e_mono _ _ _ _ _ _ _) (n := 1) rfl
theorem e_ret1 {b : Nat} {z x : Int} : m_e X f y ((6, 1, b, z) :: is) ls [m_I x] μ = some (some (m_I x), μ) := m_lim_of (m_e_mono _ _ _ _ _ _ _) (n := 1) rfl
theorem e_ret2 {b : Nat} {z x : Int} (h : x = 0 ∨ x = 1) : m_e X f y ((6, 2, b, z) :: is) ls [m_I x] μ = some (some (m_I x), μ) := m_lim_of (m_e_mono _ _ _ _ _ _ _) (n := 1) (if_pos h)
theorem e_ret20 {b : Nat} {z : Int} : m_e X f y ((6, 2, b, z) :: is) ls [m_I 0] μ = some (some (m_I 0), μ) := e_ret2 (Or.inl rfl)
theorem e_ret21 {b : Nat} {z : Int} : m_e X f y ((6, 2, b, z) :: is) ls [m_I 1] μ = some (some (m_I 1), μ) := e_ret2 (Or.inr rfl)
theorem e_ret3 {b : Nat} {z x : Int} : m_e X f y ((6, 3, b, z) :: is) ls [m_J x] μ = some (some (m_J x), μ) := m_lim_of (m_e_mono _ _ _ _ _ _ _) (n := 1) rfl
theorem e_ret4 {b : Nat} {z : Int} {x : Option Nat} : m_e X f y ((6, 4, b, z) :: is) ls [m_O x] μ = some (some (m_O x), μ) := m_lim_of (m_e_mono _ _ _ _ _ _ _) (n := 1) rfl
theorem e_pi {a b : Nat} {z : Int}  {r : List m_V} : m_e X f y ((10, a, b, z) :: is) ls (r) μ = m_e X f y is ls (m_I z :: r) μ := e_step (q := (ls, m_I z :: r, μ)) (Nat.le_of_ble_eq_true rfl) rfl
theorem e_pj {a b : Nat} {z : Int}  {r : List m_V} : m_e X f y ((11, a, b, z) :: is) ls (r) μ = m_e X f y is ls (m_J z :: r) μ := e_step (q := (ls, m_J z :: r, μ)) (Nat.le_of_ble_eq_true rfl) rfl
theorem e_pf {a b : Nat} {z : Int}  {r : List m_V} : m_e X f y ((12, a, b, z) :: is) ls (r) μ = m_e X f y is ls (m_F (UInt32.ofNat a) :: r) μ := e_step (q := (ls, m_F (UInt32.ofNat a) :: r, μ)) (Nat.le_of_ble_eq_true rfl) rfl
theorem e_pn {a b : Nat} {z : Int}  {r : List m_V} : m_e X f y ((13, a, b, z) :: is) ls (r) μ = m_e X f y is ls (m_N :: r) μ := e_step (q := (ls, m_N :: r, μ)) (Nat.le_of_ble_eq_true rfl) rfl
theorem e_iadd {a b : Nat} {z : Int} {x w : Int} {r : List m_V} : m_e X f y ((23, a, b, z) :: is) ls (m_I w :: m_I x :: r) μ = m_e X f y is ls (m_I (m_w (x + w)) :: r) μ := e_step (q := (ls, m_I (m_w (x + w)) :: r, μ)) (Nat.le_of_ble_eq_true rfl) rfl
theorem e_isub {a b : Nat} {z : Int} {x w : Int} {r : List m_V} : m_e X f y ((24, a, b, z) :: is) ls (m_I w :: m_I x :: r) μ = m_e X f y is ls (m_I (m_w (x - w)) :: r) μ := e_step (q := (ls, m_I (m_w (x - w)) :: r, μ)) (Nat.le_of_ble_eq_true rfl) rfl
theorem e_imul {a b : Nat} {z : Int} {x w : Int} {r : List m_V} : m_e X f y ((25, a, b, z) :: is) ls (m_I w :: m_I x :: r) μ = m_e X f y is ls (m_I (m_w (x * w)) :: r) μ := e_step (q := (ls, m_I (m_w (x * w)) :: r, μ)) (Nat.le_of_ble_eq_true rfl) rfl
theorem e_iand {a b : Nat} {z : Int} {x w : Int} {r : List m_V} : m_e X f y ((29, a, b, z) :: is) ls (m_I w :: m_I x :: r) μ = m_e X f y is ls (m_I (m_and x w) :: r) μ := e_step (q := (ls, m_I (m_and x w) :: r, μ)) (Nat.le_of_ble_eq_true rfl) rfl
theorem e_ixor {a b : Nat} {z : Int} {x w : Int} {r : List m_V} : m_e X f y ((30, a, b, z) :: is) ls (m_I w :: m_I x :: r) μ = m_e X f y is ls (m_I (m_xor x w) :: r) μ := e_step (q := (ls, m_I (m_xor x w) :: r, μ)) (Nat.le_of_ble_eq_true rfl) rfl
theorem e_ishl {a b : Nat} {z : Int} {x w : Int} {r : List m_V} : m_e X f y ((31, a, b, z) :: is) ls (m_I w :: m_I x :: r) μ = m_e X f y is ls (m_I (m_shl x w) :: r) μ := e_step (q := (ls, m_I (m_shl x w) :: r, μ)) (Nat.le_of_ble_eq_true rfl) rfl
theorem e_ishr {a b : Nat} {z : Int} {x w : Int} {r : List m_V} : m_e X f y ((32, a, b, z) :: is) ls (m_I w :: m_I x :: r) μ = m_e X f y is ls (m_I (m_shr x w) :: r) μ := e_step (q := (ls, m_I (m_shr x w) :: r, μ)) (Nat.le_of_ble_eq_true rfl) rfl
theorem e_iushr {a b : Nat} {z : Int} {x w : Int} {r : List m_V} : m_e X f y ((33, a, b, z) :: is) ls (m_I w :: m_I x :: r) μ = m_e X f y is ls (m_I (m_ush x w) :: r) μ := e_step (q := (ls, m_I (m_ush x w) :: r, μ)) (Nat.le_of_ble_eq_true rfl) rfl
theorem e_ladd {a b : Nat} {z : Int} {x w : Int} {r : List m_V} : m_e X f y ((34, a, b, z) :: is) ls (m_J w :: m_J x :: r) μ = m_e X f y is ls (m_J (m_x (x + w)) :: r) μ := e_step (q := (ls, m_J (m_x (x + w)) :: r, μ)) (Nat.le_of_ble_eq_true rfl) rfl
theorem e_lsub {a b : Nat} {z : Int} {x w : Int} {r : List m_V} : m_e X f y ((35, a, b, z) :: is) ls (m_J w :: m_J x :: r) μ = m_e X f y is ls (m_J (m_x (x - w)) :: r) μ := e_step (q := (ls, m_J (m_x (x - w)) :: r, μ)) (Nat.le_of_ble_eq_true rfl) rfl
theorem e_lmul {a b : Nat} {z : Int} {x w : Int} {r : List m_V} : m_e X f y ((36, a, b, z) :: is) ls (m_J w :: m_J x :: r) μ = m_e X f y is ls (m_J (m_x (x * w)) :: r) μ := e_step (q := (ls, m_J (m_x (x * w)) :: r, μ)) (Nat.le_of_ble_eq_true rfl) rfl
theorem e_idiv {a b : Nat} {z x w : Int} {r : List m_V} (h : ¬ w = 0) : m_e X f y ((26, a, b, z) :: is) ls (m_I w :: m_I x :: r) μ = m_e X f y is ls (m_I (m_w (Int.tdiv x w)) :: r) μ := e_step (q := (ls, m_I (m_w (Int.tdiv x w)) :: r, μ)) (Nat.le_of_ble_eq_true rfl) (by show (ite (w = 0) none (some (m_I (m_w (Int.tdiv x w)) :: r))).map (fun q => (ls, q, μ)) = _; rw [if_neg h]; rfl)
theorem e_irem {a b : Nat} {z x w : Int} {r : List m_V} (h : ¬ w = 0) : m_e X f y ((27, a, b, z) :: is) ls (m_I w :: m_I x :: r) μ = m_e X f y is ls (m_I (Int.tmod x w) :: r) μ := e_step (q := (ls, m_I (Int.tmod x w) :: r, μ)) (Nat.le_of_ble_eq_true rfl) (by show (ite (w = 0) none (some (m_I (Int.tmod x w) :: r))).map (fun q => (ls, q, μ)) = _; rw [if_neg h]; rfl)
theorem e_ldiv {a b : Nat} {z x w : Int} {r : List m_V} (h : ¬ w = 0) : m_e X f y ((37, a, b, z) :: is) ls (m_J w :: m_J x :: r) μ = m_e X f y is ls (m_J (m_x (Int.tdiv x w)) :: r) μ := e_step (q := (ls, m_J (m_x (Int.tdiv x w)) :: r, μ)) (Nat.le_of_ble_eq_true rfl) (by show (ite (w = 0) none (some (m_J (m_x (Int.tdiv x w)) :: r))).map (fun q => (ls, q, μ)) = _; rw [if_neg h]; rfl)
theorem e_lrem {a b : Nat} {z x w : Int} {r : List m_V} (h : ¬ w = 0) : m_e X f y ((38, a, b, z) :: is) ls (m_J w :: m_J x :: r) μ = m_e X f y is ls (m_J (Int.tmod x w) :: r) μ := e_step (q := (ls, m_J (Int.tmod x w) :: r, μ)) (Nat.le_of_ble_eq_true rfl) (by show (ite (w = 0) none (some (m_J (Int.tmod x w) :: r))).map (fun q => (ls, q, μ)) = _; rw [if_neg h]; rfl)
theorem e_ineg {a b : Nat} {z : Int} {x : Int} {r : List m_V} : m_e X f y ((28, a, b, z) :: is) ls (m_I x :: r) μ = m_e X f y is ls (m_I (m_w (-x)) :: r) μ := e_step (q := (ls, m_I (m_w (-x)) :: r, μ)) (Nat.le_of_ble_eq_true rfl) rfl
theorem e_lneg {a b : Nat} {z : Int} {x : Int} {r : List m_V} : m_e X f y ((39, a, b, z) :: is) ls (m_J x :: r) μ = m_e X f y is ls (m_J (m_x (-x)) :: r) μ := e_step (q := (ls, m_J (m_x (-x)) :: r, μ)) (Nat.le_of_ble_eq_true rfl) rfl
theorem e_lcmp {a b : Nat} {z : Int} {x w : Int} {r : List m_V} : m_e X f y ((40, a, b, z) :: is) ls (m_J w :: m_J x :: r) μ = m_e X f y is ls (m_I (m_cmp x w) :: r) μ := e_step (q := (ls, m_I (m_cmp x w) :: r, μ)) (Nat.le_of_ble_eq_true rfl) rfl
theorem e_i2l {a b : Nat} {z : Int} {x : Int} {r : List m_V} : m_e X f y ((41, a, b, z) :: is) ls (m_I x :: r) μ = m_e X f y is ls (m_J x :: r) μ := e_step (q := (ls, m_J x :: r, μ)) (Nat.le_of_ble_eq_true rfl) rfl
theorem e_l2f {a b : Nat} {z : Int} {x : Int} {r : List m_V} : m_e X f y ((42, a, b, z) :: is) ls (m_J x :: r) μ = m_e X f y is ls (m_F (FP.l2f (Int64.ofInt x)) :: r) μ := e_step (q := (ls, m_F (FP.l2f (Int64.ofInt x)) :: r, μ)) (Nat.le_of_ble_eq_true rfl) rfl
theorem e_f2i {a b : Nat} {z : Int} {x : UInt32} {r : List m_V} : m_e X f y ((43, a, b, z) :: is) ls (m_F x :: r) μ = m_e X f y is ls (m_I (FP.f2i x).toInt :: r) μ := e_step (q := (ls, m_I (FP.f2i x).toInt :: r, μ)) (Nat.le_of_ble_eq_true rfl) rfl
theorem e_i2b {a b : Nat} {z : Int} {x : Int} {r : List m_V} : m_e X f y ((44, a, b, z) :: is) ls (m_I x :: r) μ = m_e X f y is ls (m_I (m_b x) :: r) μ := e_step (q := (ls, m_I (m_b x) :: r, μ)) (Nat.le_of_ble_eq_true rfl) rfl
theorem e_fmul {a b : Nat} {z : Int} {x w : UInt32} {r : List m_V} (h : FP.fmul x w &&& 0x7fffffff ≤ 0x7f800000) : m_e X f y ((45, a, b, z) :: is) ls (m_F w :: m_F x :: r) μ = m_e X f y is ls (m_F (FP.fmul x w) :: r) μ := e_step (q := (ls, m_F (FP.fmul x w) :: r, μ)) (Nat.le_of_ble_eq_true rfl) (by show (ite (FP.fmul x w &&& 0x7fffffff ≤ 0x7f800000) (some (m_F (FP.fmul x w) :: r)) none).map (fun q => (ls, q, μ)) = _; rw [if_pos h]; rfl)
theorem e_fsub {a b : Nat} {z : Int} {x w : UInt32} {r : List m_V} (h : FP.fsub x w &&& 0x7fffffff ≤ 0x7f800000) : m_e X f y ((46, a, b, z) :: is) ls (m_F w :: m_F x :: r) μ = m_e X f y is ls (m_F (FP.fsub x w) :: r) μ := e_step (q := (ls, m_F (FP.fsub x w) :: r, μ)) (Nat.le_of_ble_eq_true rfl) (by show (ite (FP.fsub x w &&& 0x7fffffff ≤ 0x7f800000) (some (m_F (FP.fsub x w) :: r)) none).map (fun q => (ls, q, μ)) = _; rw [if_pos h]; rfl)
theorem e_fdiv {a b : Nat} {z : Int} {x w : UInt32} {r : List m_V} (h : FP.fdiv x w &&& 0x7fffffff ≤ 0x7f800000) : m_e X f y ((47, a, b, z) :: is) ls (m_F w :: m_F x :: r) μ = m_e X f y is ls (m_F (FP.fdiv x w) :: r) μ := e_step (q := (ls, m_F (FP.fdiv x w) :: r, μ)) (Nat.le_of_ble_eq_true rfl) (by show (ite (FP.fdiv x w &&& 0x7fffffff ≤ 0x7f800000) (some (m_F (FP.fdiv x w) :: r)) none).map (fun q => (ls, q, μ)) = _; rw [if_pos h]; rfl)
theorem e_fcg {a b : Nat} {z : Int} {x w : UInt32} {r : List m_V} : m_e X f y ((48, a, b, z) :: is) ls (m_F w :: m_F x :: r) μ = m_e X f y is ls (m_I (m_fg x w .g) :: r) μ := e_step (q := (ls, m_I (m_fg x w .g) :: r, μ)) (Nat.le_of_ble_eq_true rfl) rfl
theorem e_fcl {a b : Nat} {z : Int} {x w : UInt32} {r : List m_V} : m_e X f y ((49, a, b, z) :: is) ls (m_F w :: m_F x :: r) μ = m_e X f y is ls (m_I (m_fg x w .l) :: r) μ := e_step (q := (ls, m_I (m_fg x w .l) :: r, μ)) (Nat.le_of_ble_eq_true rfl) rfl
theorem e_dup {a b : Nat} {z : Int} {x : Option Nat} {r : List m_V} : m_e X f y ((50, a, b, z) :: is) ls (m_O x :: r) μ = m_e X f y is ls (m_O x :: m_O x :: r) μ := e_step (q := (ls, m_O x :: m_O x :: r, μ)) (Nat.le_of_ble_eq_true rfl) rfl
theorem e_dupi {a b : Nat} {z : Int} {x : Int} {r : List m_V} : m_e X f y ((50, a, b, z) :: is) ls (m_I x :: r) μ = m_e X f y is ls (m_I x :: m_I x :: r) μ := e_step (q := (ls, m_I x :: m_I x :: r, μ)) (Nat.le_of_ble_eq_true rfl) rfl
theorem e_dup2 {a b : Nat} {z : Int} {x : Int} {w : Option Nat} {r : List m_V} : m_e X f y ((51, a, b, z) :: is) ls (m_I x :: m_O w :: r) μ = m_e X f y is ls (m_I x :: m_O w :: m_I x :: m_O w :: r) μ := e_step (q := (ls, m_I x :: m_O w :: m_I x :: m_O w :: r, μ)) (Nat.le_of_ble_eq_true rfl) rfl
theorem e_il {a b : Nat} {z : Int} {x : Int} {r : List m_V} (h : m_ld ls a = m_I x) : m_e X f y ((14, a, b, z) :: is) ls r μ = m_e X f y is ls (m_I x :: r) μ := e_step (q := (ls, m_I x :: r, μ)) (Nat.le_of_ble_eq_true rfl) (by show (m_lk 14 a z ls r).map (fun q => (q.1, q.2, μ)) = _; simp only [m_lk, h]; rfl)
theorem e_ll {a b : Nat} {z : Int} {x : Int} {r : List m_V} (h : m_ld ls a = m_J x) : m_e X f y ((15, a, b, z) :: is) ls r μ = m_e X f y is ls (m_J x :: r) μ := e_step (q := (ls, m_J x :: r, μ)) (Nat.le_of_ble_eq_true rfl) (by show (m_lk 15 a z ls r).map (fun q => (q.1, q.2, μ)) = _; simp only [m_lk, h]; rfl)
theorem e_fl {a b : Nat} {z : Int} {x : UInt32} {r : List m_V} (h : m_ld ls a = m_F x) : m_e X f y ((16, a, b, z) :: is) ls r μ = m_e X f y is ls (m_F x :: r) μ := e_step (q := (ls, m_F x :: r, μ)) (Nat.le_of_ble_eq_true rfl) (by show (m_lk 16 a z ls r).map (fun q => (q.1, q.2, μ)) = _; simp only [m_lk, h]; rfl)
theorem e_al {a b : Nat} {z : Int} {x : Nat} {r : List m_V} (h : m_ld ls a = m_R x) : m_e X f y ((17, a, b, z) :: is) ls r μ = m_e X f y is ls (m_R x :: r) μ := e_step (q := (ls, m_R x :: r, μ)) (Nat.le_of_ble_eq_true rfl) (by show (m_lk 17 a z ls r).map (fun q => (q.1, q.2, μ)) = _; simp only [m_lk, h]; rfl)
theorem e_as {a b : Nat} {z : Int} {r : List m_V} (h : m_ld ls a = m_S) : m_e X f y ((17, a, b, z) :: is) ls r μ = m_e X f y is ls (m_S :: r) μ := e_step (q := (ls, m_S :: r, μ)) (Nat.le_of_ble_eq_true rfl) (by show (m_lk 17 a z ls r).map (fun q => (q.1, q.2, μ)) = _; simp only [m_lk, h]; rfl)
theorem e_is {a b : Nat} {z : Int} {x : Int} {r : List m_V} : m_e X f y ((18, a, b, z) :: is) ls (m_I x :: r) μ = m_e X f y is (m_s1 ls a (m_I x)) r μ := e_step (q := (m_s1 ls a (m_I x), r, μ)) (Nat.le_of_ble_eq_true rfl) rfl
theorem e_ls {a b : Nat} {z : Int} {x : Int} {r : List m_V} : m_e X f y ((19, a, b, z) :: is) ls (m_J x :: r) μ = m_e X f y is (m_s2 ls a (m_J x)) r μ := e_step (q := (m_s2 ls a (m_J x), r, μ)) (Nat.le_of_ble_eq_true rfl) rfl
theorem e_fs {a b : Nat} {z : Int} {x : UInt32} {r : List m_V} : m_e X f y ((20, a, b, z) :: is) ls (m_F x :: r) μ = m_e X f y is (m_s1 ls a (m_F x)) r μ := e_step (q := (m_s1 ls a (m_F x), r, μ)) (Nat.le_of_ble_eq_true rfl) rfl
theorem e_aS {a b : Nat} {z : Int} {x : Nat} {r : List m_V} : m_e X f y ((21, a, b, z) :: is) ls (m_R x :: r) μ = m_e X f y is (m_s1 ls a (m_R x)) r μ := e_step (q := (m_s1 ls a (m_R x), r, μ)) (Nat.le_of_ble_eq_true rfl) rfl
theorem e_inc {a b : Nat} {z x : Int} {r : List m_V} (h : m_ld ls a = m_I x) : m_e X f y ((22, a, b, z) :: is) ls r μ = m_e X f y is (m_s1 ls a (m_I (m_w (x + z)))) r μ := e_step (q := (m_s1 ls a (m_I (m_w (x + z))), r, μ)) (Nat.le_of_ble_eq_true rfl) (by show (m_lk 22 a z ls r).map (fun q => (q.1, q.2, μ)) = _; simp only [m_lk, h]; rfl)
theorem e_gf {a b : Nat} {z : Int} {c : Nat} {r : List m_V} (h : m_gk μ c = (0, a)) : m_e X f y ((53, a, b, z) :: is) ls (m_R c :: r) μ = m_e X f y is ls (m_fv μ c b z :: r) μ := e_step (q := (ls, m_fv μ c b z :: r, μ)) (Nat.le_of_ble_eq_true rfl) (by show (m_mk X 53 _ _ _ (m_R c :: r) μ).map (fun q => (ls, q.1, q.2)) = _; simp only [m_mk]; rw [if_pos h]; rfl)
theorem e_gi {a b c : Nat} {r : List m_V} (h : m_gk μ c = (0, a)) : m_e X f y ((53, a, b, 0) :: is) ls (m_R c :: r) μ = m_e X f y is ls (m_I (μ.2 c b) :: r) μ := e_gf h
theorem e_gb {a b c : Nat} {r : List m_V} (h : m_gk μ c = (0, a)) : m_e X f y ((53, a, b, 1) :: is) ls (m_R c :: r) μ = m_e X f y is ls (m_I (μ.2 c b) :: r) μ := e_gf h
theorem e_gj {a b c : Nat} {r : List m_V} (h : m_gk μ c = (0, a)) : m_e X f y ((53, a, b, 2) :: is) ls (m_R c :: r) μ = m_e X f y is ls (m_J (μ.2 c b) :: r) μ := e_gf h
theorem e_gr {a b c k : Nat} {r : List m_V} (h : m_gk μ c = (0, a)) (h2 : m_gr μ c b = some k) : m_e X f y ((53, a, b, 3) :: is) ls (m_R c :: r) μ = m_e X f y is ls (m_R k :: r) μ := by
  rw [e_gf h]
  show m_e X f y is ls (m_O (m_gr μ c b) :: r) μ = _
  rw [h2]
theorem e_pfi {a b : Nat} {z : Int} {c : Nat} {x : Int} {r : List m_V} (h : m_gk μ c = (0, a)) : m_e X f y ((54, a, b, 0) :: is) ls (m_I x :: m_R c :: r) μ = m_e X f y is ls (r) (μ.1, m_up μ.2 c b x) := e_step (q := (ls, r, (μ.1, m_up μ.2 c b x))) (Nat.le_of_ble_eq_true rfl) (by show (m_mk X 54 _ _ _ (m_I x :: m_R c :: r) μ).map (fun q => (ls, q.1, q.2)) = _; simp only [m_mk]; rw [if_pos ⟨h, Or.inl trivial⟩]; rfl)
theorem e_pfb {a b : Nat} {z : Int} {c : Nat} {x : Int} {r : List m_V} (h : m_gk μ c = (0, a)) (h2 : x = 0 ∨ x = 1) : m_e X f y ((54, a, b, 1) :: is) ls (m_I x :: m_R c :: r) μ = m_e X f y is ls (r) (μ.1, m_up μ.2 c b x) := e_step (q := (ls, r, (μ.1, m_up μ.2 c b x))) (Nat.le_of_ble_eq_true rfl) (by show (m_mk X 54 _ _ _ (m_I x :: m_R c :: r) μ).map (fun q => (ls, q.1, q.2)) = _; simp only [m_mk]; rw [if_pos ⟨h, Or.inr ⟨trivial, h2⟩⟩]; rfl)
theorem e_pfj {a b : Nat} {z : Int} {c : Nat} {x : Int} {r : List m_V} (h : m_gk μ c = (0, a)) : m_e X f y ((54, a, b, 2) :: is) ls (m_J x :: m_R c :: r) μ = m_e X f y is ls (r) (μ.1, m_up μ.2 c b x) := e_step (q := (ls, r, (μ.1, m_up μ.2 c b x))) (Nat.le_of_ble_eq_true rfl) (by show (m_mk X 54 _ _ _ (m_J x :: m_R c :: r) μ).map (fun q => (ls, q.1, q.2)) = _; simp only [m_mk]; rw [if_pos ⟨h, trivial⟩]; rfl)
theorem e_len {a b : Nat} {z : Int} {c : Nat} {r : List m_V} (h : 1 ≤ (m_gk μ c).1 ∧ (m_gk μ c).1 ≤ 4) : m_e X f y ((58, a, b, z) :: is) ls (m_R c :: r) μ = m_e X f y is ls (m_I (m_gk μ c).2 :: r) μ := e_step (q := (ls, m_I (m_gk μ c).2 :: r, μ)) (Nat.le_of_ble_eq_true rfl) (by show (m_mk X 58 _ _ _ (m_R c :: r) μ).map (fun q => (ls, q.1, q.2)) = _; simp only [m_mk]; rw [if_pos h]; rfl)
theorem e_ia {a b : Nat} {z : Int} {c : Nat} {i : Int} {r : List m_V} (h : (m_gk μ c).1 = 1) (h0 : 0 ≤ i) (h1 : i < (m_gk μ c).2) : m_e X f y ((59, a, b, z) :: is) ls (m_I i :: m_R c :: r) μ = m_e X f y is ls (m_I (μ.2 c i.toNat) :: r) μ := e_step (q := (ls, m_I (μ.2 c i.toNat) :: r, μ)) (Nat.le_of_ble_eq_true rfl) (by show (m_mk X 59 _ _ _ (m_I i :: m_R c :: r) μ).map (fun q => (ls, q.1, q.2)) = _; simp only [m_mk]; rw [if_pos ⟨h, h0, h1⟩]; rfl)
theorem e_la {a b : Nat} {z : Int} {c : Nat} {i : Int} {r : List m_V} (h : (m_gk μ c).1 = 2) (h0 : 0 ≤ i) (h1 : i < (m_gk μ c).2) : m_e X f y ((60, a, b, z) :: is) ls (m_I i :: m_R c :: r) μ = m_e X f y is ls (m_J (μ.2 c i.toNat) :: r) μ := e_step (q := (ls, m_J (μ.2 c i.toNat) :: r, μ)) (Nat.le_of_ble_eq_true rfl) (by show (m_mk X 60 _ _ _ (m_I i :: m_R c :: r) μ).map (fun q => (ls, q.1, q.2)) = _; simp only [m_mk]; rw [if_pos ⟨h, h0, h1⟩]; rfl)
theorem e_ba {a b : Nat} {z : Int} {c : Nat} {i : Int} {r : List m_V} (h : (m_gk μ c).1 = 3) (h0 : 0 ≤ i) (h1 : i < (m_gk μ c).2) : m_e X f y ((61, a, b, z) :: is) ls (m_I i :: m_R c :: r) μ = m_e X f y is ls (m_I (μ.2 c i.toNat) :: r) μ := e_step (q := (ls, m_I (μ.2 c i.toNat) :: r, μ)) (Nat.le_of_ble_eq_true rfl) (by show (m_mk X 61 _ _ _ (m_I i :: m_R c :: r) μ).map (fun q => (ls, q.1, q.2)) = _; simp only [m_mk]; rw [if_pos ⟨h, h0, h1⟩]; rfl)
theorem e_aa {a b : Nat} {z : Int} {c : Nat} {i : Int} {r : List m_V} (h : (m_gk μ c).1 = 4) (h0 : 0 ≤ i) (h1 : i < (m_gk μ c).2) : m_e X f y ((62, a, b, z) :: is) ls (m_I i :: m_R c :: r) μ = m_e X f y is ls (m_O (m_gr μ c i.toNat) :: r) μ := e_step (q := (ls, m_O (m_gr μ c i.toNat) :: r, μ)) (Nat.le_of_ble_eq_true rfl) (by show (m_mk X 62 _ _ _ (m_I i :: m_R c :: r) μ).map (fun q => (ls, q.1, q.2)) = _; simp only [m_mk]; rw [if_pos ⟨h, h0, h1⟩]; rfl)
theorem e_ias {a b : Nat} {z : Int} {c : Nat} {i x : Int} {r : List m_V} (h : (m_gk μ c).1 = 1) (h0 : 0 ≤ i) (h1 : i < (m_gk μ c).2) : m_e X f y ((63, a, b, z) :: is) ls (m_I x :: m_I i :: m_R c :: r) μ = m_e X f y is ls (r) (μ.1, m_up μ.2 c i.toNat (x)) := e_step (q := (ls, r, (μ.1, m_up μ.2 c i.toNat (x)))) (Nat.le_of_ble_eq_true rfl) (by show (m_mk X 63 _ _ _ (m_I x :: m_I i :: m_R c :: r) μ).map (fun q => (ls, q.1, q.2)) = _; simp only [m_mk]; rw [if_pos ⟨h, h0, h1⟩]; rfl)
theorem e_las {a b : Nat} {z : Int} {c : Nat} {i x : Int} {r : List m_V} (h : (m_gk μ c).1 = 2) (h0 : 0 ≤ i) (h1 : i < (m_gk μ c).2) : m_e X f y ((64, a, b, z) :: is) ls (m_J x :: m_I i :: m_R c :: r) μ = m_e X f y is ls (r) (μ.1, m_up μ.2 c i.toNat (x)) := e_step (q := (ls, r, (μ.1, m_up μ.2 c i.toNat (x)))) (Nat.le_of_ble_eq_true rfl) (by show (m_mk X 64 _ _ _ (m_J x :: m_I i :: m_R c :: r) μ).map (fun q => (ls, q.1, q.2)) = _; simp only [m_mk]; rw [if_pos ⟨h, h0, h1⟩]; rfl)
theorem e_bas {a b : Nat} {z : Int} {c : Nat} {i x : Int} {r : List m_V} (h : (m_gk μ c).1 = 3) (h0 : 0 ≤ i) (h1 : i < (m_gk μ c).2) : m_e X f y ((65, a, b, z) :: is) ls (m_I x :: m_I i :: m_R c :: r) μ = m_e X f y is ls (r) (μ.1, m_up μ.2 c i.toNat (m_b x)) := e_step (q := (ls, r, (μ.1, m_up μ.2 c i.toNat (m_b x)))) (Nat.le_of_ble_eq_true rfl) (by show (m_mk X 65 _ _ _ (m_I x :: m_I i :: m_R c :: r) μ).map (fun q => (ls, q.1, q.2)) = _; simp only [m_mk]; rw [if_pos ⟨h, h0, h1⟩]; rfl)
theorem e_raw {a b : Nat} {z : Int} {x : UInt32} {r : List m_V} (h : r.length ≤ 4) : m_e X f y ((69, a, b, z) :: is) ls (m_F x :: r) μ = m_e X f y is ls (m_I x.toInt32.toInt :: r) μ := e_step (q := (ls, m_I x.toInt32.toInt :: r, μ)) (Nat.le_of_ble_eq_true rfl) (by show (m_mk X 69 _ _ _ (m_F x :: r) μ).map (fun q => (ls, q.1, q.2)) = _; simp only [m_mk]; rw [if_pos h]; rfl)
theorem e_acp {a b : Nat} {z : Int} {c d : Nat} {n dp sp : Int} {r : List m_V} (h1 : (m_gk μ c).1 = 1) (h2 : (m_gk μ d).1 = 1) (h3 : 0 ≤ sp ∧ 0 ≤ dp ∧ 0 ≤ n ∧ sp + n ≤ (m_gk μ c).2 ∧ dp + n ≤ (m_gk μ d).2) (h4 : r.length ≤ 4) : m_e X f y ((68, a, b, z) :: is) ls (m_I n :: m_I dp :: m_R d :: m_I sp :: m_R c :: r) μ = m_e X f y is ls (r) (μ.1, m_cp μ.2 c d sp.toNat dp.toNat n.toNat) := e_step (q := (ls, r, (μ.1, m_cp μ.2 c d sp.toNat dp.toNat n.toNat))) (Nat.le_of_ble_eq_true rfl) (by show (m_mk X 68 _ _ _ (m_I n :: m_I dp :: m_R d :: m_I sp :: m_R c :: r) μ).map (fun q => (ls, q.1, q.2)) = _; simp only [m_mk]; rw [if_pos ⟨h1, h2, h3.1, h3.2.1, h3.2.2.1, h3.2.2.2.1, h3.2.2.2.2, h4⟩]; rfl)
theorem e_xl {a b : Nat} {z : Int} {x : Nat × (Nat → Int)} {r : List m_V} (h : X = some x) : m_e X f y ((58, a, b, z) :: is) ls (m_S :: r) μ = m_e X f y is ls (m_I x.1 :: r) μ := e_step (q := (ls, m_I x.1 :: r, μ)) (Nat.le_of_ble_eq_true rfl) (by show (m_mk X 58 _ _ _ (m_S :: r) μ).map (fun q => (ls, q.1, q.2)) = _; simp only [m_mk]; rw [h]; rfl)
theorem e_xa {a b : Nat} {z : Int} {x : Nat × (Nat → Int)} {i : Int} {r : List m_V} (h : X = some x) (h0 : 0 ≤ i) (h1 : i < x.1) : m_e X f y ((59, a, b, z) :: is) ls (m_I i :: m_S :: r) μ = m_e X f y is ls (m_I (x.2 i.toNat) :: r) μ := e_step (q := (ls, m_I (x.2 i.toNat) :: r, μ)) (Nat.le_of_ble_eq_true rfl) (by show (m_mk X 59 _ _ _ (m_I i :: m_S :: r) μ).map (fun q => (ls, q.1, q.2)) = _; simp only [m_mk]; rw [h]; dsimp only; rw [if_pos ⟨h0, h1⟩]; rfl)
theorem e_cal {a n : Nat} {z : Int} {q : List m_V × m_M} (h : m_cal f a n z st μ = some q) : m_e X f y ((7, a, n, z) :: is) ls st μ = m_e X f y is ls q.1 q.2 := by
  refine m_lim_eq (m_e_mono _ _ _ _ _ _ _) (m_e_mono _ _ _ _ _ _ _) (fun k => ?_)
  show (match m_cal f a n z st μ with
      | some q => m_run X f y k is ls q.1 q.2
      | none => none) = _
  rw [h]
/-- a call of a method whose value is known: n arguments as, below them r -/
theorem e_call {a n : Nat} {z : Int} {as r : List m_V} {rv : Option m_V} {μ' : m_M} (hst : st = as.reverse ++ r) (hn : n = as.length) (hr : r.length ≤ 4) (hrc : m_rcv z as μ = true) (hf : f a as μ = some (rv, μ')) : m_e X f y ((7, a, n, z) :: is) ls st μ = m_e X f y is ls (rv.toList ++ r) μ' := by
  refine e_cal (q := (rv.toList ++ r, μ')) ?_
  subst hst hn
  have h1 : (as.reverse ++ r).take as.length = as.reverse := by rw [← List.length_reverse, List.take_left]
  have h2 : (as.reverse ++ r).drop as.length = r := by rw [← List.length_reverse, List.drop_left]
  unfold m_cal
  rw [h1, h2, List.reverse_reverse, if_pos ⟨by simp, hr, hrc⟩, hf]
  rfl
theorem e_v1 {a c k : Nat} {r : List m_V} {rv : Option m_V} {μ' : m_M} (hk : m_gk μ c = (0, k)) (hr : r.length ≤ 4) (hf : f a [m_R c] μ = some (rv, μ')) : m_e X f y ((7, a, 1, (k : Int)) :: is) ls (m_R c :: r) μ = m_e X f y is ls (rv.toList ++ r) μ' := e_call (as := [m_R c]) rfl rfl hr (by unfold m_rcv; rw [if_neg (by omega)]; dsimp only; rw [if_neg (by omega)]; exact decide_eq_true hk) hf
theorem e_s1 {a : Nat} {v1 : m_V} {r : List m_V} {rv : Option m_V} {μ' : m_M} (hr : r.length ≤ 4) (hf : f a [v1] μ = some (rv, μ')) : m_e X f y ((7, a, 1, -1) :: is) ls (v1 :: r) μ = m_e X f y is ls (rv.toList ++ r) μ' := e_call (as := [v1]) rfl rfl hr rfl hf
theorem e_v2 {a c k : Nat} {v1 : m_V} {r : List m_V} {rv : Option m_V} {μ' : m_M} (hk : m_gk μ c = (0, k)) (hr : r.length ≤ 4) (hf : f a [m_R c, v1] μ = some (rv, μ')) : m_e X f y ((7, a, 2, (k : Int)) :: is) ls (v1 :: m_R c :: r) μ = m_e X f y is ls (rv.toList ++ r) μ' := e_call (as := [m_R c, v1]) rfl rfl hr (by unfold m_rcv; rw [if_neg (by omega)]; dsimp only; rw [if_neg (by omega)]; exact decide_eq_true hk) hf
theorem e_s2 {a : Nat} {v1 v2 : m_V} {r : List m_V} {rv : Option m_V} {μ' : m_M} (hr : r.length ≤ 4) (hf : f a [v1, v2] μ = some (rv, μ')) : m_e X f y ((7, a, 2, -1) :: is) ls (v2 :: v1 :: r) μ = m_e X f y is ls (rv.toList ++ r) μ' := e_call (as := [v1, v2]) rfl rfl hr rfl hf
theorem e_v3 {a c k : Nat} {v1 v2 : m_V} {r : List m_V} {rv : Option m_V} {μ' : m_M} (hk : m_gk μ c = (0, k)) (hr : r.length ≤ 4) (hf : f a [m_R c, v1, v2] μ = some (rv, μ')) : m_e X f y ((7, a, 3, (k : Int)) :: is) ls (v2 :: v1 :: m_R c :: r) μ = m_e X f y is ls (rv.toList ++ r) μ' := e_call (as := [m_R c, v1, v2]) rfl rfl hr (by unfold m_rcv; rw [if_neg (by omega)]; dsimp only; rw [if_neg (by omega)]; exact decide_eq_true hk) hf
theorem e_s3 {a : Nat} {v1 v2 v3 : m_V} {r : List m_V} {rv : Option m_V} {μ' : m_M} (hr : r.length ≤ 4) (hf : f a [v1, v2, v3] μ = some (rv, μ')) : m_e X f y ((7, a, 3, -1) :: is) ls (v3 :: v2 :: v1 :: r) μ = m_e X f y is ls (rv.toList ++ r) μ' := e_call (as := [v1, v2, v3]) rfl rfl hr rfl hf
theorem e_v4 {a c k : Nat} {v1 v2 v3 : m_V} {r : List m_V} {rv : Option m_V} {μ' : m_M} (hk : m_gk μ c = (0, k)) (hr : r.length ≤ 4) (hf : f a [m_R c, v1, v2, v3] μ = some (rv, μ')) : m_e X f y ((7, a, 4, (k : Int)) :: is) ls (v3 :: v2 :: v1 :: m_R c :: r) μ = m_e X f y is ls (rv.toList ++ r) μ' := e_call (as := [m_R c, v1, v2, v3]) rfl rfl hr (by unfold m_rcv; rw [if_neg (by omega)]; dsimp only; rw [if_neg (by omega)]; exact decide_eq_true hk) hf
theorem e_s4 {a : Nat} {v1 v2 v3 v4 : m_V} {r : List m_V} {rv : Option m_V} {μ' : m_M} (hr : r.length ≤ 4) (hf : f a [v1, v2, v3, v4] μ = some (rv, μ')) : m_e X f y ((7, a, 4, -1) :: is) ls (v4 :: v3 :: v2 :: v1 :: r) μ = m_e X f y is ls (rv.toList ++ r) μ' := e_call (as := [v1, v2, v3, v4]) rfl rfl hr rfl hf
theorem e_v5 {a c k : Nat} {v1 v2 v3 v4 : m_V} {r : List m_V} {rv : Option m_V} {μ' : m_M} (hk : m_gk μ c = (0, k)) (hr : r.length ≤ 4) (hf : f a [m_R c, v1, v2, v3, v4] μ = some (rv, μ')) : m_e X f y ((7, a, 5, (k : Int)) :: is) ls (v4 :: v3 :: v2 :: v1 :: m_R c :: r) μ = m_e X f y is ls (rv.toList ++ r) μ' := e_call (as := [m_R c, v1, v2, v3, v4]) rfl rfl hr (by unfold m_rcv; rw [if_neg (by omega)]; dsimp only; rw [if_neg (by omega)]; exact decide_eq_true hk) hf
theorem e_s5 {a : Nat} {v1 v2 v3 v4 v5 : m_V} {r : List m_V} {rv : Option m_V} {μ' : m_M} (hr : r.length ≤ 4) (hf : f a [v1, v2, v3, v4, v5] μ = some (rv, μ')) : m_e X f y ((7, a, 5, -1) :: is) ls (v5 :: v4 :: v3 :: v2 :: v1 :: r) μ = m_e X f y is ls (rv.toList ++ r) μ' := e_call (as := [v1, v2, v3, v4, v5]) rfl rfl hr rfl hf
theorem e_v6 {a c k : Nat} {v1 v2 v3 v4 v5 : m_V} {r : List m_V} {rv : Option m_V} {μ' : m_M} (hk : m_gk μ c = (0, k)) (hr : r.length ≤ 4) (hf : f a [m_R c, v1, v2, v3, v4, v5] μ = some (rv, μ')) : m_e X f y ((7, a, 6, (k : Int)) :: is) ls (v5 :: v4 :: v3 :: v2 :: v1 :: m_R c :: r) μ = m_e X f y is ls (rv.toList ++ r) μ' := e_call (as := [m_R c, v1, v2, v3, v4, v5]) rfl rfl hr (by unfold m_rcv; rw [if_neg (by omega)]; dsimp only; rw [if_neg (by omega)]; exact decide_eq_true hk) hf
theorem e_s6 {a : Nat} {v1 v2 v3 v4 v5 v6 : m_V} {r : List m_V} {rv : Option m_V} {μ' : m_M} (hr : r.length ≤ 4) (hf : f a [v1, v2, v3, v4, v5, v6] μ = some (rv, μ')) : m_e X f y ((7, a, 6, -1) :: is) ls (v6 :: v5 :: v4 :: v3 :: v2 :: v1 :: r) μ = m_e X f y is ls (rv.toList ++ r) μ' := e_call (as := [v1, v2, v3, v4, v5, v6]) rfl rfl hr rfl hf
/-- into a method -/
theorem e_in {d : Nat} {as : List m_V} (h : m_as as ≤ m_ml y) : m_ev (d + 1) y as μ = m_e none (m_ev d) y (m_blk y 0) (m_en (m_ml y) as) [] μ := if_pos h
end EQ
end
