/-! names of the classes, their fields; the words of each are among the tables -/
def R_law : String := "CupClaimsLaw"
def m_RM : String := "java/lang/Math"
def m_RI : String := "java/lang/Integer"
def m_RF : String := "java/lang/Float"
def RX0 : String := "CupClaims$Chances"
def TX0 : u_T := fun k => match k with
  | 0 => ("CupClaims$Chances", "byOneFace", "LCupClaims$Spread;", true)
  | _ => ("CupClaims$Chances", "byTwoFaces", "LCupClaims$Spread;", true)
def tyX0 : Nat → FieldType := fun k => match k with
  | 0 => .object "CupClaims$Spread"
  | _ => .object "CupClaims$Spread"
abbrev wsX00 : List Cond := u_ws RX0 TX0 2
theorem nmX0 : ∀ a, a < 2 → ∀ b, b < 2 → a ≠ b → (TX0 a).2.1 ≠ (TX0 b).2.1 := by decide +kernel
theorem tyX0_ok : ∀ k, k < 2 → parseFieldDescriptor (TX0 k).2.2.1 = some (tyX0 k) := by decide +kernel
def RX1 : String := "CupClaims$DiceReader"
def TX1 : u_T := fun k => match k with
  | 0 => ("CupClaims$DiceReader", "faces", "[I", true)
  | 1 => ("CupClaims$DiceReader", "cup", "I", false)
  | _ => ("CupClaims$DiceReader", "inCup", "I", false)
def tyX1 : Nat → FieldType := fun k => match k with
  | 0 => .array .int
  | 1 => .int
  | _ => .int
abbrev wsX10 : List Cond := u_ws RX1 TX1 3
theorem nmX1 : ∀ a, a < 3 → ∀ b, b < 3 → a ≠ b → (TX1 a).2.1 ≠ (TX1 b).2.1 := by decide +kernel
theorem tyX1_ok : ∀ k, k < 3 → parseFieldDescriptor (TX1 k).2.2.1 = some (tyX1 k) := by decide +kernel
def RX2 : String := "CupClaims$History"
def TX2 : u_T := fun k => match k with
  | 0 => ("CupClaims$History", "ring", "[LCupClaims$Table;", true)
  | 1 => ("CupClaims$History", "oldest", "I", false)
  | _ => ("CupClaims$History", "size", "I", false)
def tyX2 : Nat → FieldType := fun k => match k with
  | 0 => .array (.object "CupClaims$Table")
  | 1 => .int
  | _ => .int
abbrev wsX20 : List Cond := u_ws RX2 TX2 3
theorem nmX2 : ∀ a, a < 3 → ∀ b, b < 3 → a ≠ b → (TX2 a).2.1 ≠ (TX2 b).2.1 := by decide +kernel
theorem tyX2_ok : ∀ k, k < 3 → parseFieldDescriptor (TX2 k).2.2.1 = some (tyX2 k) := by decide +kernel
def RX3 : String := "CupClaims$Matrix"
def TX3 : u_T := fun k => match k with
  | 0 => ("CupClaims$Matrix", "rows", "I", false)
  | 1 => ("CupClaims$Matrix", "columns", "I", false)
  | _ => ("CupClaims$Matrix", "entries", "[I", true)
def tyX3 : Nat → FieldType := fun k => match k with
  | 0 => .int
  | 1 => .int
  | _ => .array .int
abbrev wsX30 : List Cond := u_ws RX3 TX3 3
theorem nmX3 : ∀ a, a < 3 → ∀ b, b < 3 → a ≠ b → (TX3 a).2.1 ≠ (TX3 b).2.1 := by decide +kernel
theorem tyX3_ok : ∀ k, k < 3 → parseFieldDescriptor (TX3 k).2.2.1 = some (tyX3 k) := by decide +kernel
def RX4 : String := "CupClaims$MatrixReader"
def TX4 : u_T := fun k => match k with
  | 0 => ("CupClaims$MatrixReader", "matrix", "LCupClaims$Matrix;", true)
  | 1 => ("CupClaims$MatrixReader", "row", "I", false)
  | 2 => ("CupClaims$MatrixReader", "inRow", "I", false)
  | 3 => ("CupClaims$MatrixReader", "mostInRow", "I", false)
  | 4 => ("CupClaims$MatrixReader", "digits", "I", false)
  | 5 => ("CupClaims$MatrixReader", "behindMinus", "Z", false)
  | _ => ("CupClaims$MatrixReader", "negative", "Z", false)
def tyX4 : Nat → FieldType := fun k => match k with
  | 0 => .object "CupClaims$Matrix"
  | 1 => .int
  | 2 => .int
  | 3 => .int
  | 4 => .int
  | 5 => .boolean
  | _ => .boolean
abbrev wsX40 : List Cond := u_ws RX4 TX4 7
theorem nmX4 : ∀ a, a < 7 → ∀ b, b < 7 → a ≠ b → (TX4 a).2.1 ≠ (TX4 b).2.1 := by decide +kernel
theorem tyX4_ok : ∀ k, k < 7 → parseFieldDescriptor (TX4 k).2.2.1 = some (tyX4 k) := by decide +kernel
def RX5 : String := "CupClaims$Solution"
def TX5 : u_T := fun k => match k with
  | 0 => ("CupClaims$Solution", "minors", "[J", true)
  | 1 => ("CupClaims$Solution", "rowParts", "[J", true)
  | 2 => ("CupClaims$Solution", "columnParts", "[J", true)
  | 3 => ("CupClaims$Solution", "solved", "LCupClaims$Matrix;", true)
  | 4 => ("CupClaims$Solution", "value", "J", false)
  | _ => ("CupClaims$Solution", "whole", "J", false)
def tyX5 : Nat → FieldType := fun k => match k with
  | 0 => .array .long
  | 1 => .array .long
  | 2 => .array .long
  | 3 => .object "CupClaims$Matrix"
  | 4 => .long
  | _ => .long
abbrev wsX50 : List Cond := u_ws RX5 TX5 6
theorem nmX5 : ∀ a, a < 6 → ∀ b, b < 6 → a ≠ b → (TX5 a).2.1 ≠ (TX5 b).2.1 := by decide +kernel
theorem tyX5_ok : ∀ k, k < 6 → parseFieldDescriptor (TX5 k).2.2.1 = some (tyX5 k) := by decide +kernel
def RX6 : String := "CupClaims$Spread"
def TX6 : u_T := fun k => match k with
  | 0 => ("CupClaims$Spread", "countingFaces", "I", true)
  | 1 => ("CupClaims$Spread", "dice", "I", false)
  | 2 => ("CupClaims$Spread", "exactly", "[J", true)
  | _ => ("CupClaims$Spread", "least", "[J", true)
def tyX6 : Nat → FieldType := fun k => match k with
  | 0 => .int
  | 1 => .int
  | 2 => .array .long
  | _ => .array .long
abbrev wsX60 : List Cond := u_ws RX6 TX6 4
theorem nmX6 : ∀ a, a < 4 → ∀ b, b < 4 → a ≠ b → (TX6 a).2.1 ≠ (TX6 b).2.1 := by decide +kernel
theorem tyX6_ok : ∀ k, k < 4 → parseFieldDescriptor (TX6 k).2.2.1 = some (tyX6 k) := by decide +kernel
def RX7 : String := "CupClaims$Table"
def TX7 : u_T := fun k => match k with
  | 0 => ("CupClaims$Table", "players", "I", false)
  | 1 => ("CupClaims$Table", "wild", "Z", false)
  | 2 => ("CupClaims$Table", "dealt", "Z", false)
  | 3 => ("CupClaims$Table", "turn", "I", false)
  | 4 => ("CupClaims$Table", "claimed", "I", false)
  | 5 => ("CupClaims$Table", "claimedFace", "I", false)
  | 6 => ("CupClaims$Table", "claimant", "I", false)
  | 7 => ("CupClaims$Table", "rounds", "I", false)
  | 8 => ("CupClaims$Table", "rightDoubts", "I", false)
  | 9 => ("CupClaims$Table", "dice", "[I", true)
  | 10 => ("CupClaims$Table", "roundsLost", "[I", true)
  | 11 => ("CupClaims$Table", "exactCalls", "[I", true)
  | 12 => ("CupClaims$Table", "faces", "[I", true)
  | _ => ("CupClaims$Table", "matrix", "LCupClaims$Matrix;", true)
def tyX7 : Nat → FieldType := fun k => match k with
  | 0 => .int
  | 1 => .boolean
  | 2 => .boolean
  | 3 => .int
  | 4 => .int
  | 5 => .int
  | 6 => .int
  | 7 => .int
  | 8 => .int
  | 9 => .array .int
  | 10 => .array .int
  | 11 => .array .int
  | 12 => .array .int
  | _ => .object "CupClaims$Matrix"
abbrev wsX70 : List Cond := u_ws RX7 TX7 14
theorem nmX7 : ∀ a, a < 14 → ∀ b, b < 14 → a ≠ b → (TX7 a).2.1 ≠ (TX7 b).2.1 := by decide +kernel
theorem tyX7_ok : ∀ k, k < 14 → parseFieldDescriptor (TX7 k).2.2.1 = some (tyX7 k) := by decide +kernel
def RX8 : String := "CupClaims$Text"
def TX8 : u_T := fun k => match k with
  | 0 => ("CupClaims$Text", "letters", "[B", true)
  | _ => ("CupClaims$Text", "length", "I", false)
def tyX8 : Nat → FieldType := fun k => match k with
  | 0 => .array .byte
  | _ => .int
abbrev wsX80 : List Cond := u_ws RX8 TX8 2
theorem nmX8 : ∀ a, a < 2 → ∀ b, b < 2 → a ≠ b → (TX8 a).2.1 ≠ (TX8 b).2.1 := by decide +kernel
theorem tyX8_ok : ∀ k, k < 2 → parseFieldDescriptor (TX8 k).2.2.1 = some (tyX8 k) := by decide +kernel
def RX9 : String := "CupClaims"
def TX9 : u_T := fun k => match k with
  | 0 => ("CupClaims", "text", "LCupClaims$Text;", true)
  | 1 => ("CupClaims", "diceReader", "LCupClaims$DiceReader;", true)
  | 2 => ("CupClaims", "matrixReader", "LCupClaims$MatrixReader;", true)
  | 3 => ("CupClaims", "table", "LCupClaims$Table;", true)
  | 4 => ("CupClaims", "history", "LCupClaims$History;", true)
  | 5 => ("CupClaims", "chances", "LCupClaims$Chances;", true)
  | _ => ("CupClaims", "solution", "LCupClaims$Solution;", true)
def tyX9 : Nat → FieldType := fun k => match k with
  | 0 => .object "CupClaims$Text"
  | 1 => .object "CupClaims$DiceReader"
  | 2 => .object "CupClaims$MatrixReader"
  | 3 => .object "CupClaims$Table"
  | 4 => .object "CupClaims$History"
  | 5 => .object "CupClaims$Chances"
  | _ => .object "CupClaims$Solution"
abbrev wsX90 : List Cond := u_ws RX9 TX9 7
theorem nmX9 : ∀ a, a < 7 → ∀ b, b < 7 → a ≠ b → (TX9 a).2.1 ≠ (TX9 b).2.1 := by decide +kernel
theorem tyX9_ok : ∀ k, k < 7 → parseFieldDescriptor (TX9 k).2.2.1 = some (tyX9 k) := by decide +kernel
abbrev vwCl : List vw_C := [(RX0, TX0, 2), (RX1, TX1, 3), (RX2, TX2, 3), (RX3, TX3, 3), (RX4, TX4, 7), (RX5, TX5, 6), (RX6, TX6, 4), (RX7, TX7, 14), (RX8, TX8, 2), (RX9, TX9, 7)]
theorem m_inp {ws : List Cond} (ps : List Nat) (hp : ws = ps.filterMap (fun i => lw_tbl[i]?)) (hg : ws.all goodWord = true) : ∀ w ∈ ws, w ∈ lw_tbl.filter goodWord := by
  intro w hw
  have h1 := List.all_eq_true.mp hg w hw
  rw [hp] at hw
  obtain ⟨i, -, hi⟩ := List.mem_filterMap.mp hw
  exact List.mem_filter.mpr ⟨List.mem_of_getElem? hi, h1⟩
theorem m_inX0 : ∀ w ∈ wsX00, w ∈ lw_tbl.filter goodWord := m_inp [248, 250] (by decide +kernel) (by decide +kernel)
theorem m_inX1 : ∀ w ∈ wsX10, w ∈ lw_tbl.filter goodWord := m_inp [75, 77, 79] (by decide +kernel) (by decide +kernel)
theorem m_inX2 : ∀ w ∈ wsX20, w ∈ lw_tbl.filter goodWord := m_inp [214, 216, 218] (by decide +kernel) (by decide +kernel)
theorem m_inX3 : ∀ w ∈ wsX30, w ∈ lw_tbl.filter goodWord := m_inp [104, 106, 108] (by decide +kernel) (by decide +kernel)
theorem m_inX4 : ∀ w ∈ wsX40, w ∈ lw_tbl.filter goodWord := m_inp [118, 120, 122, 124, 126, 128, 130] (by decide +kernel) (by decide +kernel)
theorem m_inX5 : ∀ w ∈ wsX50, w ∈ lw_tbl.filter goodWord := m_inp [267, 269, 271, 273, 275, 277] (by decide +kernel) (by decide +kernel)
theorem m_inX6 : ∀ w ∈ wsX60, w ∈ lw_tbl.filter goodWord := m_inp [236, 238, 240, 242] (by decide +kernel) (by decide +kernel)
theorem m_inX7 : ∀ w ∈ wsX70, w ∈ lw_tbl.filter goodWord := m_inp [172, 174, 176, 178, 180, 182, 184, 186, 188, 190, 192, 194, 196, 198] (by decide +kernel) (by decide +kernel)
theorem m_inX8 : ∀ w ∈ wsX80, w ∈ lw_tbl.filter goodWord := m_inp [59, 61] (by decide +kernel) (by decide +kernel)
theorem m_inX9 : ∀ w ∈ wsX90, w ∈ lw_tbl.filter goodWord := m_inp [287, 289, 291, 293, 295, 297, 299] (by decide +kernel) (by decide +kernel)
def m_cn (k : Nat) : String := match k with
  | 0 => RX0
  | 1 => RX1
  | 2 => RX2
  | 3 => RX3
  | 4 => RX4
  | 5 => RX5
  | 6 => RX6
  | 7 => RX7
  | 8 => RX8
  | 9 => RX9
  | 10 => R_law
  | 11 => m_RM
  | 12 => m_RI
  | _ => m_RF
def m_T (k : Nat) : u_T := match k with
  | 0 => TX0
  | 1 => TX1
  | 2 => TX2
  | 3 => TX3
  | 4 => TX4
  | 5 => TX5
  | 6 => TX6
  | 7 => TX7
  | 8 => TX8
  | _ => TX9
def m_ty (k : Nat) : Nat → FieldType := match k with
  | 0 => tyX0
  | 1 => tyX1
  | 2 => tyX2
  | 3 => tyX3
  | 4 => tyX4
  | 5 => tyX5
  | 6 => tyX6
  | 7 => tyX7
  | 8 => tyX8
  | _ => tyX9
/-- the kinds of the fields: 0 int, 1 boolean, 2 long, 3 a reference -/
def m_FC : List (List Nat) := [[3, 3], [3, 0, 0], [3, 0, 0], [0, 0, 3], [3, 0, 0, 0, 0, 1, 1], [3, 3, 3, 3, 2, 2], [0, 0, 3, 3], [0, 1, 1, 0, 0, 0, 0, 0, 0, 3, 3, 3, 3, 3], [3, 0], [3, 3, 3, 3, 3, 3, 3]]
