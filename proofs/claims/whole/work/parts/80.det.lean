/-! the class's minors are determinants -/
def sDe (n : Nat) (B : Nat → Nat → Int) : Int := match n with
  | 0 => 1
  | 1 => B 0 0
  | 2 => d2 (B 0 0) (B 0 1) (B 1 0) (B 1 1)
  | 3 => d3 (B 0 0) (B 0 1) (B 0 2) (B 1 0) (B 1 1) (B 1 2) (B 2 0) (B 2 1) (B 2 2)
  | _ => d4 (B 0 0) (B 0 1) (B 0 2) (B 0 3) (B 1 0) (B 1 1) (B 1 2) (B 1 3) (B 2 0) (B 2 1) (B 2 2) (B 2 3) (B 3 0) (B 3 1) (B 3 2) (B 3 3)
def sNt (R i : Nat) : Nat := if sBi R 0 = 1 ∧ sCn R 0 = i then 0 else if sBi R 1 = 1 ∧ sCn R 1 = i then 1 else if sBi R 2 = 1 ∧ sCn R 2 = i then 2 else 3
theorem sNt_c : ∀ R : Nat, R < 16 → ∀ r : Nat, r < 4 → sBi R r = 1 → sNt R (sCn R r) = r := by decide +kernel
theorem sNt_4 (R i : Nat) : sNt R i < 4 := by
  unfold sNt
  repeat' split
  all_goals decide
section DQ
variable (a : Nat → Nat → Int)
theorem q_0_0 : sMi a 0 0 = sDe 0 (fun i j => a (sNt 0 i) (sNt 0 j)) := by
  have e : sMi a 0 0 = 1 := rfl
  rw [e]
  rfl
theorem q_1_1 : sMi a 1 1 = sDe 1 (fun i j => a (sNt 1 i) (sNt 1 j)) := by
  have e : sMi a 1 1 = (0 + 1 * a 0 0 * 1) := rfl
  rw [e]
  show _ = (a 0 0)
  omega
theorem q_1_2 : sMi a 1 2 = sDe 1 (fun i j => a (sNt 1 i) (sNt 2 j)) := by
  have e : sMi a 1 2 = (0 + 1 * a 0 1 * 1) := rfl
  rw [e]
  show _ = (a 0 1)
  omega
theorem q_1_4 : sMi a 1 4 = sDe 1 (fun i j => a (sNt 1 i) (sNt 4 j)) := by
  have e : sMi a 1 4 = (0 + 1 * a 0 2 * 1) := rfl
  rw [e]
  show _ = (a 0 2)
  omega
theorem q_1_8 : sMi a 1 8 = sDe 1 (fun i j => a (sNt 1 i) (sNt 8 j)) := by
  have e : sMi a 1 8 = (0 + 1 * a 0 3 * 1) := rfl
  rw [e]
  show _ = (a 0 3)
  omega
theorem q_2_1 : sMi a 2 1 = sDe 1 (fun i j => a (sNt 2 i) (sNt 1 j)) := by
  have e : sMi a 2 1 = (0 + 1 * a 1 0 * 1) := rfl
  rw [e]
  show _ = (a 1 0)
  omega
theorem q_2_2 : sMi a 2 2 = sDe 1 (fun i j => a (sNt 2 i) (sNt 2 j)) := by
  have e : sMi a 2 2 = (0 + 1 * a 1 1 * 1) := rfl
  rw [e]
  show _ = (a 1 1)
  omega
theorem q_2_4 : sMi a 2 4 = sDe 1 (fun i j => a (sNt 2 i) (sNt 4 j)) := by
  have e : sMi a 2 4 = (0 + 1 * a 1 2 * 1) := rfl
  rw [e]
  show _ = (a 1 2)
  omega
theorem q_2_8 : sMi a 2 8 = sDe 1 (fun i j => a (sNt 2 i) (sNt 8 j)) := by
  have e : sMi a 2 8 = (0 + 1 * a 1 3 * 1) := rfl
  rw [e]
  show _ = (a 1 3)
  omega
theorem q_3_3 : sMi a 3 3 = sDe 2 (fun i j => a (sNt 3 i) (sNt 3 j)) := by
  have e : sMi a 3 3 = ((0 + 1 * a 0 0 * (0 + 1 * a 1 1 * 1)) + (-1) * a 0 1 * (0 + 1 * a 1 0 * 1)) := rfl
  rw [e]
  show _ = d2 (a 0 0) (a 0 1) (a 1 0) (a 1 1)
  unfold d2
  grind
theorem q_3_5 : sMi a 3 5 = sDe 2 (fun i j => a (sNt 3 i) (sNt 5 j)) := by
  have e : sMi a 3 5 = ((0 + 1 * a 0 0 * (0 + 1 * a 1 2 * 1)) + (-1) * a 0 2 * (0 + 1 * a 1 0 * 1)) := rfl
  rw [e]
  show _ = d2 (a 0 0) (a 0 2) (a 1 0) (a 1 2)
  unfold d2
  grind
theorem q_3_6 : sMi a 3 6 = sDe 2 (fun i j => a (sNt 3 i) (sNt 6 j)) := by
  have e : sMi a 3 6 = ((0 + 1 * a 0 1 * (0 + 1 * a 1 2 * 1)) + (-1) * a 0 2 * (0 + 1 * a 1 1 * 1)) := rfl
  rw [e]
  show _ = d2 (a 0 1) (a 0 2) (a 1 1) (a 1 2)
  unfold d2
  grind
theorem q_3_9 : sMi a 3 9 = sDe 2 (fun i j => a (sNt 3 i) (sNt 9 j)) := by
  have e : sMi a 3 9 = ((0 + 1 * a 0 0 * (0 + 1 * a 1 3 * 1)) + (-1) * a 0 3 * (0 + 1 * a 1 0 * 1)) := rfl
  rw [e]
  show _ = d2 (a 0 0) (a 0 3) (a 1 0) (a 1 3)
  unfold d2
  grind
theorem q_3_10 : sMi a 3 10 = sDe 2 (fun i j => a (sNt 3 i) (sNt 10 j)) := by
  have e : sMi a 3 10 = ((0 + 1 * a 0 1 * (0 + 1 * a 1 3 * 1)) + (-1) * a 0 3 * (0 + 1 * a 1 1 * 1)) := rfl
  rw [e]
  show _ = d2 (a 0 1) (a 0 3) (a 1 1) (a 1 3)
  unfold d2
  grind
theorem q_3_12 : sMi a 3 12 = sDe 2 (fun i j => a (sNt 3 i) (sNt 12 j)) := by
  have e : sMi a 3 12 = ((0 + 1 * a 0 2 * (0 + 1 * a 1 3 * 1)) + (-1) * a 0 3 * (0 + 1 * a 1 2 * 1)) := rfl
  rw [e]
  show _ = d2 (a 0 2) (a 0 3) (a 1 2) (a 1 3)
  unfold d2
  grind
theorem q_4_1 : sMi a 4 1 = sDe 1 (fun i j => a (sNt 4 i) (sNt 1 j)) := by
  have e : sMi a 4 1 = (0 + 1 * a 2 0 * 1) := rfl
  rw [e]
  show _ = (a 2 0)
  omega
theorem q_4_2 : sMi a 4 2 = sDe 1 (fun i j => a (sNt 4 i) (sNt 2 j)) := by
  have e : sMi a 4 2 = (0 + 1 * a 2 1 * 1) := rfl
  rw [e]
  show _ = (a 2 1)
  omega
theorem q_4_4 : sMi a 4 4 = sDe 1 (fun i j => a (sNt 4 i) (sNt 4 j)) := by
  have e : sMi a 4 4 = (0 + 1 * a 2 2 * 1) := rfl
  rw [e]
  show _ = (a 2 2)
  omega
theorem q_4_8 : sMi a 4 8 = sDe 1 (fun i j => a (sNt 4 i) (sNt 8 j)) := by
  have e : sMi a 4 8 = (0 + 1 * a 2 3 * 1) := rfl
  rw [e]
  show _ = (a 2 3)
  omega
theorem q_5_3 : sMi a 5 3 = sDe 2 (fun i j => a (sNt 5 i) (sNt 3 j)) := by
  have e : sMi a 5 3 = ((0 + 1 * a 0 0 * (0 + 1 * a 2 1 * 1)) + (-1) * a 0 1 * (0 + 1 * a 2 0 * 1)) := rfl
  rw [e]
  show _ = d2 (a 0 0) (a 0 1) (a 2 0) (a 2 1)
  unfold d2
  grind
theorem q_5_5 : sMi a 5 5 = sDe 2 (fun i j => a (sNt 5 i) (sNt 5 j)) := by
  have e : sMi a 5 5 = ((0 + 1 * a 0 0 * (0 + 1 * a 2 2 * 1)) + (-1) * a 0 2 * (0 + 1 * a 2 0 * 1)) := rfl
  rw [e]
  show _ = d2 (a 0 0) (a 0 2) (a 2 0) (a 2 2)
  unfold d2
  grind
theorem q_5_6 : sMi a 5 6 = sDe 2 (fun i j => a (sNt 5 i) (sNt 6 j)) := by
  have e : sMi a 5 6 = ((0 + 1 * a 0 1 * (0 + 1 * a 2 2 * 1)) + (-1) * a 0 2 * (0 + 1 * a 2 1 * 1)) := rfl
  rw [e]
  show _ = d2 (a 0 1) (a 0 2) (a 2 1) (a 2 2)
  unfold d2
  grind
theorem q_5_9 : sMi a 5 9 = sDe 2 (fun i j => a (sNt 5 i) (sNt 9 j)) := by
  have e : sMi a 5 9 = ((0 + 1 * a 0 0 * (0 + 1 * a 2 3 * 1)) + (-1) * a 0 3 * (0 + 1 * a 2 0 * 1)) := rfl
  rw [e]
  show _ = d2 (a 0 0) (a 0 3) (a 2 0) (a 2 3)
  unfold d2
  grind
theorem q_5_10 : sMi a 5 10 = sDe 2 (fun i j => a (sNt 5 i) (sNt 10 j)) := by
  have e : sMi a 5 10 = ((0 + 1 * a 0 1 * (0 + 1 * a 2 3 * 1)) + (-1) * a 0 3 * (0 + 1 * a 2 1 * 1)) := rfl
  rw [e]
  show _ = d2 (a 0 1) (a 0 3) (a 2 1) (a 2 3)
  unfold d2
  grind
theorem q_5_12 : sMi a 5 12 = sDe 2 (fun i j => a (sNt 5 i) (sNt 12 j)) := by
  have e : sMi a 5 12 = ((0 + 1 * a 0 2 * (0 + 1 * a 2 3 * 1)) + (-1) * a 0 3 * (0 + 1 * a 2 2 * 1)) := rfl
  rw [e]
  show _ = d2 (a 0 2) (a 0 3) (a 2 2) (a 2 3)
  unfold d2
  grind
theorem q_6_3 : sMi a 6 3 = sDe 2 (fun i j => a (sNt 6 i) (sNt 3 j)) := by
  have e : sMi a 6 3 = ((0 + 1 * a 1 0 * (0 + 1 * a 2 1 * 1)) + (-1) * a 1 1 * (0 + 1 * a 2 0 * 1)) := rfl
  rw [e]
  show _ = d2 (a 1 0) (a 1 1) (a 2 0) (a 2 1)
  unfold d2
  grind
theorem q_6_5 : sMi a 6 5 = sDe 2 (fun i j => a (sNt 6 i) (sNt 5 j)) := by
  have e : sMi a 6 5 = ((0 + 1 * a 1 0 * (0 + 1 * a 2 2 * 1)) + (-1) * a 1 2 * (0 + 1 * a 2 0 * 1)) := rfl
  rw [e]
  show _ = d2 (a 1 0) (a 1 2) (a 2 0) (a 2 2)
  unfold d2
  grind
theorem q_6_6 : sMi a 6 6 = sDe 2 (fun i j => a (sNt 6 i) (sNt 6 j)) := by
  have e : sMi a 6 6 = ((0 + 1 * a 1 1 * (0 + 1 * a 2 2 * 1)) + (-1) * a 1 2 * (0 + 1 * a 2 1 * 1)) := rfl
  rw [e]
  show _ = d2 (a 1 1) (a 1 2) (a 2 1) (a 2 2)
  unfold d2
  grind
theorem q_6_9 : sMi a 6 9 = sDe 2 (fun i j => a (sNt 6 i) (sNt 9 j)) := by
  have e : sMi a 6 9 = ((0 + 1 * a 1 0 * (0 + 1 * a 2 3 * 1)) + (-1) * a 1 3 * (0 + 1 * a 2 0 * 1)) := rfl
  rw [e]
  show _ = d2 (a 1 0) (a 1 3) (a 2 0) (a 2 3)
  unfold d2
  grind
theorem q_6_10 : sMi a 6 10 = sDe 2 (fun i j => a (sNt 6 i) (sNt 10 j)) := by
  have e : sMi a 6 10 = ((0 + 1 * a 1 1 * (0 + 1 * a 2 3 * 1)) + (-1) * a 1 3 * (0 + 1 * a 2 1 * 1)) := rfl
  rw [e]
  show _ = d2 (a 1 1) (a 1 3) (a 2 1) (a 2 3)
  unfold d2
  grind
theorem q_6_12 : sMi a 6 12 = sDe 2 (fun i j => a (sNt 6 i) (sNt 12 j)) := by
  have e : sMi a 6 12 = ((0 + 1 * a 1 2 * (0 + 1 * a 2 3 * 1)) + (-1) * a 1 3 * (0 + 1 * a 2 2 * 1)) := rfl
  rw [e]
  show _ = d2 (a 1 2) (a 1 3) (a 2 2) (a 2 3)
  unfold d2
  grind
theorem q_7_7 : sMi a 7 7 = sDe 3 (fun i j => a (sNt 7 i) (sNt 7 j)) := by
  have e : sMi a 7 7 = (((0 + 1 * a 0 0 * ((0 + 1 * a 1 1 * (0 + 1 * a 2 2 * 1)) + (-1) * a 1 2 * (0 + 1 * a 2 1 * 1))) + (-1) * a 0 1 * ((0 + 1 * a 1 0 * (0 + 1 * a 2 2 * 1)) + (-1) * a 1 2 * (0 + 1 * a 2 0 * 1))) + (-(-1)) * a 0 2 * ((0 + 1 * a 1 0 * (0 + 1 * a 2 1 * 1)) + (-1) * a 1 1 * (0 + 1 * a 2 0 * 1))) := rfl
  rw [e]
  show _ = d3 (a 0 0) (a 0 1) (a 0 2) (a 1 0) (a 1 1) (a 1 2) (a 2 0) (a 2 1) (a 2 2)
  unfold d3 d2
  grind
theorem q_7_11 : sMi a 7 11 = sDe 3 (fun i j => a (sNt 7 i) (sNt 11 j)) := by
  have e : sMi a 7 11 = (((0 + 1 * a 0 0 * ((0 + 1 * a 1 1 * (0 + 1 * a 2 3 * 1)) + (-1) * a 1 3 * (0 + 1 * a 2 1 * 1))) + (-1) * a 0 1 * ((0 + 1 * a 1 0 * (0 + 1 * a 2 3 * 1)) + (-1) * a 1 3 * (0 + 1 * a 2 0 * 1))) + (-(-1)) * a 0 3 * ((0 + 1 * a 1 0 * (0 + 1 * a 2 1 * 1)) + (-1) * a 1 1 * (0 + 1 * a 2 0 * 1))) := rfl
  rw [e]
  show _ = d3 (a 0 0) (a 0 1) (a 0 3) (a 1 0) (a 1 1) (a 1 3) (a 2 0) (a 2 1) (a 2 3)
  unfold d3 d2
  grind
theorem q_7_13 : sMi a 7 13 = sDe 3 (fun i j => a (sNt 7 i) (sNt 13 j)) := by
  have e : sMi a 7 13 = (((0 + 1 * a 0 0 * ((0 + 1 * a 1 2 * (0 + 1 * a 2 3 * 1)) + (-1) * a 1 3 * (0 + 1 * a 2 2 * 1))) + (-1) * a 0 2 * ((0 + 1 * a 1 0 * (0 + 1 * a 2 3 * 1)) + (-1) * a 1 3 * (0 + 1 * a 2 0 * 1))) + (-(-1)) * a 0 3 * ((0 + 1 * a 1 0 * (0 + 1 * a 2 2 * 1)) + (-1) * a 1 2 * (0 + 1 * a 2 0 * 1))) := rfl
  rw [e]
  show _ = d3 (a 0 0) (a 0 2) (a 0 3) (a 1 0) (a 1 2) (a 1 3) (a 2 0) (a 2 2) (a 2 3)
  unfold d3 d2
  grind
theorem q_7_14 : sMi a 7 14 = sDe 3 (fun i j => a (sNt 7 i) (sNt 14 j)) := by
  have e : sMi a 7 14 = (((0 + 1 * a 0 1 * ((0 + 1 * a 1 2 * (0 + 1 * a 2 3 * 1)) + (-1) * a 1 3 * (0 + 1 * a 2 2 * 1))) + (-1) * a 0 2 * ((0 + 1 * a 1 1 * (0 + 1 * a 2 3 * 1)) + (-1) * a 1 3 * (0 + 1 * a 2 1 * 1))) + (-(-1)) * a 0 3 * ((0 + 1 * a 1 1 * (0 + 1 * a 2 2 * 1)) + (-1) * a 1 2 * (0 + 1 * a 2 1 * 1))) := rfl
  rw [e]
  show _ = d3 (a 0 1) (a 0 2) (a 0 3) (a 1 1) (a 1 2) (a 1 3) (a 2 1) (a 2 2) (a 2 3)
  unfold d3 d2
  grind
theorem q_8_1 : sMi a 8 1 = sDe 1 (fun i j => a (sNt 8 i) (sNt 1 j)) := by
  have e : sMi a 8 1 = (0 + 1 * a 3 0 * 1) := rfl
  rw [e]
  show _ = (a 3 0)
  omega
theorem q_8_2 : sMi a 8 2 = sDe 1 (fun i j => a (sNt 8 i) (sNt 2 j)) := by
  have e : sMi a 8 2 = (0 + 1 * a 3 1 * 1) := rfl
  rw [e]
  show _ = (a 3 1)
  omega
theorem q_8_4 : sMi a 8 4 = sDe 1 (fun i j => a (sNt 8 i) (sNt 4 j)) := by
  have e : sMi a 8 4 = (0 + 1 * a 3 2 * 1) := rfl
  rw [e]
  show _ = (a 3 2)
  omega
theorem q_8_8 : sMi a 8 8 = sDe 1 (fun i j => a (sNt 8 i) (sNt 8 j)) := by
  have e : sMi a 8 8 = (0 + 1 * a 3 3 * 1) := rfl
  rw [e]
  show _ = (a 3 3)
  omega
theorem q_9_3 : sMi a 9 3 = sDe 2 (fun i j => a (sNt 9 i) (sNt 3 j)) := by
  have e : sMi a 9 3 = ((0 + 1 * a 0 0 * (0 + 1 * a 3 1 * 1)) + (-1) * a 0 1 * (0 + 1 * a 3 0 * 1)) := rfl
  rw [e]
  show _ = d2 (a 0 0) (a 0 1) (a 3 0) (a 3 1)
  unfold d2
  grind
theorem q_9_5 : sMi a 9 5 = sDe 2 (fun i j => a (sNt 9 i) (sNt 5 j)) := by
  have e : sMi a 9 5 = ((0 + 1 * a 0 0 * (0 + 1 * a 3 2 * 1)) + (-1) * a 0 2 * (0 + 1 * a 3 0 * 1)) := rfl
  rw [e]
  show _ = d2 (a 0 0) (a 0 2) (a 3 0) (a 3 2)
  unfold d2
  grind
theorem q_9_6 : sMi a 9 6 = sDe 2 (fun i j => a (sNt 9 i) (sNt 6 j)) := by
  have e : sMi a 9 6 = ((0 + 1 * a 0 1 * (0 + 1 * a 3 2 * 1)) + (-1) * a 0 2 * (0 + 1 * a 3 1 * 1)) := rfl
  rw [e]
  show _ = d2 (a 0 1) (a 0 2) (a 3 1) (a 3 2)
  unfold d2
  grind
theorem q_9_9 : sMi a 9 9 = sDe 2 (fun i j => a (sNt 9 i) (sNt 9 j)) := by
  have e : sMi a 9 9 = ((0 + 1 * a 0 0 * (0 + 1 * a 3 3 * 1)) + (-1) * a 0 3 * (0 + 1 * a 3 0 * 1)) := rfl
  rw [e]
  show _ = d2 (a 0 0) (a 0 3) (a 3 0) (a 3 3)
  unfold d2
  grind
theorem q_9_10 : sMi a 9 10 = sDe 2 (fun i j => a (sNt 9 i) (sNt 10 j)) := by
  have e : sMi a 9 10 = ((0 + 1 * a 0 1 * (0 + 1 * a 3 3 * 1)) + (-1) * a 0 3 * (0 + 1 * a 3 1 * 1)) := rfl
  rw [e]
  show _ = d2 (a 0 1) (a 0 3) (a 3 1) (a 3 3)
  unfold d2
  grind
theorem q_9_12 : sMi a 9 12 = sDe 2 (fun i j => a (sNt 9 i) (sNt 12 j)) := by
  have e : sMi a 9 12 = ((0 + 1 * a 0 2 * (0 + 1 * a 3 3 * 1)) + (-1) * a 0 3 * (0 + 1 * a 3 2 * 1)) := rfl
  rw [e]
  show _ = d2 (a 0 2) (a 0 3) (a 3 2) (a 3 3)
  unfold d2
  grind
theorem q_10_3 : sMi a 10 3 = sDe 2 (fun i j => a (sNt 10 i) (sNt 3 j)) := by
  have e : sMi a 10 3 = ((0 + 1 * a 1 0 * (0 + 1 * a 3 1 * 1)) + (-1) * a 1 1 * (0 + 1 * a 3 0 * 1)) := rfl
  rw [e]
  show _ = d2 (a 1 0) (a 1 1) (a 3 0) (a 3 1)
  unfold d2
  grind
theorem q_10_5 : sMi a 10 5 = sDe 2 (fun i j => a (sNt 10 i) (sNt 5 j)) := by
  have e : sMi a 10 5 = ((0 + 1 * a 1 0 * (0 + 1 * a 3 2 * 1)) + (-1) * a 1 2 * (0 + 1 * a 3 0 * 1)) := rfl
  rw [e]
  show _ = d2 (a 1 0) (a 1 2) (a 3 0) (a 3 2)
  unfold d2
  grind
theorem q_10_6 : sMi a 10 6 = sDe 2 (fun i j => a (sNt 10 i) (sNt 6 j)) := by
  have e : sMi a 10 6 = ((0 + 1 * a 1 1 * (0 + 1 * a 3 2 * 1)) + (-1) * a 1 2 * (0 + 1 * a 3 1 * 1)) := rfl
  rw [e]
  show _ = d2 (a 1 1) (a 1 2) (a 3 1) (a 3 2)
  unfold d2
  grind
theorem q_10_9 : sMi a 10 9 = sDe 2 (fun i j => a (sNt 10 i) (sNt 9 j)) := by
  have e : sMi a 10 9 = ((0 + 1 * a 1 0 * (0 + 1 * a 3 3 * 1)) + (-1) * a 1 3 * (0 + 1 * a 3 0 * 1)) := rfl
  rw [e]
  show _ = d2 (a 1 0) (a 1 3) (a 3 0) (a 3 3)
  unfold d2
  grind
theorem q_10_10 : sMi a 10 10 = sDe 2 (fun i j => a (sNt 10 i) (sNt 10 j)) := by
  have e : sMi a 10 10 = ((0 + 1 * a 1 1 * (0 + 1 * a 3 3 * 1)) + (-1) * a 1 3 * (0 + 1 * a 3 1 * 1)) := rfl
  rw [e]
  show _ = d2 (a 1 1) (a 1 3) (a 3 1) (a 3 3)
  unfold d2
  grind
theorem q_10_12 : sMi a 10 12 = sDe 2 (fun i j => a (sNt 10 i) (sNt 12 j)) := by
  have e : sMi a 10 12 = ((0 + 1 * a 1 2 * (0 + 1 * a 3 3 * 1)) + (-1) * a 1 3 * (0 + 1 * a 3 2 * 1)) := rfl
  rw [e]
  show _ = d2 (a 1 2) (a 1 3) (a 3 2) (a 3 3)
  unfold d2
  grind
theorem q_11_7 : sMi a 11 7 = sDe 3 (fun i j => a (sNt 11 i) (sNt 7 j)) := by
  have e : sMi a 11 7 = (((0 + 1 * a 0 0 * ((0 + 1 * a 1 1 * (0 + 1 * a 3 2 * 1)) + (-1) * a 1 2 * (0 + 1 * a 3 1 * 1))) + (-1) * a 0 1 * ((0 + 1 * a 1 0 * (0 + 1 * a 3 2 * 1)) + (-1) * a 1 2 * (0 + 1 * a 3 0 * 1))) + (-(-1)) * a 0 2 * ((0 + 1 * a 1 0 * (0 + 1 * a 3 1 * 1)) + (-1) * a 1 1 * (0 + 1 * a 3 0 * 1))) := rfl
  rw [e]
  show _ = d3 (a 0 0) (a 0 1) (a 0 2) (a 1 0) (a 1 1) (a 1 2) (a 3 0) (a 3 1) (a 3 2)
  unfold d3 d2
  grind
theorem q_11_11 : sMi a 11 11 = sDe 3 (fun i j => a (sNt 11 i) (sNt 11 j)) := by
  have e : sMi a 11 11 = (((0 + 1 * a 0 0 * ((0 + 1 * a 1 1 * (0 + 1 * a 3 3 * 1)) + (-1) * a 1 3 * (0 + 1 * a 3 1 * 1))) + (-1) * a 0 1 * ((0 + 1 * a 1 0 * (0 + 1 * a 3 3 * 1)) + (-1) * a 1 3 * (0 + 1 * a 3 0 * 1))) + (-(-1)) * a 0 3 * ((0 + 1 * a 1 0 * (0 + 1 * a 3 1 * 1)) + (-1) * a 1 1 * (0 + 1 * a 3 0 * 1))) := rfl
  rw [e]
  show _ = d3 (a 0 0) (a 0 1) (a 0 3) (a 1 0) (a 1 1) (a 1 3) (a 3 0) (a 3 1) (a 3 3)
  unfold d3 d2
  grind
theorem q_11_13 : sMi a 11 13 = sDe 3 (fun i j => a (sNt 11 i) (sNt 13 j)) := by
  have e : sMi a 11 13 = (((0 + 1 * a 0 0 * ((0 + 1 * a 1 2 * (0 + 1 * a 3 3 * 1)) + (-1) * a 1 3 * (0 + 1 * a 3 2 * 1))) + (-1) * a 0 2 * ((0 + 1 * a 1 0 * (0 + 1 * a 3 3 * 1)) + (-1) * a 1 3 * (0 + 1 * a 3 0 * 1))) + (-(-1)) * a 0 3 * ((0 + 1 * a 1 0 * (0 + 1 * a 3 2 * 1)) + (-1) * a 1 2 * (0 + 1 * a 3 0 * 1))) := rfl
  rw [e]
  show _ = d3 (a 0 0) (a 0 2) (a 0 3) (a 1 0) (a 1 2) (a 1 3) (a 3 0) (a 3 2) (a 3 3)
  unfold d3 d2
  grind
theorem q_11_14 : sMi a 11 14 = sDe 3 (fun i j => a (sNt 11 i) (sNt 14 j)) := by
  have e : sMi a 11 14 = (((0 + 1 * a 0 1 * ((0 + 1 * a 1 2 * (0 + 1 * a 3 3 * 1)) + (-1) * a 1 3 * (0 + 1 * a 3 2 * 1))) + (-1) * a 0 2 * ((0 + 1 * a 1 1 * (0 + 1 * a 3 3 * 1)) + (-1) * a 1 3 * (0 + 1 * a 3 1 * 1))) + (-(-1)) * a 0 3 * ((0 + 1 * a 1 1 * (0 + 1 * a 3 2 * 1)) + (-1) * a 1 2 * (0 + 1 * a 3 1 * 1))) := rfl
  rw [e]
  show _ = d3 (a 0 1) (a 0 2) (a 0 3) (a 1 1) (a 1 2) (a 1 3) (a 3 1) (a 3 2) (a 3 3)
  unfold d3 d2
  grind
theorem q_12_3 : sMi a 12 3 = sDe 2 (fun i j => a (sNt 12 i) (sNt 3 j)) := by
  have e : sMi a 12 3 = ((0 + 1 * a 2 0 * (0 + 1 * a 3 1 * 1)) + (-1) * a 2 1 * (0 + 1 * a 3 0 * 1)) := rfl
  rw [e]
  show _ = d2 (a 2 0) (a 2 1) (a 3 0) (a 3 1)
  unfold d2
  grind
theorem q_12_5 : sMi a 12 5 = sDe 2 (fun i j => a (sNt 12 i) (sNt 5 j)) := by
  have e : sMi a 12 5 = ((0 + 1 * a 2 0 * (0 + 1 * a 3 2 * 1)) + (-1) * a 2 2 * (0 + 1 * a 3 0 * 1)) := rfl
  rw [e]
  show _ = d2 (a 2 0) (a 2 2) (a 3 0) (a 3 2)
  unfold d2
  grind
theorem q_12_6 : sMi a 12 6 = sDe 2 (fun i j => a (sNt 12 i) (sNt 6 j)) := by
  have e : sMi a 12 6 = ((0 + 1 * a 2 1 * (0 + 1 * a 3 2 * 1)) + (-1) * a 2 2 * (0 + 1 * a 3 1 * 1)) := rfl
  rw [e]
  show _ = d2 (a 2 1) (a 2 2) (a 3 1) (a 3 2)
  unfold d2
  grind
theorem q_12_9 : sMi a 12 9 = sDe 2 (fun i j => a (sNt 12 i) (sNt 9 j)) := by
  have e : sMi a 12 9 = ((0 + 1 * a 2 0 * (0 + 1 * a 3 3 * 1)) + (-1) * a 2 3 * (0 + 1 * a 3 0 * 1)) := rfl
  rw [e]
  show _ = d2 (a 2 0) (a 2 3) (a 3 0) (a 3 3)
  unfold d2
  grind
theorem q_12_10 : sMi a 12 10 = sDe 2 (fun i j => a (sNt 12 i) (sNt 10 j)) := by
  have e : sMi a 12 10 = ((0 + 1 * a 2 1 * (0 + 1 * a 3 3 * 1)) + (-1) * a 2 3 * (0 + 1 * a 3 1 * 1)) := rfl
  rw [e]
  show _ = d2 (a 2 1) (a 2 3) (a 3 1) (a 3 3)
  unfold d2
  grind
theorem q_12_12 : sMi a 12 12 = sDe 2 (fun i j => a (sNt 12 i) (sNt 12 j)) := by
  have e : sMi a 12 12 = ((0 + 1 * a 2 2 * (0 + 1 * a 3 3 * 1)) + (-1) * a 2 3 * (0 + 1 * a 3 2 * 1)) := rfl
  rw [e]
  show _ = d2 (a 2 2) (a 2 3) (a 3 2) (a 3 3)
  unfold d2
  grind
theorem q_13_7 : sMi a 13 7 = sDe 3 (fun i j => a (sNt 13 i) (sNt 7 j)) := by
  have e : sMi a 13 7 = (((0 + 1 * a 0 0 * ((0 + 1 * a 2 1 * (0 + 1 * a 3 2 * 1)) + (-1) * a 2 2 * (0 + 1 * a 3 1 * 1))) + (-1) * a 0 1 * ((0 + 1 * a 2 0 * (0 + 1 * a 3 2 * 1)) + (-1) * a 2 2 * (0 + 1 * a 3 0 * 1))) + (-(-1)) * a 0 2 * ((0 + 1 * a 2 0 * (0 + 1 * a 3 1 * 1)) + (-1) * a 2 1 * (0 + 1 * a 3 0 * 1))) := rfl
  rw [e]
  show _ = d3 (a 0 0) (a 0 1) (a 0 2) (a 2 0) (a 2 1) (a 2 2) (a 3 0) (a 3 1) (a 3 2)
  unfold d3 d2
  grind
theorem q_13_11 : sMi a 13 11 = sDe 3 (fun i j => a (sNt 13 i) (sNt 11 j)) := by
  have e : sMi a 13 11 = (((0 + 1 * a 0 0 * ((0 + 1 * a 2 1 * (0 + 1 * a 3 3 * 1)) + (-1) * a 2 3 * (0 + 1 * a 3 1 * 1))) + (-1) * a 0 1 * ((0 + 1 * a 2 0 * (0 + 1 * a 3 3 * 1)) + (-1) * a 2 3 * (0 + 1 * a 3 0 * 1))) + (-(-1)) * a 0 3 * ((0 + 1 * a 2 0 * (0 + 1 * a 3 1 * 1)) + (-1) * a 2 1 * (0 + 1 * a 3 0 * 1))) := rfl
  rw [e]
  show _ = d3 (a 0 0) (a 0 1) (a 0 3) (a 2 0) (a 2 1) (a 2 3) (a 3 0) (a 3 1) (a 3 3)
  unfold d3 d2
  grind
theorem q_13_13 : sMi a 13 13 = sDe 3 (fun i j => a (sNt 13 i) (sNt 13 j)) := by
  have e : sMi a 13 13 = (((0 + 1 * a 0 0 * ((0 + 1 * a 2 2 * (0 + 1 * a 3 3 * 1)) + (-1) * a 2 3 * (0 + 1 * a 3 2 * 1))) + (-1) * a 0 2 * ((0 + 1 * a 2 0 * (0 + 1 * a 3 3 * 1)) + (-1) * a 2 3 * (0 + 1 * a 3 0 * 1))) + (-(-1)) * a 0 3 * ((0 + 1 * a 2 0 * (0 + 1 * a 3 2 * 1)) + (-1) * a 2 2 * (0 + 1 * a 3 0 * 1))) := rfl
  rw [e]
  show _ = d3 (a 0 0) (a 0 2) (a 0 3) (a 2 0) (a 2 2) (a 2 3) (a 3 0) (a 3 2) (a 3 3)
  unfold d3 d2
  grind
theorem q_13_14 : sMi a 13 14 = sDe 3 (fun i j => a (sNt 13 i) (sNt 14 j)) := by
  have e : sMi a 13 14 = (((0 + 1 * a 0 1 * ((0 + 1 * a 2 2 * (0 + 1 * a 3 3 * 1)) + (-1) * a 2 3 * (0 + 1 * a 3 2 * 1))) + (-1) * a 0 2 * ((0 + 1 * a 2 1 * (0 + 1 * a 3 3 * 1)) + (-1) * a 2 3 * (0 + 1 * a 3 1 * 1))) + (-(-1)) * a 0 3 * ((0 + 1 * a 2 1 * (0 + 1 * a 3 2 * 1)) + (-1) * a 2 2 * (0 + 1 * a 3 1 * 1))) := rfl
  rw [e]
  show _ = d3 (a 0 1) (a 0 2) (a 0 3) (a 2 1) (a 2 2) (a 2 3) (a 3 1) (a 3 2) (a 3 3)
  unfold d3 d2
  grind
theorem q_14_7 : sMi a 14 7 = sDe 3 (fun i j => a (sNt 14 i) (sNt 7 j)) := by
  have e : sMi a 14 7 = (((0 + 1 * a 1 0 * ((0 + 1 * a 2 1 * (0 + 1 * a 3 2 * 1)) + (-1) * a 2 2 * (0 + 1 * a 3 1 * 1))) + (-1) * a 1 1 * ((0 + 1 * a 2 0 * (0 + 1 * a 3 2 * 1)) + (-1) * a 2 2 * (0 + 1 * a 3 0 * 1))) + (-(-1)) * a 1 2 * ((0 + 1 * a 2 0 * (0 + 1 * a 3 1 * 1)) + (-1) * a 2 1 * (0 + 1 * a 3 0 * 1))) := rfl
  rw [e]
  show _ = d3 (a 1 0) (a 1 1) (a 1 2) (a 2 0) (a 2 1) (a 2 2) (a 3 0) (a 3 1) (a 3 2)
  unfold d3 d2
  grind
theorem q_14_11 : sMi a 14 11 = sDe 3 (fun i j => a (sNt 14 i) (sNt 11 j)) := by
  have e : sMi a 14 11 = (((0 + 1 * a 1 0 * ((0 + 1 * a 2 1 * (0 + 1 * a 3 3 * 1)) + (-1) * a 2 3 * (0 + 1 * a 3 1 * 1))) + (-1) * a 1 1 * ((0 + 1 * a 2 0 * (0 + 1 * a 3 3 * 1)) + (-1) * a 2 3 * (0 + 1 * a 3 0 * 1))) + (-(-1)) * a 1 3 * ((0 + 1 * a 2 0 * (0 + 1 * a 3 1 * 1)) + (-1) * a 2 1 * (0 + 1 * a 3 0 * 1))) := rfl
  rw [e]
  show _ = d3 (a 1 0) (a 1 1) (a 1 3) (a 2 0) (a 2 1) (a 2 3) (a 3 0) (a 3 1) (a 3 3)
  unfold d3 d2
  grind
theorem q_14_13 : sMi a 14 13 = sDe 3 (fun i j => a (sNt 14 i) (sNt 13 j)) := by
  have e : sMi a 14 13 = (((0 + 1 * a 1 0 * ((0 + 1 * a 2 2 * (0 + 1 * a 3 3 * 1)) + (-1) * a 2 3 * (0 + 1 * a 3 2 * 1))) + (-1) * a 1 2 * ((0 + 1 * a 2 0 * (0 + 1 * a 3 3 * 1)) + (-1) * a 2 3 * (0 + 1 * a 3 0 * 1))) + (-(-1)) * a 1 3 * ((0 + 1 * a 2 0 * (0 + 1 * a 3 2 * 1)) + (-1) * a 2 2 * (0 + 1 * a 3 0 * 1))) := rfl
  rw [e]
  show _ = d3 (a 1 0) (a 1 2) (a 1 3) (a 2 0) (a 2 2) (a 2 3) (a 3 0) (a 3 2) (a 3 3)
  unfold d3 d2
  grind
theorem q_14_14 : sMi a 14 14 = sDe 3 (fun i j => a (sNt 14 i) (sNt 14 j)) := by
  have e : sMi a 14 14 = (((0 + 1 * a 1 1 * ((0 + 1 * a 2 2 * (0 + 1 * a 3 3 * 1)) + (-1) * a 2 3 * (0 + 1 * a 3 2 * 1))) + (-1) * a 1 2 * ((0 + 1 * a 2 1 * (0 + 1 * a 3 3 * 1)) + (-1) * a 2 3 * (0 + 1 * a 3 1 * 1))) + (-(-1)) * a 1 3 * ((0 + 1 * a 2 1 * (0 + 1 * a 3 2 * 1)) + (-1) * a 2 2 * (0 + 1 * a 3 1 * 1))) := rfl
  rw [e]
  show _ = d3 (a 1 1) (a 1 2) (a 1 3) (a 2 1) (a 2 2) (a 2 3) (a 3 1) (a 3 2) (a 3 3)
  unfold d3 d2
  grind
theorem q_15_15 : sMi a 15 15 = sDe 4 (fun i j => a (sNt 15 i) (sNt 15 j)) := by
  have e : sMi a 15 15 = ((((0 + 1 * a 0 0 * (((0 + 1 * a 1 1 * ((0 + 1 * a 2 2 * (0 + 1 * a 3 3 * 1)) + (-1) * a 2 3 * (0 + 1 * a 3 2 * 1))) + (-1) * a 1 2 * ((0 + 1 * a 2 1 * (0 + 1 * a 3 3 * 1)) + (-1) * a 2 3 * (0 + 1 * a 3 1 * 1))) + (-(-1)) * a 1 3 * ((0 + 1 * a 2 1 * (0 + 1 * a 3 2 * 1)) + (-1) * a 2 2 * (0 + 1 * a 3 1 * 1)))) + (-1) * a 0 1 * (((0 + 1 * a 1 0 * ((0 + 1 * a 2 2 * (0 + 1 * a 3 3 * 1)) + (-1) * a 2 3 * (0 + 1 * a 3 2 * 1))) + (-1) * a 1 2 * ((0 + 1 * a 2 0 * (0 + 1 * a 3 3 * 1)) + (-1) * a 2 3 * (0 + 1 * a 3 0 * 1))) + (-(-1)) * a 1 3 * ((0 + 1 * a 2 0 * (0 + 1 * a 3 2 * 1)) + (-1) * a 2 2 * (0 + 1 * a 3 0 * 1)))) + (-(-1)) * a 0 2 * (((0 + 1 * a 1 0 * ((0 + 1 * a 2 1 * (0 + 1 * a 3 3 * 1)) + (-1) * a 2 3 * (0 + 1 * a 3 1 * 1))) + (-1) * a 1 1 * ((0 + 1 * a 2 0 * (0 + 1 * a 3 3 * 1)) + (-1) * a 2 3 * (0 + 1 * a 3 0 * 1))) + (-(-1)) * a 1 3 * ((0 + 1 * a 2 0 * (0 + 1 * a 3 1 * 1)) + (-1) * a 2 1 * (0 + 1 * a 3 0 * 1)))) + (-(-(-1))) * a 0 3 * (((0 + 1 * a 1 0 * ((0 + 1 * a 2 1 * (0 + 1 * a 3 2 * 1)) + (-1) * a 2 2 * (0 + 1 * a 3 1 * 1))) + (-1) * a 1 1 * ((0 + 1 * a 2 0 * (0 + 1 * a 3 2 * 1)) + (-1) * a 2 2 * (0 + 1 * a 3 0 * 1))) + (-(-1)) * a 1 2 * ((0 + 1 * a 2 0 * (0 + 1 * a 3 1 * 1)) + (-1) * a 2 1 * (0 + 1 * a 3 0 * 1)))) := rfl
  rw [e]
  show _ = d4 (a 0 0) (a 0 1) (a 0 2) (a 0 3) (a 1 0) (a 1 1) (a 1 2) (a 1 3) (a 2 0) (a 2 1) (a 2 2) (a 2 3) (a 3 0) (a 3 1) (a 3 2) (a 3 3)
  unfold d4 d3 d2
  grind
end DQ
theorem sMi_d (a : Nat → Nat → Int) {R C : Nat} (hR : R < 16) (hC : C < 16) (h : sPc R = sPc C) : sMi a R C = sDe (sPc R) (fun i j => a (sNt R i) (sNt C j)) := by
  have gR : R = 0 ∨ R = 1 ∨ R = 2 ∨ R = 3 ∨ R = 4 ∨ R = 5 ∨ R = 6 ∨ R = 7 ∨ R = 8 ∨ R = 9 ∨ R = 10 ∨ R = 11 ∨ R = 12 ∨ R = 13 ∨ R = 14 ∨ R = 15 := by omega
  have gC : C = 0 ∨ C = 1 ∨ C = 2 ∨ C = 3 ∨ C = 4 ∨ C = 5 ∨ C = 6 ∨ C = 7 ∨ C = 8 ∨ C = 9 ∨ C = 10 ∨ C = 11 ∨ C = 12 ∨ C = 13 ∨ C = 14 ∨ C = 15 := by omega
  rcases gR with rfl | rfl | rfl | rfl | rfl | rfl | rfl | rfl | rfl | rfl | rfl | rfl | rfl | rfl | rfl | rfl
  · rcases gC with rfl | rfl | rfl | rfl | rfl | rfl | rfl | rfl | rfl | rfl | rfl | rfl | rfl | rfl | rfl | rfl
    · exact q_0_0 a
    · exact absurd h (by decide)
    · exact absurd h (by decide)
    · exact absurd h (by decide)
    · exact absurd h (by decide)
    · exact absurd h (by decide)
    · exact absurd h (by decide)
    · exact absurd h (by decide)
    · exact absurd h (by decide)
    · exact absurd h (by decide)
    · exact absurd h (by decide)
    · exact absurd h (by decide)
    · exact absurd h (by decide)
    · exact absurd h (by decide)
    · exact absurd h (by decide)
    · exact absurd h (by decide)
  · rcases gC with rfl | rfl | rfl | rfl | rfl | rfl | rfl | rfl | rfl | rfl | rfl | rfl | rfl | rfl | rfl | rfl
    · exact absurd h (by decide)
    · exact q_1_1 a
    · exact q_1_2 a
    · exact absurd h (by decide)
    · exact q_1_4 a
    · exact absurd h (by decide)
    · exact absurd h (by decide)
    · exact absurd h (by decide)
    · exact q_1_8 a
    · exact absurd h (by decide)
    · exact absurd h (by decide)
    · exact absurd h (by decide)
    · exact absurd h (by decide)
    · exact absurd h (by decide)
    · exact absurd h (by decide)
    · exact absurd h (by decide)
  · rcases gC with rfl | rfl | rfl | rfl | rfl | rfl | rfl | rfl | rfl | rfl | rfl | rfl | rfl | rfl | rfl | rfl
    · exact absurd h (by decide)
    · exact q_2_1 a
    · exact q_2_2 a
    · exact absurd h (by decide)
    · exact q_2_4 a
    · exact absurd h (by decide)
    · exact absurd h (by decide)
    · exact absurd h (by decide)
    · exact q_2_8 a
    · exact absurd h (by decide)
    · exact absurd h (by decide)
    · exact absurd h (by decide)
    · exact absurd h (by decide)
    · exact absurd h (by decide)
    · exact absurd h (by decide)
    · exact absurd h (by decide)
  · rcases gC with rfl | rfl | rfl | rfl | rfl | rfl | rfl | rfl | rfl | rfl | rfl | rfl | rfl | rfl | rfl | rfl
    · exact absurd h (by decide)
    · exact absurd h (by decide)
    · exact absurd h (by decide)
    · exact q_3_3 a
    · exact absurd h (by decide)
    · exact q_3_5 a
    · exact q_3_6 a
    · exact absurd h (by decide)
    · exact absurd h (by decide)
    · exact q_3_9 a
    · exact q_3_10 a
    · exact absurd h (by decide)
    · exact q_3_12 a
    · exact absurd h (by decide)
    · exact absurd h (by decide)
    · exact absurd h (by decide)
  · rcases gC with rfl | rfl | rfl | rfl | rfl | rfl | rfl | rfl | rfl | rfl | rfl | rfl | rfl | rfl | rfl | rfl
    · exact absurd h (by decide)
    · exact q_4_1 a
    · exact q_4_2 a
    · exact absurd h (by decide)
    · exact q_4_4 a
    · exact absurd h (by decide)
    · exact absurd h (by decide)
    · exact absurd h (by decide)
    · exact q_4_8 a
    · exact absurd h (by decide)
    · exact absurd h (by decide)
    · exact absurd h (by decide)
    · exact absurd h (by decide)
    · exact absurd h (by decide)
    · exact absurd h (by decide)
    · exact absurd h (by decide)
  · rcases gC with rfl | rfl | rfl | rfl | rfl | rfl | rfl | rfl | rfl | rfl | rfl | rfl | rfl | rfl | rfl | rfl
    · exact absurd h (by decide)
    · exact absurd h (by decide)
    · exact absurd h (by decide)
    · exact q_5_3 a
    · exact absurd h (by decide)
    · exact q_5_5 a
    · exact q_5_6 a
    · exact absurd h (by decide)
    · exact absurd h (by decide)
    · exact q_5_9 a
    · exact q_5_10 a
    · exact absurd h (by decide)
    · exact q_5_12 a
    · exact absurd h (by decide)
    · exact absurd h (by decide)
    · exact absurd h (by decide)
  · rcases gC with rfl | rfl | rfl | rfl | rfl | rfl | rfl | rfl | rfl | rfl | rfl | rfl | rfl | rfl | rfl | rfl
    · exact absurd h (by decide)
    · exact absurd h (by decide)
    · exact absurd h (by decide)
    · exact q_6_3 a
    · exact absurd h (by decide)
    · exact q_6_5 a
    · exact q_6_6 a
    · exact absurd h (by decide)
    · exact absurd h (by decide)
    · exact q_6_9 a
    · exact q_6_10 a
    · exact absurd h (by decide)
    · exact q_6_12 a
    · exact absurd h (by decide)
    · exact absurd h (by decide)
    · exact absurd h (by decide)
  · rcases gC with rfl | rfl | rfl | rfl | rfl | rfl | rfl | rfl | rfl | rfl | rfl | rfl | rfl | rfl | rfl | rfl
    · exact absurd h (by decide)
    · exact absurd h (by decide)
    · exact absurd h (by decide)
    · exact absurd h (by decide)
    · exact absurd h (by decide)
    · exact absurd h (by decide)
    · exact absurd h (by decide)
    · exact q_7_7 a
    · exact absurd h (by decide)
    · exact absurd h (by decide)
    · exact absurd h (by decide)
    · exact q_7_11 a
    · exact absurd h (by decide)
    · exact q_7_13 a
    · exact q_7_14 a
    · exact absurd h (by decide)
  · rcases gC with rfl | rfl | rfl | rfl | rfl | rfl | rfl | rfl | rfl | rfl | rfl | rfl | rfl | rfl | rfl | rfl
    · exact absurd h (by decide)
    · exact q_8_1 a
    · exact q_8_2 a
    · exact absurd h (by decide)
    · exact q_8_4 a
    · exact absurd h (by decide)
    · exact absurd h (by decide)
    · exact absurd h (by decide)
    · exact q_8_8 a
    · exact absurd h (by decide)
    · exact absurd h (by decide)
    · exact absurd h (by decide)
    · exact absurd h (by decide)
    · exact absurd h (by decide)
    · exact absurd h (by decide)
    · exact absurd h (by decide)
  · rcases gC with rfl | rfl | rfl | rfl | rfl | rfl | rfl | rfl | rfl | rfl | rfl | rfl | rfl | rfl | rfl | rfl
    · exact absurd h (by decide)
    · exact absurd h (by decide)
    · exact absurd h (by decide)
    · exact q_9_3 a
    · exact absurd h (by decide)
    · exact q_9_5 a
    · exact q_9_6 a
    · exact absurd h (by decide)
    · exact absurd h (by decide)
    · exact q_9_9 a
    · exact q_9_10 a
    · exact absurd h (by decide)
    · exact q_9_12 a
    · exact absurd h (by decide)
    · exact absurd h (by decide)
    · exact absurd h (by decide)
  · rcases gC with rfl | rfl | rfl | rfl | rfl | rfl | rfl | rfl | rfl | rfl | rfl | rfl | rfl | rfl | rfl | rfl
    · exact absurd h (by decide)
    · exact absurd h (by decide)
    · exact absurd h (by decide)
    · exact q_10_3 a
    · exact absurd h (by decide)
    · exact q_10_5 a
    · exact q_10_6 a
    · exact absurd h (by decide)
    · exact absurd h (by decide)
    · exact q_10_9 a
    · exact q_10_10 a
    · exact absurd h (by decide)
    · exact q_10_12 a
    · exact absurd h (by decide)
    · exact absurd h (by decide)
    · exact absurd h (by decide)
  · rcases gC with rfl | rfl | rfl | rfl | rfl | rfl | rfl | rfl | rfl | rfl | rfl | rfl | rfl | rfl | rfl | rfl
    · exact absurd h (by decide)
    · exact absurd h (by decide)
    · exact absurd h (by decide)
    · exact absurd h (by decide)
    · exact absurd h (by decide)
    · exact absurd h (by decide)
    · exact absurd h (by decide)
    · exact q_11_7 a
    · exact absurd h (by decide)
    · exact absurd h (by decide)
    · exact absurd h (by decide)
    · exact q_11_11 a
    · exact absurd h (by decide)
    · exact q_11_13 a
    · exact q_11_14 a
    · exact absurd h (by decide)
  · rcases gC with rfl | rfl | rfl | rfl | rfl | rfl | rfl | rfl | rfl | rfl | rfl | rfl | rfl | rfl | rfl | rfl
    · exact absurd h (by decide)
    · exact absurd h (by decide)
    · exact absurd h (by decide)
    · exact q_12_3 a
    · exact absurd h (by decide)
    · exact q_12_5 a
    · exact q_12_6 a
    · exact absurd h (by decide)
    · exact absurd h (by decide)
    · exact q_12_9 a
    · exact q_12_10 a
    · exact absurd h (by decide)
    · exact q_12_12 a
    · exact absurd h (by decide)
    · exact absurd h (by decide)
    · exact absurd h (by decide)
  · rcases gC with rfl | rfl | rfl | rfl | rfl | rfl | rfl | rfl | rfl | rfl | rfl | rfl | rfl | rfl | rfl | rfl
    · exact absurd h (by decide)
    · exact absurd h (by decide)
    · exact absurd h (by decide)
    · exact absurd h (by decide)
    · exact absurd h (by decide)
    · exact absurd h (by decide)
    · exact absurd h (by decide)
    · exact q_13_7 a
    · exact absurd h (by decide)
    · exact absurd h (by decide)
    · exact absurd h (by decide)
    · exact q_13_11 a
    · exact absurd h (by decide)
    · exact q_13_13 a
    · exact q_13_14 a
    · exact absurd h (by decide)
  · rcases gC with rfl | rfl | rfl | rfl | rfl | rfl | rfl | rfl | rfl | rfl | rfl | rfl | rfl | rfl | rfl | rfl
    · exact absurd h (by decide)
    · exact absurd h (by decide)
    · exact absurd h (by decide)
    · exact absurd h (by decide)
    · exact absurd h (by decide)
    · exact absurd h (by decide)
    · exact absurd h (by decide)
    · exact q_14_7 a
    · exact absurd h (by decide)
    · exact absurd h (by decide)
    · exact absurd h (by decide)
    · exact q_14_11 a
    · exact absurd h (by decide)
    · exact q_14_13 a
    · exact q_14_14 a
    · exact absurd h (by decide)
  · rcases gC with rfl | rfl | rfl | rfl | rfl | rfl | rfl | rfl | rfl | rfl | rfl | rfl | rfl | rfl | rfl | rfl
    · exact absurd h (by decide)
    · exact absurd h (by decide)
    · exact absurd h (by decide)
    · exact absurd h (by decide)
    · exact absurd h (by decide)
    · exact absurd h (by decide)
    · exact absurd h (by decide)
    · exact absurd h (by decide)
    · exact absurd h (by decide)
    · exact absurd h (by decide)
    · exact absurd h (by decide)
    · exact absurd h (by decide)
    · exact absurd h (by decide)
    · exact absurd h (by decide)
    · exact absurd h (by decide)
    · exact q_15_15 a
