/-! a part's shares: sums -/
def sE (n : Nat) (B : Nat → Nat → Int) : Int := match n with
  | 0 => 0
  | 1 => 1
  | 2 => B 1 1 - B 1 0 - B 0 1 + B 0 0
  | 3 => d2 (B 1 1 - B 1 0 - B 0 1 + B 0 0) (B 1 2 - B 1 0 - B 0 2 + B 0 0) (B 2 1 - B 2 0 - B 0 1 + B 0 0) (B 2 2 - B 2 0 - B 0 2 + B 0 0)
  | _ => d3 (B 1 1 - B 1 0 - B 0 1 + B 0 0) (B 1 2 - B 1 0 - B 0 2 + B 0 0) (B 1 3 - B 1 0 - B 0 3 + B 0 0) (B 2 1 - B 2 0 - B 0 1 + B 0 0) (B 2 2 - B 2 0 - B 0 2 + B 0 0) (B 2 3 - B 2 0 - B 0 3 + B 0 0) (B 3 1 - B 3 0 - B 0 1 + B 0 0) (B 3 2 - B 3 0 - B 0 2 + B 0 0) (B 3 3 - B 3 0 - B 0 3 + B 0 0)
section IB
variable (a : Nat → Nat → Int)
theorem ld_1_1 : sDn a 1 1 = sE 1 (fun i j => a (sNt 1 i) (sNt 1 j)) := by
  show ((((0 : Int) + sRh a 1 1 0) + sRh a 1 1 1) + sRh a 1 1 2) + sRh a 1 1 3 = 1
  simp only [show sRh a 1 1 1 = 0 from rfl, show sRh a 1 1 2 = 0 from rfl, show sRh a 1 1 3 = 0 from rfl, hr_1_1_0, p_0_0]
  grind
theorem ld_1_2 : sDn a 1 2 = sE 1 (fun i j => a (sNt 1 i) (sNt 2 j)) := by
  show ((((0 : Int) + sRh a 1 2 0) + sRh a 1 2 1) + sRh a 1 2 2) + sRh a 1 2 3 = 1
  simp only [show sRh a 1 2 1 = 0 from rfl, show sRh a 1 2 2 = 0 from rfl, show sRh a 1 2 3 = 0 from rfl, hr_1_2_0, p_0_0]
  grind
theorem ld_1_4 : sDn a 1 4 = sE 1 (fun i j => a (sNt 1 i) (sNt 4 j)) := by
  show ((((0 : Int) + sRh a 1 4 0) + sRh a 1 4 1) + sRh a 1 4 2) + sRh a 1 4 3 = 1
  simp only [show sRh a 1 4 1 = 0 from rfl, show sRh a 1 4 2 = 0 from rfl, show sRh a 1 4 3 = 0 from rfl, hr_1_4_0, p_0_0]
  grind
theorem ld_1_8 : sDn a 1 8 = sE 1 (fun i j => a (sNt 1 i) (sNt 8 j)) := by
  show ((((0 : Int) + sRh a 1 8 0) + sRh a 1 8 1) + sRh a 1 8 2) + sRh a 1 8 3 = 1
  simp only [show sRh a 1 8 1 = 0 from rfl, show sRh a 1 8 2 = 0 from rfl, show sRh a 1 8 3 = 0 from rfl, hr_1_8_0, p_0_0]
  grind
theorem ld_2_1 : sDn a 2 1 = sE 1 (fun i j => a (sNt 2 i) (sNt 1 j)) := by
  show ((((0 : Int) + sRh a 2 1 0) + sRh a 2 1 1) + sRh a 2 1 2) + sRh a 2 1 3 = 1
  simp only [show sRh a 2 1 0 = 0 from rfl, show sRh a 2 1 2 = 0 from rfl, show sRh a 2 1 3 = 0 from rfl, hr_2_1_1, p_0_0]
  grind
theorem ld_2_2 : sDn a 2 2 = sE 1 (fun i j => a (sNt 2 i) (sNt 2 j)) := by
  show ((((0 : Int) + sRh a 2 2 0) + sRh a 2 2 1) + sRh a 2 2 2) + sRh a 2 2 3 = 1
  simp only [show sRh a 2 2 0 = 0 from rfl, show sRh a 2 2 2 = 0 from rfl, show sRh a 2 2 3 = 0 from rfl, hr_2_2_1, p_0_0]
  grind
theorem ld_2_4 : sDn a 2 4 = sE 1 (fun i j => a (sNt 2 i) (sNt 4 j)) := by
  show ((((0 : Int) + sRh a 2 4 0) + sRh a 2 4 1) + sRh a 2 4 2) + sRh a 2 4 3 = 1
  simp only [show sRh a 2 4 0 = 0 from rfl, show sRh a 2 4 2 = 0 from rfl, show sRh a 2 4 3 = 0 from rfl, hr_2_4_1, p_0_0]
  grind
theorem ld_2_8 : sDn a 2 8 = sE 1 (fun i j => a (sNt 2 i) (sNt 8 j)) := by
  show ((((0 : Int) + sRh a 2 8 0) + sRh a 2 8 1) + sRh a 2 8 2) + sRh a 2 8 3 = 1
  simp only [show sRh a 2 8 0 = 0 from rfl, show sRh a 2 8 2 = 0 from rfl, show sRh a 2 8 3 = 0 from rfl, hr_2_8_1, p_0_0]
  grind
theorem ld_3_3 : sDn a 3 3 = sE 2 (fun i j => a (sNt 3 i) (sNt 3 j)) := by
  show ((((0 : Int) + sRh a 3 3 0) + sRh a 3 3 1) + sRh a 3 3 2) + sRh a 3 3 3 = (a 1 1 - a 1 0 - a 0 1 + a 0 0)
  simp only [show sRh a 3 3 2 = 0 from rfl, show sRh a 3 3 3 = 0 from rfl, hr_3_3_0, hr_3_3_1, p_2_2, p_2_1, p_1_2, p_1_1]
  grind
theorem ld_3_5 : sDn a 3 5 = sE 2 (fun i j => a (sNt 3 i) (sNt 5 j)) := by
  show ((((0 : Int) + sRh a 3 5 0) + sRh a 3 5 1) + sRh a 3 5 2) + sRh a 3 5 3 = (a 1 2 - a 1 0 - a 0 2 + a 0 0)
  simp only [show sRh a 3 5 2 = 0 from rfl, show sRh a 3 5 3 = 0 from rfl, hr_3_5_0, hr_3_5_1, p_2_4, p_2_1, p_1_4, p_1_1]
  grind
theorem ld_3_6 : sDn a 3 6 = sE 2 (fun i j => a (sNt 3 i) (sNt 6 j)) := by
  show ((((0 : Int) + sRh a 3 6 0) + sRh a 3 6 1) + sRh a 3 6 2) + sRh a 3 6 3 = (a 1 2 - a 1 1 - a 0 2 + a 0 1)
  simp only [show sRh a 3 6 2 = 0 from rfl, show sRh a 3 6 3 = 0 from rfl, hr_3_6_0, hr_3_6_1, p_2_4, p_2_2, p_1_4, p_1_2]
  grind
theorem ld_3_9 : sDn a 3 9 = sE 2 (fun i j => a (sNt 3 i) (sNt 9 j)) := by
  show ((((0 : Int) + sRh a 3 9 0) + sRh a 3 9 1) + sRh a 3 9 2) + sRh a 3 9 3 = (a 1 3 - a 1 0 - a 0 3 + a 0 0)
  simp only [show sRh a 3 9 2 = 0 from rfl, show sRh a 3 9 3 = 0 from rfl, hr_3_9_0, hr_3_9_1, p_2_8, p_2_1, p_1_8, p_1_1]
  grind
theorem ld_3_10 : sDn a 3 10 = sE 2 (fun i j => a (sNt 3 i) (sNt 10 j)) := by
  show ((((0 : Int) + sRh a 3 10 0) + sRh a 3 10 1) + sRh a 3 10 2) + sRh a 3 10 3 = (a 1 3 - a 1 1 - a 0 3 + a 0 1)
  simp only [show sRh a 3 10 2 = 0 from rfl, show sRh a 3 10 3 = 0 from rfl, hr_3_10_0, hr_3_10_1, p_2_8, p_2_2, p_1_8, p_1_2]
  grind
theorem ld_3_12 : sDn a 3 12 = sE 2 (fun i j => a (sNt 3 i) (sNt 12 j)) := by
  show ((((0 : Int) + sRh a 3 12 0) + sRh a 3 12 1) + sRh a 3 12 2) + sRh a 3 12 3 = (a 1 3 - a 1 2 - a 0 3 + a 0 2)
  simp only [show sRh a 3 12 2 = 0 from rfl, show sRh a 3 12 3 = 0 from rfl, hr_3_12_0, hr_3_12_1, p_2_8, p_2_4, p_1_8, p_1_4]
  grind
theorem ld_4_1 : sDn a 4 1 = sE 1 (fun i j => a (sNt 4 i) (sNt 1 j)) := by
  show ((((0 : Int) + sRh a 4 1 0) + sRh a 4 1 1) + sRh a 4 1 2) + sRh a 4 1 3 = 1
  simp only [show sRh a 4 1 0 = 0 from rfl, show sRh a 4 1 1 = 0 from rfl, show sRh a 4 1 3 = 0 from rfl, hr_4_1_2, p_0_0]
  grind
theorem ld_4_2 : sDn a 4 2 = sE 1 (fun i j => a (sNt 4 i) (sNt 2 j)) := by
  show ((((0 : Int) + sRh a 4 2 0) + sRh a 4 2 1) + sRh a 4 2 2) + sRh a 4 2 3 = 1
  simp only [show sRh a 4 2 0 = 0 from rfl, show sRh a 4 2 1 = 0 from rfl, show sRh a 4 2 3 = 0 from rfl, hr_4_2_2, p_0_0]
  grind
theorem ld_4_4 : sDn a 4 4 = sE 1 (fun i j => a (sNt 4 i) (sNt 4 j)) := by
  show ((((0 : Int) + sRh a 4 4 0) + sRh a 4 4 1) + sRh a 4 4 2) + sRh a 4 4 3 = 1
  simp only [show sRh a 4 4 0 = 0 from rfl, show sRh a 4 4 1 = 0 from rfl, show sRh a 4 4 3 = 0 from rfl, hr_4_4_2, p_0_0]
  grind
theorem ld_4_8 : sDn a 4 8 = sE 1 (fun i j => a (sNt 4 i) (sNt 8 j)) := by
  show ((((0 : Int) + sRh a 4 8 0) + sRh a 4 8 1) + sRh a 4 8 2) + sRh a 4 8 3 = 1
  simp only [show sRh a 4 8 0 = 0 from rfl, show sRh a 4 8 1 = 0 from rfl, show sRh a 4 8 3 = 0 from rfl, hr_4_8_2, p_0_0]
  grind
theorem ld_5_3 : sDn a 5 3 = sE 2 (fun i j => a (sNt 5 i) (sNt 3 j)) := by
  show ((((0 : Int) + sRh a 5 3 0) + sRh a 5 3 1) + sRh a 5 3 2) + sRh a 5 3 3 = (a 2 1 - a 2 0 - a 0 1 + a 0 0)
  simp only [show sRh a 5 3 1 = 0 from rfl, show sRh a 5 3 3 = 0 from rfl, hr_5_3_0, hr_5_3_2, p_4_2, p_4_1, p_1_2, p_1_1]
  grind
theorem ld_5_5 : sDn a 5 5 = sE 2 (fun i j => a (sNt 5 i) (sNt 5 j)) := by
  show ((((0 : Int) + sRh a 5 5 0) + sRh a 5 5 1) + sRh a 5 5 2) + sRh a 5 5 3 = (a 2 2 - a 2 0 - a 0 2 + a 0 0)
  simp only [show sRh a 5 5 1 = 0 from rfl, show sRh a 5 5 3 = 0 from rfl, hr_5_5_0, hr_5_5_2, p_4_4, p_4_1, p_1_4, p_1_1]
  grind
theorem ld_5_6 : sDn a 5 6 = sE 2 (fun i j => a (sNt 5 i) (sNt 6 j)) := by
  show ((((0 : Int) + sRh a 5 6 0) + sRh a 5 6 1) + sRh a 5 6 2) + sRh a 5 6 3 = (a 2 2 - a 2 1 - a 0 2 + a 0 1)
  simp only [show sRh a 5 6 1 = 0 from rfl, show sRh a 5 6 3 = 0 from rfl, hr_5_6_0, hr_5_6_2, p_4_4, p_4_2, p_1_4, p_1_2]
  grind
theorem ld_5_9 : sDn a 5 9 = sE 2 (fun i j => a (sNt 5 i) (sNt 9 j)) := by
  show ((((0 : Int) + sRh a 5 9 0) + sRh a 5 9 1) + sRh a 5 9 2) + sRh a 5 9 3 = (a 2 3 - a 2 0 - a 0 3 + a 0 0)
  simp only [show sRh a 5 9 1 = 0 from rfl, show sRh a 5 9 3 = 0 from rfl, hr_5_9_0, hr_5_9_2, p_4_8, p_4_1, p_1_8, p_1_1]
  grind
theorem ld_5_10 : sDn a 5 10 = sE 2 (fun i j => a (sNt 5 i) (sNt 10 j)) := by
  show ((((0 : Int) + sRh a 5 10 0) + sRh a 5 10 1) + sRh a 5 10 2) + sRh a 5 10 3 = (a 2 3 - a 2 1 - a 0 3 + a 0 1)
  simp only [show sRh a 5 10 1 = 0 from rfl, show sRh a 5 10 3 = 0 from rfl, hr_5_10_0, hr_5_10_2, p_4_8, p_4_2, p_1_8, p_1_2]
  grind
theorem ld_5_12 : sDn a 5 12 = sE 2 (fun i j => a (sNt 5 i) (sNt 12 j)) := by
  show ((((0 : Int) + sRh a 5 12 0) + sRh a 5 12 1) + sRh a 5 12 2) + sRh a 5 12 3 = (a 2 3 - a 2 2 - a 0 3 + a 0 2)
  simp only [show sRh a 5 12 1 = 0 from rfl, show sRh a 5 12 3 = 0 from rfl, hr_5_12_0, hr_5_12_2, p_4_8, p_4_4, p_1_8, p_1_4]
  grind
theorem ld_6_3 : sDn a 6 3 = sE 2 (fun i j => a (sNt 6 i) (sNt 3 j)) := by
  show ((((0 : Int) + sRh a 6 3 0) + sRh a 6 3 1) + sRh a 6 3 2) + sRh a 6 3 3 = (a 2 1 - a 2 0 - a 1 1 + a 1 0)
  simp only [show sRh a 6 3 0 = 0 from rfl, show sRh a 6 3 3 = 0 from rfl, hr_6_3_1, hr_6_3_2, p_4_2, p_4_1, p_2_2, p_2_1]
  grind
theorem ld_6_5 : sDn a 6 5 = sE 2 (fun i j => a (sNt 6 i) (sNt 5 j)) := by
  show ((((0 : Int) + sRh a 6 5 0) + sRh a 6 5 1) + sRh a 6 5 2) + sRh a 6 5 3 = (a 2 2 - a 2 0 - a 1 2 + a 1 0)
  simp only [show sRh a 6 5 0 = 0 from rfl, show sRh a 6 5 3 = 0 from rfl, hr_6_5_1, hr_6_5_2, p_4_4, p_4_1, p_2_4, p_2_1]
  grind
theorem ld_6_6 : sDn a 6 6 = sE 2 (fun i j => a (sNt 6 i) (sNt 6 j)) := by
  show ((((0 : Int) + sRh a 6 6 0) + sRh a 6 6 1) + sRh a 6 6 2) + sRh a 6 6 3 = (a 2 2 - a 2 1 - a 1 2 + a 1 1)
  simp only [show sRh a 6 6 0 = 0 from rfl, show sRh a 6 6 3 = 0 from rfl, hr_6_6_1, hr_6_6_2, p_4_4, p_4_2, p_2_4, p_2_2]
  grind
theorem ld_6_9 : sDn a 6 9 = sE 2 (fun i j => a (sNt 6 i) (sNt 9 j)) := by
  show ((((0 : Int) + sRh a 6 9 0) + sRh a 6 9 1) + sRh a 6 9 2) + sRh a 6 9 3 = (a 2 3 - a 2 0 - a 1 3 + a 1 0)
  simp only [show sRh a 6 9 0 = 0 from rfl, show sRh a 6 9 3 = 0 from rfl, hr_6_9_1, hr_6_9_2, p_4_8, p_4_1, p_2_8, p_2_1]
  grind
theorem ld_6_10 : sDn a 6 10 = sE 2 (fun i j => a (sNt 6 i) (sNt 10 j)) := by
  show ((((0 : Int) + sRh a 6 10 0) + sRh a 6 10 1) + sRh a 6 10 2) + sRh a 6 10 3 = (a 2 3 - a 2 1 - a 1 3 + a 1 1)
  simp only [show sRh a 6 10 0 = 0 from rfl, show sRh a 6 10 3 = 0 from rfl, hr_6_10_1, hr_6_10_2, p_4_8, p_4_2, p_2_8, p_2_2]
  grind
theorem ld_6_12 : sDn a 6 12 = sE 2 (fun i j => a (sNt 6 i) (sNt 12 j)) := by
  show ((((0 : Int) + sRh a 6 12 0) + sRh a 6 12 1) + sRh a 6 12 2) + sRh a 6 12 3 = (a 2 3 - a 2 2 - a 1 3 + a 1 2)
  simp only [show sRh a 6 12 0 = 0 from rfl, show sRh a 6 12 3 = 0 from rfl, hr_6_12_1, hr_6_12_2, p_4_8, p_4_4, p_2_8, p_2_4]
  grind
theorem ld_7_7 : sDn a 7 7 = sE 3 (fun i j => a (sNt 7 i) (sNt 7 j)) := by
  show ((((0 : Int) + sRh a 7 7 0) + sRh a 7 7 1) + sRh a 7 7 2) + sRh a 7 7 3 = d2 (a 1 1 - a 1 0 - a 0 1 + a 0 0) (a 1 2 - a 1 0 - a 0 2 + a 0 0) (a 2 1 - a 2 0 - a 0 1 + a 0 0) (a 2 2 - a 2 0 - a 0 2 + a 0 0)
  simp only [show sRh a 7 7 3 = 0 from rfl, hr_7_7_0, hr_7_7_1, hr_7_7_2, p_6_6, p_6_5, p_6_3, p_5_6, p_5_5, p_5_3, p_3_6, p_3_5, p_3_3]
  unfold d2
  grind
theorem ld_7_11 : sDn a 7 11 = sE 3 (fun i j => a (sNt 7 i) (sNt 11 j)) := by
  show ((((0 : Int) + sRh a 7 11 0) + sRh a 7 11 1) + sRh a 7 11 2) + sRh a 7 11 3 = d2 (a 1 1 - a 1 0 - a 0 1 + a 0 0) (a 1 3 - a 1 0 - a 0 3 + a 0 0) (a 2 1 - a 2 0 - a 0 1 + a 0 0) (a 2 3 - a 2 0 - a 0 3 + a 0 0)
  simp only [show sRh a 7 11 3 = 0 from rfl, hr_7_11_0, hr_7_11_1, hr_7_11_2, p_6_10, p_6_9, p_6_3, p_5_10, p_5_9, p_5_3, p_3_10, p_3_9, p_3_3]
  unfold d2
  grind
theorem ld_7_13 : sDn a 7 13 = sE 3 (fun i j => a (sNt 7 i) (sNt 13 j)) := by
  show ((((0 : Int) + sRh a 7 13 0) + sRh a 7 13 1) + sRh a 7 13 2) + sRh a 7 13 3 = d2 (a 1 2 - a 1 0 - a 0 2 + a 0 0) (a 1 3 - a 1 0 - a 0 3 + a 0 0) (a 2 2 - a 2 0 - a 0 2 + a 0 0) (a 2 3 - a 2 0 - a 0 3 + a 0 0)
  simp only [show sRh a 7 13 3 = 0 from rfl, hr_7_13_0, hr_7_13_1, hr_7_13_2, p_6_12, p_6_9, p_6_5, p_5_12, p_5_9, p_5_5, p_3_12, p_3_9, p_3_5]
  unfold d2
  grind
theorem ld_7_14 : sDn a 7 14 = sE 3 (fun i j => a (sNt 7 i) (sNt 14 j)) := by
  show ((((0 : Int) + sRh a 7 14 0) + sRh a 7 14 1) + sRh a 7 14 2) + sRh a 7 14 3 = d2 (a 1 2 - a 1 1 - a 0 2 + a 0 1) (a 1 3 - a 1 1 - a 0 3 + a 0 1) (a 2 2 - a 2 1 - a 0 2 + a 0 1) (a 2 3 - a 2 1 - a 0 3 + a 0 1)
  simp only [show sRh a 7 14 3 = 0 from rfl, hr_7_14_0, hr_7_14_1, hr_7_14_2, p_6_12, p_6_10, p_6_6, p_5_12, p_5_10, p_5_6, p_3_12, p_3_10, p_3_6]
  unfold d2
  grind
theorem ld_8_1 : sDn a 8 1 = sE 1 (fun i j => a (sNt 8 i) (sNt 1 j)) := by
  show ((((0 : Int) + sRh a 8 1 0) + sRh a 8 1 1) + sRh a 8 1 2) + sRh a 8 1 3 = 1
  simp only [show sRh a 8 1 0 = 0 from rfl, show sRh a 8 1 1 = 0 from rfl, show sRh a 8 1 2 = 0 from rfl, hr_8_1_3, p_0_0]
  grind
theorem ld_8_2 : sDn a 8 2 = sE 1 (fun i j => a (sNt 8 i) (sNt 2 j)) := by
  show ((((0 : Int) + sRh a 8 2 0) + sRh a 8 2 1) + sRh a 8 2 2) + sRh a 8 2 3 = 1
  simp only [show sRh a 8 2 0 = 0 from rfl, show sRh a 8 2 1 = 0 from rfl, show sRh a 8 2 2 = 0 from rfl, hr_8_2_3, p_0_0]
  grind
theorem ld_8_4 : sDn a 8 4 = sE 1 (fun i j => a (sNt 8 i) (sNt 4 j)) := by
  show ((((0 : Int) + sRh a 8 4 0) + sRh a 8 4 1) + sRh a 8 4 2) + sRh a 8 4 3 = 1
  simp only [show sRh a 8 4 0 = 0 from rfl, show sRh a 8 4 1 = 0 from rfl, show sRh a 8 4 2 = 0 from rfl, hr_8_4_3, p_0_0]
  grind
theorem ld_8_8 : sDn a 8 8 = sE 1 (fun i j => a (sNt 8 i) (sNt 8 j)) := by
  show ((((0 : Int) + sRh a 8 8 0) + sRh a 8 8 1) + sRh a 8 8 2) + sRh a 8 8 3 = 1
  simp only [show sRh a 8 8 0 = 0 from rfl, show sRh a 8 8 1 = 0 from rfl, show sRh a 8 8 2 = 0 from rfl, hr_8_8_3, p_0_0]
  grind
theorem ld_9_3 : sDn a 9 3 = sE 2 (fun i j => a (sNt 9 i) (sNt 3 j)) := by
  show ((((0 : Int) + sRh a 9 3 0) + sRh a 9 3 1) + sRh a 9 3 2) + sRh a 9 3 3 = (a 3 1 - a 3 0 - a 0 1 + a 0 0)
  simp only [show sRh a 9 3 1 = 0 from rfl, show sRh a 9 3 2 = 0 from rfl, hr_9_3_0, hr_9_3_3, p_8_2, p_8_1, p_1_2, p_1_1]
  grind
theorem ld_9_5 : sDn a 9 5 = sE 2 (fun i j => a (sNt 9 i) (sNt 5 j)) := by
  show ((((0 : Int) + sRh a 9 5 0) + sRh a 9 5 1) + sRh a 9 5 2) + sRh a 9 5 3 = (a 3 2 - a 3 0 - a 0 2 + a 0 0)
  simp only [show sRh a 9 5 1 = 0 from rfl, show sRh a 9 5 2 = 0 from rfl, hr_9_5_0, hr_9_5_3, p_8_4, p_8_1, p_1_4, p_1_1]
  grind
theorem ld_9_6 : sDn a 9 6 = sE 2 (fun i j => a (sNt 9 i) (sNt 6 j)) := by
  show ((((0 : Int) + sRh a 9 6 0) + sRh a 9 6 1) + sRh a 9 6 2) + sRh a 9 6 3 = (a 3 2 - a 3 1 - a 0 2 + a 0 1)
  simp only [show sRh a 9 6 1 = 0 from rfl, show sRh a 9 6 2 = 0 from rfl, hr_9_6_0, hr_9_6_3, p_8_4, p_8_2, p_1_4, p_1_2]
  grind
theorem ld_9_9 : sDn a 9 9 = sE 2 (fun i j => a (sNt 9 i) (sNt 9 j)) := by
  show ((((0 : Int) + sRh a 9 9 0) + sRh a 9 9 1) + sRh a 9 9 2) + sRh a 9 9 3 = (a 3 3 - a 3 0 - a 0 3 + a 0 0)
  simp only [show sRh a 9 9 1 = 0 from rfl, show sRh a 9 9 2 = 0 from rfl, hr_9_9_0, hr_9_9_3, p_8_8, p_8_1, p_1_8, p_1_1]
  grind
theorem ld_9_10 : sDn a 9 10 = sE 2 (fun i j => a (sNt 9 i) (sNt 10 j)) := by
  show ((((0 : Int) + sRh a 9 10 0) + sRh a 9 10 1) + sRh a 9 10 2) + sRh a 9 10 3 = (a 3 3 - a 3 1 - a 0 3 + a 0 1)
  simp only [show sRh a 9 10 1 = 0 from rfl, show sRh a 9 10 2 = 0 from rfl, hr_9_10_0, hr_9_10_3, p_8_8, p_8_2, p_1_8, p_1_2]
  grind
theorem ld_9_12 : sDn a 9 12 = sE 2 (fun i j => a (sNt 9 i) (sNt 12 j)) := by
  show ((((0 : Int) + sRh a 9 12 0) + sRh a 9 12 1) + sRh a 9 12 2) + sRh a 9 12 3 = (a 3 3 - a 3 2 - a 0 3 + a 0 2)
  simp only [show sRh a 9 12 1 = 0 from rfl, show sRh a 9 12 2 = 0 from rfl, hr_9_12_0, hr_9_12_3, p_8_8, p_8_4, p_1_8, p_1_4]
  grind
theorem ld_10_3 : sDn a 10 3 = sE 2 (fun i j => a (sNt 10 i) (sNt 3 j)) := by
  show ((((0 : Int) + sRh a 10 3 0) + sRh a 10 3 1) + sRh a 10 3 2) + sRh a 10 3 3 = (a 3 1 - a 3 0 - a 1 1 + a 1 0)
  simp only [show sRh a 10 3 0 = 0 from rfl, show sRh a 10 3 2 = 0 from rfl, hr_10_3_1, hr_10_3_3, p_8_2, p_8_1, p_2_2, p_2_1]
  grind
theorem ld_10_5 : sDn a 10 5 = sE 2 (fun i j => a (sNt 10 i) (sNt 5 j)) := by
  show ((((0 : Int) + sRh a 10 5 0) + sRh a 10 5 1) + sRh a 10 5 2) + sRh a 10 5 3 = (a 3 2 - a 3 0 - a 1 2 + a 1 0)
  simp only [show sRh a 10 5 0 = 0 from rfl, show sRh a 10 5 2 = 0 from rfl, hr_10_5_1, hr_10_5_3, p_8_4, p_8_1, p_2_4, p_2_1]
  grind
theorem ld_10_6 : sDn a 10 6 = sE 2 (fun i j => a (sNt 10 i) (sNt 6 j)) := by
  show ((((0 : Int) + sRh a 10 6 0) + sRh a 10 6 1) + sRh a 10 6 2) + sRh a 10 6 3 = (a 3 2 - a 3 1 - a 1 2 + a 1 1)
  simp only [show sRh a 10 6 0 = 0 from rfl, show sRh a 10 6 2 = 0 from rfl, hr_10_6_1, hr_10_6_3, p_8_4, p_8_2, p_2_4, p_2_2]
  grind
theorem ld_10_9 : sDn a 10 9 = sE 2 (fun i j => a (sNt 10 i) (sNt 9 j)) := by
  show ((((0 : Int) + sRh a 10 9 0) + sRh a 10 9 1) + sRh a 10 9 2) + sRh a 10 9 3 = (a 3 3 - a 3 0 - a 1 3 + a 1 0)
  simp only [show sRh a 10 9 0 = 0 from rfl, show sRh a 10 9 2 = 0 from rfl, hr_10_9_1, hr_10_9_3, p_8_8, p_8_1, p_2_8, p_2_1]
  grind
theorem ld_10_10 : sDn a 10 10 = sE 2 (fun i j => a (sNt 10 i) (sNt 10 j)) := by
  show ((((0 : Int) + sRh a 10 10 0) + sRh a 10 10 1) + sRh a 10 10 2) + sRh a 10 10 3 = (a 3 3 - a 3 1 - a 1 3 + a 1 1)
  simp only [show sRh a 10 10 0 = 0 from rfl, show sRh a 10 10 2 = 0 from rfl, hr_10_10_1, hr_10_10_3, p_8_8, p_8_2, p_2_8, p_2_2]
  grind
theorem ld_10_12 : sDn a 10 12 = sE 2 (fun i j => a (sNt 10 i) (sNt 12 j)) := by
  show ((((0 : Int) + sRh a 10 12 0) + sRh a 10 12 1) + sRh a 10 12 2) + sRh a 10 12 3 = (a 3 3 - a 3 2 - a 1 3 + a 1 2)
  simp only [show sRh a 10 12 0 = 0 from rfl, show sRh a 10 12 2 = 0 from rfl, hr_10_12_1, hr_10_12_3, p_8_8, p_8_4, p_2_8, p_2_4]
  grind
theorem ld_11_7 : sDn a 11 7 = sE 3 (fun i j => a (sNt 11 i) (sNt 7 j)) := by
  show ((((0 : Int) + sRh a 11 7 0) + sRh a 11 7 1) + sRh a 11 7 2) + sRh a 11 7 3 = d2 (a 1 1 - a 1 0 - a 0 1 + a 0 0) (a 1 2 - a 1 0 - a 0 2 + a 0 0) (a 3 1 - a 3 0 - a 0 1 + a 0 0) (a 3 2 - a 3 0 - a 0 2 + a 0 0)
  simp only [show sRh a 11 7 2 = 0 from rfl, hr_11_7_0, hr_11_7_1, hr_11_7_3, p_10_6, p_10_5, p_10_3, p_9_6, p_9_5, p_9_3, p_3_6, p_3_5, p_3_3]
  unfold d2
  grind
theorem ld_11_11 : sDn a 11 11 = sE 3 (fun i j => a (sNt 11 i) (sNt 11 j)) := by
  show ((((0 : Int) + sRh a 11 11 0) + sRh a 11 11 1) + sRh a 11 11 2) + sRh a 11 11 3 = d2 (a 1 1 - a 1 0 - a 0 1 + a 0 0) (a 1 3 - a 1 0 - a 0 3 + a 0 0) (a 3 1 - a 3 0 - a 0 1 + a 0 0) (a 3 3 - a 3 0 - a 0 3 + a 0 0)
  simp only [show sRh a 11 11 2 = 0 from rfl, hr_11_11_0, hr_11_11_1, hr_11_11_3, p_10_10, p_10_9, p_10_3, p_9_10, p_9_9, p_9_3, p_3_10, p_3_9, p_3_3]
  unfold d2
  grind
theorem ld_11_13 : sDn a 11 13 = sE 3 (fun i j => a (sNt 11 i) (sNt 13 j)) := by
  show ((((0 : Int) + sRh a 11 13 0) + sRh a 11 13 1) + sRh a 11 13 2) + sRh a 11 13 3 = d2 (a 1 2 - a 1 0 - a 0 2 + a 0 0) (a 1 3 - a 1 0 - a 0 3 + a 0 0) (a 3 2 - a 3 0 - a 0 2 + a 0 0) (a 3 3 - a 3 0 - a 0 3 + a 0 0)
  simp only [show sRh a 11 13 2 = 0 from rfl, hr_11_13_0, hr_11_13_1, hr_11_13_3, p_10_12, p_10_9, p_10_5, p_9_12, p_9_9, p_9_5, p_3_12, p_3_9, p_3_5]
  unfold d2
  grind
theorem ld_11_14 : sDn a 11 14 = sE 3 (fun i j => a (sNt 11 i) (sNt 14 j)) := by
  show ((((0 : Int) + sRh a 11 14 0) + sRh a 11 14 1) + sRh a 11 14 2) + sRh a 11 14 3 = d2 (a 1 2 - a 1 1 - a 0 2 + a 0 1) (a 1 3 - a 1 1 - a 0 3 + a 0 1) (a 3 2 - a 3 1 - a 0 2 + a 0 1) (a 3 3 - a 3 1 - a 0 3 + a 0 1)
  simp only [show sRh a 11 14 2 = 0 from rfl, hr_11_14_0, hr_11_14_1, hr_11_14_3, p_10_12, p_10_10, p_10_6, p_9_12, p_9_10, p_9_6, p_3_12, p_3_10, p_3_6]
  unfold d2
  grind
theorem ld_12_3 : sDn a 12 3 = sE 2 (fun i j => a (sNt 12 i) (sNt 3 j)) := by
  show ((((0 : Int) + sRh a 12 3 0) + sRh a 12 3 1) + sRh a 12 3 2) + sRh a 12 3 3 = (a 3 1 - a 3 0 - a 2 1 + a 2 0)
  simp only [show sRh a 12 3 0 = 0 from rfl, show sRh a 12 3 1 = 0 from rfl, hr_12_3_2, hr_12_3_3, p_8_2, p_8_1, p_4_2, p_4_1]
  grind
theorem ld_12_5 : sDn a 12 5 = sE 2 (fun i j => a (sNt 12 i) (sNt 5 j)) := by
  show ((((0 : Int) + sRh a 12 5 0) + sRh a 12 5 1) + sRh a 12 5 2) + sRh a 12 5 3 = (a 3 2 - a 3 0 - a 2 2 + a 2 0)
  simp only [show sRh a 12 5 0 = 0 from rfl, show sRh a 12 5 1 = 0 from rfl, hr_12_5_2, hr_12_5_3, p_8_4, p_8_1, p_4_4, p_4_1]
  grind
theorem ld_12_6 : sDn a 12 6 = sE 2 (fun i j => a (sNt 12 i) (sNt 6 j)) := by
  show ((((0 : Int) + sRh a 12 6 0) + sRh a 12 6 1) + sRh a 12 6 2) + sRh a 12 6 3 = (a 3 2 - a 3 1 - a 2 2 + a 2 1)
  simp only [show sRh a 12 6 0 = 0 from rfl, show sRh a 12 6 1 = 0 from rfl, hr_12_6_2, hr_12_6_3, p_8_4, p_8_2, p_4_4, p_4_2]
  grind
theorem ld_12_9 : sDn a 12 9 = sE 2 (fun i j => a (sNt 12 i) (sNt 9 j)) := by
  show ((((0 : Int) + sRh a 12 9 0) + sRh a 12 9 1) + sRh a 12 9 2) + sRh a 12 9 3 = (a 3 3 - a 3 0 - a 2 3 + a 2 0)
  simp only [show sRh a 12 9 0 = 0 from rfl, show sRh a 12 9 1 = 0 from rfl, hr_12_9_2, hr_12_9_3, p_8_8, p_8_1, p_4_8, p_4_1]
  grind
theorem ld_12_10 : sDn a 12 10 = sE 2 (fun i j => a (sNt 12 i) (sNt 10 j)) := by
  show ((((0 : Int) + sRh a 12 10 0) + sRh a 12 10 1) + sRh a 12 10 2) + sRh a 12 10 3 = (a 3 3 - a 3 1 - a 2 3 + a 2 1)
  simp only [show sRh a 12 10 0 = 0 from rfl, show sRh a 12 10 1 = 0 from rfl, hr_12_10_2, hr_12_10_3, p_8_8, p_8_2, p_4_8, p_4_2]
  grind
theorem ld_12_12 : sDn a 12 12 = sE 2 (fun i j => a (sNt 12 i) (sNt 12 j)) := by
  show ((((0 : Int) + sRh a 12 12 0) + sRh a 12 12 1) + sRh a 12 12 2) + sRh a 12 12 3 = (a 3 3 - a 3 2 - a 2 3 + a 2 2)
  simp only [show sRh a 12 12 0 = 0 from rfl, show sRh a 12 12 1 = 0 from rfl, hr_12_12_2, hr_12_12_3, p_8_8, p_8_4, p_4_8, p_4_4]
  grind
theorem ld_13_7 : sDn a 13 7 = sE 3 (fun i j => a (sNt 13 i) (sNt 7 j)) := by
  show ((((0 : Int) + sRh a 13 7 0) + sRh a 13 7 1) + sRh a 13 7 2) + sRh a 13 7 3 = d2 (a 2 1 - a 2 0 - a 0 1 + a 0 0) (a 2 2 - a 2 0 - a 0 2 + a 0 0) (a 3 1 - a 3 0 - a 0 1 + a 0 0) (a 3 2 - a 3 0 - a 0 2 + a 0 0)
  simp only [show sRh a 13 7 1 = 0 from rfl, hr_13_7_0, hr_13_7_2, hr_13_7_3, p_12_6, p_12_5, p_12_3, p_9_6, p_9_5, p_9_3, p_5_6, p_5_5, p_5_3]
  unfold d2
  grind
theorem ld_13_11 : sDn a 13 11 = sE 3 (fun i j => a (sNt 13 i) (sNt 11 j)) := by
  show ((((0 : Int) + sRh a 13 11 0) + sRh a 13 11 1) + sRh a 13 11 2) + sRh a 13 11 3 = d2 (a 2 1 - a 2 0 - a 0 1 + a 0 0) (a 2 3 - a 2 0 - a 0 3 + a 0 0) (a 3 1 - a 3 0 - a 0 1 + a 0 0) (a 3 3 - a 3 0 - a 0 3 + a 0 0)
  simp only [show sRh a 13 11 1 = 0 from rfl, hr_13_11_0, hr_13_11_2, hr_13_11_3, p_12_10, p_12_9, p_12_3, p_9_10, p_9_9, p_9_3, p_5_10, p_5_9, p_5_3]
  unfold d2
  grind
theorem ld_13_13 : sDn a 13 13 = sE 3 (fun i j => a (sNt 13 i) (sNt 13 j)) := by
  show ((((0 : Int) + sRh a 13 13 0) + sRh a 13 13 1) + sRh a 13 13 2) + sRh a 13 13 3 = d2 (a 2 2 - a 2 0 - a 0 2 + a 0 0) (a 2 3 - a 2 0 - a 0 3 + a 0 0) (a 3 2 - a 3 0 - a 0 2 + a 0 0) (a 3 3 - a 3 0 - a 0 3 + a 0 0)
  simp only [show sRh a 13 13 1 = 0 from rfl, hr_13_13_0, hr_13_13_2, hr_13_13_3, p_12_12, p_12_9, p_12_5, p_9_12, p_9_9, p_9_5, p_5_12, p_5_9, p_5_5]
  unfold d2
  grind
theorem ld_13_14 : sDn a 13 14 = sE 3 (fun i j => a (sNt 13 i) (sNt 14 j)) := by
  show ((((0 : Int) + sRh a 13 14 0) + sRh a 13 14 1) + sRh a 13 14 2) + sRh a 13 14 3 = d2 (a 2 2 - a 2 1 - a 0 2 + a 0 1) (a 2 3 - a 2 1 - a 0 3 + a 0 1) (a 3 2 - a 3 1 - a 0 2 + a 0 1) (a 3 3 - a 3 1 - a 0 3 + a 0 1)
  simp only [show sRh a 13 14 1 = 0 from rfl, hr_13_14_0, hr_13_14_2, hr_13_14_3, p_12_12, p_12_10, p_12_6, p_9_12, p_9_10, p_9_6, p_5_12, p_5_10, p_5_6]
  unfold d2
  grind
theorem ld_14_7 : sDn a 14 7 = sE 3 (fun i j => a (sNt 14 i) (sNt 7 j)) := by
  show ((((0 : Int) + sRh a 14 7 0) + sRh a 14 7 1) + sRh a 14 7 2) + sRh a 14 7 3 = d2 (a 2 1 - a 2 0 - a 1 1 + a 1 0) (a 2 2 - a 2 0 - a 1 2 + a 1 0) (a 3 1 - a 3 0 - a 1 1 + a 1 0) (a 3 2 - a 3 0 - a 1 2 + a 1 0)
  simp only [show sRh a 14 7 0 = 0 from rfl, hr_14_7_1, hr_14_7_2, hr_14_7_3, p_12_6, p_12_5, p_12_3, p_10_6, p_10_5, p_10_3, p_6_6, p_6_5, p_6_3]
  unfold d2
  grind
theorem ld_14_11 : sDn a 14 11 = sE 3 (fun i j => a (sNt 14 i) (sNt 11 j)) := by
  show ((((0 : Int) + sRh a 14 11 0) + sRh a 14 11 1) + sRh a 14 11 2) + sRh a 14 11 3 = d2 (a 2 1 - a 2 0 - a 1 1 + a 1 0) (a 2 3 - a 2 0 - a 1 3 + a 1 0) (a 3 1 - a 3 0 - a 1 1 + a 1 0) (a 3 3 - a 3 0 - a 1 3 + a 1 0)
  simp only [show sRh a 14 11 0 = 0 from rfl, hr_14_11_1, hr_14_11_2, hr_14_11_3, p_12_10, p_12_9, p_12_3, p_10_10, p_10_9, p_10_3, p_6_10, p_6_9, p_6_3]
  unfold d2
  grind
theorem ld_14_13 : sDn a 14 13 = sE 3 (fun i j => a (sNt 14 i) (sNt 13 j)) := by
  show ((((0 : Int) + sRh a 14 13 0) + sRh a 14 13 1) + sRh a 14 13 2) + sRh a 14 13 3 = d2 (a 2 2 - a 2 0 - a 1 2 + a 1 0) (a 2 3 - a 2 0 - a 1 3 + a 1 0) (a 3 2 - a 3 0 - a 1 2 + a 1 0) (a 3 3 - a 3 0 - a 1 3 + a 1 0)
  simp only [show sRh a 14 13 0 = 0 from rfl, hr_14_13_1, hr_14_13_2, hr_14_13_3, p_12_12, p_12_9, p_12_5, p_10_12, p_10_9, p_10_5, p_6_12, p_6_9, p_6_5]
  unfold d2
  grind
theorem ld_14_14 : sDn a 14 14 = sE 3 (fun i j => a (sNt 14 i) (sNt 14 j)) := by
  show ((((0 : Int) + sRh a 14 14 0) + sRh a 14 14 1) + sRh a 14 14 2) + sRh a 14 14 3 = d2 (a 2 2 - a 2 1 - a 1 2 + a 1 1) (a 2 3 - a 2 1 - a 1 3 + a 1 1) (a 3 2 - a 3 1 - a 1 2 + a 1 1) (a 3 3 - a 3 1 - a 1 3 + a 1 1)
  simp only [show sRh a 14 14 0 = 0 from rfl, hr_14_14_1, hr_14_14_2, hr_14_14_3, p_12_12, p_12_10, p_12_6, p_10_12, p_10_10, p_10_6, p_6_12, p_6_10, p_6_6]
  unfold d2
  grind
theorem ld_15_15 : sDn a 15 15 = sE 4 (fun i j => a (sNt 15 i) (sNt 15 j)) := by
  show ((((0 : Int) + sRh a 15 15 0) + sRh a 15 15 1) + sRh a 15 15 2) + sRh a 15 15 3 = d3 (a 1 1 - a 1 0 - a 0 1 + a 0 0) (a 1 2 - a 1 0 - a 0 2 + a 0 0) (a 1 3 - a 1 0 - a 0 3 + a 0 0) (a 2 1 - a 2 0 - a 0 1 + a 0 0) (a 2 2 - a 2 0 - a 0 2 + a 0 0) (a 2 3 - a 2 0 - a 0 3 + a 0 0) (a 3 1 - a 3 0 - a 0 1 + a 0 0) (a 3 2 - a 3 0 - a 0 2 + a 0 0) (a 3 3 - a 3 0 - a 0 3 + a 0 0)
  simp only [hr_15_15_0, hr_15_15_1, hr_15_15_2, hr_15_15_3, p_14_14, p_14_13, p_14_11, p_14_7, p_13_14, p_13_13, p_13_11, p_13_7, p_11_14, p_11_13, p_11_11, p_11_7, p_7_14, p_7_13, p_7_11, p_7_7]
  unfold d3 d2
  grind
end IB
theorem sDn_d (a : Nat → Nat → Int) {R C : Nat} (hR : R < 16) (hC : C < 16) (h : sPc R = sPc C) (h0 : 0 < sPc R) : sDn a R C = sE (sPc R) (fun i j => a (sNt R i) (sNt C j)) := by
  have gR : R = 0 ∨ R = 1 ∨ R = 2 ∨ R = 3 ∨ R = 4 ∨ R = 5 ∨ R = 6 ∨ R = 7 ∨ R = 8 ∨ R = 9 ∨ R = 10 ∨ R = 11 ∨ R = 12 ∨ R = 13 ∨ R = 14 ∨ R = 15 := by omega
  have gC : C = 0 ∨ C = 1 ∨ C = 2 ∨ C = 3 ∨ C = 4 ∨ C = 5 ∨ C = 6 ∨ C = 7 ∨ C = 8 ∨ C = 9 ∨ C = 10 ∨ C = 11 ∨ C = 12 ∨ C = 13 ∨ C = 14 ∨ C = 15 := by omega
  rcases gR with rfl | rfl | rfl | rfl | rfl | rfl | rfl | rfl | rfl | rfl | rfl | rfl | rfl | rfl | rfl | rfl
  · rcases gC with rfl | rfl | rfl | rfl | rfl | rfl | rfl | rfl | rfl | rfl | rfl | rfl | rfl | rfl | rfl | rfl
    · exact absurd h0 (by decide)
    · exact absurd h0 (by decide)
    · exact absurd h0 (by decide)
    · exact absurd h0 (by decide)
    · exact absurd h0 (by decide)
    · exact absurd h0 (by decide)
    · exact absurd h0 (by decide)
    · exact absurd h0 (by decide)
    · exact absurd h0 (by decide)
    · exact absurd h0 (by decide)
    · exact absurd h0 (by decide)
    · exact absurd h0 (by decide)
    · exact absurd h0 (by decide)
    · exact absurd h0 (by decide)
    · exact absurd h0 (by decide)
    · exact absurd h0 (by decide)
  · rcases gC with rfl | rfl | rfl | rfl | rfl | rfl | rfl | rfl | rfl | rfl | rfl | rfl | rfl | rfl | rfl | rfl
    · exact absurd h (by decide)
    · exact ld_1_1 a
    · exact ld_1_2 a
    · exact absurd h (by decide)
    · exact ld_1_4 a
    · exact absurd h (by decide)
    · exact absurd h (by decide)
    · exact absurd h (by decide)
    · exact ld_1_8 a
    · exact absurd h (by decide)
    · exact absurd h (by decide)
    · exact absurd h (by decide)
    · exact absurd h (by decide)
    · exact absurd h (by decide)
    · exact absurd h (by decide)
    · exact absurd h (by decide)
  · rcases gC with rfl | rfl | rfl | rfl | rfl | rfl | rfl | rfl | rfl | rfl | rfl | rfl | rfl | rfl | rfl | rfl
    · exact absurd h (by decide)
    · exact ld_2_1 a
    · exact ld_2_2 a
    · exact absurd h (by decide)
    · exact ld_2_4 a
    · exact absurd h (by decide)
    · exact absurd h (by decide)
    · exact absurd h (by decide)
    · exact ld_2_8 a
    · exact absurd h (by decide)
    · exact absurd h (by decide)
    · exact absurd h (by decide)
    · exact absurd h (by decide)
    · exact absurd h (by decide)
    · exact absurd h (by decide)
    · exact absurd h (by decide)
  · rcases gC with rfl | rfl | rfl | rfl | rfl | rfl | rfl | rfl | rfl | rfl | rfl | rfl | rfl | rfl | rfl | rfl
    · exact absurd h (by decide)
    · exact absurd h (by decide)
    · exact absurd h (by decide)
    · exact ld_3_3 a
    · exact absurd h (by decide)
    · exact ld_3_5 a
    · exact ld_3_6 a
    · exact absurd h (by decide)
    · exact absurd h (by decide)
    · exact ld_3_9 a
    · exact ld_3_10 a
    · exact absurd h (by decide)
    · exact ld_3_12 a
    · exact absurd h (by decide)
    · exact absurd h (by decide)
    · exact absurd h (by decide)
  · rcases gC with rfl | rfl | rfl | rfl | rfl | rfl | rfl | rfl | rfl | rfl | rfl | rfl | rfl | rfl | rfl | rfl
    · exact absurd h (by decide)
    · exact ld_4_1 a
    · exact ld_4_2 a
    · exact absurd h (by decide)
    · exact ld_4_4 a
    · exact absurd h (by decide)
    · exact absurd h (by decide)
    · exact absurd h (by decide)
    · exact ld_4_8 a
    · exact absurd h (by decide)
    · exact absurd h (by decide)
    · exact absurd h (by decide)
    · exact absurd h (by decide)
    · exact absurd h (by decide)
    · exact absurd h (by decide)
    · exact absurd h (by decide)
  · rcases gC with rfl | rfl | rfl | rfl | rfl | rfl | rfl | rfl | rfl | rfl | rfl | rfl | rfl | rfl | rfl | rfl
    · exact absurd h (by decide)
    · exact absurd h (by decide)
    · exact absurd h (by decide)
    · exact ld_5_3 a
    · exact absurd h (by decide)
    · exact ld_5_5 a
    · exact ld_5_6 a
    · exact absurd h (by decide)
    · exact absurd h (by decide)
    · exact ld_5_9 a
    · exact ld_5_10 a
    · exact absurd h (by decide)
    · exact ld_5_12 a
    · exact absurd h (by decide)
    · exact absurd h (by decide)
    · exact absurd h (by decide)
  · rcases gC with rfl | rfl | rfl | rfl | rfl | rfl | rfl | rfl | rfl | rfl | rfl | rfl | rfl | rfl | rfl | rfl
    · exact absurd h (by decide)
    · exact absurd h (by decide)
    · exact absurd h (by decide)
    · exact ld_6_3 a
    · exact absurd h (by decide)
    · exact ld_6_5 a
    · exact ld_6_6 a
    · exact absurd h (by decide)
    · exact absurd h (by decide)
    · exact ld_6_9 a
    · exact ld_6_10 a
    · exact absurd h (by decide)
    · exact ld_6_12 a
    · exact absurd h (by decide)
    · exact absurd h (by decide)
    · exact absurd h (by decide)
  · rcases gC with rfl | rfl | rfl | rfl | rfl | rfl | rfl | rfl | rfl | rfl | rfl | rfl | rfl | rfl | rfl | rfl
    · exact absurd h (by decide)
    · exact absurd h (by decide)
    · exact absurd h (by decide)
    · exact absurd h (by decide)
    · exact absurd h (by decide)
    · exact absurd h (by decide)
    · exact absurd h (by decide)
    · exact ld_7_7 a
    · exact absurd h (by decide)
    · exact absurd h (by decide)
    · exact absurd h (by decide)
    · exact ld_7_11 a
    · exact absurd h (by decide)
    · exact ld_7_13 a
    · exact ld_7_14 a
    · exact absurd h (by decide)
  · rcases gC with rfl | rfl | rfl | rfl | rfl | rfl | rfl | rfl | rfl | rfl | rfl | rfl | rfl | rfl | rfl | rfl
    · exact absurd h (by decide)
    · exact ld_8_1 a
    · exact ld_8_2 a
    · exact absurd h (by decide)
    · exact ld_8_4 a
    · exact absurd h (by decide)
    · exact absurd h (by decide)
    · exact absurd h (by decide)
    · exact ld_8_8 a
    · exact absurd h (by decide)
    · exact absurd h (by decide)
    · exact absurd h (by decide)
    · exact absurd h (by decide)
    · exact absurd h (by decide)
    · exact absurd h (by decide)
    · exact absurd h (by decide)
  · rcases gC with rfl | rfl | rfl | rfl | rfl | rfl | rfl | rfl | rfl | rfl | rfl | rfl | rfl | rfl | rfl | rfl
    · exact absurd h (by decide)
    · exact absurd h (by decide)
    · exact absurd h (by decide)
    · exact ld_9_3 a
    · exact absurd h (by decide)
    · exact ld_9_5 a
    · exact ld_9_6 a
    · exact absurd h (by decide)
    · exact absurd h (by decide)
    · exact ld_9_9 a
    · exact ld_9_10 a
    · exact absurd h (by decide)
    · exact ld_9_12 a
    · exact absurd h (by decide)
    · exact absurd h (by decide)
    · exact absurd h (by decide)
  · rcases gC with rfl | rfl | rfl | rfl | rfl | rfl | rfl | rfl | rfl | rfl | rfl | rfl | rfl | rfl | rfl | rfl
    · exact absurd h (by decide)
    · exact absurd h (by decide)
    · exact absurd h (by decide)
    · exact ld_10_3 a
    · exact absurd h (by decide)
    · exact ld_10_5 a
    · exact ld_10_6 a
    · exact absurd h (by decide)
    · exact absurd h (by decide)
    · exact ld_10_9 a
    · exact ld_10_10 a
    · exact absurd h (by decide)
    · exact ld_10_12 a
    · exact absurd h (by decide)
    · exact absurd h (by decide)
    · exact absurd h (by decide)
  · rcases gC with rfl | rfl | rfl | rfl | rfl | rfl | rfl | rfl | rfl | rfl | rfl | rfl | rfl | rfl | rfl | rfl
    · exact absurd h (by decide)
    · exact absurd h (by decide)
    · exact absurd h (by decide)
    · exact absurd h (by decide)
    · exact absurd h (by decide)
    · exact absurd h (by decide)
    · exact absurd h (by decide)
    · exact ld_11_7 a
    · exact absurd h (by decide)
    · exact absurd h (by decide)
    · exact absurd h (by decide)
    · exact ld_11_11 a
    · exact absurd h (by decide)
    · exact ld_11_13 a
    · exact ld_11_14 a
    · exact absurd h (by decide)
  · rcases gC with rfl | rfl | rfl | rfl | rfl | rfl | rfl | rfl | rfl | rfl | rfl | rfl | rfl | rfl | rfl | rfl
    · exact absurd h (by decide)
    · exact absurd h (by decide)
    · exact absurd h (by decide)
    · exact ld_12_3 a
    · exact absurd h (by decide)
    · exact ld_12_5 a
    · exact ld_12_6 a
    · exact absurd h (by decide)
    · exact absurd h (by decide)
    · exact ld_12_9 a
    · exact ld_12_10 a
    · exact absurd h (by decide)
    · exact ld_12_12 a
    · exact absurd h (by decide)
    · exact absurd h (by decide)
    · exact absurd h (by decide)
  · rcases gC with rfl | rfl | rfl | rfl | rfl | rfl | rfl | rfl | rfl | rfl | rfl | rfl | rfl | rfl | rfl | rfl
    · exact absurd h (by decide)
    · exact absurd h (by decide)
    · exact absurd h (by decide)
    · exact absurd h (by decide)
    · exact absurd h (by decide)
    · exact absurd h (by decide)
    · exact absurd h (by decide)
    · exact ld_13_7 a
    · exact absurd h (by decide)
    · exact absurd h (by decide)
    · exact absurd h (by decide)
    · exact ld_13_11 a
    · exact absurd h (by decide)
    · exact ld_13_13 a
    · exact ld_13_14 a
    · exact absurd h (by decide)
  · rcases gC with rfl | rfl | rfl | rfl | rfl | rfl | rfl | rfl | rfl | rfl | rfl | rfl | rfl | rfl | rfl | rfl
    · exact absurd h (by decide)
    · exact absurd h (by decide)
    · exact absurd h (by decide)
    · exact absurd h (by decide)
    · exact absurd h (by decide)
    · exact absurd h (by decide)
    · exact absurd h (by decide)
    · exact ld_14_7 a
    · exact absurd h (by decide)
    · exact absurd h (by decide)
    · exact absurd h (by decide)
    · exact ld_14_11 a
    · exact absurd h (by decide)
    · exact ld_14_13 a
    · exact ld_14_14 a
    · exact absurd h (by decide)
  · rcases gC with rfl | rfl | rfl | rfl | rfl | rfl | rfl | rfl | rfl | rfl | rfl | rfl | rfl | rfl | rfl | rfl
    · exact absurd h (by decide)
    · exact absurd h (by decide)
    · exact absurd h (by decide)
    · exact absurd h (by decide)
    · exact absurd h (by decide)
    · exact absurd h (by decide)
    · exact absurd h (by decide)
    · exact absurd h (by decide)
    · exact absurd h (by decide)
    · exact absurd h (by decide)
    · exact absurd h (by decide)
    · exact absurd h (by decide)
    · exact absurd h (by decide)
    · exact absurd h (by decide)
    · exact absurd h (by decide)
    · exact ld_15_15 a
