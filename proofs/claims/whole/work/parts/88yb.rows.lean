/-! a part's shares: rows -/
section IB
variable (a : Nat → Nat → Int)
theorem lr_1_1_0 : sSm (fun r => a r 0 * sRh a 1 1 r) 4 = sMi a 1 1 := by
  show ((((0 : Int) + a 0 0 * sRh a 1 1 0) + a 1 0 * sRh a 1 1 1) + a 2 0 * sRh a 1 1 2) + a 3 0 * sRh a 1 1 3 = _
  simp only [show sRh a 1 1 1 = 0 from rfl, show sRh a 1 1 2 = 0 from rfl, show sRh a 1 1 3 = 0 from rfl, hr_1_1_0, p_0_0, p_1_1]
  grind
theorem lr_1_2_1 : sSm (fun r => a r 1 * sRh a 1 2 r) 4 = sMi a 1 2 := by
  show ((((0 : Int) + a 0 1 * sRh a 1 2 0) + a 1 1 * sRh a 1 2 1) + a 2 1 * sRh a 1 2 2) + a 3 1 * sRh a 1 2 3 = _
  simp only [show sRh a 1 2 1 = 0 from rfl, show sRh a 1 2 2 = 0 from rfl, show sRh a 1 2 3 = 0 from rfl, hr_1_2_0, p_0_0, p_1_2]
  grind
theorem lr_1_4_2 : sSm (fun r => a r 2 * sRh a 1 4 r) 4 = sMi a 1 4 := by
  show ((((0 : Int) + a 0 2 * sRh a 1 4 0) + a 1 2 * sRh a 1 4 1) + a 2 2 * sRh a 1 4 2) + a 3 2 * sRh a 1 4 3 = _
  simp only [show sRh a 1 4 1 = 0 from rfl, show sRh a 1 4 2 = 0 from rfl, show sRh a 1 4 3 = 0 from rfl, hr_1_4_0, p_0_0, p_1_4]
  grind
theorem lr_1_8_3 : sSm (fun r => a r 3 * sRh a 1 8 r) 4 = sMi a 1 8 := by
  show ((((0 : Int) + a 0 3 * sRh a 1 8 0) + a 1 3 * sRh a 1 8 1) + a 2 3 * sRh a 1 8 2) + a 3 3 * sRh a 1 8 3 = _
  simp only [show sRh a 1 8 1 = 0 from rfl, show sRh a 1 8 2 = 0 from rfl, show sRh a 1 8 3 = 0 from rfl, hr_1_8_0, p_0_0, p_1_8]
  grind
theorem lr_2_1_0 : sSm (fun r => a r 0 * sRh a 2 1 r) 4 = sMi a 2 1 := by
  show ((((0 : Int) + a 0 0 * sRh a 2 1 0) + a 1 0 * sRh a 2 1 1) + a 2 0 * sRh a 2 1 2) + a 3 0 * sRh a 2 1 3 = _
  simp only [show sRh a 2 1 0 = 0 from rfl, show sRh a 2 1 2 = 0 from rfl, show sRh a 2 1 3 = 0 from rfl, hr_2_1_1, p_0_0, p_2_1]
  grind
theorem lr_2_2_1 : sSm (fun r => a r 1 * sRh a 2 2 r) 4 = sMi a 2 2 := by
  show ((((0 : Int) + a 0 1 * sRh a 2 2 0) + a 1 1 * sRh a 2 2 1) + a 2 1 * sRh a 2 2 2) + a 3 1 * sRh a 2 2 3 = _
  simp only [show sRh a 2 2 0 = 0 from rfl, show sRh a 2 2 2 = 0 from rfl, show sRh a 2 2 3 = 0 from rfl, hr_2_2_1, p_0_0, p_2_2]
  grind
theorem lr_2_4_2 : sSm (fun r => a r 2 * sRh a 2 4 r) 4 = sMi a 2 4 := by
  show ((((0 : Int) + a 0 2 * sRh a 2 4 0) + a 1 2 * sRh a 2 4 1) + a 2 2 * sRh a 2 4 2) + a 3 2 * sRh a 2 4 3 = _
  simp only [show sRh a 2 4 0 = 0 from rfl, show sRh a 2 4 2 = 0 from rfl, show sRh a 2 4 3 = 0 from rfl, hr_2_4_1, p_0_0, p_2_4]
  grind
theorem lr_2_8_3 : sSm (fun r => a r 3 * sRh a 2 8 r) 4 = sMi a 2 8 := by
  show ((((0 : Int) + a 0 3 * sRh a 2 8 0) + a 1 3 * sRh a 2 8 1) + a 2 3 * sRh a 2 8 2) + a 3 3 * sRh a 2 8 3 = _
  simp only [show sRh a 2 8 0 = 0 from rfl, show sRh a 2 8 2 = 0 from rfl, show sRh a 2 8 3 = 0 from rfl, hr_2_8_1, p_0_0, p_2_8]
  grind
theorem lr_3_3_0 : sSm (fun r => a r 0 * sRh a 3 3 r) 4 = sMi a 3 3 := by
  show ((((0 : Int) + a 0 0 * sRh a 3 3 0) + a 1 0 * sRh a 3 3 1) + a 2 0 * sRh a 3 3 2) + a 3 0 * sRh a 3 3 3 = _
  simp only [show sRh a 3 3 2 = 0 from rfl, show sRh a 3 3 3 = 0 from rfl, hr_3_3_0, hr_3_3_1, p_2_2, p_2_1, p_1_2, p_1_1, p_3_3]
  unfold d2
  grind
theorem lr_3_3_1 : sSm (fun r => a r 1 * sRh a 3 3 r) 4 = sMi a 3 3 := by
  show ((((0 : Int) + a 0 1 * sRh a 3 3 0) + a 1 1 * sRh a 3 3 1) + a 2 1 * sRh a 3 3 2) + a 3 1 * sRh a 3 3 3 = _
  simp only [show sRh a 3 3 2 = 0 from rfl, show sRh a 3 3 3 = 0 from rfl, hr_3_3_0, hr_3_3_1, p_2_2, p_2_1, p_1_2, p_1_1, p_3_3]
  unfold d2
  grind
theorem lr_3_5_0 : sSm (fun r => a r 0 * sRh a 3 5 r) 4 = sMi a 3 5 := by
  show ((((0 : Int) + a 0 0 * sRh a 3 5 0) + a 1 0 * sRh a 3 5 1) + a 2 0 * sRh a 3 5 2) + a 3 0 * sRh a 3 5 3 = _
  simp only [show sRh a 3 5 2 = 0 from rfl, show sRh a 3 5 3 = 0 from rfl, hr_3_5_0, hr_3_5_1, p_2_4, p_2_1, p_1_4, p_1_1, p_3_5]
  unfold d2
  grind
theorem lr_3_5_2 : sSm (fun r => a r 2 * sRh a 3 5 r) 4 = sMi a 3 5 := by
  show ((((0 : Int) + a 0 2 * sRh a 3 5 0) + a 1 2 * sRh a 3 5 1) + a 2 2 * sRh a 3 5 2) + a 3 2 * sRh a 3 5 3 = _
  simp only [show sRh a 3 5 2 = 0 from rfl, show sRh a 3 5 3 = 0 from rfl, hr_3_5_0, hr_3_5_1, p_2_4, p_2_1, p_1_4, p_1_1, p_3_5]
  unfold d2
  grind
theorem lr_3_6_1 : sSm (fun r => a r 1 * sRh a 3 6 r) 4 = sMi a 3 6 := by
  show ((((0 : Int) + a 0 1 * sRh a 3 6 0) + a 1 1 * sRh a 3 6 1) + a 2 1 * sRh a 3 6 2) + a 3 1 * sRh a 3 6 3 = _
  simp only [show sRh a 3 6 2 = 0 from rfl, show sRh a 3 6 3 = 0 from rfl, hr_3_6_0, hr_3_6_1, p_2_4, p_2_2, p_1_4, p_1_2, p_3_6]
  unfold d2
  grind
theorem lr_3_6_2 : sSm (fun r => a r 2 * sRh a 3 6 r) 4 = sMi a 3 6 := by
  show ((((0 : Int) + a 0 2 * sRh a 3 6 0) + a 1 2 * sRh a 3 6 1) + a 2 2 * sRh a 3 6 2) + a 3 2 * sRh a 3 6 3 = _
  simp only [show sRh a 3 6 2 = 0 from rfl, show sRh a 3 6 3 = 0 from rfl, hr_3_6_0, hr_3_6_1, p_2_4, p_2_2, p_1_4, p_1_2, p_3_6]
  unfold d2
  grind
theorem lr_3_9_0 : sSm (fun r => a r 0 * sRh a 3 9 r) 4 = sMi a 3 9 := by
  show ((((0 : Int) + a 0 0 * sRh a 3 9 0) + a 1 0 * sRh a 3 9 1) + a 2 0 * sRh a 3 9 2) + a 3 0 * sRh a 3 9 3 = _
  simp only [show sRh a 3 9 2 = 0 from rfl, show sRh a 3 9 3 = 0 from rfl, hr_3_9_0, hr_3_9_1, p_2_8, p_2_1, p_1_8, p_1_1, p_3_9]
  unfold d2
  grind
theorem lr_3_9_3 : sSm (fun r => a r 3 * sRh a 3 9 r) 4 = sMi a 3 9 := by
  show ((((0 : Int) + a 0 3 * sRh a 3 9 0) + a 1 3 * sRh a 3 9 1) + a 2 3 * sRh a 3 9 2) + a 3 3 * sRh a 3 9 3 = _
  simp only [show sRh a 3 9 2 = 0 from rfl, show sRh a 3 9 3 = 0 from rfl, hr_3_9_0, hr_3_9_1, p_2_8, p_2_1, p_1_8, p_1_1, p_3_9]
  unfold d2
  grind
theorem lr_3_10_1 : sSm (fun r => a r 1 * sRh a 3 10 r) 4 = sMi a 3 10 := by
  show ((((0 : Int) + a 0 1 * sRh a 3 10 0) + a 1 1 * sRh a 3 10 1) + a 2 1 * sRh a 3 10 2) + a 3 1 * sRh a 3 10 3 = _
  simp only [show sRh a 3 10 2 = 0 from rfl, show sRh a 3 10 3 = 0 from rfl, hr_3_10_0, hr_3_10_1, p_2_8, p_2_2, p_1_8, p_1_2, p_3_10]
  unfold d2
  grind
theorem lr_3_10_3 : sSm (fun r => a r 3 * sRh a 3 10 r) 4 = sMi a 3 10 := by
  show ((((0 : Int) + a 0 3 * sRh a 3 10 0) + a 1 3 * sRh a 3 10 1) + a 2 3 * sRh a 3 10 2) + a 3 3 * sRh a 3 10 3 = _
  simp only [show sRh a 3 10 2 = 0 from rfl, show sRh a 3 10 3 = 0 from rfl, hr_3_10_0, hr_3_10_1, p_2_8, p_2_2, p_1_8, p_1_2, p_3_10]
  unfold d2
  grind
theorem lr_3_12_2 : sSm (fun r => a r 2 * sRh a 3 12 r) 4 = sMi a 3 12 := by
  show ((((0 : Int) + a 0 2 * sRh a 3 12 0) + a 1 2 * sRh a 3 12 1) + a 2 2 * sRh a 3 12 2) + a 3 2 * sRh a 3 12 3 = _
  simp only [show sRh a 3 12 2 = 0 from rfl, show sRh a 3 12 3 = 0 from rfl, hr_3_12_0, hr_3_12_1, p_2_8, p_2_4, p_1_8, p_1_4, p_3_12]
  unfold d2
  grind
theorem lr_3_12_3 : sSm (fun r => a r 3 * sRh a 3 12 r) 4 = sMi a 3 12 := by
  show ((((0 : Int) + a 0 3 * sRh a 3 12 0) + a 1 3 * sRh a 3 12 1) + a 2 3 * sRh a 3 12 2) + a 3 3 * sRh a 3 12 3 = _
  simp only [show sRh a 3 12 2 = 0 from rfl, show sRh a 3 12 3 = 0 from rfl, hr_3_12_0, hr_3_12_1, p_2_8, p_2_4, p_1_8, p_1_4, p_3_12]
  unfold d2
  grind
theorem lr_4_1_0 : sSm (fun r => a r 0 * sRh a 4 1 r) 4 = sMi a 4 1 := by
  show ((((0 : Int) + a 0 0 * sRh a 4 1 0) + a 1 0 * sRh a 4 1 1) + a 2 0 * sRh a 4 1 2) + a 3 0 * sRh a 4 1 3 = _
  simp only [show sRh a 4 1 0 = 0 from rfl, show sRh a 4 1 1 = 0 from rfl, show sRh a 4 1 3 = 0 from rfl, hr_4_1_2, p_0_0, p_4_1]
  grind
theorem lr_4_2_1 : sSm (fun r => a r 1 * sRh a 4 2 r) 4 = sMi a 4 2 := by
  show ((((0 : Int) + a 0 1 * sRh a 4 2 0) + a 1 1 * sRh a 4 2 1) + a 2 1 * sRh a 4 2 2) + a 3 1 * sRh a 4 2 3 = _
  simp only [show sRh a 4 2 0 = 0 from rfl, show sRh a 4 2 1 = 0 from rfl, show sRh a 4 2 3 = 0 from rfl, hr_4_2_2, p_0_0, p_4_2]
  grind
theorem lr_4_4_2 : sSm (fun r => a r 2 * sRh a 4 4 r) 4 = sMi a 4 4 := by
  show ((((0 : Int) + a 0 2 * sRh a 4 4 0) + a 1 2 * sRh a 4 4 1) + a 2 2 * sRh a 4 4 2) + a 3 2 * sRh a 4 4 3 = _
  simp only [show sRh a 4 4 0 = 0 from rfl, show sRh a 4 4 1 = 0 from rfl, show sRh a 4 4 3 = 0 from rfl, hr_4_4_2, p_0_0, p_4_4]
  grind
theorem lr_4_8_3 : sSm (fun r => a r 3 * sRh a 4 8 r) 4 = sMi a 4 8 := by
  show ((((0 : Int) + a 0 3 * sRh a 4 8 0) + a 1 3 * sRh a 4 8 1) + a 2 3 * sRh a 4 8 2) + a 3 3 * sRh a 4 8 3 = _
  simp only [show sRh a 4 8 0 = 0 from rfl, show sRh a 4 8 1 = 0 from rfl, show sRh a 4 8 3 = 0 from rfl, hr_4_8_2, p_0_0, p_4_8]
  grind
theorem lr_5_3_0 : sSm (fun r => a r 0 * sRh a 5 3 r) 4 = sMi a 5 3 := by
  show ((((0 : Int) + a 0 0 * sRh a 5 3 0) + a 1 0 * sRh a 5 3 1) + a 2 0 * sRh a 5 3 2) + a 3 0 * sRh a 5 3 3 = _
  simp only [show sRh a 5 3 1 = 0 from rfl, show sRh a 5 3 3 = 0 from rfl, hr_5_3_0, hr_5_3_2, p_4_2, p_4_1, p_1_2, p_1_1, p_5_3]
  unfold d2
  grind
theorem lr_5_3_1 : sSm (fun r => a r 1 * sRh a 5 3 r) 4 = sMi a 5 3 := by
  show ((((0 : Int) + a 0 1 * sRh a 5 3 0) + a 1 1 * sRh a 5 3 1) + a 2 1 * sRh a 5 3 2) + a 3 1 * sRh a 5 3 3 = _
  simp only [show sRh a 5 3 1 = 0 from rfl, show sRh a 5 3 3 = 0 from rfl, hr_5_3_0, hr_5_3_2, p_4_2, p_4_1, p_1_2, p_1_1, p_5_3]
  unfold d2
  grind
theorem lr_5_5_0 : sSm (fun r => a r 0 * sRh a 5 5 r) 4 = sMi a 5 5 := by
  show ((((0 : Int) + a 0 0 * sRh a 5 5 0) + a 1 0 * sRh a 5 5 1) + a 2 0 * sRh a 5 5 2) + a 3 0 * sRh a 5 5 3 = _
  simp only [show sRh a 5 5 1 = 0 from rfl, show sRh a 5 5 3 = 0 from rfl, hr_5_5_0, hr_5_5_2, p_4_4, p_4_1, p_1_4, p_1_1, p_5_5]
  unfold d2
  grind
theorem lr_5_5_2 : sSm (fun r => a r 2 * sRh a 5 5 r) 4 = sMi a 5 5 := by
  show ((((0 : Int) + a 0 2 * sRh a 5 5 0) + a 1 2 * sRh a 5 5 1) + a 2 2 * sRh a 5 5 2) + a 3 2 * sRh a 5 5 3 = _
  simp only [show sRh a 5 5 1 = 0 from rfl, show sRh a 5 5 3 = 0 from rfl, hr_5_5_0, hr_5_5_2, p_4_4, p_4_1, p_1_4, p_1_1, p_5_5]
  unfold d2
  grind
theorem lr_5_6_1 : sSm (fun r => a r 1 * sRh a 5 6 r) 4 = sMi a 5 6 := by
  show ((((0 : Int) + a 0 1 * sRh a 5 6 0) + a 1 1 * sRh a 5 6 1) + a 2 1 * sRh a 5 6 2) + a 3 1 * sRh a 5 6 3 = _
  simp only [show sRh a 5 6 1 = 0 from rfl, show sRh a 5 6 3 = 0 from rfl, hr_5_6_0, hr_5_6_2, p_4_4, p_4_2, p_1_4, p_1_2, p_5_6]
  unfold d2
  grind
theorem lr_5_6_2 : sSm (fun r => a r 2 * sRh a 5 6 r) 4 = sMi a 5 6 := by
  show ((((0 : Int) + a 0 2 * sRh a 5 6 0) + a 1 2 * sRh a 5 6 1) + a 2 2 * sRh a 5 6 2) + a 3 2 * sRh a 5 6 3 = _
  simp only [show sRh a 5 6 1 = 0 from rfl, show sRh a 5 6 3 = 0 from rfl, hr_5_6_0, hr_5_6_2, p_4_4, p_4_2, p_1_4, p_1_2, p_5_6]
  unfold d2
  grind
theorem lr_5_9_0 : sSm (fun r => a r 0 * sRh a 5 9 r) 4 = sMi a 5 9 := by
  show ((((0 : Int) + a 0 0 * sRh a 5 9 0) + a 1 0 * sRh a 5 9 1) + a 2 0 * sRh a 5 9 2) + a 3 0 * sRh a 5 9 3 = _
  simp only [show sRh a 5 9 1 = 0 from rfl, show sRh a 5 9 3 = 0 from rfl, hr_5_9_0, hr_5_9_2, p_4_8, p_4_1, p_1_8, p_1_1, p_5_9]
  unfold d2
  grind
theorem lr_5_9_3 : sSm (fun r => a r 3 * sRh a 5 9 r) 4 = sMi a 5 9 := by
  show ((((0 : Int) + a 0 3 * sRh a 5 9 0) + a 1 3 * sRh a 5 9 1) + a 2 3 * sRh a 5 9 2) + a 3 3 * sRh a 5 9 3 = _
  simp only [show sRh a 5 9 1 = 0 from rfl, show sRh a 5 9 3 = 0 from rfl, hr_5_9_0, hr_5_9_2, p_4_8, p_4_1, p_1_8, p_1_1, p_5_9]
  unfold d2
  grind
theorem lr_5_10_1 : sSm (fun r => a r 1 * sRh a 5 10 r) 4 = sMi a 5 10 := by
  show ((((0 : Int) + a 0 1 * sRh a 5 10 0) + a 1 1 * sRh a 5 10 1) + a 2 1 * sRh a 5 10 2) + a 3 1 * sRh a 5 10 3 = _
  simp only [show sRh a 5 10 1 = 0 from rfl, show sRh a 5 10 3 = 0 from rfl, hr_5_10_0, hr_5_10_2, p_4_8, p_4_2, p_1_8, p_1_2, p_5_10]
  unfold d2
  grind
theorem lr_5_10_3 : sSm (fun r => a r 3 * sRh a 5 10 r) 4 = sMi a 5 10 := by
  show ((((0 : Int) + a 0 3 * sRh a 5 10 0) + a 1 3 * sRh a 5 10 1) + a 2 3 * sRh a 5 10 2) + a 3 3 * sRh a 5 10 3 = _
  simp only [show sRh a 5 10 1 = 0 from rfl, show sRh a 5 10 3 = 0 from rfl, hr_5_10_0, hr_5_10_2, p_4_8, p_4_2, p_1_8, p_1_2, p_5_10]
  unfold d2
  grind
theorem lr_5_12_2 : sSm (fun r => a r 2 * sRh a 5 12 r) 4 = sMi a 5 12 := by
  show ((((0 : Int) + a 0 2 * sRh a 5 12 0) + a 1 2 * sRh a 5 12 1) + a 2 2 * sRh a 5 12 2) + a 3 2 * sRh a 5 12 3 = _
  simp only [show sRh a 5 12 1 = 0 from rfl, show sRh a 5 12 3 = 0 from rfl, hr_5_12_0, hr_5_12_2, p_4_8, p_4_4, p_1_8, p_1_4, p_5_12]
  unfold d2
  grind
theorem lr_5_12_3 : sSm (fun r => a r 3 * sRh a 5 12 r) 4 = sMi a 5 12 := by
  show ((((0 : Int) + a 0 3 * sRh a 5 12 0) + a 1 3 * sRh a 5 12 1) + a 2 3 * sRh a 5 12 2) + a 3 3 * sRh a 5 12 3 = _
  simp only [show sRh a 5 12 1 = 0 from rfl, show sRh a 5 12 3 = 0 from rfl, hr_5_12_0, hr_5_12_2, p_4_8, p_4_4, p_1_8, p_1_4, p_5_12]
  unfold d2
  grind
theorem lr_6_3_0 : sSm (fun r => a r 0 * sRh a 6 3 r) 4 = sMi a 6 3 := by
  show ((((0 : Int) + a 0 0 * sRh a 6 3 0) + a 1 0 * sRh a 6 3 1) + a 2 0 * sRh a 6 3 2) + a 3 0 * sRh a 6 3 3 = _
  simp only [show sRh a 6 3 0 = 0 from rfl, show sRh a 6 3 3 = 0 from rfl, hr_6_3_1, hr_6_3_2, p_4_2, p_4_1, p_2_2, p_2_1, p_6_3]
  unfold d2
  grind
theorem lr_6_3_1 : sSm (fun r => a r 1 * sRh a 6 3 r) 4 = sMi a 6 3 := by
  show ((((0 : Int) + a 0 1 * sRh a 6 3 0) + a 1 1 * sRh a 6 3 1) + a 2 1 * sRh a 6 3 2) + a 3 1 * sRh a 6 3 3 = _
  simp only [show sRh a 6 3 0 = 0 from rfl, show sRh a 6 3 3 = 0 from rfl, hr_6_3_1, hr_6_3_2, p_4_2, p_4_1, p_2_2, p_2_1, p_6_3]
  unfold d2
  grind
theorem lr_6_5_0 : sSm (fun r => a r 0 * sRh a 6 5 r) 4 = sMi a 6 5 := by
  show ((((0 : Int) + a 0 0 * sRh a 6 5 0) + a 1 0 * sRh a 6 5 1) + a 2 0 * sRh a 6 5 2) + a 3 0 * sRh a 6 5 3 = _
  simp only [show sRh a 6 5 0 = 0 from rfl, show sRh a 6 5 3 = 0 from rfl, hr_6_5_1, hr_6_5_2, p_4_4, p_4_1, p_2_4, p_2_1, p_6_5]
  unfold d2
  grind
theorem lr_6_5_2 : sSm (fun r => a r 2 * sRh a 6 5 r) 4 = sMi a 6 5 := by
  show ((((0 : Int) + a 0 2 * sRh a 6 5 0) + a 1 2 * sRh a 6 5 1) + a 2 2 * sRh a 6 5 2) + a 3 2 * sRh a 6 5 3 = _
  simp only [show sRh a 6 5 0 = 0 from rfl, show sRh a 6 5 3 = 0 from rfl, hr_6_5_1, hr_6_5_2, p_4_4, p_4_1, p_2_4, p_2_1, p_6_5]
  unfold d2
  grind
theorem lr_6_6_1 : sSm (fun r => a r 1 * sRh a 6 6 r) 4 = sMi a 6 6 := by
  show ((((0 : Int) + a 0 1 * sRh a 6 6 0) + a 1 1 * sRh a 6 6 1) + a 2 1 * sRh a 6 6 2) + a 3 1 * sRh a 6 6 3 = _
  simp only [show sRh a 6 6 0 = 0 from rfl, show sRh a 6 6 3 = 0 from rfl, hr_6_6_1, hr_6_6_2, p_4_4, p_4_2, p_2_4, p_2_2, p_6_6]
  unfold d2
  grind
theorem lr_6_6_2 : sSm (fun r => a r 2 * sRh a 6 6 r) 4 = sMi a 6 6 := by
  show ((((0 : Int) + a 0 2 * sRh a 6 6 0) + a 1 2 * sRh a 6 6 1) + a 2 2 * sRh a 6 6 2) + a 3 2 * sRh a 6 6 3 = _
  simp only [show sRh a 6 6 0 = 0 from rfl, show sRh a 6 6 3 = 0 from rfl, hr_6_6_1, hr_6_6_2, p_4_4, p_4_2, p_2_4, p_2_2, p_6_6]
  unfold d2
  grind
theorem lr_6_9_0 : sSm (fun r => a r 0 * sRh a 6 9 r) 4 = sMi a 6 9 := by
  show ((((0 : Int) + a 0 0 * sRh a 6 9 0) + a 1 0 * sRh a 6 9 1) + a 2 0 * sRh a 6 9 2) + a 3 0 * sRh a 6 9 3 = _
  simp only [show sRh a 6 9 0 = 0 from rfl, show sRh a 6 9 3 = 0 from rfl, hr_6_9_1, hr_6_9_2, p_4_8, p_4_1, p_2_8, p_2_1, p_6_9]
  unfold d2
  grind
theorem lr_6_9_3 : sSm (fun r => a r 3 * sRh a 6 9 r) 4 = sMi a 6 9 := by
  show ((((0 : Int) + a 0 3 * sRh a 6 9 0) + a 1 3 * sRh a 6 9 1) + a 2 3 * sRh a 6 9 2) + a 3 3 * sRh a 6 9 3 = _
  simp only [show sRh a 6 9 0 = 0 from rfl, show sRh a 6 9 3 = 0 from rfl, hr_6_9_1, hr_6_9_2, p_4_8, p_4_1, p_2_8, p_2_1, p_6_9]
  unfold d2
  grind
theorem lr_6_10_1 : sSm (fun r => a r 1 * sRh a 6 10 r) 4 = sMi a 6 10 := by
  show ((((0 : Int) + a 0 1 * sRh a 6 10 0) + a 1 1 * sRh a 6 10 1) + a 2 1 * sRh a 6 10 2) + a 3 1 * sRh a 6 10 3 = _
  simp only [show sRh a 6 10 0 = 0 from rfl, show sRh a 6 10 3 = 0 from rfl, hr_6_10_1, hr_6_10_2, p_4_8, p_4_2, p_2_8, p_2_2, p_6_10]
  unfold d2
  grind
theorem lr_6_10_3 : sSm (fun r => a r 3 * sRh a 6 10 r) 4 = sMi a 6 10 := by
  show ((((0 : Int) + a 0 3 * sRh a 6 10 0) + a 1 3 * sRh a 6 10 1) + a 2 3 * sRh a 6 10 2) + a 3 3 * sRh a 6 10 3 = _
  simp only [show sRh a 6 10 0 = 0 from rfl, show sRh a 6 10 3 = 0 from rfl, hr_6_10_1, hr_6_10_2, p_4_8, p_4_2, p_2_8, p_2_2, p_6_10]
  unfold d2
  grind
theorem lr_6_12_2 : sSm (fun r => a r 2 * sRh a 6 12 r) 4 = sMi a 6 12 := by
  show ((((0 : Int) + a 0 2 * sRh a 6 12 0) + a 1 2 * sRh a 6 12 1) + a 2 2 * sRh a 6 12 2) + a 3 2 * sRh a 6 12 3 = _
  simp only [show sRh a 6 12 0 = 0 from rfl, show sRh a 6 12 3 = 0 from rfl, hr_6_12_1, hr_6_12_2, p_4_8, p_4_4, p_2_8, p_2_4, p_6_12]
  unfold d2
  grind
theorem lr_6_12_3 : sSm (fun r => a r 3 * sRh a 6 12 r) 4 = sMi a 6 12 := by
  show ((((0 : Int) + a 0 3 * sRh a 6 12 0) + a 1 3 * sRh a 6 12 1) + a 2 3 * sRh a 6 12 2) + a 3 3 * sRh a 6 12 3 = _
  simp only [show sRh a 6 12 0 = 0 from rfl, show sRh a 6 12 3 = 0 from rfl, hr_6_12_1, hr_6_12_2, p_4_8, p_4_4, p_2_8, p_2_4, p_6_12]
  unfold d2
  grind
theorem lr_7_7_0 : sSm (fun r => a r 0 * sRh a 7 7 r) 4 = sMi a 7 7 := by
  show ((((0 : Int) + a 0 0 * sRh a 7 7 0) + a 1 0 * sRh a 7 7 1) + a 2 0 * sRh a 7 7 2) + a 3 0 * sRh a 7 7 3 = _
  simp only [show sRh a 7 7 3 = 0 from rfl, hr_7_7_0, hr_7_7_1, hr_7_7_2, p_6_6, p_6_5, p_6_3, p_5_6, p_5_5, p_5_3, p_3_6, p_3_5, p_3_3, p_7_7]
  unfold d3 d2
  grind
theorem lr_7_7_1 : sSm (fun r => a r 1 * sRh a 7 7 r) 4 = sMi a 7 7 := by
  show ((((0 : Int) + a 0 1 * sRh a 7 7 0) + a 1 1 * sRh a 7 7 1) + a 2 1 * sRh a 7 7 2) + a 3 1 * sRh a 7 7 3 = _
  simp only [show sRh a 7 7 3 = 0 from rfl, hr_7_7_0, hr_7_7_1, hr_7_7_2, p_6_6, p_6_5, p_6_3, p_5_6, p_5_5, p_5_3, p_3_6, p_3_5, p_3_3, p_7_7]
  unfold d3 d2
  grind
theorem lr_7_7_2 : sSm (fun r => a r 2 * sRh a 7 7 r) 4 = sMi a 7 7 := by
  show ((((0 : Int) + a 0 2 * sRh a 7 7 0) + a 1 2 * sRh a 7 7 1) + a 2 2 * sRh a 7 7 2) + a 3 2 * sRh a 7 7 3 = _
  simp only [show sRh a 7 7 3 = 0 from rfl, hr_7_7_0, hr_7_7_1, hr_7_7_2, p_6_6, p_6_5, p_6_3, p_5_6, p_5_5, p_5_3, p_3_6, p_3_5, p_3_3, p_7_7]
  unfold d3 d2
  grind
theorem lr_7_11_0 : sSm (fun r => a r 0 * sRh a 7 11 r) 4 = sMi a 7 11 := by
  show ((((0 : Int) + a 0 0 * sRh a 7 11 0) + a 1 0 * sRh a 7 11 1) + a 2 0 * sRh a 7 11 2) + a 3 0 * sRh a 7 11 3 = _
  simp only [show sRh a 7 11 3 = 0 from rfl, hr_7_11_0, hr_7_11_1, hr_7_11_2, p_6_10, p_6_9, p_6_3, p_5_10, p_5_9, p_5_3, p_3_10, p_3_9, p_3_3, p_7_11]
  unfold d3 d2
  grind
theorem lr_7_11_1 : sSm (fun r => a r 1 * sRh a 7 11 r) 4 = sMi a 7 11 := by
  show ((((0 : Int) + a 0 1 * sRh a 7 11 0) + a 1 1 * sRh a 7 11 1) + a 2 1 * sRh a 7 11 2) + a 3 1 * sRh a 7 11 3 = _
  simp only [show sRh a 7 11 3 = 0 from rfl, hr_7_11_0, hr_7_11_1, hr_7_11_2, p_6_10, p_6_9, p_6_3, p_5_10, p_5_9, p_5_3, p_3_10, p_3_9, p_3_3, p_7_11]
  unfold d3 d2
  grind
theorem lr_7_11_3 : sSm (fun r => a r 3 * sRh a 7 11 r) 4 = sMi a 7 11 := by
  show ((((0 : Int) + a 0 3 * sRh a 7 11 0) + a 1 3 * sRh a 7 11 1) + a 2 3 * sRh a 7 11 2) + a 3 3 * sRh a 7 11 3 = _
  simp only [show sRh a 7 11 3 = 0 from rfl, hr_7_11_0, hr_7_11_1, hr_7_11_2, p_6_10, p_6_9, p_6_3, p_5_10, p_5_9, p_5_3, p_3_10, p_3_9, p_3_3, p_7_11]
  unfold d3 d2
  grind
theorem lr_7_13_0 : sSm (fun r => a r 0 * sRh a 7 13 r) 4 = sMi a 7 13 := by
  show ((((0 : Int) + a 0 0 * sRh a 7 13 0) + a 1 0 * sRh a 7 13 1) + a 2 0 * sRh a 7 13 2) + a 3 0 * sRh a 7 13 3 = _
  simp only [show sRh a 7 13 3 = 0 from rfl, hr_7_13_0, hr_7_13_1, hr_7_13_2, p_6_12, p_6_9, p_6_5, p_5_12, p_5_9, p_5_5, p_3_12, p_3_9, p_3_5, p_7_13]
  unfold d3 d2
  grind
theorem lr_7_13_2 : sSm (fun r => a r 2 * sRh a 7 13 r) 4 = sMi a 7 13 := by
  show ((((0 : Int) + a 0 2 * sRh a 7 13 0) + a 1 2 * sRh a 7 13 1) + a 2 2 * sRh a 7 13 2) + a 3 2 * sRh a 7 13 3 = _
  simp only [show sRh a 7 13 3 = 0 from rfl, hr_7_13_0, hr_7_13_1, hr_7_13_2, p_6_12, p_6_9, p_6_5, p_5_12, p_5_9, p_5_5, p_3_12, p_3_9, p_3_5, p_7_13]
  unfold d3 d2
  grind
theorem lr_7_13_3 : sSm (fun r => a r 3 * sRh a 7 13 r) 4 = sMi a 7 13 := by
  show ((((0 : Int) + a 0 3 * sRh a 7 13 0) + a 1 3 * sRh a 7 13 1) + a 2 3 * sRh a 7 13 2) + a 3 3 * sRh a 7 13 3 = _
  simp only [show sRh a 7 13 3 = 0 from rfl, hr_7_13_0, hr_7_13_1, hr_7_13_2, p_6_12, p_6_9, p_6_5, p_5_12, p_5_9, p_5_5, p_3_12, p_3_9, p_3_5, p_7_13]
  unfold d3 d2
  grind
theorem lr_7_14_1 : sSm (fun r => a r 1 * sRh a 7 14 r) 4 = sMi a 7 14 := by
  show ((((0 : Int) + a 0 1 * sRh a 7 14 0) + a 1 1 * sRh a 7 14 1) + a 2 1 * sRh a 7 14 2) + a 3 1 * sRh a 7 14 3 = _
  simp only [show sRh a 7 14 3 = 0 from rfl, hr_7_14_0, hr_7_14_1, hr_7_14_2, p_6_12, p_6_10, p_6_6, p_5_12, p_5_10, p_5_6, p_3_12, p_3_10, p_3_6, p_7_14]
  unfold d3 d2
  grind
theorem lr_7_14_2 : sSm (fun r => a r 2 * sRh a 7 14 r) 4 = sMi a 7 14 := by
  show ((((0 : Int) + a 0 2 * sRh a 7 14 0) + a 1 2 * sRh a 7 14 1) + a 2 2 * sRh a 7 14 2) + a 3 2 * sRh a 7 14 3 = _
  simp only [show sRh a 7 14 3 = 0 from rfl, hr_7_14_0, hr_7_14_1, hr_7_14_2, p_6_12, p_6_10, p_6_6, p_5_12, p_5_10, p_5_6, p_3_12, p_3_10, p_3_6, p_7_14]
  unfold d3 d2
  grind
theorem lr_7_14_3 : sSm (fun r => a r 3 * sRh a 7 14 r) 4 = sMi a 7 14 := by
  show ((((0 : Int) + a 0 3 * sRh a 7 14 0) + a 1 3 * sRh a 7 14 1) + a 2 3 * sRh a 7 14 2) + a 3 3 * sRh a 7 14 3 = _
  simp only [show sRh a 7 14 3 = 0 from rfl, hr_7_14_0, hr_7_14_1, hr_7_14_2, p_6_12, p_6_10, p_6_6, p_5_12, p_5_10, p_5_6, p_3_12, p_3_10, p_3_6, p_7_14]
  unfold d3 d2
  grind
theorem lr_8_1_0 : sSm (fun r => a r 0 * sRh a 8 1 r) 4 = sMi a 8 1 := by
  show ((((0 : Int) + a 0 0 * sRh a 8 1 0) + a 1 0 * sRh a 8 1 1) + a 2 0 * sRh a 8 1 2) + a 3 0 * sRh a 8 1 3 = _
  simp only [show sRh a 8 1 0 = 0 from rfl, show sRh a 8 1 1 = 0 from rfl, show sRh a 8 1 2 = 0 from rfl, hr_8_1_3, p_0_0, p_8_1]
  grind
theorem lr_8_2_1 : sSm (fun r => a r 1 * sRh a 8 2 r) 4 = sMi a 8 2 := by
  show ((((0 : Int) + a 0 1 * sRh a 8 2 0) + a 1 1 * sRh a 8 2 1) + a 2 1 * sRh a 8 2 2) + a 3 1 * sRh a 8 2 3 = _
  simp only [show sRh a 8 2 0 = 0 from rfl, show sRh a 8 2 1 = 0 from rfl, show sRh a 8 2 2 = 0 from rfl, hr_8_2_3, p_0_0, p_8_2]
  grind
theorem lr_8_4_2 : sSm (fun r => a r 2 * sRh a 8 4 r) 4 = sMi a 8 4 := by
  show ((((0 : Int) + a 0 2 * sRh a 8 4 0) + a 1 2 * sRh a 8 4 1) + a 2 2 * sRh a 8 4 2) + a 3 2 * sRh a 8 4 3 = _
  simp only [show sRh a 8 4 0 = 0 from rfl, show sRh a 8 4 1 = 0 from rfl, show sRh a 8 4 2 = 0 from rfl, hr_8_4_3, p_0_0, p_8_4]
  grind
theorem lr_8_8_3 : sSm (fun r => a r 3 * sRh a 8 8 r) 4 = sMi a 8 8 := by
  show ((((0 : Int) + a 0 3 * sRh a 8 8 0) + a 1 3 * sRh a 8 8 1) + a 2 3 * sRh a 8 8 2) + a 3 3 * sRh a 8 8 3 = _
  simp only [show sRh a 8 8 0 = 0 from rfl, show sRh a 8 8 1 = 0 from rfl, show sRh a 8 8 2 = 0 from rfl, hr_8_8_3, p_0_0, p_8_8]
  grind
theorem lr_9_3_0 : sSm (fun r => a r 0 * sRh a 9 3 r) 4 = sMi a 9 3 := by
  show ((((0 : Int) + a 0 0 * sRh a 9 3 0) + a 1 0 * sRh a 9 3 1) + a 2 0 * sRh a 9 3 2) + a 3 0 * sRh a 9 3 3 = _
  simp only [show sRh a 9 3 1 = 0 from rfl, show sRh a 9 3 2 = 0 from rfl, hr_9_3_0, hr_9_3_3, p_8_2, p_8_1, p_1_2, p_1_1, p_9_3]
  unfold d2
  grind
theorem lr_9_3_1 : sSm (fun r => a r 1 * sRh a 9 3 r) 4 = sMi a 9 3 := by
  show ((((0 : Int) + a 0 1 * sRh a 9 3 0) + a 1 1 * sRh a 9 3 1) + a 2 1 * sRh a 9 3 2) + a 3 1 * sRh a 9 3 3 = _
  simp only [show sRh a 9 3 1 = 0 from rfl, show sRh a 9 3 2 = 0 from rfl, hr_9_3_0, hr_9_3_3, p_8_2, p_8_1, p_1_2, p_1_1, p_9_3]
  unfold d2
  grind
theorem lr_9_5_0 : sSm (fun r => a r 0 * sRh a 9 5 r) 4 = sMi a 9 5 := by
  show ((((0 : Int) + a 0 0 * sRh a 9 5 0) + a 1 0 * sRh a 9 5 1) + a 2 0 * sRh a 9 5 2) + a 3 0 * sRh a 9 5 3 = _
  simp only [show sRh a 9 5 1 = 0 from rfl, show sRh a 9 5 2 = 0 from rfl, hr_9_5_0, hr_9_5_3, p_8_4, p_8_1, p_1_4, p_1_1, p_9_5]
  unfold d2
  grind
theorem lr_9_5_2 : sSm (fun r => a r 2 * sRh a 9 5 r) 4 = sMi a 9 5 := by
  show ((((0 : Int) + a 0 2 * sRh a 9 5 0) + a 1 2 * sRh a 9 5 1) + a 2 2 * sRh a 9 5 2) + a 3 2 * sRh a 9 5 3 = _
  simp only [show sRh a 9 5 1 = 0 from rfl, show sRh a 9 5 2 = 0 from rfl, hr_9_5_0, hr_9_5_3, p_8_4, p_8_1, p_1_4, p_1_1, p_9_5]
  unfold d2
  grind
theorem lr_9_6_1 : sSm (fun r => a r 1 * sRh a 9 6 r) 4 = sMi a 9 6 := by
  show ((((0 : Int) + a 0 1 * sRh a 9 6 0) + a 1 1 * sRh a 9 6 1) + a 2 1 * sRh a 9 6 2) + a 3 1 * sRh a 9 6 3 = _
  simp only [show sRh a 9 6 1 = 0 from rfl, show sRh a 9 6 2 = 0 from rfl, hr_9_6_0, hr_9_6_3, p_8_4, p_8_2, p_1_4, p_1_2, p_9_6]
  unfold d2
  grind
theorem lr_9_6_2 : sSm (fun r => a r 2 * sRh a 9 6 r) 4 = sMi a 9 6 := by
  show ((((0 : Int) + a 0 2 * sRh a 9 6 0) + a 1 2 * sRh a 9 6 1) + a 2 2 * sRh a 9 6 2) + a 3 2 * sRh a 9 6 3 = _
  simp only [show sRh a 9 6 1 = 0 from rfl, show sRh a 9 6 2 = 0 from rfl, hr_9_6_0, hr_9_6_3, p_8_4, p_8_2, p_1_4, p_1_2, p_9_6]
  unfold d2
  grind
theorem lr_9_9_0 : sSm (fun r => a r 0 * sRh a 9 9 r) 4 = sMi a 9 9 := by
  show ((((0 : Int) + a 0 0 * sRh a 9 9 0) + a 1 0 * sRh a 9 9 1) + a 2 0 * sRh a 9 9 2) + a 3 0 * sRh a 9 9 3 = _
  simp only [show sRh a 9 9 1 = 0 from rfl, show sRh a 9 9 2 = 0 from rfl, hr_9_9_0, hr_9_9_3, p_8_8, p_8_1, p_1_8, p_1_1, p_9_9]
  unfold d2
  grind
theorem lr_9_9_3 : sSm (fun r => a r 3 * sRh a 9 9 r) 4 = sMi a 9 9 := by
  show ((((0 : Int) + a 0 3 * sRh a 9 9 0) + a 1 3 * sRh a 9 9 1) + a 2 3 * sRh a 9 9 2) + a 3 3 * sRh a 9 9 3 = _
  simp only [show sRh a 9 9 1 = 0 from rfl, show sRh a 9 9 2 = 0 from rfl, hr_9_9_0, hr_9_9_3, p_8_8, p_8_1, p_1_8, p_1_1, p_9_9]
  unfold d2
  grind
theorem lr_9_10_1 : sSm (fun r => a r 1 * sRh a 9 10 r) 4 = sMi a 9 10 := by
  show ((((0 : Int) + a 0 1 * sRh a 9 10 0) + a 1 1 * sRh a 9 10 1) + a 2 1 * sRh a 9 10 2) + a 3 1 * sRh a 9 10 3 = _
  simp only [show sRh a 9 10 1 = 0 from rfl, show sRh a 9 10 2 = 0 from rfl, hr_9_10_0, hr_9_10_3, p_8_8, p_8_2, p_1_8, p_1_2, p_9_10]
  unfold d2
  grind
theorem lr_9_10_3 : sSm (fun r => a r 3 * sRh a 9 10 r) 4 = sMi a 9 10 := by
  show ((((0 : Int) + a 0 3 * sRh a 9 10 0) + a 1 3 * sRh a 9 10 1) + a 2 3 * sRh a 9 10 2) + a 3 3 * sRh a 9 10 3 = _
  simp only [show sRh a 9 10 1 = 0 from rfl, show sRh a 9 10 2 = 0 from rfl, hr_9_10_0, hr_9_10_3, p_8_8, p_8_2, p_1_8, p_1_2, p_9_10]
  unfold d2
  grind
theorem lr_9_12_2 : sSm (fun r => a r 2 * sRh a 9 12 r) 4 = sMi a 9 12 := by
  show ((((0 : Int) + a 0 2 * sRh a 9 12 0) + a 1 2 * sRh a 9 12 1) + a 2 2 * sRh a 9 12 2) + a 3 2 * sRh a 9 12 3 = _
  simp only [show sRh a 9 12 1 = 0 from rfl, show sRh a 9 12 2 = 0 from rfl, hr_9_12_0, hr_9_12_3, p_8_8, p_8_4, p_1_8, p_1_4, p_9_12]
  unfold d2
  grind
theorem lr_9_12_3 : sSm (fun r => a r 3 * sRh a 9 12 r) 4 = sMi a 9 12 := by
  show ((((0 : Int) + a 0 3 * sRh a 9 12 0) + a 1 3 * sRh a 9 12 1) + a 2 3 * sRh a 9 12 2) + a 3 3 * sRh a 9 12 3 = _
  simp only [show sRh a 9 12 1 = 0 from rfl, show sRh a 9 12 2 = 0 from rfl, hr_9_12_0, hr_9_12_3, p_8_8, p_8_4, p_1_8, p_1_4, p_9_12]
  unfold d2
  grind
theorem lr_10_3_0 : sSm (fun r => a r 0 * sRh a 10 3 r) 4 = sMi a 10 3 := by
  show ((((0 : Int) + a 0 0 * sRh a 10 3 0) + a 1 0 * sRh a 10 3 1) + a 2 0 * sRh a 10 3 2) + a 3 0 * sRh a 10 3 3 = _
  simp only [show sRh a 10 3 0 = 0 from rfl, show sRh a 10 3 2 = 0 from rfl, hr_10_3_1, hr_10_3_3, p_8_2, p_8_1, p_2_2, p_2_1, p_10_3]
  unfold d2
  grind
theorem lr_10_3_1 : sSm (fun r => a r 1 * sRh a 10 3 r) 4 = sMi a 10 3 := by
  show ((((0 : Int) + a 0 1 * sRh a 10 3 0) + a 1 1 * sRh a 10 3 1) + a 2 1 * sRh a 10 3 2) + a 3 1 * sRh a 10 3 3 = _
  simp only [show sRh a 10 3 0 = 0 from rfl, show sRh a 10 3 2 = 0 from rfl, hr_10_3_1, hr_10_3_3, p_8_2, p_8_1, p_2_2, p_2_1, p_10_3]
  unfold d2
  grind
theorem lr_10_5_0 : sSm (fun r => a r 0 * sRh a 10 5 r) 4 = sMi a 10 5 := by
  show ((((0 : Int) + a 0 0 * sRh a 10 5 0) + a 1 0 * sRh a 10 5 1) + a 2 0 * sRh a 10 5 2) + a 3 0 * sRh a 10 5 3 = _
  simp only [show sRh a 10 5 0 = 0 from rfl, show sRh a 10 5 2 = 0 from rfl, hr_10_5_1, hr_10_5_3, p_8_4, p_8_1, p_2_4, p_2_1, p_10_5]
  unfold d2
  grind
theorem lr_10_5_2 : sSm (fun r => a r 2 * sRh a 10 5 r) 4 = sMi a 10 5 := by
  show ((((0 : Int) + a 0 2 * sRh a 10 5 0) + a 1 2 * sRh a 10 5 1) + a 2 2 * sRh a 10 5 2) + a 3 2 * sRh a 10 5 3 = _
  simp only [show sRh a 10 5 0 = 0 from rfl, show sRh a 10 5 2 = 0 from rfl, hr_10_5_1, hr_10_5_3, p_8_4, p_8_1, p_2_4, p_2_1, p_10_5]
  unfold d2
  grind
theorem lr_10_6_1 : sSm (fun r => a r 1 * sRh a 10 6 r) 4 = sMi a 10 6 := by
  show ((((0 : Int) + a 0 1 * sRh a 10 6 0) + a 1 1 * sRh a 10 6 1) + a 2 1 * sRh a 10 6 2) + a 3 1 * sRh a 10 6 3 = _
  simp only [show sRh a 10 6 0 = 0 from rfl, show sRh a 10 6 2 = 0 from rfl, hr_10_6_1, hr_10_6_3, p_8_4, p_8_2, p_2_4, p_2_2, p_10_6]
  unfold d2
  grind
theorem lr_10_6_2 : sSm (fun r => a r 2 * sRh a 10 6 r) 4 = sMi a 10 6 := by
  show ((((0 : Int) + a 0 2 * sRh a 10 6 0) + a 1 2 * sRh a 10 6 1) + a 2 2 * sRh a 10 6 2) + a 3 2 * sRh a 10 6 3 = _
  simp only [show sRh a 10 6 0 = 0 from rfl, show sRh a 10 6 2 = 0 from rfl, hr_10_6_1, hr_10_6_3, p_8_4, p_8_2, p_2_4, p_2_2, p_10_6]
  unfold d2
  grind
theorem lr_10_9_0 : sSm (fun r => a r 0 * sRh a 10 9 r) 4 = sMi a 10 9 := by
  show ((((0 : Int) + a 0 0 * sRh a 10 9 0) + a 1 0 * sRh a 10 9 1) + a 2 0 * sRh a 10 9 2) + a 3 0 * sRh a 10 9 3 = _
  simp only [show sRh a 10 9 0 = 0 from rfl, show sRh a 10 9 2 = 0 from rfl, hr_10_9_1, hr_10_9_3, p_8_8, p_8_1, p_2_8, p_2_1, p_10_9]
  unfold d2
  grind
theorem lr_10_9_3 : sSm (fun r => a r 3 * sRh a 10 9 r) 4 = sMi a 10 9 := by
  show ((((0 : Int) + a 0 3 * sRh a 10 9 0) + a 1 3 * sRh a 10 9 1) + a 2 3 * sRh a 10 9 2) + a 3 3 * sRh a 10 9 3 = _
  simp only [show sRh a 10 9 0 = 0 from rfl, show sRh a 10 9 2 = 0 from rfl, hr_10_9_1, hr_10_9_3, p_8_8, p_8_1, p_2_8, p_2_1, p_10_9]
  unfold d2
  grind
theorem lr_10_10_1 : sSm (fun r => a r 1 * sRh a 10 10 r) 4 = sMi a 10 10 := by
  show ((((0 : Int) + a 0 1 * sRh a 10 10 0) + a 1 1 * sRh a 10 10 1) + a 2 1 * sRh a 10 10 2) + a 3 1 * sRh a 10 10 3 = _
  simp only [show sRh a 10 10 0 = 0 from rfl, show sRh a 10 10 2 = 0 from rfl, hr_10_10_1, hr_10_10_3, p_8_8, p_8_2, p_2_8, p_2_2, p_10_10]
  unfold d2
  grind
theorem lr_10_10_3 : sSm (fun r => a r 3 * sRh a 10 10 r) 4 = sMi a 10 10 := by
  show ((((0 : Int) + a 0 3 * sRh a 10 10 0) + a 1 3 * sRh a 10 10 1) + a 2 3 * sRh a 10 10 2) + a 3 3 * sRh a 10 10 3 = _
  simp only [show sRh a 10 10 0 = 0 from rfl, show sRh a 10 10 2 = 0 from rfl, hr_10_10_1, hr_10_10_3, p_8_8, p_8_2, p_2_8, p_2_2, p_10_10]
  unfold d2
  grind
theorem lr_10_12_2 : sSm (fun r => a r 2 * sRh a 10 12 r) 4 = sMi a 10 12 := by
  show ((((0 : Int) + a 0 2 * sRh a 10 12 0) + a 1 2 * sRh a 10 12 1) + a 2 2 * sRh a 10 12 2) + a 3 2 * sRh a 10 12 3 = _
  simp only [show sRh a 10 12 0 = 0 from rfl, show sRh a 10 12 2 = 0 from rfl, hr_10_12_1, hr_10_12_3, p_8_8, p_8_4, p_2_8, p_2_4, p_10_12]
  unfold d2
  grind
theorem lr_10_12_3 : sSm (fun r => a r 3 * sRh a 10 12 r) 4 = sMi a 10 12 := by
  show ((((0 : Int) + a 0 3 * sRh a 10 12 0) + a 1 3 * sRh a 10 12 1) + a 2 3 * sRh a 10 12 2) + a 3 3 * sRh a 10 12 3 = _
  simp only [show sRh a 10 12 0 = 0 from rfl, show sRh a 10 12 2 = 0 from rfl, hr_10_12_1, hr_10_12_3, p_8_8, p_8_4, p_2_8, p_2_4, p_10_12]
  unfold d2
  grind
theorem lr_11_7_0 : sSm (fun r => a r 0 * sRh a 11 7 r) 4 = sMi a 11 7 := by
  show ((((0 : Int) + a 0 0 * sRh a 11 7 0) + a 1 0 * sRh a 11 7 1) + a 2 0 * sRh a 11 7 2) + a 3 0 * sRh a 11 7 3 = _
  simp only [show sRh a 11 7 2 = 0 from rfl, hr_11_7_0, hr_11_7_1, hr_11_7_3, p_10_6, p_10_5, p_10_3, p_9_6, p_9_5, p_9_3, p_3_6, p_3_5, p_3_3, p_11_7]
  unfold d3 d2
  grind
theorem lr_11_7_1 : sSm (fun r => a r 1 * sRh a 11 7 r) 4 = sMi a 11 7 := by
  show ((((0 : Int) + a 0 1 * sRh a 11 7 0) + a 1 1 * sRh a 11 7 1) + a 2 1 * sRh a 11 7 2) + a 3 1 * sRh a 11 7 3 = _
  simp only [show sRh a 11 7 2 = 0 from rfl, hr_11_7_0, hr_11_7_1, hr_11_7_3, p_10_6, p_10_5, p_10_3, p_9_6, p_9_5, p_9_3, p_3_6, p_3_5, p_3_3, p_11_7]
  unfold d3 d2
  grind
theorem lr_11_7_2 : sSm (fun r => a r 2 * sRh a 11 7 r) 4 = sMi a 11 7 := by
  show ((((0 : Int) + a 0 2 * sRh a 11 7 0) + a 1 2 * sRh a 11 7 1) + a 2 2 * sRh a 11 7 2) + a 3 2 * sRh a 11 7 3 = _
  simp only [show sRh a 11 7 2 = 0 from rfl, hr_11_7_0, hr_11_7_1, hr_11_7_3, p_10_6, p_10_5, p_10_3, p_9_6, p_9_5, p_9_3, p_3_6, p_3_5, p_3_3, p_11_7]
  unfold d3 d2
  grind
theorem lr_11_11_0 : sSm (fun r => a r 0 * sRh a 11 11 r) 4 = sMi a 11 11 := by
  show ((((0 : Int) + a 0 0 * sRh a 11 11 0) + a 1 0 * sRh a 11 11 1) + a 2 0 * sRh a 11 11 2) + a 3 0 * sRh a 11 11 3 = _
  simp only [show sRh a 11 11 2 = 0 from rfl, hr_11_11_0, hr_11_11_1, hr_11_11_3, p_10_10, p_10_9, p_10_3, p_9_10, p_9_9, p_9_3, p_3_10, p_3_9, p_3_3, p_11_11]
  unfold d3 d2
  grind
theorem lr_11_11_1 : sSm (fun r => a r 1 * sRh a 11 11 r) 4 = sMi a 11 11 := by
  show ((((0 : Int) + a 0 1 * sRh a 11 11 0) + a 1 1 * sRh a 11 11 1) + a 2 1 * sRh a 11 11 2) + a 3 1 * sRh a 11 11 3 = _
  simp only [show sRh a 11 11 2 = 0 from rfl, hr_11_11_0, hr_11_11_1, hr_11_11_3, p_10_10, p_10_9, p_10_3, p_9_10, p_9_9, p_9_3, p_3_10, p_3_9, p_3_3, p_11_11]
  unfold d3 d2
  grind
theorem lr_11_11_3 : sSm (fun r => a r 3 * sRh a 11 11 r) 4 = sMi a 11 11 := by
  show ((((0 : Int) + a 0 3 * sRh a 11 11 0) + a 1 3 * sRh a 11 11 1) + a 2 3 * sRh a 11 11 2) + a 3 3 * sRh a 11 11 3 = _
  simp only [show sRh a 11 11 2 = 0 from rfl, hr_11_11_0, hr_11_11_1, hr_11_11_3, p_10_10, p_10_9, p_10_3, p_9_10, p_9_9, p_9_3, p_3_10, p_3_9, p_3_3, p_11_11]
  unfold d3 d2
  grind
theorem lr_11_13_0 : sSm (fun r => a r 0 * sRh a 11 13 r) 4 = sMi a 11 13 := by
  show ((((0 : Int) + a 0 0 * sRh a 11 13 0) + a 1 0 * sRh a 11 13 1) + a 2 0 * sRh a 11 13 2) + a 3 0 * sRh a 11 13 3 = _
  simp only [show sRh a 11 13 2 = 0 from rfl, hr_11_13_0, hr_11_13_1, hr_11_13_3, p_10_12, p_10_9, p_10_5, p_9_12, p_9_9, p_9_5, p_3_12, p_3_9, p_3_5, p_11_13]
  unfold d3 d2
  grind
theorem lr_11_13_2 : sSm (fun r => a r 2 * sRh a 11 13 r) 4 = sMi a 11 13 := by
  show ((((0 : Int) + a 0 2 * sRh a 11 13 0) + a 1 2 * sRh a 11 13 1) + a 2 2 * sRh a 11 13 2) + a 3 2 * sRh a 11 13 3 = _
  simp only [show sRh a 11 13 2 = 0 from rfl, hr_11_13_0, hr_11_13_1, hr_11_13_3, p_10_12, p_10_9, p_10_5, p_9_12, p_9_9, p_9_5, p_3_12, p_3_9, p_3_5, p_11_13]
  unfold d3 d2
  grind
theorem lr_11_13_3 : sSm (fun r => a r 3 * sRh a 11 13 r) 4 = sMi a 11 13 := by
  show ((((0 : Int) + a 0 3 * sRh a 11 13 0) + a 1 3 * sRh a 11 13 1) + a 2 3 * sRh a 11 13 2) + a 3 3 * sRh a 11 13 3 = _
  simp only [show sRh a 11 13 2 = 0 from rfl, hr_11_13_0, hr_11_13_1, hr_11_13_3, p_10_12, p_10_9, p_10_5, p_9_12, p_9_9, p_9_5, p_3_12, p_3_9, p_3_5, p_11_13]
  unfold d3 d2
  grind
theorem lr_11_14_1 : sSm (fun r => a r 1 * sRh a 11 14 r) 4 = sMi a 11 14 := by
  show ((((0 : Int) + a 0 1 * sRh a 11 14 0) + a 1 1 * sRh a 11 14 1) + a 2 1 * sRh a 11 14 2) + a 3 1 * sRh a 11 14 3 = _
  simp only [show sRh a 11 14 2 = 0 from rfl, hr_11_14_0, hr_11_14_1, hr_11_14_3, p_10_12, p_10_10, p_10_6, p_9_12, p_9_10, p_9_6, p_3_12, p_3_10, p_3_6, p_11_14]
  unfold d3 d2
  grind
theorem lr_11_14_2 : sSm (fun r => a r 2 * sRh a 11 14 r) 4 = sMi a 11 14 := by
  show ((((0 : Int) + a 0 2 * sRh a 11 14 0) + a 1 2 * sRh a 11 14 1) + a 2 2 * sRh a 11 14 2) + a 3 2 * sRh a 11 14 3 = _
  simp only [show sRh a 11 14 2 = 0 from rfl, hr_11_14_0, hr_11_14_1, hr_11_14_3, p_10_12, p_10_10, p_10_6, p_9_12, p_9_10, p_9_6, p_3_12, p_3_10, p_3_6, p_11_14]
  unfold d3 d2
  grind
theorem lr_11_14_3 : sSm (fun r => a r 3 * sRh a 11 14 r) 4 = sMi a 11 14 := by
  show ((((0 : Int) + a 0 3 * sRh a 11 14 0) + a 1 3 * sRh a 11 14 1) + a 2 3 * sRh a 11 14 2) + a 3 3 * sRh a 11 14 3 = _
  simp only [show sRh a 11 14 2 = 0 from rfl, hr_11_14_0, hr_11_14_1, hr_11_14_3, p_10_12, p_10_10, p_10_6, p_9_12, p_9_10, p_9_6, p_3_12, p_3_10, p_3_6, p_11_14]
  unfold d3 d2
  grind
theorem lr_12_3_0 : sSm (fun r => a r 0 * sRh a 12 3 r) 4 = sMi a 12 3 := by
  show ((((0 : Int) + a 0 0 * sRh a 12 3 0) + a 1 0 * sRh a 12 3 1) + a 2 0 * sRh a 12 3 2) + a 3 0 * sRh a 12 3 3 = _
  simp only [show sRh a 12 3 0 = 0 from rfl, show sRh a 12 3 1 = 0 from rfl, hr_12_3_2, hr_12_3_3, p_8_2, p_8_1, p_4_2, p_4_1, p_12_3]
  unfold d2
  grind
theorem lr_12_3_1 : sSm (fun r => a r 1 * sRh a 12 3 r) 4 = sMi a 12 3 := by
  show ((((0 : Int) + a 0 1 * sRh a 12 3 0) + a 1 1 * sRh a 12 3 1) + a 2 1 * sRh a 12 3 2) + a 3 1 * sRh a 12 3 3 = _
  simp only [show sRh a 12 3 0 = 0 from rfl, show sRh a 12 3 1 = 0 from rfl, hr_12_3_2, hr_12_3_3, p_8_2, p_8_1, p_4_2, p_4_1, p_12_3]
  unfold d2
  grind
theorem lr_12_5_0 : sSm (fun r => a r 0 * sRh a 12 5 r) 4 = sMi a 12 5 := by
  show ((((0 : Int) + a 0 0 * sRh a 12 5 0) + a 1 0 * sRh a 12 5 1) + a 2 0 * sRh a 12 5 2) + a 3 0 * sRh a 12 5 3 = _
  simp only [show sRh a 12 5 0 = 0 from rfl, show sRh a 12 5 1 = 0 from rfl, hr_12_5_2, hr_12_5_3, p_8_4, p_8_1, p_4_4, p_4_1, p_12_5]
  unfold d2
  grind
theorem lr_12_5_2 : sSm (fun r => a r 2 * sRh a 12 5 r) 4 = sMi a 12 5 := by
  show ((((0 : Int) + a 0 2 * sRh a 12 5 0) + a 1 2 * sRh a 12 5 1) + a 2 2 * sRh a 12 5 2) + a 3 2 * sRh a 12 5 3 = _
  simp only [show sRh a 12 5 0 = 0 from rfl, show sRh a 12 5 1 = 0 from rfl, hr_12_5_2, hr_12_5_3, p_8_4, p_8_1, p_4_4, p_4_1, p_12_5]
  unfold d2
  grind
theorem lr_12_6_1 : sSm (fun r => a r 1 * sRh a 12 6 r) 4 = sMi a 12 6 := by
  show ((((0 : Int) + a 0 1 * sRh a 12 6 0) + a 1 1 * sRh a 12 6 1) + a 2 1 * sRh a 12 6 2) + a 3 1 * sRh a 12 6 3 = _
  simp only [show sRh a 12 6 0 = 0 from rfl, show sRh a 12 6 1 = 0 from rfl, hr_12_6_2, hr_12_6_3, p_8_4, p_8_2, p_4_4, p_4_2, p_12_6]
  unfold d2
  grind
theorem lr_12_6_2 : sSm (fun r => a r 2 * sRh a 12 6 r) 4 = sMi a 12 6 := by
  show ((((0 : Int) + a 0 2 * sRh a 12 6 0) + a 1 2 * sRh a 12 6 1) + a 2 2 * sRh a 12 6 2) + a 3 2 * sRh a 12 6 3 = _
  simp only [show sRh a 12 6 0 = 0 from rfl, show sRh a 12 6 1 = 0 from rfl, hr_12_6_2, hr_12_6_3, p_8_4, p_8_2, p_4_4, p_4_2, p_12_6]
  unfold d2
  grind
theorem lr_12_9_0 : sSm (fun r => a r 0 * sRh a 12 9 r) 4 = sMi a 12 9 := by
  show ((((0 : Int) + a 0 0 * sRh a 12 9 0) + a 1 0 * sRh a 12 9 1) + a 2 0 * sRh a 12 9 2) + a 3 0 * sRh a 12 9 3 = _
  simp only [show sRh a 12 9 0 = 0 from rfl, show sRh a 12 9 1 = 0 from rfl, hr_12_9_2, hr_12_9_3, p_8_8, p_8_1, p_4_8, p_4_1, p_12_9]
  unfold d2
  grind
theorem lr_12_9_3 : sSm (fun r => a r 3 * sRh a 12 9 r) 4 = sMi a 12 9 := by
  show ((((0 : Int) + a 0 3 * sRh a 12 9 0) + a 1 3 * sRh a 12 9 1) + a 2 3 * sRh a 12 9 2) + a 3 3 * sRh a 12 9 3 = _
  simp only [show sRh a 12 9 0 = 0 from rfl, show sRh a 12 9 1 = 0 from rfl, hr_12_9_2, hr_12_9_3, p_8_8, p_8_1, p_4_8, p_4_1, p_12_9]
  unfold d2
  grind
theorem lr_12_10_1 : sSm (fun r => a r 1 * sRh a 12 10 r) 4 = sMi a 12 10 := by
  show ((((0 : Int) + a 0 1 * sRh a 12 10 0) + a 1 1 * sRh a 12 10 1) + a 2 1 * sRh a 12 10 2) + a 3 1 * sRh a 12 10 3 = _
  simp only [show sRh a 12 10 0 = 0 from rfl, show sRh a 12 10 1 = 0 from rfl, hr_12_10_2, hr_12_10_3, p_8_8, p_8_2, p_4_8, p_4_2, p_12_10]
  unfold d2
  grind
theorem lr_12_10_3 : sSm (fun r => a r 3 * sRh a 12 10 r) 4 = sMi a 12 10 := by
  show ((((0 : Int) + a 0 3 * sRh a 12 10 0) + a 1 3 * sRh a 12 10 1) + a 2 3 * sRh a 12 10 2) + a 3 3 * sRh a 12 10 3 = _
  simp only [show sRh a 12 10 0 = 0 from rfl, show sRh a 12 10 1 = 0 from rfl, hr_12_10_2, hr_12_10_3, p_8_8, p_8_2, p_4_8, p_4_2, p_12_10]
  unfold d2
  grind
theorem lr_12_12_2 : sSm (fun r => a r 2 * sRh a 12 12 r) 4 = sMi a 12 12 := by
  show ((((0 : Int) + a 0 2 * sRh a 12 12 0) + a 1 2 * sRh a 12 12 1) + a 2 2 * sRh a 12 12 2) + a 3 2 * sRh a 12 12 3 = _
  simp only [show sRh a 12 12 0 = 0 from rfl, show sRh a 12 12 1 = 0 from rfl, hr_12_12_2, hr_12_12_3, p_8_8, p_8_4, p_4_8, p_4_4, p_12_12]
  unfold d2
  grind
theorem lr_12_12_3 : sSm (fun r => a r 3 * sRh a 12 12 r) 4 = sMi a 12 12 := by
  show ((((0 : Int) + a 0 3 * sRh a 12 12 0) + a 1 3 * sRh a 12 12 1) + a 2 3 * sRh a 12 12 2) + a 3 3 * sRh a 12 12 3 = _
  simp only [show sRh a 12 12 0 = 0 from rfl, show sRh a 12 12 1 = 0 from rfl, hr_12_12_2, hr_12_12_3, p_8_8, p_8_4, p_4_8, p_4_4, p_12_12]
  unfold d2
  grind
theorem lr_13_7_0 : sSm (fun r => a r 0 * sRh a 13 7 r) 4 = sMi a 13 7 := by
  show ((((0 : Int) + a 0 0 * sRh a 13 7 0) + a 1 0 * sRh a 13 7 1) + a 2 0 * sRh a 13 7 2) + a 3 0 * sRh a 13 7 3 = _
  simp only [show sRh a 13 7 1 = 0 from rfl, hr_13_7_0, hr_13_7_2, hr_13_7_3, p_12_6, p_12_5, p_12_3, p_9_6, p_9_5, p_9_3, p_5_6, p_5_5, p_5_3, p_13_7]
  unfold d3 d2
  grind
theorem lr_13_7_1 : sSm (fun r => a r 1 * sRh a 13 7 r) 4 = sMi a 13 7 := by
  show ((((0 : Int) + a 0 1 * sRh a 13 7 0) + a 1 1 * sRh a 13 7 1) + a 2 1 * sRh a 13 7 2) + a 3 1 * sRh a 13 7 3 = _
  simp only [show sRh a 13 7 1 = 0 from rfl, hr_13_7_0, hr_13_7_2, hr_13_7_3, p_12_6, p_12_5, p_12_3, p_9_6, p_9_5, p_9_3, p_5_6, p_5_5, p_5_3, p_13_7]
  unfold d3 d2
  grind
theorem lr_13_7_2 : sSm (fun r => a r 2 * sRh a 13 7 r) 4 = sMi a 13 7 := by
  show ((((0 : Int) + a 0 2 * sRh a 13 7 0) + a 1 2 * sRh a 13 7 1) + a 2 2 * sRh a 13 7 2) + a 3 2 * sRh a 13 7 3 = _
  simp only [show sRh a 13 7 1 = 0 from rfl, hr_13_7_0, hr_13_7_2, hr_13_7_3, p_12_6, p_12_5, p_12_3, p_9_6, p_9_5, p_9_3, p_5_6, p_5_5, p_5_3, p_13_7]
  unfold d3 d2
  grind
theorem lr_13_11_0 : sSm (fun r => a r 0 * sRh a 13 11 r) 4 = sMi a 13 11 := by
  show ((((0 : Int) + a 0 0 * sRh a 13 11 0) + a 1 0 * sRh a 13 11 1) + a 2 0 * sRh a 13 11 2) + a 3 0 * sRh a 13 11 3 = _
  simp only [show sRh a 13 11 1 = 0 from rfl, hr_13_11_0, hr_13_11_2, hr_13_11_3, p_12_10, p_12_9, p_12_3, p_9_10, p_9_9, p_9_3, p_5_10, p_5_9, p_5_3, p_13_11]
  unfold d3 d2
  grind
theorem lr_13_11_1 : sSm (fun r => a r 1 * sRh a 13 11 r) 4 = sMi a 13 11 := by
  show ((((0 : Int) + a 0 1 * sRh a 13 11 0) + a 1 1 * sRh a 13 11 1) + a 2 1 * sRh a 13 11 2) + a 3 1 * sRh a 13 11 3 = _
  simp only [show sRh a 13 11 1 = 0 from rfl, hr_13_11_0, hr_13_11_2, hr_13_11_3, p_12_10, p_12_9, p_12_3, p_9_10, p_9_9, p_9_3, p_5_10, p_5_9, p_5_3, p_13_11]
  unfold d3 d2
  grind
theorem lr_13_11_3 : sSm (fun r => a r 3 * sRh a 13 11 r) 4 = sMi a 13 11 := by
  show ((((0 : Int) + a 0 3 * sRh a 13 11 0) + a 1 3 * sRh a 13 11 1) + a 2 3 * sRh a 13 11 2) + a 3 3 * sRh a 13 11 3 = _
  simp only [show sRh a 13 11 1 = 0 from rfl, hr_13_11_0, hr_13_11_2, hr_13_11_3, p_12_10, p_12_9, p_12_3, p_9_10, p_9_9, p_9_3, p_5_10, p_5_9, p_5_3, p_13_11]
  unfold d3 d2
  grind
theorem lr_13_13_0 : sSm (fun r => a r 0 * sRh a 13 13 r) 4 = sMi a 13 13 := by
  show ((((0 : Int) + a 0 0 * sRh a 13 13 0) + a 1 0 * sRh a 13 13 1) + a 2 0 * sRh a 13 13 2) + a 3 0 * sRh a 13 13 3 = _
  simp only [show sRh a 13 13 1 = 0 from rfl, hr_13_13_0, hr_13_13_2, hr_13_13_3, p_12_12, p_12_9, p_12_5, p_9_12, p_9_9, p_9_5, p_5_12, p_5_9, p_5_5, p_13_13]
  unfold d3 d2
  grind
theorem lr_13_13_2 : sSm (fun r => a r 2 * sRh a 13 13 r) 4 = sMi a 13 13 := by
  show ((((0 : Int) + a 0 2 * sRh a 13 13 0) + a 1 2 * sRh a 13 13 1) + a 2 2 * sRh a 13 13 2) + a 3 2 * sRh a 13 13 3 = _
  simp only [show sRh a 13 13 1 = 0 from rfl, hr_13_13_0, hr_13_13_2, hr_13_13_3, p_12_12, p_12_9, p_12_5, p_9_12, p_9_9, p_9_5, p_5_12, p_5_9, p_5_5, p_13_13]
  unfold d3 d2
  grind
theorem lr_13_13_3 : sSm (fun r => a r 3 * sRh a 13 13 r) 4 = sMi a 13 13 := by
  show ((((0 : Int) + a 0 3 * sRh a 13 13 0) + a 1 3 * sRh a 13 13 1) + a 2 3 * sRh a 13 13 2) + a 3 3 * sRh a 13 13 3 = _
  simp only [show sRh a 13 13 1 = 0 from rfl, hr_13_13_0, hr_13_13_2, hr_13_13_3, p_12_12, p_12_9, p_12_5, p_9_12, p_9_9, p_9_5, p_5_12, p_5_9, p_5_5, p_13_13]
  unfold d3 d2
  grind
theorem lr_13_14_1 : sSm (fun r => a r 1 * sRh a 13 14 r) 4 = sMi a 13 14 := by
  show ((((0 : Int) + a 0 1 * sRh a 13 14 0) + a 1 1 * sRh a 13 14 1) + a 2 1 * sRh a 13 14 2) + a 3 1 * sRh a 13 14 3 = _
  simp only [show sRh a 13 14 1 = 0 from rfl, hr_13_14_0, hr_13_14_2, hr_13_14_3, p_12_12, p_12_10, p_12_6, p_9_12, p_9_10, p_9_6, p_5_12, p_5_10, p_5_6, p_13_14]
  unfold d3 d2
  grind
theorem lr_13_14_2 : sSm (fun r => a r 2 * sRh a 13 14 r) 4 = sMi a 13 14 := by
  show ((((0 : Int) + a 0 2 * sRh a 13 14 0) + a 1 2 * sRh a 13 14 1) + a 2 2 * sRh a 13 14 2) + a 3 2 * sRh a 13 14 3 = _
  simp only [show sRh a 13 14 1 = 0 from rfl, hr_13_14_0, hr_13_14_2, hr_13_14_3, p_12_12, p_12_10, p_12_6, p_9_12, p_9_10, p_9_6, p_5_12, p_5_10, p_5_6, p_13_14]
  unfold d3 d2
  grind
theorem lr_13_14_3 : sSm (fun r => a r 3 * sRh a 13 14 r) 4 = sMi a 13 14 := by
  show ((((0 : Int) + a 0 3 * sRh a 13 14 0) + a 1 3 * sRh a 13 14 1) + a 2 3 * sRh a 13 14 2) + a 3 3 * sRh a 13 14 3 = _
  simp only [show sRh a 13 14 1 = 0 from rfl, hr_13_14_0, hr_13_14_2, hr_13_14_3, p_12_12, p_12_10, p_12_6, p_9_12, p_9_10, p_9_6, p_5_12, p_5_10, p_5_6, p_13_14]
  unfold d3 d2
  grind
theorem lr_14_7_0 : sSm (fun r => a r 0 * sRh a 14 7 r) 4 = sMi a 14 7 := by
  show ((((0 : Int) + a 0 0 * sRh a 14 7 0) + a 1 0 * sRh a 14 7 1) + a 2 0 * sRh a 14 7 2) + a 3 0 * sRh a 14 7 3 = _
  simp only [show sRh a 14 7 0 = 0 from rfl, hr_14_7_1, hr_14_7_2, hr_14_7_3, p_12_6, p_12_5, p_12_3, p_10_6, p_10_5, p_10_3, p_6_6, p_6_5, p_6_3, p_14_7]
  unfold d3 d2
  grind
theorem lr_14_7_1 : sSm (fun r => a r 1 * sRh a 14 7 r) 4 = sMi a 14 7 := by
  show ((((0 : Int) + a 0 1 * sRh a 14 7 0) + a 1 1 * sRh a 14 7 1) + a 2 1 * sRh a 14 7 2) + a 3 1 * sRh a 14 7 3 = _
  simp only [show sRh a 14 7 0 = 0 from rfl, hr_14_7_1, hr_14_7_2, hr_14_7_3, p_12_6, p_12_5, p_12_3, p_10_6, p_10_5, p_10_3, p_6_6, p_6_5, p_6_3, p_14_7]
  unfold d3 d2
  grind
theorem lr_14_7_2 : sSm (fun r => a r 2 * sRh a 14 7 r) 4 = sMi a 14 7 := by
  show ((((0 : Int) + a 0 2 * sRh a 14 7 0) + a 1 2 * sRh a 14 7 1) + a 2 2 * sRh a 14 7 2) + a 3 2 * sRh a 14 7 3 = _
  simp only [show sRh a 14 7 0 = 0 from rfl, hr_14_7_1, hr_14_7_2, hr_14_7_3, p_12_6, p_12_5, p_12_3, p_10_6, p_10_5, p_10_3, p_6_6, p_6_5, p_6_3, p_14_7]
  unfold d3 d2
  grind
theorem lr_14_11_0 : sSm (fun r => a r 0 * sRh a 14 11 r) 4 = sMi a 14 11 := by
  show ((((0 : Int) + a 0 0 * sRh a 14 11 0) + a 1 0 * sRh a 14 11 1) + a 2 0 * sRh a 14 11 2) + a 3 0 * sRh a 14 11 3 = _
  simp only [show sRh a 14 11 0 = 0 from rfl, hr_14_11_1, hr_14_11_2, hr_14_11_3, p_12_10, p_12_9, p_12_3, p_10_10, p_10_9, p_10_3, p_6_10, p_6_9, p_6_3, p_14_11]
  unfold d3 d2
  grind
theorem lr_14_11_1 : sSm (fun r => a r 1 * sRh a 14 11 r) 4 = sMi a 14 11 := by
  show ((((0 : Int) + a 0 1 * sRh a 14 11 0) + a 1 1 * sRh a 14 11 1) + a 2 1 * sRh a 14 11 2) + a 3 1 * sRh a 14 11 3 = _
  simp only [show sRh a 14 11 0 = 0 from rfl, hr_14_11_1, hr_14_11_2, hr_14_11_3, p_12_10, p_12_9, p_12_3, p_10_10, p_10_9, p_10_3, p_6_10, p_6_9, p_6_3, p_14_11]
  unfold d3 d2
  grind
theorem lr_14_11_3 : sSm (fun r => a r 3 * sRh a 14 11 r) 4 = sMi a 14 11 := by
  show ((((0 : Int) + a 0 3 * sRh a 14 11 0) + a 1 3 * sRh a 14 11 1) + a 2 3 * sRh a 14 11 2) + a 3 3 * sRh a 14 11 3 = _
  simp only [show sRh a 14 11 0 = 0 from rfl, hr_14_11_1, hr_14_11_2, hr_14_11_3, p_12_10, p_12_9, p_12_3, p_10_10, p_10_9, p_10_3, p_6_10, p_6_9, p_6_3, p_14_11]
  unfold d3 d2
  grind
theorem lr_14_13_0 : sSm (fun r => a r 0 * sRh a 14 13 r) 4 = sMi a 14 13 := by
  show ((((0 : Int) + a 0 0 * sRh a 14 13 0) + a 1 0 * sRh a 14 13 1) + a 2 0 * sRh a 14 13 2) + a 3 0 * sRh a 14 13 3 = _
  simp only [show sRh a 14 13 0 = 0 from rfl, hr_14_13_1, hr_14_13_2, hr_14_13_3, p_12_12, p_12_9, p_12_5, p_10_12, p_10_9, p_10_5, p_6_12, p_6_9, p_6_5, p_14_13]
  unfold d3 d2
  grind
theorem lr_14_13_2 : sSm (fun r => a r 2 * sRh a 14 13 r) 4 = sMi a 14 13 := by
  show ((((0 : Int) + a 0 2 * sRh a 14 13 0) + a 1 2 * sRh a 14 13 1) + a 2 2 * sRh a 14 13 2) + a 3 2 * sRh a 14 13 3 = _
  simp only [show sRh a 14 13 0 = 0 from rfl, hr_14_13_1, hr_14_13_2, hr_14_13_3, p_12_12, p_12_9, p_12_5, p_10_12, p_10_9, p_10_5, p_6_12, p_6_9, p_6_5, p_14_13]
  unfold d3 d2
  grind
theorem lr_14_13_3 : sSm (fun r => a r 3 * sRh a 14 13 r) 4 = sMi a 14 13 := by
  show ((((0 : Int) + a 0 3 * sRh a 14 13 0) + a 1 3 * sRh a 14 13 1) + a 2 3 * sRh a 14 13 2) + a 3 3 * sRh a 14 13 3 = _
  simp only [show sRh a 14 13 0 = 0 from rfl, hr_14_13_1, hr_14_13_2, hr_14_13_3, p_12_12, p_12_9, p_12_5, p_10_12, p_10_9, p_10_5, p_6_12, p_6_9, p_6_5, p_14_13]
  unfold d3 d2
  grind
theorem lr_14_14_1 : sSm (fun r => a r 1 * sRh a 14 14 r) 4 = sMi a 14 14 := by
  show ((((0 : Int) + a 0 1 * sRh a 14 14 0) + a 1 1 * sRh a 14 14 1) + a 2 1 * sRh a 14 14 2) + a 3 1 * sRh a 14 14 3 = _
  simp only [show sRh a 14 14 0 = 0 from rfl, hr_14_14_1, hr_14_14_2, hr_14_14_3, p_12_12, p_12_10, p_12_6, p_10_12, p_10_10, p_10_6, p_6_12, p_6_10, p_6_6, p_14_14]
  unfold d3 d2
  grind
theorem lr_14_14_2 : sSm (fun r => a r 2 * sRh a 14 14 r) 4 = sMi a 14 14 := by
  show ((((0 : Int) + a 0 2 * sRh a 14 14 0) + a 1 2 * sRh a 14 14 1) + a 2 2 * sRh a 14 14 2) + a 3 2 * sRh a 14 14 3 = _
  simp only [show sRh a 14 14 0 = 0 from rfl, hr_14_14_1, hr_14_14_2, hr_14_14_3, p_12_12, p_12_10, p_12_6, p_10_12, p_10_10, p_10_6, p_6_12, p_6_10, p_6_6, p_14_14]
  unfold d3 d2
  grind
theorem lr_14_14_3 : sSm (fun r => a r 3 * sRh a 14 14 r) 4 = sMi a 14 14 := by
  show ((((0 : Int) + a 0 3 * sRh a 14 14 0) + a 1 3 * sRh a 14 14 1) + a 2 3 * sRh a 14 14 2) + a 3 3 * sRh a 14 14 3 = _
  simp only [show sRh a 14 14 0 = 0 from rfl, hr_14_14_1, hr_14_14_2, hr_14_14_3, p_12_12, p_12_10, p_12_6, p_10_12, p_10_10, p_10_6, p_6_12, p_6_10, p_6_6, p_14_14]
  unfold d3 d2
  grind
theorem lr_15_15_0 : sSm (fun r => a r 0 * sRh a 15 15 r) 4 = sMi a 15 15 := by
  show ((((0 : Int) + a 0 0 * sRh a 15 15 0) + a 1 0 * sRh a 15 15 1) + a 2 0 * sRh a 15 15 2) + a 3 0 * sRh a 15 15 3 = _
  simp only [hr_15_15_0, hr_15_15_1, hr_15_15_2, hr_15_15_3, p_14_14, p_14_13, p_14_11, p_14_7, p_13_14, p_13_13, p_13_11, p_13_7, p_11_14, p_11_13, p_11_11, p_11_7, p_7_14, p_7_13, p_7_11, p_7_7, p_15_15]
  unfold d4 d3 d2
  grind
theorem lr_15_15_1 : sSm (fun r => a r 1 * sRh a 15 15 r) 4 = sMi a 15 15 := by
  show ((((0 : Int) + a 0 1 * sRh a 15 15 0) + a 1 1 * sRh a 15 15 1) + a 2 1 * sRh a 15 15 2) + a 3 1 * sRh a 15 15 3 = _
  simp only [hr_15_15_0, hr_15_15_1, hr_15_15_2, hr_15_15_3, p_14_14, p_14_13, p_14_11, p_14_7, p_13_14, p_13_13, p_13_11, p_13_7, p_11_14, p_11_13, p_11_11, p_11_7, p_7_14, p_7_13, p_7_11, p_7_7, p_15_15]
  unfold d4 d3 d2
  grind
theorem lr_15_15_2 : sSm (fun r => a r 2 * sRh a 15 15 r) 4 = sMi a 15 15 := by
  show ((((0 : Int) + a 0 2 * sRh a 15 15 0) + a 1 2 * sRh a 15 15 1) + a 2 2 * sRh a 15 15 2) + a 3 2 * sRh a 15 15 3 = _
  simp only [hr_15_15_0, hr_15_15_1, hr_15_15_2, hr_15_15_3, p_14_14, p_14_13, p_14_11, p_14_7, p_13_14, p_13_13, p_13_11, p_13_7, p_11_14, p_11_13, p_11_11, p_11_7, p_7_14, p_7_13, p_7_11, p_7_7, p_15_15]
  unfold d4 d3 d2
  grind
theorem lr_15_15_3 : sSm (fun r => a r 3 * sRh a 15 15 r) 4 = sMi a 15 15 := by
  show ((((0 : Int) + a 0 3 * sRh a 15 15 0) + a 1 3 * sRh a 15 15 1) + a 2 3 * sRh a 15 15 2) + a 3 3 * sRh a 15 15 3 = _
  simp only [hr_15_15_0, hr_15_15_1, hr_15_15_2, hr_15_15_3, p_14_14, p_14_13, p_14_11, p_14_7, p_13_14, p_13_13, p_13_11, p_13_7, p_11_14, p_11_13, p_11_11, p_11_7, p_7_14, p_7_13, p_7_11, p_7_7, p_15_15]
  unfold d4 d3 d2
  grind
end IB
theorem sRh_l (a : Nat → Nat → Int) {R C c : Nat} (hR : R < 16) (hC : C < 16) (h : sPc R = sPc C) (hv : c < 4) (hb : sBi C c = 1) : sSm (fun r => a r c * sRh a R C r) 4 = sMi a R C := by
  have gR : R = 0 ∨ R = 1 ∨ R = 2 ∨ R = 3 ∨ R = 4 ∨ R = 5 ∨ R = 6 ∨ R = 7 ∨ R = 8 ∨ R = 9 ∨ R = 10 ∨ R = 11 ∨ R = 12 ∨ R = 13 ∨ R = 14 ∨ R = 15 := by omega
  have gC : C = 0 ∨ C = 1 ∨ C = 2 ∨ C = 3 ∨ C = 4 ∨ C = 5 ∨ C = 6 ∨ C = 7 ∨ C = 8 ∨ C = 9 ∨ C = 10 ∨ C = 11 ∨ C = 12 ∨ C = 13 ∨ C = 14 ∨ C = 15 := by omega
  have gv : c = 0 ∨ c = 1 ∨ c = 2 ∨ c = 3 := by omega
  rcases gR with rfl | rfl | rfl | rfl | rfl | rfl | rfl | rfl | rfl | rfl | rfl | rfl | rfl | rfl | rfl | rfl
  · rcases gC with rfl | rfl | rfl | rfl | rfl | rfl | rfl | rfl | rfl | rfl | rfl | rfl | rfl | rfl | rfl | rfl
    · rcases gv with rfl | rfl | rfl | rfl
      · exact absurd hb (by decide)
      · exact absurd hb (by decide)
      · exact absurd hb (by decide)
      · exact absurd hb (by decide)
    · exact absurd h (by decide)
    · exact absurd h (by decide)
    · exact absurd h (by decide)
    · exact absurd h (by decide)
    · exact absurd h (by decide)
    · exact absurd h (by decide)
    · exact absurd h (by decide)
    · exact absurd h (by decide)
    · exact absurd h (by decide)
    · exact absurd h (by decide)
    · exact absurd h (by decide)
    · exact absurd h (by decide)
    · exact absurd h (by decide)
    · exact absurd h (by decide)
    · exact absurd h (by decide)
  · rcases gC with rfl | rfl | rfl | rfl | rfl | rfl | rfl | rfl | rfl | rfl | rfl | rfl | rfl | rfl | rfl | rfl
    · exact absurd h (by decide)
    · rcases gv with rfl | rfl | rfl | rfl
      · exact lr_1_1_0 a
      · exact absurd hb (by decide)
      · exact absurd hb (by decide)
      · exact absurd hb (by decide)
    · rcases gv with rfl | rfl | rfl | rfl
      · exact absurd hb (by decide)
      · exact lr_1_2_1 a
      · exact absurd hb (by decide)
      · exact absurd hb (by decide)
    · exact absurd h (by decide)
    · rcases gv with rfl | rfl | rfl | rfl
      · exact absurd hb (by decide)
      · exact absurd hb (by decide)
      · exact lr_1_4_2 a
      · exact absurd hb (by decide)
    · exact absurd h (by decide)
    · exact absurd h (by decide)
    · exact absurd h (by decide)
    · rcases gv with rfl | rfl | rfl | rfl
      · exact absurd hb (by decide)
      · exact absurd hb (by decide)
      · exact absurd hb (by decide)
      · exact lr_1_8_3 a
    · exact absurd h (by decide)
    · exact absurd h (by decide)
    · exact absurd h (by decide)
    · exact absurd h (by decide)
    · exact absurd h (by decide)
    · exact absurd h (by decide)
    · exact absurd h (by decide)
  · rcases gC with rfl | rfl | rfl | rfl | rfl | rfl | rfl | rfl | rfl | rfl | rfl | rfl | rfl | rfl | rfl | rfl
    · exact absurd h (by decide)
    · rcases gv with rfl | rfl | rfl | rfl
      · exact lr_2_1_0 a
      · exact absurd hb (by decide)
      · exact absurd hb (by decide)
      · exact absurd hb (by decide)
    · rcases gv with rfl | rfl | rfl | rfl
      · exact absurd hb (by decide)
      · exact lr_2_2_1 a
      · exact absurd hb (by decide)
      · exact absurd hb (by decide)
    · exact absurd h (by decide)
    · rcases gv with rfl | rfl | rfl | rfl
      · exact absurd hb (by decide)
      · exact absurd hb (by decide)
      · exact lr_2_4_2 a
      · exact absurd hb (by decide)
    · exact absurd h (by decide)
    · exact absurd h (by decide)
    · exact absurd h (by decide)
    · rcases gv with rfl | rfl | rfl | rfl
      · exact absurd hb (by decide)
      · exact absurd hb (by decide)
      · exact absurd hb (by decide)
      · exact lr_2_8_3 a
    · exact absurd h (by decide)
    · exact absurd h (by decide)
    · exact absurd h (by decide)
    · exact absurd h (by decide)
    · exact absurd h (by decide)
    · exact absurd h (by decide)
    · exact absurd h (by decide)
  · rcases gC with rfl | rfl | rfl | rfl | rfl | rfl | rfl | rfl | rfl | rfl | rfl | rfl | rfl | rfl | rfl | rfl
    · exact absurd h (by decide)
    · exact absurd h (by decide)
    · exact absurd h (by decide)
    · rcases gv with rfl | rfl | rfl | rfl
      · exact lr_3_3_0 a
      · exact lr_3_3_1 a
      · exact absurd hb (by decide)
      · exact absurd hb (by decide)
    · exact absurd h (by decide)
    · rcases gv with rfl | rfl | rfl | rfl
      · exact lr_3_5_0 a
      · exact absurd hb (by decide)
      · exact lr_3_5_2 a
      · exact absurd hb (by decide)
    · rcases gv with rfl | rfl | rfl | rfl
      · exact absurd hb (by decide)
      · exact lr_3_6_1 a
      · exact lr_3_6_2 a
      · exact absurd hb (by decide)
    · exact absurd h (by decide)
    · exact absurd h (by decide)
    · rcases gv with rfl | rfl | rfl | rfl
      · exact lr_3_9_0 a
      · exact absurd hb (by decide)
      · exact absurd hb (by decide)
      · exact lr_3_9_3 a
    · rcases gv with rfl | rfl | rfl | rfl
      · exact absurd hb (by decide)
      · exact lr_3_10_1 a
      · exact absurd hb (by decide)
      · exact lr_3_10_3 a
    · exact absurd h (by decide)
    · rcases gv with rfl | rfl | rfl | rfl
      · exact absurd hb (by decide)
      · exact absurd hb (by decide)
      · exact lr_3_12_2 a
      · exact lr_3_12_3 a
    · exact absurd h (by decide)
    · exact absurd h (by decide)
    · exact absurd h (by decide)
  · rcases gC with rfl | rfl | rfl | rfl | rfl | rfl | rfl | rfl | rfl | rfl | rfl | rfl | rfl | rfl | rfl | rfl
    · exact absurd h (by decide)
    · rcases gv with rfl | rfl | rfl | rfl
      · exact lr_4_1_0 a
      · exact absurd hb (by decide)
      · exact absurd hb (by decide)
      · exact absurd hb (by decide)
    · rcases gv with rfl | rfl | rfl | rfl
      · exact absurd hb (by decide)
      · exact lr_4_2_1 a
      · exact absurd hb (by decide)
      · exact absurd hb (by decide)
    · exact absurd h (by decide)
    · rcases gv with rfl | rfl | rfl | rfl
      · exact absurd hb (by decide)
      · exact absurd hb (by decide)
      · exact lr_4_4_2 a
      · exact absurd hb (by decide)
    · exact absurd h (by decide)
    · exact absurd h (by decide)
    · exact absurd h (by decide)
    · rcases gv with rfl | rfl | rfl | rfl
      · exact absurd hb (by decide)
      · exact absurd hb (by decide)
      · exact absurd hb (by decide)
      · exact lr_4_8_3 a
    · exact absurd h (by decide)
    · exact absurd h (by decide)
    · exact absurd h (by decide)
    · exact absurd h (by decide)
    · exact absurd h (by decide)
    · exact absurd h (by decide)
    · exact absurd h (by decide)
  · rcases gC with rfl | rfl | rfl | rfl | rfl | rfl | rfl | rfl | rfl | rfl | rfl | rfl | rfl | rfl | rfl | rfl
    · exact absurd h (by decide)
    · exact absurd h (by decide)
    · exact absurd h (by decide)
    · rcases gv with rfl | rfl | rfl | rfl
      · exact lr_5_3_0 a
      · exact lr_5_3_1 a
      · exact absurd hb (by decide)
      · exact absurd hb (by decide)
    · exact absurd h (by decide)
    · rcases gv with rfl | rfl | rfl | rfl
      · exact lr_5_5_0 a
      · exact absurd hb (by decide)
      · exact lr_5_5_2 a
      · exact absurd hb (by decide)
    · rcases gv with rfl | rfl | rfl | rfl
      · exact absurd hb (by decide)
      · exact lr_5_6_1 a
      · exact lr_5_6_2 a
      · exact absurd hb (by decide)
    · exact absurd h (by decide)
    · exact absurd h (by decide)
    · rcases gv with rfl | rfl | rfl | rfl
      · exact lr_5_9_0 a
      · exact absurd hb (by decide)
      · exact absurd hb (by decide)
      · exact lr_5_9_3 a
    · rcases gv with rfl | rfl | rfl | rfl
      · exact absurd hb (by decide)
      · exact lr_5_10_1 a
      · exact absurd hb (by decide)
      · exact lr_5_10_3 a
    · exact absurd h (by decide)
    · rcases gv with rfl | rfl | rfl | rfl
      · exact absurd hb (by decide)
      · exact absurd hb (by decide)
      · exact lr_5_12_2 a
      · exact lr_5_12_3 a
    · exact absurd h (by decide)
    · exact absurd h (by decide)
    · exact absurd h (by decide)
  · rcases gC with rfl | rfl | rfl | rfl | rfl | rfl | rfl | rfl | rfl | rfl | rfl | rfl | rfl | rfl | rfl | rfl
    · exact absurd h (by decide)
    · exact absurd h (by decide)
    · exact absurd h (by decide)
    · rcases gv with rfl | rfl | rfl | rfl
      · exact lr_6_3_0 a
      · exact lr_6_3_1 a
      · exact absurd hb (by decide)
      · exact absurd hb (by decide)
    · exact absurd h (by decide)
    · rcases gv with rfl | rfl | rfl | rfl
      · exact lr_6_5_0 a
      · exact absurd hb (by decide)
      · exact lr_6_5_2 a
      · exact absurd hb (by decide)
    · rcases gv with rfl | rfl | rfl | rfl
      · exact absurd hb (by decide)
      · exact lr_6_6_1 a
      · exact lr_6_6_2 a
      · exact absurd hb (by decide)
    · exact absurd h (by decide)
    · exact absurd h (by decide)
    · rcases gv with rfl | rfl | rfl | rfl
      · exact lr_6_9_0 a
      · exact absurd hb (by decide)
      · exact absurd hb (by decide)
      · exact lr_6_9_3 a
    · rcases gv with rfl | rfl | rfl | rfl
      · exact absurd hb (by decide)
      · exact lr_6_10_1 a
      · exact absurd hb (by decide)
      · exact lr_6_10_3 a
    · exact absurd h (by decide)
    · rcases gv with rfl | rfl | rfl | rfl
      · exact absurd hb (by decide)
      · exact absurd hb (by decide)
      · exact lr_6_12_2 a
      · exact lr_6_12_3 a
    · exact absurd h (by decide)
    · exact absurd h (by decide)
    · exact absurd h (by decide)
  · rcases gC with rfl | rfl | rfl | rfl | rfl | rfl | rfl | rfl | rfl | rfl | rfl | rfl | rfl | rfl | rfl | rfl
    · exact absurd h (by decide)
    · exact absurd h (by decide)
    · exact absurd h (by decide)
    · exact absurd h (by decide)
    · exact absurd h (by decide)
    · exact absurd h (by decide)
    · exact absurd h (by decide)
    · rcases gv with rfl | rfl | rfl | rfl
      · exact lr_7_7_0 a
      · exact lr_7_7_1 a
      · exact lr_7_7_2 a
      · exact absurd hb (by decide)
    · exact absurd h (by decide)
    · exact absurd h (by decide)
    · exact absurd h (by decide)
    · rcases gv with rfl | rfl | rfl | rfl
      · exact lr_7_11_0 a
      · exact lr_7_11_1 a
      · exact absurd hb (by decide)
      · exact lr_7_11_3 a
    · exact absurd h (by decide)
    · rcases gv with rfl | rfl | rfl | rfl
      · exact lr_7_13_0 a
      · exact absurd hb (by decide)
      · exact lr_7_13_2 a
      · exact lr_7_13_3 a
    · rcases gv with rfl | rfl | rfl | rfl
      · exact absurd hb (by decide)
      · exact lr_7_14_1 a
      · exact lr_7_14_2 a
      · exact lr_7_14_3 a
    · exact absurd h (by decide)
  · rcases gC with rfl | rfl | rfl | rfl | rfl | rfl | rfl | rfl | rfl | rfl | rfl | rfl | rfl | rfl | rfl | rfl
    · exact absurd h (by decide)
    · rcases gv with rfl | rfl | rfl | rfl
      · exact lr_8_1_0 a
      · exact absurd hb (by decide)
      · exact absurd hb (by decide)
      · exact absurd hb (by decide)
    · rcases gv with rfl | rfl | rfl | rfl
      · exact absurd hb (by decide)
      · exact lr_8_2_1 a
      · exact absurd hb (by decide)
      · exact absurd hb (by decide)
    · exact absurd h (by decide)
    · rcases gv with rfl | rfl | rfl | rfl
      · exact absurd hb (by decide)
      · exact absurd hb (by decide)
      · exact lr_8_4_2 a
      · exact absurd hb (by decide)
    · exact absurd h (by decide)
    · exact absurd h (by decide)
    · exact absurd h (by decide)
    · rcases gv with rfl | rfl | rfl | rfl
      · exact absurd hb (by decide)
      · exact absurd hb (by decide)
      · exact absurd hb (by decide)
      · exact lr_8_8_3 a
    · exact absurd h (by decide)
    · exact absurd h (by decide)
    · exact absurd h (by decide)
    · exact absurd h (by decide)
    · exact absurd h (by decide)
    · exact absurd h (by decide)
    · exact absurd h (by decide)
  · rcases gC with rfl | rfl | rfl | rfl | rfl | rfl | rfl | rfl | rfl | rfl | rfl | rfl | rfl | rfl | rfl | rfl
    · exact absurd h (by decide)
    · exact absurd h (by decide)
    · exact absurd h (by decide)
    · rcases gv with rfl | rfl | rfl | rfl
      · exact lr_9_3_0 a
      · exact lr_9_3_1 a
      · exact absurd hb (by decide)
      · exact absurd hb (by decide)
    · exact absurd h (by decide)
    · rcases gv with rfl | rfl | rfl | rfl
      · exact lr_9_5_0 a
      · exact absurd hb (by decide)
      · exact lr_9_5_2 a
      · exact absurd hb (by decide)
    · rcases gv with rfl | rfl | rfl | rfl
      · exact absurd hb (by decide)
      · exact lr_9_6_1 a
      · exact lr_9_6_2 a
      · exact absurd hb (by decide)
    · exact absurd h (by decide)
    · exact absurd h (by decide)
    · rcases gv with rfl | rfl | rfl | rfl
      · exact lr_9_9_0 a
      · exact absurd hb (by decide)
      · exact absurd hb (by decide)
      · exact lr_9_9_3 a
    · rcases gv with rfl | rfl | rfl | rfl
      · exact absurd hb (by decide)
      · exact lr_9_10_1 a
      · exact absurd hb (by decide)
      · exact lr_9_10_3 a
    · exact absurd h (by decide)
    · rcases gv with rfl | rfl | rfl | rfl
      · exact absurd hb (by decide)
      · exact absurd hb (by decide)
      · exact lr_9_12_2 a
      · exact lr_9_12_3 a
    · exact absurd h (by decide)
    · exact absurd h (by decide)
    · exact absurd h (by decide)
  · rcases gC with rfl | rfl | rfl | rfl | rfl | rfl | rfl | rfl | rfl | rfl | rfl | rfl | rfl | rfl | rfl | rfl
    · exact absurd h (by decide)
    · exact absurd h (by decide)
    · exact absurd h (by decide)
    · rcases gv with rfl | rfl | rfl | rfl
      · exact lr_10_3_0 a
      · exact lr_10_3_1 a
      · exact absurd hb (by decide)
      · exact absurd hb (by decide)
    · exact absurd h (by decide)
    · rcases gv with rfl | rfl | rfl | rfl
      · exact lr_10_5_0 a
      · exact absurd hb (by decide)
      · exact lr_10_5_2 a
      · exact absurd hb (by decide)
    · rcases gv with rfl | rfl | rfl | rfl
      · exact absurd hb (by decide)
      · exact lr_10_6_1 a
      · exact lr_10_6_2 a
      · exact absurd hb (by decide)
    · exact absurd h (by decide)
    · exact absurd h (by decide)
    · rcases gv with rfl | rfl | rfl | rfl
      · exact lr_10_9_0 a
      · exact absurd hb (by decide)
      · exact absurd hb (by decide)
      · exact lr_10_9_3 a
    · rcases gv with rfl | rfl | rfl | rfl
      · exact absurd hb (by decide)
      · exact lr_10_10_1 a
      · exact absurd hb (by decide)
      · exact lr_10_10_3 a
    · exact absurd h (by decide)
    · rcases gv with rfl | rfl | rfl | rfl
      · exact absurd hb (by decide)
      · exact absurd hb (by decide)
      · exact lr_10_12_2 a
      · exact lr_10_12_3 a
    · exact absurd h (by decide)
    · exact absurd h (by decide)
    · exact absurd h (by decide)
  · rcases gC with rfl | rfl | rfl | rfl | rfl | rfl | rfl | rfl | rfl | rfl | rfl | rfl | rfl | rfl | rfl | rfl
    · exact absurd h (by decide)
    · exact absurd h (by decide)
    · exact absurd h (by decide)
    · exact absurd h (by decide)
    · exact absurd h (by decide)
    · exact absurd h (by decide)
    · exact absurd h (by decide)
    · rcases gv with rfl | rfl | rfl | rfl
      · exact lr_11_7_0 a
      · exact lr_11_7_1 a
      · exact lr_11_7_2 a
      · exact absurd hb (by decide)
    · exact absurd h (by decide)
    · exact absurd h (by decide)
    · exact absurd h (by decide)
    · rcases gv with rfl | rfl | rfl | rfl
      · exact lr_11_11_0 a
      · exact lr_11_11_1 a
      · exact absurd hb (by decide)
      · exact lr_11_11_3 a
    · exact absurd h (by decide)
    · rcases gv with rfl | rfl | rfl | rfl
      · exact lr_11_13_0 a
      · exact absurd hb (by decide)
      · exact lr_11_13_2 a
      · exact lr_11_13_3 a
    · rcases gv with rfl | rfl | rfl | rfl
      · exact absurd hb (by decide)
      · exact lr_11_14_1 a
      · exact lr_11_14_2 a
      · exact lr_11_14_3 a
    · exact absurd h (by decide)
  · rcases gC with rfl | rfl | rfl | rfl | rfl | rfl | rfl | rfl | rfl | rfl | rfl | rfl | rfl | rfl | rfl | rfl
    · exact absurd h (by decide)
    · exact absurd h (by decide)
    · exact absurd h (by decide)
    · rcases gv with rfl | rfl | rfl | rfl
      · exact lr_12_3_0 a
      · exact lr_12_3_1 a
      · exact absurd hb (by decide)
      · exact absurd hb (by decide)
    · exact absurd h (by decide)
    · rcases gv with rfl | rfl | rfl | rfl
      · exact lr_12_5_0 a
      · exact absurd hb (by decide)
      · exact lr_12_5_2 a
      · exact absurd hb (by decide)
    · rcases gv with rfl | rfl | rfl | rfl
      · exact absurd hb (by decide)
      · exact lr_12_6_1 a
      · exact lr_12_6_2 a
      · exact absurd hb (by decide)
    · exact absurd h (by decide)
    · exact absurd h (by decide)
    · rcases gv with rfl | rfl | rfl | rfl
      · exact lr_12_9_0 a
      · exact absurd hb (by decide)
      · exact absurd hb (by decide)
      · exact lr_12_9_3 a
    · rcases gv with rfl | rfl | rfl | rfl
      · exact absurd hb (by decide)
      · exact lr_12_10_1 a
      · exact absurd hb (by decide)
      · exact lr_12_10_3 a
    · exact absurd h (by decide)
    · rcases gv with rfl | rfl | rfl | rfl
      · exact absurd hb (by decide)
      · exact absurd hb (by decide)
      · exact lr_12_12_2 a
      · exact lr_12_12_3 a
    · exact absurd h (by decide)
    · exact absurd h (by decide)
    · exact absurd h (by decide)
  · rcases gC with rfl | rfl | rfl | rfl | rfl | rfl | rfl | rfl | rfl | rfl | rfl | rfl | rfl | rfl | rfl | rfl
    · exact absurd h (by decide)
    · exact absurd h (by decide)
    · exact absurd h (by decide)
    · exact absurd h (by decide)
    · exact absurd h (by decide)
    · exact absurd h (by decide)
    · exact absurd h (by decide)
    · rcases gv with rfl | rfl | rfl | rfl
      · exact lr_13_7_0 a
      · exact lr_13_7_1 a
      · exact lr_13_7_2 a
      · exact absurd hb (by decide)
    · exact absurd h (by decide)
    · exact absurd h (by decide)
    · exact absurd h (by decide)
    · rcases gv with rfl | rfl | rfl | rfl
      · exact lr_13_11_0 a
      · exact lr_13_11_1 a
      · exact absurd hb (by decide)
      · exact lr_13_11_3 a
    · exact absurd h (by decide)
    · rcases gv with rfl | rfl | rfl | rfl
      · exact lr_13_13_0 a
      · exact absurd hb (by decide)
      · exact lr_13_13_2 a
      · exact lr_13_13_3 a
    · rcases gv with rfl | rfl | rfl | rfl
      · exact absurd hb (by decide)
      · exact lr_13_14_1 a
      · exact lr_13_14_2 a
      · exact lr_13_14_3 a
    · exact absurd h (by decide)
  · rcases gC with rfl | rfl | rfl | rfl | rfl | rfl | rfl | rfl | rfl | rfl | rfl | rfl | rfl | rfl | rfl | rfl
    · exact absurd h (by decide)
    · exact absurd h (by decide)
    · exact absurd h (by decide)
    · exact absurd h (by decide)
    · exact absurd h (by decide)
    · exact absurd h (by decide)
    · exact absurd h (by decide)
    · rcases gv with rfl | rfl | rfl | rfl
      · exact lr_14_7_0 a
      · exact lr_14_7_1 a
      · exact lr_14_7_2 a
      · exact absurd hb (by decide)
    · exact absurd h (by decide)
    · exact absurd h (by decide)
    · exact absurd h (by decide)
    · rcases gv with rfl | rfl | rfl | rfl
      · exact lr_14_11_0 a
      · exact lr_14_11_1 a
      · exact absurd hb (by decide)
      · exact lr_14_11_3 a
    · exact absurd h (by decide)
    · rcases gv with rfl | rfl | rfl | rfl
      · exact lr_14_13_0 a
      · exact absurd hb (by decide)
      · exact lr_14_13_2 a
      · exact lr_14_13_3 a
    · rcases gv with rfl | rfl | rfl | rfl
      · exact absurd hb (by decide)
      · exact lr_14_14_1 a
      · exact lr_14_14_2 a
      · exact lr_14_14_3 a
    · exact absurd h (by decide)
  · rcases gC with rfl | rfl | rfl | rfl | rfl | rfl | rfl | rfl | rfl | rfl | rfl | rfl | rfl | rfl | rfl | rfl
    · exact absurd h (by decide)
    · exact absurd h (by decide)
    · exact absurd h (by decide)
    · exact absurd h (by decide)
    · exact absurd h (by decide)
    · exact absurd h (by decide)
    · exact absurd h (by decide)
    · exact absurd h (by decide)
    · exact absurd h (by decide)
    · exact absurd h (by decide)
    · exact absurd h (by decide)
    · exact absurd h (by decide)
    · exact absurd h (by decide)
    · exact absurd h (by decide)
    · exact absurd h (by decide)
    · rcases gv with rfl | rfl | rfl | rfl
      · exact lr_15_15_0 a
      · exact lr_15_15_1 a
      · exact lr_15_15_2 a
      · exact lr_15_15_3 a
