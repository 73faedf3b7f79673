/-! a part's shares: columns -/
section IB
variable (a : Nat → Nat → Int)
theorem lk_1_1_0 : sSm (fun c => a 0 c * sKa a 1 1 c) 4 = sMi a 1 1 := by
  show ((((0 : Int) + a 0 0 * sKa a 1 1 0) + a 0 1 * sKa a 1 1 1) + a 0 2 * sKa a 1 1 2) + a 0 3 * sKa a 1 1 3 = _
  simp only [show sKa a 1 1 1 = 0 from rfl, show sKa a 1 1 2 = 0 from rfl, show sKa a 1 1 3 = 0 from rfl, hk_1_1_0, p_0_0, p_1_1]
  grind
theorem lk_1_2_0 : sSm (fun c => a 0 c * sKa a 1 2 c) 4 = sMi a 1 2 := by
  show ((((0 : Int) + a 0 0 * sKa a 1 2 0) + a 0 1 * sKa a 1 2 1) + a 0 2 * sKa a 1 2 2) + a 0 3 * sKa a 1 2 3 = _
  simp only [show sKa a 1 2 0 = 0 from rfl, show sKa a 1 2 2 = 0 from rfl, show sKa a 1 2 3 = 0 from rfl, hk_1_2_1, p_0_0, p_1_2]
  grind
theorem lk_1_4_0 : sSm (fun c => a 0 c * sKa a 1 4 c) 4 = sMi a 1 4 := by
  show ((((0 : Int) + a 0 0 * sKa a 1 4 0) + a 0 1 * sKa a 1 4 1) + a 0 2 * sKa a 1 4 2) + a 0 3 * sKa a 1 4 3 = _
  simp only [show sKa a 1 4 0 = 0 from rfl, show sKa a 1 4 1 = 0 from rfl, show sKa a 1 4 3 = 0 from rfl, hk_1_4_2, p_0_0, p_1_4]
  grind
theorem lk_1_8_0 : sSm (fun c => a 0 c * sKa a 1 8 c) 4 = sMi a 1 8 := by
  show ((((0 : Int) + a 0 0 * sKa a 1 8 0) + a 0 1 * sKa a 1 8 1) + a 0 2 * sKa a 1 8 2) + a 0 3 * sKa a 1 8 3 = _
  simp only [show sKa a 1 8 0 = 0 from rfl, show sKa a 1 8 1 = 0 from rfl, show sKa a 1 8 2 = 0 from rfl, hk_1_8_3, p_0_0, p_1_8]
  grind
theorem lk_2_1_1 : sSm (fun c => a 1 c * sKa a 2 1 c) 4 = sMi a 2 1 := by
  show ((((0 : Int) + a 1 0 * sKa a 2 1 0) + a 1 1 * sKa a 2 1 1) + a 1 2 * sKa a 2 1 2) + a 1 3 * sKa a 2 1 3 = _
  simp only [show sKa a 2 1 1 = 0 from rfl, show sKa a 2 1 2 = 0 from rfl, show sKa a 2 1 3 = 0 from rfl, hk_2_1_0, p_0_0, p_2_1]
  grind
theorem lk_2_2_1 : sSm (fun c => a 1 c * sKa a 2 2 c) 4 = sMi a 2 2 := by
  show ((((0 : Int) + a 1 0 * sKa a 2 2 0) + a 1 1 * sKa a 2 2 1) + a 1 2 * sKa a 2 2 2) + a 1 3 * sKa a 2 2 3 = _
  simp only [show sKa a 2 2 0 = 0 from rfl, show sKa a 2 2 2 = 0 from rfl, show sKa a 2 2 3 = 0 from rfl, hk_2_2_1, p_0_0, p_2_2]
  grind
theorem lk_2_4_1 : sSm (fun c => a 1 c * sKa a 2 4 c) 4 = sMi a 2 4 := by
  show ((((0 : Int) + a 1 0 * sKa a 2 4 0) + a 1 1 * sKa a 2 4 1) + a 1 2 * sKa a 2 4 2) + a 1 3 * sKa a 2 4 3 = _
  simp only [show sKa a 2 4 0 = 0 from rfl, show sKa a 2 4 1 = 0 from rfl, show sKa a 2 4 3 = 0 from rfl, hk_2_4_2, p_0_0, p_2_4]
  grind
theorem lk_2_8_1 : sSm (fun c => a 1 c * sKa a 2 8 c) 4 = sMi a 2 8 := by
  show ((((0 : Int) + a 1 0 * sKa a 2 8 0) + a 1 1 * sKa a 2 8 1) + a 1 2 * sKa a 2 8 2) + a 1 3 * sKa a 2 8 3 = _
  simp only [show sKa a 2 8 0 = 0 from rfl, show sKa a 2 8 1 = 0 from rfl, show sKa a 2 8 2 = 0 from rfl, hk_2_8_3, p_0_0, p_2_8]
  grind
theorem lk_3_3_0 : sSm (fun c => a 0 c * sKa a 3 3 c) 4 = sMi a 3 3 := by
  show ((((0 : Int) + a 0 0 * sKa a 3 3 0) + a 0 1 * sKa a 3 3 1) + a 0 2 * sKa a 3 3 2) + a 0 3 * sKa a 3 3 3 = _
  simp only [show sKa a 3 3 2 = 0 from rfl, show sKa a 3 3 3 = 0 from rfl, hk_3_3_0, hk_3_3_1, p_2_2, p_2_1, p_1_2, p_1_1, p_3_3]
  unfold d2
  grind
theorem lk_3_3_1 : sSm (fun c => a 1 c * sKa a 3 3 c) 4 = sMi a 3 3 := by
  show ((((0 : Int) + a 1 0 * sKa a 3 3 0) + a 1 1 * sKa a 3 3 1) + a 1 2 * sKa a 3 3 2) + a 1 3 * sKa a 3 3 3 = _
  simp only [show sKa a 3 3 2 = 0 from rfl, show sKa a 3 3 3 = 0 from rfl, hk_3_3_0, hk_3_3_1, p_2_2, p_2_1, p_1_2, p_1_1, p_3_3]
  unfold d2
  grind
theorem lk_3_5_0 : sSm (fun c => a 0 c * sKa a 3 5 c) 4 = sMi a 3 5 := by
  show ((((0 : Int) + a 0 0 * sKa a 3 5 0) + a 0 1 * sKa a 3 5 1) + a 0 2 * sKa a 3 5 2) + a 0 3 * sKa a 3 5 3 = _
  simp only [show sKa a 3 5 1 = 0 from rfl, show sKa a 3 5 3 = 0 from rfl, hk_3_5_0, hk_3_5_2, p_2_4, p_2_1, p_1_4, p_1_1, p_3_5]
  unfold d2
  grind
theorem lk_3_5_1 : sSm (fun c => a 1 c * sKa a 3 5 c) 4 = sMi a 3 5 := by
  show ((((0 : Int) + a 1 0 * sKa a 3 5 0) + a 1 1 * sKa a 3 5 1) + a 1 2 * sKa a 3 5 2) + a 1 3 * sKa a 3 5 3 = _
  simp only [show sKa a 3 5 1 = 0 from rfl, show sKa a 3 5 3 = 0 from rfl, hk_3_5_0, hk_3_5_2, p_2_4, p_2_1, p_1_4, p_1_1, p_3_5]
  unfold d2
  grind
theorem lk_3_6_0 : sSm (fun c => a 0 c * sKa a 3 6 c) 4 = sMi a 3 6 := by
  show ((((0 : Int) + a 0 0 * sKa a 3 6 0) + a 0 1 * sKa a 3 6 1) + a 0 2 * sKa a 3 6 2) + a 0 3 * sKa a 3 6 3 = _
  simp only [show sKa a 3 6 0 = 0 from rfl, show sKa a 3 6 3 = 0 from rfl, hk_3_6_1, hk_3_6_2, p_2_4, p_2_2, p_1_4, p_1_2, p_3_6]
  unfold d2
  grind
theorem lk_3_6_1 : sSm (fun c => a 1 c * sKa a 3 6 c) 4 = sMi a 3 6 := by
  show ((((0 : Int) + a 1 0 * sKa a 3 6 0) + a 1 1 * sKa a 3 6 1) + a 1 2 * sKa a 3 6 2) + a 1 3 * sKa a 3 6 3 = _
  simp only [show sKa a 3 6 0 = 0 from rfl, show sKa a 3 6 3 = 0 from rfl, hk_3_6_1, hk_3_6_2, p_2_4, p_2_2, p_1_4, p_1_2, p_3_6]
  unfold d2
  grind
theorem lk_3_9_0 : sSm (fun c => a 0 c * sKa a 3 9 c) 4 = sMi a 3 9 := by
  show ((((0 : Int) + a 0 0 * sKa a 3 9 0) + a 0 1 * sKa a 3 9 1) + a 0 2 * sKa a 3 9 2) + a 0 3 * sKa a 3 9 3 = _
  simp only [show sKa a 3 9 1 = 0 from rfl, show sKa a 3 9 2 = 0 from rfl, hk_3_9_0, hk_3_9_3, p_2_8, p_2_1, p_1_8, p_1_1, p_3_9]
  unfold d2
  grind
theorem lk_3_9_1 : sSm (fun c => a 1 c * sKa a 3 9 c) 4 = sMi a 3 9 := by
  show ((((0 : Int) + a 1 0 * sKa a 3 9 0) + a 1 1 * sKa a 3 9 1) + a 1 2 * sKa a 3 9 2) + a 1 3 * sKa a 3 9 3 = _
  simp only [show sKa a 3 9 1 = 0 from rfl, show sKa a 3 9 2 = 0 from rfl, hk_3_9_0, hk_3_9_3, p_2_8, p_2_1, p_1_8, p_1_1, p_3_9]
  unfold d2
  grind
theorem lk_3_10_0 : sSm (fun c => a 0 c * sKa a 3 10 c) 4 = sMi a 3 10 := by
  show ((((0 : Int) + a 0 0 * sKa a 3 10 0) + a 0 1 * sKa a 3 10 1) + a 0 2 * sKa a 3 10 2) + a 0 3 * sKa a 3 10 3 = _
  simp only [show sKa a 3 10 0 = 0 from rfl, show sKa a 3 10 2 = 0 from rfl, hk_3_10_1, hk_3_10_3, p_2_8, p_2_2, p_1_8, p_1_2, p_3_10]
  unfold d2
  grind
theorem lk_3_10_1 : sSm (fun c => a 1 c * sKa a 3 10 c) 4 = sMi a 3 10 := by
  show ((((0 : Int) + a 1 0 * sKa a 3 10 0) + a 1 1 * sKa a 3 10 1) + a 1 2 * sKa a 3 10 2) + a 1 3 * sKa a 3 10 3 = _
  simp only [show sKa a 3 10 0 = 0 from rfl, show sKa a 3 10 2 = 0 from rfl, hk_3_10_1, hk_3_10_3, p_2_8, p_2_2, p_1_8, p_1_2, p_3_10]
  unfold d2
  grind
theorem lk_3_12_0 : sSm (fun c => a 0 c * sKa a 3 12 c) 4 = sMi a 3 12 := by
  show ((((0 : Int) + a 0 0 * sKa a 3 12 0) + a 0 1 * sKa a 3 12 1) + a 0 2 * sKa a 3 12 2) + a 0 3 * sKa a 3 12 3 = _
  simp only [show sKa a 3 12 0 = 0 from rfl, show sKa a 3 12 1 = 0 from rfl, hk_3_12_2, hk_3_12_3, p_2_8, p_2_4, p_1_8, p_1_4, p_3_12]
  unfold d2
  grind
theorem lk_3_12_1 : sSm (fun c => a 1 c * sKa a 3 12 c) 4 = sMi a 3 12 := by
  show ((((0 : Int) + a 1 0 * sKa a 3 12 0) + a 1 1 * sKa a 3 12 1) + a 1 2 * sKa a 3 12 2) + a 1 3 * sKa a 3 12 3 = _
  simp only [show sKa a 3 12 0 = 0 from rfl, show sKa a 3 12 1 = 0 from rfl, hk_3_12_2, hk_3_12_3, p_2_8, p_2_4, p_1_8, p_1_4, p_3_12]
  unfold d2
  grind
theorem lk_4_1_2 : sSm (fun c => a 2 c * sKa a 4 1 c) 4 = sMi a 4 1 := by
  show ((((0 : Int) + a 2 0 * sKa a 4 1 0) + a 2 1 * sKa a 4 1 1) + a 2 2 * sKa a 4 1 2) + a 2 3 * sKa a 4 1 3 = _
  simp only [show sKa a 4 1 1 = 0 from rfl, show sKa a 4 1 2 = 0 from rfl, show sKa a 4 1 3 = 0 from rfl, hk_4_1_0, p_0_0, p_4_1]
  grind
theorem lk_4_2_2 : sSm (fun c => a 2 c * sKa a 4 2 c) 4 = sMi a 4 2 := by
  show ((((0 : Int) + a 2 0 * sKa a 4 2 0) + a 2 1 * sKa a 4 2 1) + a 2 2 * sKa a 4 2 2) + a 2 3 * sKa a 4 2 3 = _
  simp only [show sKa a 4 2 0 = 0 from rfl, show sKa a 4 2 2 = 0 from rfl, show sKa a 4 2 3 = 0 from rfl, hk_4_2_1, p_0_0, p_4_2]
  grind
theorem lk_4_4_2 : sSm (fun c => a 2 c * sKa a 4 4 c) 4 = sMi a 4 4 := by
  show ((((0 : Int) + a 2 0 * sKa a 4 4 0) + a 2 1 * sKa a 4 4 1) + a 2 2 * sKa a 4 4 2) + a 2 3 * sKa a 4 4 3 = _
  simp only [show sKa a 4 4 0 = 0 from rfl, show sKa a 4 4 1 = 0 from rfl, show sKa a 4 4 3 = 0 from rfl, hk_4_4_2, p_0_0, p_4_4]
  grind
theorem lk_4_8_2 : sSm (fun c => a 2 c * sKa a 4 8 c) 4 = sMi a 4 8 := by
  show ((((0 : Int) + a 2 0 * sKa a 4 8 0) + a 2 1 * sKa a 4 8 1) + a 2 2 * sKa a 4 8 2) + a 2 3 * sKa a 4 8 3 = _
  simp only [show sKa a 4 8 0 = 0 from rfl, show sKa a 4 8 1 = 0 from rfl, show sKa a 4 8 2 = 0 from rfl, hk_4_8_3, p_0_0, p_4_8]
  grind
theorem lk_5_3_0 : sSm (fun c => a 0 c * sKa a 5 3 c) 4 = sMi a 5 3 := by
  show ((((0 : Int) + a 0 0 * sKa a 5 3 0) + a 0 1 * sKa a 5 3 1) + a 0 2 * sKa a 5 3 2) + a 0 3 * sKa a 5 3 3 = _
  simp only [show sKa a 5 3 2 = 0 from rfl, show sKa a 5 3 3 = 0 from rfl, hk_5_3_0, hk_5_3_1, p_4_2, p_4_1, p_1_2, p_1_1, p_5_3]
  unfold d2
  grind
theorem lk_5_3_2 : sSm (fun c => a 2 c * sKa a 5 3 c) 4 = sMi a 5 3 := by
  show ((((0 : Int) + a 2 0 * sKa a 5 3 0) + a 2 1 * sKa a 5 3 1) + a 2 2 * sKa a 5 3 2) + a 2 3 * sKa a 5 3 3 = _
  simp only [show sKa a 5 3 2 = 0 from rfl, show sKa a 5 3 3 = 0 from rfl, hk_5_3_0, hk_5_3_1, p_4_2, p_4_1, p_1_2, p_1_1, p_5_3]
  unfold d2
  grind
theorem lk_5_5_0 : sSm (fun c => a 0 c * sKa a 5 5 c) 4 = sMi a 5 5 := by
  show ((((0 : Int) + a 0 0 * sKa a 5 5 0) + a 0 1 * sKa a 5 5 1) + a 0 2 * sKa a 5 5 2) + a 0 3 * sKa a 5 5 3 = _
  simp only [show sKa a 5 5 1 = 0 from rfl, show sKa a 5 5 3 = 0 from rfl, hk_5_5_0, hk_5_5_2, p_4_4, p_4_1, p_1_4, p_1_1, p_5_5]
  unfold d2
  grind
theorem lk_5_5_2 : sSm (fun c => a 2 c * sKa a 5 5 c) 4 = sMi a 5 5 := by
  show ((((0 : Int) + a 2 0 * sKa a 5 5 0) + a 2 1 * sKa a 5 5 1) + a 2 2 * sKa a 5 5 2) + a 2 3 * sKa a 5 5 3 = _
  simp only [show sKa a 5 5 1 = 0 from rfl, show sKa a 5 5 3 = 0 from rfl, hk_5_5_0, hk_5_5_2, p_4_4, p_4_1, p_1_4, p_1_1, p_5_5]
  unfold d2
  grind
theorem lk_5_6_0 : sSm (fun c => a 0 c * sKa a 5 6 c) 4 = sMi a 5 6 := by
  show ((((0 : Int) + a 0 0 * sKa a 5 6 0) + a 0 1 * sKa a 5 6 1) + a 0 2 * sKa a 5 6 2) + a 0 3 * sKa a 5 6 3 = _
  simp only [show sKa a 5 6 0 = 0 from rfl, show sKa a 5 6 3 = 0 from rfl, hk_5_6_1, hk_5_6_2, p_4_4, p_4_2, p_1_4, p_1_2, p_5_6]
  unfold d2
  grind
theorem lk_5_6_2 : sSm (fun c => a 2 c * sKa a 5 6 c) 4 = sMi a 5 6 := by
  show ((((0 : Int) + a 2 0 * sKa a 5 6 0) + a 2 1 * sKa a 5 6 1) + a 2 2 * sKa a 5 6 2) + a 2 3 * sKa a 5 6 3 = _
  simp only [show sKa a 5 6 0 = 0 from rfl, show sKa a 5 6 3 = 0 from rfl, hk_5_6_1, hk_5_6_2, p_4_4, p_4_2, p_1_4, p_1_2, p_5_6]
  unfold d2
  grind
theorem lk_5_9_0 : sSm (fun c => a 0 c * sKa a 5 9 c) 4 = sMi a 5 9 := by
  show ((((0 : Int) + a 0 0 * sKa a 5 9 0) + a 0 1 * sKa a 5 9 1) + a 0 2 * sKa a 5 9 2) + a 0 3 * sKa a 5 9 3 = _
  simp only [show sKa a 5 9 1 = 0 from rfl, show sKa a 5 9 2 = 0 from rfl, hk_5_9_0, hk_5_9_3, p_4_8, p_4_1, p_1_8, p_1_1, p_5_9]
  unfold d2
  grind
theorem lk_5_9_2 : sSm (fun c => a 2 c * sKa a 5 9 c) 4 = sMi a 5 9 := by
  show ((((0 : Int) + a 2 0 * sKa a 5 9 0) + a 2 1 * sKa a 5 9 1) + a 2 2 * sKa a 5 9 2) + a 2 3 * sKa a 5 9 3 = _
  simp only [show sKa a 5 9 1 = 0 from rfl, show sKa a 5 9 2 = 0 from rfl, hk_5_9_0, hk_5_9_3, p_4_8, p_4_1, p_1_8, p_1_1, p_5_9]
  unfold d2
  grind
theorem lk_5_10_0 : sSm (fun c => a 0 c * sKa a 5 10 c) 4 = sMi a 5 10 := by
  show ((((0 : Int) + a 0 0 * sKa a 5 10 0) + a 0 1 * sKa a 5 10 1) + a 0 2 * sKa a 5 10 2) + a 0 3 * sKa a 5 10 3 = _
  simp only [show sKa a 5 10 0 = 0 from rfl, show sKa a 5 10 2 = 0 from rfl, hk_5_10_1, hk_5_10_3, p_4_8, p_4_2, p_1_8, p_1_2, p_5_10]
  unfold d2
  grind
theorem lk_5_10_2 : sSm (fun c => a 2 c * sKa a 5 10 c) 4 = sMi a 5 10 := by
  show ((((0 : Int) + a 2 0 * sKa a 5 10 0) + a 2 1 * sKa a 5 10 1) + a 2 2 * sKa a 5 10 2) + a 2 3 * sKa a 5 10 3 = _
  simp only [show sKa a 5 10 0 = 0 from rfl, show sKa a 5 10 2 = 0 from rfl, hk_5_10_1, hk_5_10_3, p_4_8, p_4_2, p_1_8, p_1_2, p_5_10]
  unfold d2
  grind
theorem lk_5_12_0 : sSm (fun c => a 0 c * sKa a 5 12 c) 4 = sMi a 5 12 := by
  show ((((0 : Int) + a 0 0 * sKa a 5 12 0) + a 0 1 * sKa a 5 12 1) + a 0 2 * sKa a 5 12 2) + a 0 3 * sKa a 5 12 3 = _
  simp only [show sKa a 5 12 0 = 0 from rfl, show sKa a 5 12 1 = 0 from rfl, hk_5_12_2, hk_5_12_3, p_4_8, p_4_4, p_1_8, p_1_4, p_5_12]
  unfold d2
  grind
theorem lk_5_12_2 : sSm (fun c => a 2 c * sKa a 5 12 c) 4 = sMi a 5 12 := by
  show ((((0 : Int) + a 2 0 * sKa a 5 12 0) + a 2 1 * sKa a 5 12 1) + a 2 2 * sKa a 5 12 2) + a 2 3 * sKa a 5 12 3 = _
  simp only [show sKa a 5 12 0 = 0 from rfl, show sKa a 5 12 1 = 0 from rfl, hk_5_12_2, hk_5_12_3, p_4_8, p_4_4, p_1_8, p_1_4, p_5_12]
  unfold d2
  grind
theorem lk_6_3_1 : sSm (fun c => a 1 c * sKa a 6 3 c) 4 = sMi a 6 3 := by
  show ((((0 : Int) + a 1 0 * sKa a 6 3 0) + a 1 1 * sKa a 6 3 1) + a 1 2 * sKa a 6 3 2) + a 1 3 * sKa a 6 3 3 = _
  simp only [show sKa a 6 3 2 = 0 from rfl, show sKa a 6 3 3 = 0 from rfl, hk_6_3_0, hk_6_3_1, p_4_2, p_4_1, p_2_2, p_2_1, p_6_3]
  unfold d2
  grind
theorem lk_6_3_2 : sSm (fun c => a 2 c * sKa a 6 3 c) 4 = sMi a 6 3 := by
  show ((((0 : Int) + a 2 0 * sKa a 6 3 0) + a 2 1 * sKa a 6 3 1) + a 2 2 * sKa a 6 3 2) + a 2 3 * sKa a 6 3 3 = _
  simp only [show sKa a 6 3 2 = 0 from rfl, show sKa a 6 3 3 = 0 from rfl, hk_6_3_0, hk_6_3_1, p_4_2, p_4_1, p_2_2, p_2_1, p_6_3]
  unfold d2
  grind
theorem lk_6_5_1 : sSm (fun c => a 1 c * sKa a 6 5 c) 4 = sMi a 6 5 := by
  show ((((0 : Int) + a 1 0 * sKa a 6 5 0) + a 1 1 * sKa a 6 5 1) + a 1 2 * sKa a 6 5 2) + a 1 3 * sKa a 6 5 3 = _
  simp only [show sKa a 6 5 1 = 0 from rfl, show sKa a 6 5 3 = 0 from rfl, hk_6_5_0, hk_6_5_2, p_4_4, p_4_1, p_2_4, p_2_1, p_6_5]
  unfold d2
  grind
theorem lk_6_5_2 : sSm (fun c => a 2 c * sKa a 6 5 c) 4 = sMi a 6 5 := by
  show ((((0 : Int) + a 2 0 * sKa a 6 5 0) + a 2 1 * sKa a 6 5 1) + a 2 2 * sKa a 6 5 2) + a 2 3 * sKa a 6 5 3 = _
  simp only [show sKa a 6 5 1 = 0 from rfl, show sKa a 6 5 3 = 0 from rfl, hk_6_5_0, hk_6_5_2, p_4_4, p_4_1, p_2_4, p_2_1, p_6_5]
  unfold d2
  grind
theorem lk_6_6_1 : sSm (fun c => a 1 c * sKa a 6 6 c) 4 = sMi a 6 6 := by
  show ((((0 : Int) + a 1 0 * sKa a 6 6 0) + a 1 1 * sKa a 6 6 1) + a 1 2 * sKa a 6 6 2) + a 1 3 * sKa a 6 6 3 = _
  simp only [show sKa a 6 6 0 = 0 from rfl, show sKa a 6 6 3 = 0 from rfl, hk_6_6_1, hk_6_6_2, p_4_4, p_4_2, p_2_4, p_2_2, p_6_6]
  unfold d2
  grind
theorem lk_6_6_2 : sSm (fun c => a 2 c * sKa a 6 6 c) 4 = sMi a 6 6 := by
  show ((((0 : Int) + a 2 0 * sKa a 6 6 0) + a 2 1 * sKa a 6 6 1) + a 2 2 * sKa a 6 6 2) + a 2 3 * sKa a 6 6 3 = _
  simp only [show sKa a 6 6 0 = 0 from rfl, show sKa a 6 6 3 = 0 from rfl, hk_6_6_1, hk_6_6_2, p_4_4, p_4_2, p_2_4, p_2_2, p_6_6]
  unfold d2
  grind
theorem lk_6_9_1 : sSm (fun c => a 1 c * sKa a 6 9 c) 4 = sMi a 6 9 := by
  show ((((0 : Int) + a 1 0 * sKa a 6 9 0) + a 1 1 * sKa a 6 9 1) + a 1 2 * sKa a 6 9 2) + a 1 3 * sKa a 6 9 3 = _
  simp only [show sKa a 6 9 1 = 0 from rfl, show sKa a 6 9 2 = 0 from rfl, hk_6_9_0, hk_6_9_3, p_4_8, p_4_1, p_2_8, p_2_1, p_6_9]
  unfold d2
  grind
theorem lk_6_9_2 : sSm (fun c => a 2 c * sKa a 6 9 c) 4 = sMi a 6 9 := by
  show ((((0 : Int) + a 2 0 * sKa a 6 9 0) + a 2 1 * sKa a 6 9 1) + a 2 2 * sKa a 6 9 2) + a 2 3 * sKa a 6 9 3 = _
  simp only [show sKa a 6 9 1 = 0 from rfl, show sKa a 6 9 2 = 0 from rfl, hk_6_9_0, hk_6_9_3, p_4_8, p_4_1, p_2_8, p_2_1, p_6_9]
  unfold d2
  grind
theorem lk_6_10_1 : sSm (fun c => a 1 c * sKa a 6 10 c) 4 = sMi a 6 10 := by
  show ((((0 : Int) + a 1 0 * sKa a 6 10 0) + a 1 1 * sKa a 6 10 1) + a 1 2 * sKa a 6 10 2) + a 1 3 * sKa a 6 10 3 = _
  simp only [show sKa a 6 10 0 = 0 from rfl, show sKa a 6 10 2 = 0 from rfl, hk_6_10_1, hk_6_10_3, p_4_8, p_4_2, p_2_8, p_2_2, p_6_10]
  unfold d2
  grind
theorem lk_6_10_2 : sSm (fun c => a 2 c * sKa a 6 10 c) 4 = sMi a 6 10 := by
  show ((((0 : Int) + a 2 0 * sKa a 6 10 0) + a 2 1 * sKa a 6 10 1) + a 2 2 * sKa a 6 10 2) + a 2 3 * sKa a 6 10 3 = _
  simp only [show sKa a 6 10 0 = 0 from rfl, show sKa a 6 10 2 = 0 from rfl, hk_6_10_1, hk_6_10_3, p_4_8, p_4_2, p_2_8, p_2_2, p_6_10]
  unfold d2
  grind
theorem lk_6_12_1 : sSm (fun c => a 1 c * sKa a 6 12 c) 4 = sMi a 6 12 := by
  show ((((0 : Int) + a 1 0 * sKa a 6 12 0) + a 1 1 * sKa a 6 12 1) + a 1 2 * sKa a 6 12 2) + a 1 3 * sKa a 6 12 3 = _
  simp only [show sKa a 6 12 0 = 0 from rfl, show sKa a 6 12 1 = 0 from rfl, hk_6_12_2, hk_6_12_3, p_4_8, p_4_4, p_2_8, p_2_4, p_6_12]
  unfold d2
  grind
theorem lk_6_12_2 : sSm (fun c => a 2 c * sKa a 6 12 c) 4 = sMi a 6 12 := by
  show ((((0 : Int) + a 2 0 * sKa a 6 12 0) + a 2 1 * sKa a 6 12 1) + a 2 2 * sKa a 6 12 2) + a 2 3 * sKa a 6 12 3 = _
  simp only [show sKa a 6 12 0 = 0 from rfl, show sKa a 6 12 1 = 0 from rfl, hk_6_12_2, hk_6_12_3, p_4_8, p_4_4, p_2_8, p_2_4, p_6_12]
  unfold d2
  grind
theorem lk_7_7_0 : sSm (fun c => a 0 c * sKa a 7 7 c) 4 = sMi a 7 7 := by
  show ((((0 : Int) + a 0 0 * sKa a 7 7 0) + a 0 1 * sKa a 7 7 1) + a 0 2 * sKa a 7 7 2) + a 0 3 * sKa a 7 7 3 = _
  simp only [show sKa a 7 7 3 = 0 from rfl, hk_7_7_0, hk_7_7_1, hk_7_7_2, p_6_6, p_6_5, p_6_3, p_5_6, p_5_5, p_5_3, p_3_6, p_3_5, p_3_3, p_7_7]
  unfold d3 d2
  grind
theorem lk_7_7_1 : sSm (fun c => a 1 c * sKa a 7 7 c) 4 = sMi a 7 7 := by
  show ((((0 : Int) + a 1 0 * sKa a 7 7 0) + a 1 1 * sKa a 7 7 1) + a 1 2 * sKa a 7 7 2) + a 1 3 * sKa a 7 7 3 = _
  simp only [show sKa a 7 7 3 = 0 from rfl, hk_7_7_0, hk_7_7_1, hk_7_7_2, p_6_6, p_6_5, p_6_3, p_5_6, p_5_5, p_5_3, p_3_6, p_3_5, p_3_3, p_7_7]
  unfold d3 d2
  grind
theorem lk_7_7_2 : sSm (fun c => a 2 c * sKa a 7 7 c) 4 = sMi a 7 7 := by
  show ((((0 : Int) + a 2 0 * sKa a 7 7 0) + a 2 1 * sKa a 7 7 1) + a 2 2 * sKa a 7 7 2) + a 2 3 * sKa a 7 7 3 = _
  simp only [show sKa a 7 7 3 = 0 from rfl, hk_7_7_0, hk_7_7_1, hk_7_7_2, p_6_6, p_6_5, p_6_3, p_5_6, p_5_5, p_5_3, p_3_6, p_3_5, p_3_3, p_7_7]
  unfold d3 d2
  grind
theorem lk_7_11_0 : sSm (fun c => a 0 c * sKa a 7 11 c) 4 = sMi a 7 11 := by
  show ((((0 : Int) + a 0 0 * sKa a 7 11 0) + a 0 1 * sKa a 7 11 1) + a 0 2 * sKa a 7 11 2) + a 0 3 * sKa a 7 11 3 = _
  simp only [show sKa a 7 11 2 = 0 from rfl, hk_7_11_0, hk_7_11_1, hk_7_11_3, p_6_10, p_6_9, p_6_3, p_5_10, p_5_9, p_5_3, p_3_10, p_3_9, p_3_3, p_7_11]
  unfold d3 d2
  grind
theorem lk_7_11_1 : sSm (fun c => a 1 c * sKa a 7 11 c) 4 = sMi a 7 11 := by
  show ((((0 : Int) + a 1 0 * sKa a 7 11 0) + a 1 1 * sKa a 7 11 1) + a 1 2 * sKa a 7 11 2) + a 1 3 * sKa a 7 11 3 = _
  simp only [show sKa a 7 11 2 = 0 from rfl, hk_7_11_0, hk_7_11_1, hk_7_11_3, p_6_10, p_6_9, p_6_3, p_5_10, p_5_9, p_5_3, p_3_10, p_3_9, p_3_3, p_7_11]
  unfold d3 d2
  grind
theorem lk_7_11_2 : sSm (fun c => a 2 c * sKa a 7 11 c) 4 = sMi a 7 11 := by
  show ((((0 : Int) + a 2 0 * sKa a 7 11 0) + a 2 1 * sKa a 7 11 1) + a 2 2 * sKa a 7 11 2) + a 2 3 * sKa a 7 11 3 = _
  simp only [show sKa a 7 11 2 = 0 from rfl, hk_7_11_0, hk_7_11_1, hk_7_11_3, p_6_10, p_6_9, p_6_3, p_5_10, p_5_9, p_5_3, p_3_10, p_3_9, p_3_3, p_7_11]
  unfold d3 d2
  grind
theorem lk_7_13_0 : sSm (fun c => a 0 c * sKa a 7 13 c) 4 = sMi a 7 13 := by
  show ((((0 : Int) + a 0 0 * sKa a 7 13 0) + a 0 1 * sKa a 7 13 1) + a 0 2 * sKa a 7 13 2) + a 0 3 * sKa a 7 13 3 = _
  simp only [show sKa a 7 13 1 = 0 from rfl, hk_7_13_0, hk_7_13_2, hk_7_13_3, p_6_12, p_6_9, p_6_5, p_5_12, p_5_9, p_5_5, p_3_12, p_3_9, p_3_5, p_7_13]
  unfold d3 d2
  grind
theorem lk_7_13_1 : sSm (fun c => a 1 c * sKa a 7 13 c) 4 = sMi a 7 13 := by
  show ((((0 : Int) + a 1 0 * sKa a 7 13 0) + a 1 1 * sKa a 7 13 1) + a 1 2 * sKa a 7 13 2) + a 1 3 * sKa a 7 13 3 = _
  simp only [show sKa a 7 13 1 = 0 from rfl, hk_7_13_0, hk_7_13_2, hk_7_13_3, p_6_12, p_6_9, p_6_5, p_5_12, p_5_9, p_5_5, p_3_12, p_3_9, p_3_5, p_7_13]
  unfold d3 d2
  grind
theorem lk_7_13_2 : sSm (fun c => a 2 c * sKa a 7 13 c) 4 = sMi a 7 13 := by
  show ((((0 : Int) + a 2 0 * sKa a 7 13 0) + a 2 1 * sKa a 7 13 1) + a 2 2 * sKa a 7 13 2) + a 2 3 * sKa a 7 13 3 = _
  simp only [show sKa a 7 13 1 = 0 from rfl, hk_7_13_0, hk_7_13_2, hk_7_13_3, p_6_12, p_6_9, p_6_5, p_5_12, p_5_9, p_5_5, p_3_12, p_3_9, p_3_5, p_7_13]
  unfold d3 d2
  grind
theorem lk_7_14_0 : sSm (fun c => a 0 c * sKa a 7 14 c) 4 = sMi a 7 14 := by
  show ((((0 : Int) + a 0 0 * sKa a 7 14 0) + a 0 1 * sKa a 7 14 1) + a 0 2 * sKa a 7 14 2) + a 0 3 * sKa a 7 14 3 = _
  simp only [show sKa a 7 14 0 = 0 from rfl, hk_7_14_1, hk_7_14_2, hk_7_14_3, p_6_12, p_6_10, p_6_6, p_5_12, p_5_10, p_5_6, p_3_12, p_3_10, p_3_6, p_7_14]
  unfold d3 d2
  grind
theorem lk_7_14_1 : sSm (fun c => a 1 c * sKa a 7 14 c) 4 = sMi a 7 14 := by
  show ((((0 : Int) + a 1 0 * sKa a 7 14 0) + a 1 1 * sKa a 7 14 1) + a 1 2 * sKa a 7 14 2) + a 1 3 * sKa a 7 14 3 = _
  simp only [show sKa a 7 14 0 = 0 from rfl, hk_7_14_1, hk_7_14_2, hk_7_14_3, p_6_12, p_6_10, p_6_6, p_5_12, p_5_10, p_5_6, p_3_12, p_3_10, p_3_6, p_7_14]
  unfold d3 d2
  grind
theorem lk_7_14_2 : sSm (fun c => a 2 c * sKa a 7 14 c) 4 = sMi a 7 14 := by
  show ((((0 : Int) + a 2 0 * sKa a 7 14 0) + a 2 1 * sKa a 7 14 1) + a 2 2 * sKa a 7 14 2) + a 2 3 * sKa a 7 14 3 = _
  simp only [show sKa a 7 14 0 = 0 from rfl, hk_7_14_1, hk_7_14_2, hk_7_14_3, p_6_12, p_6_10, p_6_6, p_5_12, p_5_10, p_5_6, p_3_12, p_3_10, p_3_6, p_7_14]
  unfold d3 d2
  grind
theorem lk_8_1_3 : sSm (fun c => a 3 c * sKa a 8 1 c) 4 = sMi a 8 1 := by
  show ((((0 : Int) + a 3 0 * sKa a 8 1 0) + a 3 1 * sKa a 8 1 1) + a 3 2 * sKa a 8 1 2) + a 3 3 * sKa a 8 1 3 = _
  simp only [show sKa a 8 1 1 = 0 from rfl, show sKa a 8 1 2 = 0 from rfl, show sKa a 8 1 3 = 0 from rfl, hk_8_1_0, p_0_0, p_8_1]
  grind
theorem lk_8_2_3 : sSm (fun c => a 3 c * sKa a 8 2 c) 4 = sMi a 8 2 := by
  show ((((0 : Int) + a 3 0 * sKa a 8 2 0) + a 3 1 * sKa a 8 2 1) + a 3 2 * sKa a 8 2 2) + a 3 3 * sKa a 8 2 3 = _
  simp only [show sKa a 8 2 0 = 0 from rfl, show sKa a 8 2 2 = 0 from rfl, show sKa a 8 2 3 = 0 from rfl, hk_8_2_1, p_0_0, p_8_2]
  grind
theorem lk_8_4_3 : sSm (fun c => a 3 c * sKa a 8 4 c) 4 = sMi a 8 4 := by
  show ((((0 : Int) + a 3 0 * sKa a 8 4 0) + a 3 1 * sKa a 8 4 1) + a 3 2 * sKa a 8 4 2) + a 3 3 * sKa a 8 4 3 = _
  simp only [show sKa a 8 4 0 = 0 from rfl, show sKa a 8 4 1 = 0 from rfl, show sKa a 8 4 3 = 0 from rfl, hk_8_4_2, p_0_0, p_8_4]
  grind
theorem lk_8_8_3 : sSm (fun c => a 3 c * sKa a 8 8 c) 4 = sMi a 8 8 := by
  show ((((0 : Int) + a 3 0 * sKa a 8 8 0) + a 3 1 * sKa a 8 8 1) + a 3 2 * sKa a 8 8 2) + a 3 3 * sKa a 8 8 3 = _
  simp only [show sKa a 8 8 0 = 0 from rfl, show sKa a 8 8 1 = 0 from rfl, show sKa a 8 8 2 = 0 from rfl, hk_8_8_3, p_0_0, p_8_8]
  grind
theorem lk_9_3_0 : sSm (fun c => a 0 c * sKa a 9 3 c) 4 = sMi a 9 3 := by
  show ((((0 : Int) + a 0 0 * sKa a 9 3 0) + a 0 1 * sKa a 9 3 1) + a 0 2 * sKa a 9 3 2) + a 0 3 * sKa a 9 3 3 = _
  simp only [show sKa a 9 3 2 = 0 from rfl, show sKa a 9 3 3 = 0 from rfl, hk_9_3_0, hk_9_3_1, p_8_2, p_8_1, p_1_2, p_1_1, p_9_3]
  unfold d2
  grind
theorem lk_9_3_3 : sSm (fun c => a 3 c * sKa a 9 3 c) 4 = sMi a 9 3 := by
  show ((((0 : Int) + a 3 0 * sKa a 9 3 0) + a 3 1 * sKa a 9 3 1) + a 3 2 * sKa a 9 3 2) + a 3 3 * sKa a 9 3 3 = _
  simp only [show sKa a 9 3 2 = 0 from rfl, show sKa a 9 3 3 = 0 from rfl, hk_9_3_0, hk_9_3_1, p_8_2, p_8_1, p_1_2, p_1_1, p_9_3]
  unfold d2
  grind
theorem lk_9_5_0 : sSm (fun c => a 0 c * sKa a 9 5 c) 4 = sMi a 9 5 := by
  show ((((0 : Int) + a 0 0 * sKa a 9 5 0) + a 0 1 * sKa a 9 5 1) + a 0 2 * sKa a 9 5 2) + a 0 3 * sKa a 9 5 3 = _
  simp only [show sKa a 9 5 1 = 0 from rfl, show sKa a 9 5 3 = 0 from rfl, hk_9_5_0, hk_9_5_2, p_8_4, p_8_1, p_1_4, p_1_1, p_9_5]
  unfold d2
  grind
theorem lk_9_5_3 : sSm (fun c => a 3 c * sKa a 9 5 c) 4 = sMi a 9 5 := by
  show ((((0 : Int) + a 3 0 * sKa a 9 5 0) + a 3 1 * sKa a 9 5 1) + a 3 2 * sKa a 9 5 2) + a 3 3 * sKa a 9 5 3 = _
  simp only [show sKa a 9 5 1 = 0 from rfl, show sKa a 9 5 3 = 0 from rfl, hk_9_5_0, hk_9_5_2, p_8_4, p_8_1, p_1_4, p_1_1, p_9_5]
  unfold d2
  grind
theorem lk_9_6_0 : sSm (fun c => a 0 c * sKa a 9 6 c) 4 = sMi a 9 6 := by
  show ((((0 : Int) + a 0 0 * sKa a 9 6 0) + a 0 1 * sKa a 9 6 1) + a 0 2 * sKa a 9 6 2) + a 0 3 * sKa a 9 6 3 = _
  simp only [show sKa a 9 6 0 = 0 from rfl, show sKa a 9 6 3 = 0 from rfl, hk_9_6_1, hk_9_6_2, p_8_4, p_8_2, p_1_4, p_1_2, p_9_6]
  unfold d2
  grind
theorem lk_9_6_3 : sSm (fun c => a 3 c * sKa a 9 6 c) 4 = sMi a 9 6 := by
  show ((((0 : Int) + a 3 0 * sKa a 9 6 0) + a 3 1 * sKa a 9 6 1) + a 3 2 * sKa a 9 6 2) + a 3 3 * sKa a 9 6 3 = _
  simp only [show sKa a 9 6 0 = 0 from rfl, show sKa a 9 6 3 = 0 from rfl, hk_9_6_1, hk_9_6_2, p_8_4, p_8_2, p_1_4, p_1_2, p_9_6]
  unfold d2
  grind
theorem lk_9_9_0 : sSm (fun c => a 0 c * sKa a 9 9 c) 4 = sMi a 9 9 := by
  show ((((0 : Int) + a 0 0 * sKa a 9 9 0) + a 0 1 * sKa a 9 9 1) + a 0 2 * sKa a 9 9 2) + a 0 3 * sKa a 9 9 3 = _
  simp only [show sKa a 9 9 1 = 0 from rfl, show sKa a 9 9 2 = 0 from rfl, hk_9_9_0, hk_9_9_3, p_8_8, p_8_1, p_1_8, p_1_1, p_9_9]
  unfold d2
  grind
theorem lk_9_9_3 : sSm (fun c => a 3 c * sKa a 9 9 c) 4 = sMi a 9 9 := by
  show ((((0 : Int) + a 3 0 * sKa a 9 9 0) + a 3 1 * sKa a 9 9 1) + a 3 2 * sKa a 9 9 2) + a 3 3 * sKa a 9 9 3 = _
  simp only [show sKa a 9 9 1 = 0 from rfl, show sKa a 9 9 2 = 0 from rfl, hk_9_9_0, hk_9_9_3, p_8_8, p_8_1, p_1_8, p_1_1, p_9_9]
  unfold d2
  grind
theorem lk_9_10_0 : sSm (fun c => a 0 c * sKa a 9 10 c) 4 = sMi a 9 10 := by
  show ((((0 : Int) + a 0 0 * sKa a 9 10 0) + a 0 1 * sKa a 9 10 1) + a 0 2 * sKa a 9 10 2) + a 0 3 * sKa a 9 10 3 = _
  simp only [show sKa a 9 10 0 = 0 from rfl, show sKa a 9 10 2 = 0 from rfl, hk_9_10_1, hk_9_10_3, p_8_8, p_8_2, p_1_8, p_1_2, p_9_10]
  unfold d2
  grind
theorem lk_9_10_3 : sSm (fun c => a 3 c * sKa a 9 10 c) 4 = sMi a 9 10 := by
  show ((((0 : Int) + a 3 0 * sKa a 9 10 0) + a 3 1 * sKa a 9 10 1) + a 3 2 * sKa a 9 10 2) + a 3 3 * sKa a 9 10 3 = _
  simp only [show sKa a 9 10 0 = 0 from rfl, show sKa a 9 10 2 = 0 from rfl, hk_9_10_1, hk_9_10_3, p_8_8, p_8_2, p_1_8, p_1_2, p_9_10]
  unfold d2
  grind
theorem lk_9_12_0 : sSm (fun c => a 0 c * sKa a 9 12 c) 4 = sMi a 9 12 := by
  show ((((0 : Int) + a 0 0 * sKa a 9 12 0) + a 0 1 * sKa a 9 12 1) + a 0 2 * sKa a 9 12 2) + a 0 3 * sKa a 9 12 3 = _
  simp only [show sKa a 9 12 0 = 0 from rfl, show sKa a 9 12 1 = 0 from rfl, hk_9_12_2, hk_9_12_3, p_8_8, p_8_4, p_1_8, p_1_4, p_9_12]
  unfold d2
  grind
theorem lk_9_12_3 : sSm (fun c => a 3 c * sKa a 9 12 c) 4 = sMi a 9 12 := by
  show ((((0 : Int) + a 3 0 * sKa a 9 12 0) + a 3 1 * sKa a 9 12 1) + a 3 2 * sKa a 9 12 2) + a 3 3 * sKa a 9 12 3 = _
  simp only [show sKa a 9 12 0 = 0 from rfl, show sKa a 9 12 1 = 0 from rfl, hk_9_12_2, hk_9_12_3, p_8_8, p_8_4, p_1_8, p_1_4, p_9_12]
  unfold d2
  grind
theorem lk_10_3_1 : sSm (fun c => a 1 c * sKa a 10 3 c) 4 = sMi a 10 3 := by
  show ((((0 : Int) + a 1 0 * sKa a 10 3 0) + a 1 1 * sKa a 10 3 1) + a 1 2 * sKa a 10 3 2) + a 1 3 * sKa a 10 3 3 = _
  simp only [show sKa a 10 3 2 = 0 from rfl, show sKa a 10 3 3 = 0 from rfl, hk_10_3_0, hk_10_3_1, p_8_2, p_8_1, p_2_2, p_2_1, p_10_3]
  unfold d2
  grind
theorem lk_10_3_3 : sSm (fun c => a 3 c * sKa a 10 3 c) 4 = sMi a 10 3 := by
  show ((((0 : Int) + a 3 0 * sKa a 10 3 0) + a 3 1 * sKa a 10 3 1) + a 3 2 * sKa a 10 3 2) + a 3 3 * sKa a 10 3 3 = _
  simp only [show sKa a 10 3 2 = 0 from rfl, show sKa a 10 3 3 = 0 from rfl, hk_10_3_0, hk_10_3_1, p_8_2, p_8_1, p_2_2, p_2_1, p_10_3]
  unfold d2
  grind
theorem lk_10_5_1 : sSm (fun c => a 1 c * sKa a 10 5 c) 4 = sMi a 10 5 := by
  show ((((0 : Int) + a 1 0 * sKa a 10 5 0) + a 1 1 * sKa a 10 5 1) + a 1 2 * sKa a 10 5 2) + a 1 3 * sKa a 10 5 3 = _
  simp only [show sKa a 10 5 1 = 0 from rfl, show sKa a 10 5 3 = 0 from rfl, hk_10_5_0, hk_10_5_2, p_8_4, p_8_1, p_2_4, p_2_1, p_10_5]
  unfold d2
  grind
theorem lk_10_5_3 : sSm (fun c => a 3 c * sKa a 10 5 c) 4 = sMi a 10 5 := by
  show ((((0 : Int) + a 3 0 * sKa a 10 5 0) + a 3 1 * sKa a 10 5 1) + a 3 2 * sKa a 10 5 2) + a 3 3 * sKa a 10 5 3 = _
  simp only [show sKa a 10 5 1 = 0 from rfl, show sKa a 10 5 3 = 0 from rfl, hk_10_5_0, hk_10_5_2, p_8_4, p_8_1, p_2_4, p_2_1, p_10_5]
  unfold d2
  grind
theorem lk_10_6_1 : sSm (fun c => a 1 c * sKa a 10 6 c) 4 = sMi a 10 6 := by
  show ((((0 : Int) + a 1 0 * sKa a 10 6 0) + a 1 1 * sKa a 10 6 1) + a 1 2 * sKa a 10 6 2) + a 1 3 * sKa a 10 6 3 = _
  simp only [show sKa a 10 6 0 = 0 from rfl, show sKa a 10 6 3 = 0 from rfl, hk_10_6_1, hk_10_6_2, p_8_4, p_8_2, p_2_4, p_2_2, p_10_6]
  unfold d2
  grind
theorem lk_10_6_3 : sSm (fun c => a 3 c * sKa a 10 6 c) 4 = sMi a 10 6 := by
  show ((((0 : Int) + a 3 0 * sKa a 10 6 0) + a 3 1 * sKa a 10 6 1) + a 3 2 * sKa a 10 6 2) + a 3 3 * sKa a 10 6 3 = _
  simp only [show sKa a 10 6 0 = 0 from rfl, show sKa a 10 6 3 = 0 from rfl, hk_10_6_1, hk_10_6_2, p_8_4, p_8_2, p_2_4, p_2_2, p_10_6]
  unfold d2
  grind
theorem lk_10_9_1 : sSm (fun c => a 1 c * sKa a 10 9 c) 4 = sMi a 10 9 := by
  show ((((0 : Int) + a 1 0 * sKa a 10 9 0) + a 1 1 * sKa a 10 9 1) + a 1 2 * sKa a 10 9 2) + a 1 3 * sKa a 10 9 3 = _
  simp only [show sKa a 10 9 1 = 0 from rfl, show sKa a 10 9 2 = 0 from rfl, hk_10_9_0, hk_10_9_3, p_8_8, p_8_1, p_2_8, p_2_1, p_10_9]
  unfold d2
  grind
theorem lk_10_9_3 : sSm (fun c => a 3 c * sKa a 10 9 c) 4 = sMi a 10 9 := by
  show ((((0 : Int) + a 3 0 * sKa a 10 9 0) + a 3 1 * sKa a 10 9 1) + a 3 2 * sKa a 10 9 2) + a 3 3 * sKa a 10 9 3 = _
  simp only [show sKa a 10 9 1 = 0 from rfl, show sKa a 10 9 2 = 0 from rfl, hk_10_9_0, hk_10_9_3, p_8_8, p_8_1, p_2_8, p_2_1, p_10_9]
  unfold d2
  grind
theorem lk_10_10_1 : sSm (fun c => a 1 c * sKa a 10 10 c) 4 = sMi a 10 10 := by
  show ((((0 : Int) + a 1 0 * sKa a 10 10 0) + a 1 1 * sKa a 10 10 1) + a 1 2 * sKa a 10 10 2) + a 1 3 * sKa a 10 10 3 = _
  simp only [show sKa a 10 10 0 = 0 from rfl, show sKa a 10 10 2 = 0 from rfl, hk_10_10_1, hk_10_10_3, p_8_8, p_8_2, p_2_8, p_2_2, p_10_10]
  unfold d2
  grind
theorem lk_10_10_3 : sSm (fun c => a 3 c * sKa a 10 10 c) 4 = sMi a 10 10 := by
  show ((((0 : Int) + a 3 0 * sKa a 10 10 0) + a 3 1 * sKa a 10 10 1) + a 3 2 * sKa a 10 10 2) + a 3 3 * sKa a 10 10 3 = _
  simp only [show sKa a 10 10 0 = 0 from rfl, show sKa a 10 10 2 = 0 from rfl, hk_10_10_1, hk_10_10_3, p_8_8, p_8_2, p_2_8, p_2_2, p_10_10]
  unfold d2
  grind
theorem lk_10_12_1 : sSm (fun c => a 1 c * sKa a 10 12 c) 4 = sMi a 10 12 := by
  show ((((0 : Int) + a 1 0 * sKa a 10 12 0) + a 1 1 * sKa a 10 12 1) + a 1 2 * sKa a 10 12 2) + a 1 3 * sKa a 10 12 3 = _
  simp only [show sKa a 10 12 0 = 0 from rfl, show sKa a 10 12 1 = 0 from rfl, hk_10_12_2, hk_10_12_3, p_8_8, p_8_4, p_2_8, p_2_4, p_10_12]
  unfold d2
  grind
theorem lk_10_12_3 : sSm (fun c => a 3 c * sKa a 10 12 c) 4 = sMi a 10 12 := by
  show ((((0 : Int) + a 3 0 * sKa a 10 12 0) + a 3 1 * sKa a 10 12 1) + a 3 2 * sKa a 10 12 2) + a 3 3 * sKa a 10 12 3 = _
  simp only [show sKa a 10 12 0 = 0 from rfl, show sKa a 10 12 1 = 0 from rfl, hk_10_12_2, hk_10_12_3, p_8_8, p_8_4, p_2_8, p_2_4, p_10_12]
  unfold d2
  grind
theorem lk_11_7_0 : sSm (fun c => a 0 c * sKa a 11 7 c) 4 = sMi a 11 7 := by
  show ((((0 : Int) + a 0 0 * sKa a 11 7 0) + a 0 1 * sKa a 11 7 1) + a 0 2 * sKa a 11 7 2) + a 0 3 * sKa a 11 7 3 = _
  simp only [show sKa a 11 7 3 = 0 from rfl, hk_11_7_0, hk_11_7_1, hk_11_7_2, p_10_6, p_10_5, p_10_3, p_9_6, p_9_5, p_9_3, p_3_6, p_3_5, p_3_3, p_11_7]
  unfold d3 d2
  grind
theorem lk_11_7_1 : sSm (fun c => a 1 c * sKa a 11 7 c) 4 = sMi a 11 7 := by
  show ((((0 : Int) + a 1 0 * sKa a 11 7 0) + a 1 1 * sKa a 11 7 1) + a 1 2 * sKa a 11 7 2) + a 1 3 * sKa a 11 7 3 = _
  simp only [show sKa a 11 7 3 = 0 from rfl, hk_11_7_0, hk_11_7_1, hk_11_7_2, p_10_6, p_10_5, p_10_3, p_9_6, p_9_5, p_9_3, p_3_6, p_3_5, p_3_3, p_11_7]
  unfold d3 d2
  grind
theorem lk_11_7_3 : sSm (fun c => a 3 c * sKa a 11 7 c) 4 = sMi a 11 7 := by
  show ((((0 : Int) + a 3 0 * sKa a 11 7 0) + a 3 1 * sKa a 11 7 1) + a 3 2 * sKa a 11 7 2) + a 3 3 * sKa a 11 7 3 = _
  simp only [show sKa a 11 7 3 = 0 from rfl, hk_11_7_0, hk_11_7_1, hk_11_7_2, p_10_6, p_10_5, p_10_3, p_9_6, p_9_5, p_9_3, p_3_6, p_3_5, p_3_3, p_11_7]
  unfold d3 d2
  grind
theorem lk_11_11_0 : sSm (fun c => a 0 c * sKa a 11 11 c) 4 = sMi a 11 11 := by
  show ((((0 : Int) + a 0 0 * sKa a 11 11 0) + a 0 1 * sKa a 11 11 1) + a 0 2 * sKa a 11 11 2) + a 0 3 * sKa a 11 11 3 = _
  simp only [show sKa a 11 11 2 = 0 from rfl, hk_11_11_0, hk_11_11_1, hk_11_11_3, p_10_10, p_10_9, p_10_3, p_9_10, p_9_9, p_9_3, p_3_10, p_3_9, p_3_3, p_11_11]
  unfold d3 d2
  grind
theorem lk_11_11_1 : sSm (fun c => a 1 c * sKa a 11 11 c) 4 = sMi a 11 11 := by
  show ((((0 : Int) + a 1 0 * sKa a 11 11 0) + a 1 1 * sKa a 11 11 1) + a 1 2 * sKa a 11 11 2) + a 1 3 * sKa a 11 11 3 = _
  simp only [show sKa a 11 11 2 = 0 from rfl, hk_11_11_0, hk_11_11_1, hk_11_11_3, p_10_10, p_10_9, p_10_3, p_9_10, p_9_9, p_9_3, p_3_10, p_3_9, p_3_3, p_11_11]
  unfold d3 d2
  grind
theorem lk_11_11_3 : sSm (fun c => a 3 c * sKa a 11 11 c) 4 = sMi a 11 11 := by
  show ((((0 : Int) + a 3 0 * sKa a 11 11 0) + a 3 1 * sKa a 11 11 1) + a 3 2 * sKa a 11 11 2) + a 3 3 * sKa a 11 11 3 = _
  simp only [show sKa a 11 11 2 = 0 from rfl, hk_11_11_0, hk_11_11_1, hk_11_11_3, p_10_10, p_10_9, p_10_3, p_9_10, p_9_9, p_9_3, p_3_10, p_3_9, p_3_3, p_11_11]
  unfold d3 d2
  grind
theorem lk_11_13_0 : sSm (fun c => a 0 c * sKa a 11 13 c) 4 = sMi a 11 13 := by
  show ((((0 : Int) + a 0 0 * sKa a 11 13 0) + a 0 1 * sKa a 11 13 1) + a 0 2 * sKa a 11 13 2) + a 0 3 * sKa a 11 13 3 = _
  simp only [show sKa a 11 13 1 = 0 from rfl, hk_11_13_0, hk_11_13_2, hk_11_13_3, p_10_12, p_10_9, p_10_5, p_9_12, p_9_9, p_9_5, p_3_12, p_3_9, p_3_5, p_11_13]
  unfold d3 d2
  grind
theorem lk_11_13_1 : sSm (fun c => a 1 c * sKa a 11 13 c) 4 = sMi a 11 13 := by
  show ((((0 : Int) + a 1 0 * sKa a 11 13 0) + a 1 1 * sKa a 11 13 1) + a 1 2 * sKa a 11 13 2) + a 1 3 * sKa a 11 13 3 = _
  simp only [show sKa a 11 13 1 = 0 from rfl, hk_11_13_0, hk_11_13_2, hk_11_13_3, p_10_12, p_10_9, p_10_5, p_9_12, p_9_9, p_9_5, p_3_12, p_3_9, p_3_5, p_11_13]
  unfold d3 d2
  grind
theorem lk_11_13_3 : sSm (fun c => a 3 c * sKa a 11 13 c) 4 = sMi a 11 13 := by
  show ((((0 : Int) + a 3 0 * sKa a 11 13 0) + a 3 1 * sKa a 11 13 1) + a 3 2 * sKa a 11 13 2) + a 3 3 * sKa a 11 13 3 = _
  simp only [show sKa a 11 13 1 = 0 from rfl, hk_11_13_0, hk_11_13_2, hk_11_13_3, p_10_12, p_10_9, p_10_5, p_9_12, p_9_9, p_9_5, p_3_12, p_3_9, p_3_5, p_11_13]
  unfold d3 d2
  grind
theorem lk_11_14_0 : sSm (fun c => a 0 c * sKa a 11 14 c) 4 = sMi a 11 14 := by
  show ((((0 : Int) + a 0 0 * sKa a 11 14 0) + a 0 1 * sKa a 11 14 1) + a 0 2 * sKa a 11 14 2) + a 0 3 * sKa a 11 14 3 = _
  simp only [show sKa a 11 14 0 = 0 from rfl, hk_11_14_1, hk_11_14_2, hk_11_14_3, p_10_12, p_10_10, p_10_6, p_9_12, p_9_10, p_9_6, p_3_12, p_3_10, p_3_6, p_11_14]
  unfold d3 d2
  grind
theorem lk_11_14_1 : sSm (fun c => a 1 c * sKa a 11 14 c) 4 = sMi a 11 14 := by
  show ((((0 : Int) + a 1 0 * sKa a 11 14 0) + a 1 1 * sKa a 11 14 1) + a 1 2 * sKa a 11 14 2) + a 1 3 * sKa a 11 14 3 = _
  simp only [show sKa a 11 14 0 = 0 from rfl, hk_11_14_1, hk_11_14_2, hk_11_14_3, p_10_12, p_10_10, p_10_6, p_9_12, p_9_10, p_9_6, p_3_12, p_3_10, p_3_6, p_11_14]
  unfold d3 d2
  grind
theorem lk_11_14_3 : sSm (fun c => a 3 c * sKa a 11 14 c) 4 = sMi a 11 14 := by
  show ((((0 : Int) + a 3 0 * sKa a 11 14 0) + a 3 1 * sKa a 11 14 1) + a 3 2 * sKa a 11 14 2) + a 3 3 * sKa a 11 14 3 = _
  simp only [show sKa a 11 14 0 = 0 from rfl, hk_11_14_1, hk_11_14_2, hk_11_14_3, p_10_12, p_10_10, p_10_6, p_9_12, p_9_10, p_9_6, p_3_12, p_3_10, p_3_6, p_11_14]
  unfold d3 d2
  grind
theorem lk_12_3_2 : sSm (fun c => a 2 c * sKa a 12 3 c) 4 = sMi a 12 3 := by
  show ((((0 : Int) + a 2 0 * sKa a 12 3 0) + a 2 1 * sKa a 12 3 1) + a 2 2 * sKa a 12 3 2) + a 2 3 * sKa a 12 3 3 = _
  simp only [show sKa a 12 3 2 = 0 from rfl, show sKa a 12 3 3 = 0 from rfl, hk_12_3_0, hk_12_3_1, p_8_2, p_8_1, p_4_2, p_4_1, p_12_3]
  unfold d2
  grind
theorem lk_12_3_3 : sSm (fun c => a 3 c * sKa a 12 3 c) 4 = sMi a 12 3 := by
  show ((((0 : Int) + a 3 0 * sKa a 12 3 0) + a 3 1 * sKa a 12 3 1) + a 3 2 * sKa a 12 3 2) + a 3 3 * sKa a 12 3 3 = _
  simp only [show sKa a 12 3 2 = 0 from rfl, show sKa a 12 3 3 = 0 from rfl, hk_12_3_0, hk_12_3_1, p_8_2, p_8_1, p_4_2, p_4_1, p_12_3]
  unfold d2
  grind
theorem lk_12_5_2 : sSm (fun c => a 2 c * sKa a 12 5 c) 4 = sMi a 12 5 := by
  show ((((0 : Int) + a 2 0 * sKa a 12 5 0) + a 2 1 * sKa a 12 5 1) + a 2 2 * sKa a 12 5 2) + a 2 3 * sKa a 12 5 3 = _
  simp only [show sKa a 12 5 1 = 0 from rfl, show sKa a 12 5 3 = 0 from rfl, hk_12_5_0, hk_12_5_2, p_8_4, p_8_1, p_4_4, p_4_1, p_12_5]
  unfold d2
  grind
theorem lk_12_5_3 : sSm (fun c => a 3 c * sKa a 12 5 c) 4 = sMi a 12 5 := by
  show ((((0 : Int) + a 3 0 * sKa a 12 5 0) + a 3 1 * sKa a 12 5 1) + a 3 2 * sKa a 12 5 2) + a 3 3 * sKa a 12 5 3 = _
  simp only [show sKa a 12 5 1 = 0 from rfl, show sKa a 12 5 3 = 0 from rfl, hk_12_5_0, hk_12_5_2, p_8_4, p_8_1, p_4_4, p_4_1, p_12_5]
  unfold d2
  grind
theorem lk_12_6_2 : sSm (fun c => a 2 c * sKa a 12 6 c) 4 = sMi a 12 6 := by
  show ((((0 : Int) + a 2 0 * sKa a 12 6 0) + a 2 1 * sKa a 12 6 1) + a 2 2 * sKa a 12 6 2) + a 2 3 * sKa a 12 6 3 = _
  simp only [show sKa a 12 6 0 = 0 from rfl, show sKa a 12 6 3 = 0 from rfl, hk_12_6_1, hk_12_6_2, p_8_4, p_8_2, p_4_4, p_4_2, p_12_6]
  unfold d2
  grind
theorem lk_12_6_3 : sSm (fun c => a 3 c * sKa a 12 6 c) 4 = sMi a 12 6 := by
  show ((((0 : Int) + a 3 0 * sKa a 12 6 0) + a 3 1 * sKa a 12 6 1) + a 3 2 * sKa a 12 6 2) + a 3 3 * sKa a 12 6 3 = _
  simp only [show sKa a 12 6 0 = 0 from rfl, show sKa a 12 6 3 = 0 from rfl, hk_12_6_1, hk_12_6_2, p_8_4, p_8_2, p_4_4, p_4_2, p_12_6]
  unfold d2
  grind
theorem lk_12_9_2 : sSm (fun c => a 2 c * sKa a 12 9 c) 4 = sMi a 12 9 := by
  show ((((0 : Int) + a 2 0 * sKa a 12 9 0) + a 2 1 * sKa a 12 9 1) + a 2 2 * sKa a 12 9 2) + a 2 3 * sKa a 12 9 3 = _
  simp only [show sKa a 12 9 1 = 0 from rfl, show sKa a 12 9 2 = 0 from rfl, hk_12_9_0, hk_12_9_3, p_8_8, p_8_1, p_4_8, p_4_1, p_12_9]
  unfold d2
  grind
theorem lk_12_9_3 : sSm (fun c => a 3 c * sKa a 12 9 c) 4 = sMi a 12 9 := by
  show ((((0 : Int) + a 3 0 * sKa a 12 9 0) + a 3 1 * sKa a 12 9 1) + a 3 2 * sKa a 12 9 2) + a 3 3 * sKa a 12 9 3 = _
  simp only [show sKa a 12 9 1 = 0 from rfl, show sKa a 12 9 2 = 0 from rfl, hk_12_9_0, hk_12_9_3, p_8_8, p_8_1, p_4_8, p_4_1, p_12_9]
  unfold d2
  grind
theorem lk_12_10_2 : sSm (fun c => a 2 c * sKa a 12 10 c) 4 = sMi a 12 10 := by
  show ((((0 : Int) + a 2 0 * sKa a 12 10 0) + a 2 1 * sKa a 12 10 1) + a 2 2 * sKa a 12 10 2) + a 2 3 * sKa a 12 10 3 = _
  simp only [show sKa a 12 10 0 = 0 from rfl, show sKa a 12 10 2 = 0 from rfl, hk_12_10_1, hk_12_10_3, p_8_8, p_8_2, p_4_8, p_4_2, p_12_10]
  unfold d2
  grind
theorem lk_12_10_3 : sSm (fun c => a 3 c * sKa a 12 10 c) 4 = sMi a 12 10 := by
  show ((((0 : Int) + a 3 0 * sKa a 12 10 0) + a 3 1 * sKa a 12 10 1) + a 3 2 * sKa a 12 10 2) + a 3 3 * sKa a 12 10 3 = _
  simp only [show sKa a 12 10 0 = 0 from rfl, show sKa a 12 10 2 = 0 from rfl, hk_12_10_1, hk_12_10_3, p_8_8, p_8_2, p_4_8, p_4_2, p_12_10]
  unfold d2
  grind
theorem lk_12_12_2 : sSm (fun c => a 2 c * sKa a 12 12 c) 4 = sMi a 12 12 := by
  show ((((0 : Int) + a 2 0 * sKa a 12 12 0) + a 2 1 * sKa a 12 12 1) + a 2 2 * sKa a 12 12 2) + a 2 3 * sKa a 12 12 3 = _
  simp only [show sKa a 12 12 0 = 0 from rfl, show sKa a 12 12 1 = 0 from rfl, hk_12_12_2, hk_12_12_3, p_8_8, p_8_4, p_4_8, p_4_4, p_12_12]
  unfold d2
  grind
theorem lk_12_12_3 : sSm (fun c => a 3 c * sKa a 12 12 c) 4 = sMi a 12 12 := by
  show ((((0 : Int) + a 3 0 * sKa a 12 12 0) + a 3 1 * sKa a 12 12 1) + a 3 2 * sKa a 12 12 2) + a 3 3 * sKa a 12 12 3 = _
  simp only [show sKa a 12 12 0 = 0 from rfl, show sKa a 12 12 1 = 0 from rfl, hk_12_12_2, hk_12_12_3, p_8_8, p_8_4, p_4_8, p_4_4, p_12_12]
  unfold d2
  grind
theorem lk_13_7_0 : sSm (fun c => a 0 c * sKa a 13 7 c) 4 = sMi a 13 7 := by
  show ((((0 : Int) + a 0 0 * sKa a 13 7 0) + a 0 1 * sKa a 13 7 1) + a 0 2 * sKa a 13 7 2) + a 0 3 * sKa a 13 7 3 = _
  simp only [show sKa a 13 7 3 = 0 from rfl, hk_13_7_0, hk_13_7_1, hk_13_7_2, p_12_6, p_12_5, p_12_3, p_9_6, p_9_5, p_9_3, p_5_6, p_5_5, p_5_3, p_13_7]
  unfold d3 d2
  grind
theorem lk_13_7_2 : sSm (fun c => a 2 c * sKa a 13 7 c) 4 = sMi a 13 7 := by
  show ((((0 : Int) + a 2 0 * sKa a 13 7 0) + a 2 1 * sKa a 13 7 1) + a 2 2 * sKa a 13 7 2) + a 2 3 * sKa a 13 7 3 = _
  simp only [show sKa a 13 7 3 = 0 from rfl, hk_13_7_0, hk_13_7_1, hk_13_7_2, p_12_6, p_12_5, p_12_3, p_9_6, p_9_5, p_9_3, p_5_6, p_5_5, p_5_3, p_13_7]
  unfold d3 d2
  grind
theorem lk_13_7_3 : sSm (fun c => a 3 c * sKa a 13 7 c) 4 = sMi a 13 7 := by
  show ((((0 : Int) + a 3 0 * sKa a 13 7 0) + a 3 1 * sKa a 13 7 1) + a 3 2 * sKa a 13 7 2) + a 3 3 * sKa a 13 7 3 = _
  simp only [show sKa a 13 7 3 = 0 from rfl, hk_13_7_0, hk_13_7_1, hk_13_7_2, p_12_6, p_12_5, p_12_3, p_9_6, p_9_5, p_9_3, p_5_6, p_5_5, p_5_3, p_13_7]
  unfold d3 d2
  grind
theorem lk_13_11_0 : sSm (fun c => a 0 c * sKa a 13 11 c) 4 = sMi a 13 11 := by
  show ((((0 : Int) + a 0 0 * sKa a 13 11 0) + a 0 1 * sKa a 13 11 1) + a 0 2 * sKa a 13 11 2) + a 0 3 * sKa a 13 11 3 = _
  simp only [show sKa a 13 11 2 = 0 from rfl, hk_13_11_0, hk_13_11_1, hk_13_11_3, p_12_10, p_12_9, p_12_3, p_9_10, p_9_9, p_9_3, p_5_10, p_5_9, p_5_3, p_13_11]
  unfold d3 d2
  grind
theorem lk_13_11_2 : sSm (fun c => a 2 c * sKa a 13 11 c) 4 = sMi a 13 11 := by
  show ((((0 : Int) + a 2 0 * sKa a 13 11 0) + a 2 1 * sKa a 13 11 1) + a 2 2 * sKa a 13 11 2) + a 2 3 * sKa a 13 11 3 = _
  simp only [show sKa a 13 11 2 = 0 from rfl, hk_13_11_0, hk_13_11_1, hk_13_11_3, p_12_10, p_12_9, p_12_3, p_9_10, p_9_9, p_9_3, p_5_10, p_5_9, p_5_3, p_13_11]
  unfold d3 d2
  grind
theorem lk_13_11_3 : sSm (fun c => a 3 c * sKa a 13 11 c) 4 = sMi a 13 11 := by
  show ((((0 : Int) + a 3 0 * sKa a 13 11 0) + a 3 1 * sKa a 13 11 1) + a 3 2 * sKa a 13 11 2) + a 3 3 * sKa a 13 11 3 = _
  simp only [show sKa a 13 11 2 = 0 from rfl, hk_13_11_0, hk_13_11_1, hk_13_11_3, p_12_10, p_12_9, p_12_3, p_9_10, p_9_9, p_9_3, p_5_10, p_5_9, p_5_3, p_13_11]
  unfold d3 d2
  grind
theorem lk_13_13_0 : sSm (fun c => a 0 c * sKa a 13 13 c) 4 = sMi a 13 13 := by
  show ((((0 : Int) + a 0 0 * sKa a 13 13 0) + a 0 1 * sKa a 13 13 1) + a 0 2 * sKa a 13 13 2) + a 0 3 * sKa a 13 13 3 = _
  simp only [show sKa a 13 13 1 = 0 from rfl, hk_13_13_0, hk_13_13_2, hk_13_13_3, p_12_12, p_12_9, p_12_5, p_9_12, p_9_9, p_9_5, p_5_12, p_5_9, p_5_5, p_13_13]
  unfold d3 d2
  grind
theorem lk_13_13_2 : sSm (fun c => a 2 c * sKa a 13 13 c) 4 = sMi a 13 13 := by
  show ((((0 : Int) + a 2 0 * sKa a 13 13 0) + a 2 1 * sKa a 13 13 1) + a 2 2 * sKa a 13 13 2) + a 2 3 * sKa a 13 13 3 = _
  simp only [show sKa a 13 13 1 = 0 from rfl, hk_13_13_0, hk_13_13_2, hk_13_13_3, p_12_12, p_12_9, p_12_5, p_9_12, p_9_9, p_9_5, p_5_12, p_5_9, p_5_5, p_13_13]
  unfold d3 d2
  grind
theorem lk_13_13_3 : sSm (fun c => a 3 c * sKa a 13 13 c) 4 = sMi a 13 13 := by
  show ((((0 : Int) + a 3 0 * sKa a 13 13 0) + a 3 1 * sKa a 13 13 1) + a 3 2 * sKa a 13 13 2) + a 3 3 * sKa a 13 13 3 = _
  simp only [show sKa a 13 13 1 = 0 from rfl, hk_13_13_0, hk_13_13_2, hk_13_13_3, p_12_12, p_12_9, p_12_5, p_9_12, p_9_9, p_9_5, p_5_12, p_5_9, p_5_5, p_13_13]
  unfold d3 d2
  grind
theorem lk_13_14_0 : sSm (fun c => a 0 c * sKa a 13 14 c) 4 = sMi a 13 14 := by
  show ((((0 : Int) + a 0 0 * sKa a 13 14 0) + a 0 1 * sKa a 13 14 1) + a 0 2 * sKa a 13 14 2) + a 0 3 * sKa a 13 14 3 = _
  simp only [show sKa a 13 14 0 = 0 from rfl, hk_13_14_1, hk_13_14_2, hk_13_14_3, p_12_12, p_12_10, p_12_6, p_9_12, p_9_10, p_9_6, p_5_12, p_5_10, p_5_6, p_13_14]
  unfold d3 d2
  grind
theorem lk_13_14_2 : sSm (fun c => a 2 c * sKa a 13 14 c) 4 = sMi a 13 14 := by
  show ((((0 : Int) + a 2 0 * sKa a 13 14 0) + a 2 1 * sKa a 13 14 1) + a 2 2 * sKa a 13 14 2) + a 2 3 * sKa a 13 14 3 = _
  simp only [show sKa a 13 14 0 = 0 from rfl, hk_13_14_1, hk_13_14_2, hk_13_14_3, p_12_12, p_12_10, p_12_6, p_9_12, p_9_10, p_9_6, p_5_12, p_5_10, p_5_6, p_13_14]
  unfold d3 d2
  grind
theorem lk_13_14_3 : sSm (fun c => a 3 c * sKa a 13 14 c) 4 = sMi a 13 14 := by
  show ((((0 : Int) + a 3 0 * sKa a 13 14 0) + a 3 1 * sKa a 13 14 1) + a 3 2 * sKa a 13 14 2) + a 3 3 * sKa a 13 14 3 = _
  simp only [show sKa a 13 14 0 = 0 from rfl, hk_13_14_1, hk_13_14_2, hk_13_14_3, p_12_12, p_12_10, p_12_6, p_9_12, p_9_10, p_9_6, p_5_12, p_5_10, p_5_6, p_13_14]
  unfold d3 d2
  grind
theorem lk_14_7_1 : sSm (fun c => a 1 c * sKa a 14 7 c) 4 = sMi a 14 7 := by
  show ((((0 : Int) + a 1 0 * sKa a 14 7 0) + a 1 1 * sKa a 14 7 1) + a 1 2 * sKa a 14 7 2) + a 1 3 * sKa a 14 7 3 = _
  simp only [show sKa a 14 7 3 = 0 from rfl, hk_14_7_0, hk_14_7_1, hk_14_7_2, p_12_6, p_12_5, p_12_3, p_10_6, p_10_5, p_10_3, p_6_6, p_6_5, p_6_3, p_14_7]
  unfold d3 d2
  grind
theorem lk_14_7_2 : sSm (fun c => a 2 c * sKa a 14 7 c) 4 = sMi a 14 7 := by
  show ((((0 : Int) + a 2 0 * sKa a 14 7 0) + a 2 1 * sKa a 14 7 1) + a 2 2 * sKa a 14 7 2) + a 2 3 * sKa a 14 7 3 = _
  simp only [show sKa a 14 7 3 = 0 from rfl, hk_14_7_0, hk_14_7_1, hk_14_7_2, p_12_6, p_12_5, p_12_3, p_10_6, p_10_5, p_10_3, p_6_6, p_6_5, p_6_3, p_14_7]
  unfold d3 d2
  grind
theorem lk_14_7_3 : sSm (fun c => a 3 c * sKa a 14 7 c) 4 = sMi a 14 7 := by
  show ((((0 : Int) + a 3 0 * sKa a 14 7 0) + a 3 1 * sKa a 14 7 1) + a 3 2 * sKa a 14 7 2) + a 3 3 * sKa a 14 7 3 = _
  simp only [show sKa a 14 7 3 = 0 from rfl, hk_14_7_0, hk_14_7_1, hk_14_7_2, p_12_6, p_12_5, p_12_3, p_10_6, p_10_5, p_10_3, p_6_6, p_6_5, p_6_3, p_14_7]
  unfold d3 d2
  grind
theorem lk_14_11_1 : sSm (fun c => a 1 c * sKa a 14 11 c) 4 = sMi a 14 11 := by
  show ((((0 : Int) + a 1 0 * sKa a 14 11 0) + a 1 1 * sKa a 14 11 1) + a 1 2 * sKa a 14 11 2) + a 1 3 * sKa a 14 11 3 = _
  simp only [show sKa a 14 11 2 = 0 from rfl, hk_14_11_0, hk_14_11_1, hk_14_11_3, p_12_10, p_12_9, p_12_3, p_10_10, p_10_9, p_10_3, p_6_10, p_6_9, p_6_3, p_14_11]
  unfold d3 d2
  grind
theorem lk_14_11_2 : sSm (fun c => a 2 c * sKa a 14 11 c) 4 = sMi a 14 11 := by
  show ((((0 : Int) + a 2 0 * sKa a 14 11 0) + a 2 1 * sKa a 14 11 1) + a 2 2 * sKa a 14 11 2) + a 2 3 * sKa a 14 11 3 = _
  simp only [show sKa a 14 11 2 = 0 from rfl, hk_14_11_0, hk_14_11_1, hk_14_11_3, p_12_10, p_12_9, p_12_3, p_10_10, p_10_9, p_10_3, p_6_10, p_6_9, p_6_3, p_14_11]
  unfold d3 d2
  grind
theorem lk_14_11_3 : sSm (fun c => a 3 c * sKa a 14 11 c) 4 = sMi a 14 11 := by
  show ((((0 : Int) + a 3 0 * sKa a 14 11 0) + a 3 1 * sKa a 14 11 1) + a 3 2 * sKa a 14 11 2) + a 3 3 * sKa a 14 11 3 = _
  simp only [show sKa a 14 11 2 = 0 from rfl, hk_14_11_0, hk_14_11_1, hk_14_11_3, p_12_10, p_12_9, p_12_3, p_10_10, p_10_9, p_10_3, p_6_10, p_6_9, p_6_3, p_14_11]
  unfold d3 d2
  grind
theorem lk_14_13_1 : sSm (fun c => a 1 c * sKa a 14 13 c) 4 = sMi a 14 13 := by
  show ((((0 : Int) + a 1 0 * sKa a 14 13 0) + a 1 1 * sKa a 14 13 1) + a 1 2 * sKa a 14 13 2) + a 1 3 * sKa a 14 13 3 = _
  simp only [show sKa a 14 13 1 = 0 from rfl, hk_14_13_0, hk_14_13_2, hk_14_13_3, p_12_12, p_12_9, p_12_5, p_10_12, p_10_9, p_10_5, p_6_12, p_6_9, p_6_5, p_14_13]
  unfold d3 d2
  grind
theorem lk_14_13_2 : sSm (fun c => a 2 c * sKa a 14 13 c) 4 = sMi a 14 13 := by
  show ((((0 : Int) + a 2 0 * sKa a 14 13 0) + a 2 1 * sKa a 14 13 1) + a 2 2 * sKa a 14 13 2) + a 2 3 * sKa a 14 13 3 = _
  simp only [show sKa a 14 13 1 = 0 from rfl, hk_14_13_0, hk_14_13_2, hk_14_13_3, p_12_12, p_12_9, p_12_5, p_10_12, p_10_9, p_10_5, p_6_12, p_6_9, p_6_5, p_14_13]
  unfold d3 d2
  grind
theorem lk_14_13_3 : sSm (fun c => a 3 c * sKa a 14 13 c) 4 = sMi a 14 13 := by
  show ((((0 : Int) + a 3 0 * sKa a 14 13 0) + a 3 1 * sKa a 14 13 1) + a 3 2 * sKa a 14 13 2) + a 3 3 * sKa a 14 13 3 = _
  simp only [show sKa a 14 13 1 = 0 from rfl, hk_14_13_0, hk_14_13_2, hk_14_13_3, p_12_12, p_12_9, p_12_5, p_10_12, p_10_9, p_10_5, p_6_12, p_6_9, p_6_5, p_14_13]
  unfold d3 d2
  grind
theorem lk_14_14_1 : sSm (fun c => a 1 c * sKa a 14 14 c) 4 = sMi a 14 14 := by
  show ((((0 : Int) + a 1 0 * sKa a 14 14 0) + a 1 1 * sKa a 14 14 1) + a 1 2 * sKa a 14 14 2) + a 1 3 * sKa a 14 14 3 = _
  simp only [show sKa a 14 14 0 = 0 from rfl, hk_14_14_1, hk_14_14_2, hk_14_14_3, p_12_12, p_12_10, p_12_6, p_10_12, p_10_10, p_10_6, p_6_12, p_6_10, p_6_6, p_14_14]
  unfold d3 d2
  grind
theorem lk_14_14_2 : sSm (fun c => a 2 c * sKa a 14 14 c) 4 = sMi a 14 14 := by
  show ((((0 : Int) + a 2 0 * sKa a 14 14 0) + a 2 1 * sKa a 14 14 1) + a 2 2 * sKa a 14 14 2) + a 2 3 * sKa a 14 14 3 = _
  simp only [show sKa a 14 14 0 = 0 from rfl, hk_14_14_1, hk_14_14_2, hk_14_14_3, p_12_12, p_12_10, p_12_6, p_10_12, p_10_10, p_10_6, p_6_12, p_6_10, p_6_6, p_14_14]
  unfold d3 d2
  grind
theorem lk_14_14_3 : sSm (fun c => a 3 c * sKa a 14 14 c) 4 = sMi a 14 14 := by
  show ((((0 : Int) + a 3 0 * sKa a 14 14 0) + a 3 1 * sKa a 14 14 1) + a 3 2 * sKa a 14 14 2) + a 3 3 * sKa a 14 14 3 = _
  simp only [show sKa a 14 14 0 = 0 from rfl, hk_14_14_1, hk_14_14_2, hk_14_14_3, p_12_12, p_12_10, p_12_6, p_10_12, p_10_10, p_10_6, p_6_12, p_6_10, p_6_6, p_14_14]
  unfold d3 d2
  grind
theorem lk_15_15_0 : sSm (fun c => a 0 c * sKa a 15 15 c) 4 = sMi a 15 15 := by
  show ((((0 : Int) + a 0 0 * sKa a 15 15 0) + a 0 1 * sKa a 15 15 1) + a 0 2 * sKa a 15 15 2) + a 0 3 * sKa a 15 15 3 = _
  simp only [hk_15_15_0, hk_15_15_1, hk_15_15_2, hk_15_15_3, p_14_14, p_14_13, p_14_11, p_14_7, p_13_14, p_13_13, p_13_11, p_13_7, p_11_14, p_11_13, p_11_11, p_11_7, p_7_14, p_7_13, p_7_11, p_7_7, p_15_15]
  unfold d4 d3 d2
  grind
theorem lk_15_15_1 : sSm (fun c => a 1 c * sKa a 15 15 c) 4 = sMi a 15 15 := by
  show ((((0 : Int) + a 1 0 * sKa a 15 15 0) + a 1 1 * sKa a 15 15 1) + a 1 2 * sKa a 15 15 2) + a 1 3 * sKa a 15 15 3 = _
  simp only [hk_15_15_0, hk_15_15_1, hk_15_15_2, hk_15_15_3, p_14_14, p_14_13, p_14_11, p_14_7, p_13_14, p_13_13, p_13_11, p_13_7, p_11_14, p_11_13, p_11_11, p_11_7, p_7_14, p_7_13, p_7_11, p_7_7, p_15_15]
  unfold d4 d3 d2
  grind
theorem lk_15_15_2 : sSm (fun c => a 2 c * sKa a 15 15 c) 4 = sMi a 15 15 := by
  show ((((0 : Int) + a 2 0 * sKa a 15 15 0) + a 2 1 * sKa a 15 15 1) + a 2 2 * sKa a 15 15 2) + a 2 3 * sKa a 15 15 3 = _
  simp only [hk_15_15_0, hk_15_15_1, hk_15_15_2, hk_15_15_3, p_14_14, p_14_13, p_14_11, p_14_7, p_13_14, p_13_13, p_13_11, p_13_7, p_11_14, p_11_13, p_11_11, p_11_7, p_7_14, p_7_13, p_7_11, p_7_7, p_15_15]
  unfold d4 d3 d2
  grind
theorem lk_15_15_3 : sSm (fun c => a 3 c * sKa a 15 15 c) 4 = sMi a 15 15 := by
  show ((((0 : Int) + a 3 0 * sKa a 15 15 0) + a 3 1 * sKa a 15 15 1) + a 3 2 * sKa a 15 15 2) + a 3 3 * sKa a 15 15 3 = _
  simp only [hk_15_15_0, hk_15_15_1, hk_15_15_2, hk_15_15_3, p_14_14, p_14_13, p_14_11, p_14_7, p_13_14, p_13_13, p_13_11, p_13_7, p_11_14, p_11_13, p_11_11, p_11_7, p_7_14, p_7_13, p_7_11, p_7_7, p_15_15]
  unfold d4 d3 d2
  grind
end IB
theorem sKa_l (a : Nat → Nat → Int) {R C r : Nat} (hR : R < 16) (hC : C < 16) (h : sPc R = sPc C) (hv : r < 4) (hb : sBi R r = 1) : sSm (fun c => a r c * sKa a R C c) 4 = sMi a R C := by
  have gR : R = 0 ∨ R = 1 ∨ R = 2 ∨ R = 3 ∨ R = 4 ∨ R = 5 ∨ R = 6 ∨ R = 7 ∨ R = 8 ∨ R = 9 ∨ R = 10 ∨ R = 11 ∨ R = 12 ∨ R = 13 ∨ R = 14 ∨ R = 15 := by omega
  have gC : C = 0 ∨ C = 1 ∨ C = 2 ∨ C = 3 ∨ C = 4 ∨ C = 5 ∨ C = 6 ∨ C = 7 ∨ C = 8 ∨ C = 9 ∨ C = 10 ∨ C = 11 ∨ C = 12 ∨ C = 13 ∨ C = 14 ∨ C = 15 := by omega
  have gv : r = 0 ∨ r = 1 ∨ r = 2 ∨ r = 3 := by omega
  rcases gR with rfl | rfl | rfl | rfl | rfl | rfl | rfl | rfl | rfl | rfl | rfl | rfl | rfl | rfl | rfl | rfl
  · rcases gC with rfl | rfl | rfl | rfl | rfl | rfl | rfl | rfl | rfl | rfl | rfl | rfl | rfl | rfl | rfl | rfl
    · rcases gv with rfl | rfl | rfl | rfl
      · exact absurd hb (by decide)
      · exact absurd hb (by decide)
      · exact absurd hb (by decide)
      · exact absurd hb (by decide)
    · exact absurd h (by decide)
    · exact absurd h (by decide)
    · exact absurd h (by decide)
    · exact absurd h (by decide)
    · exact absurd h (by decide)
    · exact absurd h (by decide)
    · exact absurd h (by decide)
    · exact absurd h (by decide)
    · exact absurd h (by decide)
    · exact absurd h (by decide)
    · exact absurd h (by decide)
    · exact absurd h (by decide)
    · exact absurd h (by decide)
    · exact absurd h (by decide)
    · exact absurd h (by decide)
  · rcases gC with rfl | rfl | rfl | rfl | rfl | rfl | rfl | rfl | rfl | rfl | rfl | rfl | rfl | rfl | rfl | rfl
    · exact absurd h (by decide)
    · rcases gv with rfl | rfl | rfl | rfl
      · exact lk_1_1_0 a
      · exact absurd hb (by decide)
      · exact absurd hb (by decide)
      · exact absurd hb (by decide)
    · rcases gv with rfl | rfl | rfl | rfl
      · exact lk_1_2_0 a
      · exact absurd hb (by decide)
      · exact absurd hb (by decide)
      · exact absurd hb (by decide)
    · exact absurd h (by decide)
    · rcases gv with rfl | rfl | rfl | rfl
      · exact lk_1_4_0 a
      · exact absurd hb (by decide)
      · exact absurd hb (by decide)
      · exact absurd hb (by decide)
    · exact absurd h (by decide)
    · exact absurd h (by decide)
    · exact absurd h (by decide)
    · rcases gv with rfl | rfl | rfl | rfl
      · exact lk_1_8_0 a
      · exact absurd hb (by decide)
      · exact absurd hb (by decide)
      · exact absurd hb (by decide)
    · exact absurd h (by decide)
    · exact absurd h (by decide)
    · exact absurd h (by decide)
    · exact absurd h (by decide)
    · exact absurd h (by decide)
    · exact absurd h (by decide)
    · exact absurd h (by decide)
  · rcases gC with rfl | rfl | rfl | rfl | rfl | rfl | rfl | rfl | rfl | rfl | rfl | rfl | rfl | rfl | rfl | rfl
    · exact absurd h (by decide)
    · rcases gv with rfl | rfl | rfl | rfl
      · exact absurd hb (by decide)
      · exact lk_2_1_1 a
      · exact absurd hb (by decide)
      · exact absurd hb (by decide)
    · rcases gv with rfl | rfl | rfl | rfl
      · exact absurd hb (by decide)
      · exact lk_2_2_1 a
      · exact absurd hb (by decide)
      · exact absurd hb (by decide)
    · exact absurd h (by decide)
    · rcases gv with rfl | rfl | rfl | rfl
      · exact absurd hb (by decide)
      · exact lk_2_4_1 a
      · exact absurd hb (by decide)
      · exact absurd hb (by decide)
    · exact absurd h (by decide)
    · exact absurd h (by decide)
    · exact absurd h (by decide)
    · rcases gv with rfl | rfl | rfl | rfl
      · exact absurd hb (by decide)
      · exact lk_2_8_1 a
      · exact absurd hb (by decide)
      · exact absurd hb (by decide)
    · exact absurd h (by decide)
    · exact absurd h (by decide)
    · exact absurd h (by decide)
    · exact absurd h (by decide)
    · exact absurd h (by decide)
    · exact absurd h (by decide)
    · exact absurd h (by decide)
  · rcases gC with rfl | rfl | rfl | rfl | rfl | rfl | rfl | rfl | rfl | rfl | rfl | rfl | rfl | rfl | rfl | rfl
    · exact absurd h (by decide)
    · exact absurd h (by decide)
    · exact absurd h (by decide)
    · rcases gv with rfl | rfl | rfl | rfl
      · exact lk_3_3_0 a
      · exact lk_3_3_1 a
      · exact absurd hb (by decide)
      · exact absurd hb (by decide)
    · exact absurd h (by decide)
    · rcases gv with rfl | rfl | rfl | rfl
      · exact lk_3_5_0 a
      · exact lk_3_5_1 a
      · exact absurd hb (by decide)
      · exact absurd hb (by decide)
    · rcases gv with rfl | rfl | rfl | rfl
      · exact lk_3_6_0 a
      · exact lk_3_6_1 a
      · exact absurd hb (by decide)
      · exact absurd hb (by decide)
    · exact absurd h (by decide)
    · exact absurd h (by decide)
    · rcases gv with rfl | rfl | rfl | rfl
      · exact lk_3_9_0 a
      · exact lk_3_9_1 a
      · exact absurd hb (by decide)
      · exact absurd hb (by decide)
    · rcases gv with rfl | rfl | rfl | rfl
      · exact lk_3_10_0 a
      · exact lk_3_10_1 a
      · exact absurd hb (by decide)
      · exact absurd hb (by decide)
    · exact absurd h (by decide)
    · rcases gv with rfl | rfl | rfl | rfl
      · exact lk_3_12_0 a
      · exact lk_3_12_1 a
      · exact absurd hb (by decide)
      · exact absurd hb (by decide)
    · exact absurd h (by decide)
    · exact absurd h (by decide)
    · exact absurd h (by decide)
  · rcases gC with rfl | rfl | rfl | rfl | rfl | rfl | rfl | rfl | rfl | rfl | rfl | rfl | rfl | rfl | rfl | rfl
    · exact absurd h (by decide)
    · rcases gv with rfl | rfl | rfl | rfl
      · exact absurd hb (by decide)
      · exact absurd hb (by decide)
      · exact lk_4_1_2 a
      · exact absurd hb (by decide)
    · rcases gv with rfl | rfl | rfl | rfl
      · exact absurd hb (by decide)
      · exact absurd hb (by decide)
      · exact lk_4_2_2 a
      · exact absurd hb (by decide)
    · exact absurd h (by decide)
    · rcases gv with rfl | rfl | rfl | rfl
      · exact absurd hb (by decide)
      · exact absurd hb (by decide)
      · exact lk_4_4_2 a
      · exact absurd hb (by decide)
    · exact absurd h (by decide)
    · exact absurd h (by decide)
    · exact absurd h (by decide)
    · rcases gv with rfl | rfl | rfl | rfl
      · exact absurd hb (by decide)
      · exact absurd hb (by decide)
      · exact lk_4_8_2 a
      · exact absurd hb (by decide)
    · exact absurd h (by decide)
    · exact absurd h (by decide)
    · exact absurd h (by decide)
    · exact absurd h (by decide)
    · exact absurd h (by decide)
    · exact absurd h (by decide)
    · exact absurd h (by decide)
  · rcases gC with rfl | rfl | rfl | rfl | rfl | rfl | rfl | rfl | rfl | rfl | rfl | rfl | rfl | rfl | rfl | rfl
    · exact absurd h (by decide)
    · exact absurd h (by decide)
    · exact absurd h (by decide)
    · rcases gv with rfl | rfl | rfl | rfl
      · exact lk_5_3_0 a
      · exact absurd hb (by decide)
      · exact lk_5_3_2 a
      · exact absurd hb (by decide)
    · exact absurd h (by decide)
    · rcases gv with rfl | rfl | rfl | rfl
      · exact lk_5_5_0 a
      · exact absurd hb (by decide)
      · exact lk_5_5_2 a
      · exact absurd hb (by decide)
    · rcases gv with rfl | rfl | rfl | rfl
      · exact lk_5_6_0 a
      · exact absurd hb (by decide)
      · exact lk_5_6_2 a
      · exact absurd hb (by decide)
    · exact absurd h (by decide)
    · exact absurd h (by decide)
    · rcases gv with rfl | rfl | rfl | rfl
      · exact lk_5_9_0 a
      · exact absurd hb (by decide)
      · exact lk_5_9_2 a
      · exact absurd hb (by decide)
    · rcases gv with rfl | rfl | rfl | rfl
      · exact lk_5_10_0 a
      · exact absurd hb (by decide)
      · exact lk_5_10_2 a
      · exact absurd hb (by decide)
    · exact absurd h (by decide)
    · rcases gv with rfl | rfl | rfl | rfl
      · exact lk_5_12_0 a
      · exact absurd hb (by decide)
      · exact lk_5_12_2 a
      · exact absurd hb (by decide)
    · exact absurd h (by decide)
    · exact absurd h (by decide)
    · exact absurd h (by decide)
  · rcases gC with rfl | rfl | rfl | rfl | rfl | rfl | rfl | rfl | rfl | rfl | rfl | rfl | rfl | rfl | rfl | rfl
    · exact absurd h (by decide)
    · exact absurd h (by decide)
    · exact absurd h (by decide)
    · rcases gv with rfl | rfl | rfl | rfl
      · exact absurd hb (by decide)
      · exact lk_6_3_1 a
      · exact lk_6_3_2 a
      · exact absurd hb (by decide)
    · exact absurd h (by decide)
    · rcases gv with rfl | rfl | rfl | rfl
      · exact absurd hb (by decide)
      · exact lk_6_5_1 a
      · exact lk_6_5_2 a
      · exact absurd hb (by decide)
    · rcases gv with rfl | rfl | rfl | rfl
      · exact absurd hb (by decide)
      · exact lk_6_6_1 a
      · exact lk_6_6_2 a
      · exact absurd hb (by decide)
    · exact absurd h (by decide)
    · exact absurd h (by decide)
    · rcases gv with rfl | rfl | rfl | rfl
      · exact absurd hb (by decide)
      · exact lk_6_9_1 a
      · exact lk_6_9_2 a
      · exact absurd hb (by decide)
    · rcases gv with rfl | rfl | rfl | rfl
      · exact absurd hb (by decide)
      · exact lk_6_10_1 a
      · exact lk_6_10_2 a
      · exact absurd hb (by decide)
    · exact absurd h (by decide)
    · rcases gv with rfl | rfl | rfl | rfl
      · exact absurd hb (by decide)
      · exact lk_6_12_1 a
      · exact lk_6_12_2 a
      · exact absurd hb (by decide)
    · exact absurd h (by decide)
    · exact absurd h (by decide)
    · exact absurd h (by decide)
  · rcases gC with rfl | rfl | rfl | rfl | rfl | rfl | rfl | rfl | rfl | rfl | rfl | rfl | rfl | rfl | rfl | rfl
    · exact absurd h (by decide)
    · exact absurd h (by decide)
    · exact absurd h (by decide)
    · exact absurd h (by decide)
    · exact absurd h (by decide)
    · exact absurd h (by decide)
    · exact absurd h (by decide)
    · rcases gv with rfl | rfl | rfl | rfl
      · exact lk_7_7_0 a
      · exact lk_7_7_1 a
      · exact lk_7_7_2 a
      · exact absurd hb (by decide)
    · exact absurd h (by decide)
    · exact absurd h (by decide)
    · exact absurd h (by decide)
    · rcases gv with rfl | rfl | rfl | rfl
      · exact lk_7_11_0 a
      · exact lk_7_11_1 a
      · exact lk_7_11_2 a
      · exact absurd hb (by decide)
    · exact absurd h (by decide)
    · rcases gv with rfl | rfl | rfl | rfl
      · exact lk_7_13_0 a
      · exact lk_7_13_1 a
      · exact lk_7_13_2 a
      · exact absurd hb (by decide)
    · rcases gv with rfl | rfl | rfl | rfl
      · exact lk_7_14_0 a
      · exact lk_7_14_1 a
      · exact lk_7_14_2 a
      · exact absurd hb (by decide)
    · exact absurd h (by decide)
  · rcases gC with rfl | rfl | rfl | rfl | rfl | rfl | rfl | rfl | rfl | rfl | rfl | rfl | rfl | rfl | rfl | rfl
    · exact absurd h (by decide)
    · rcases gv with rfl | rfl | rfl | rfl
      · exact absurd hb (by decide)
      · exact absurd hb (by decide)
      · exact absurd hb (by decide)
      · exact lk_8_1_3 a
    · rcases gv with rfl | rfl | rfl | rfl
      · exact absurd hb (by decide)
      · exact absurd hb (by decide)
      · exact absurd hb (by decide)
      · exact lk_8_2_3 a
    · exact absurd h (by decide)
    · rcases gv with rfl | rfl | rfl | rfl
      · exact absurd hb (by decide)
      · exact absurd hb (by decide)
      · exact absurd hb (by decide)
      · exact lk_8_4_3 a
    · exact absurd h (by decide)
    · exact absurd h (by decide)
    · exact absurd h (by decide)
    · rcases gv with rfl | rfl | rfl | rfl
      · exact absurd hb (by decide)
      · exact absurd hb (by decide)
      · exact absurd hb (by decide)
      · exact lk_8_8_3 a
    · exact absurd h (by decide)
    · exact absurd h (by decide)
    · exact absurd h (by decide)
    · exact absurd h (by decide)
    · exact absurd h (by decide)
    · exact absurd h (by decide)
    · exact absurd h (by decide)
  · rcases gC with rfl | rfl | rfl | rfl | rfl | rfl | rfl | rfl | rfl | rfl | rfl | rfl | rfl | rfl | rfl | rfl
    · exact absurd h (by decide)
    · exact absurd h (by decide)
    · exact absurd h (by decide)
    · rcases gv with rfl | rfl | rfl | rfl
      · exact lk_9_3_0 a
      · exact absurd hb (by decide)
      · exact absurd hb (by decide)
      · exact lk_9_3_3 a
    · exact absurd h (by decide)
    · rcases gv with rfl | rfl | rfl | rfl
      · exact lk_9_5_0 a
      · exact absurd hb (by decide)
      · exact absurd hb (by decide)
      · exact lk_9_5_3 a
    · rcases gv with rfl | rfl | rfl | rfl
      · exact lk_9_6_0 a
      · exact absurd hb (by decide)
      · exact absurd hb (by decide)
      · exact lk_9_6_3 a
    · exact absurd h (by decide)
    · exact absurd h (by decide)
    · rcases gv with rfl | rfl | rfl | rfl
      · exact lk_9_9_0 a
      · exact absurd hb (by decide)
      · exact absurd hb (by decide)
      · exact lk_9_9_3 a
    · rcases gv with rfl | rfl | rfl | rfl
      · exact lk_9_10_0 a
      · exact absurd hb (by decide)
      · exact absurd hb (by decide)
      · exact lk_9_10_3 a
    · exact absurd h (by decide)
    · rcases gv with rfl | rfl | rfl | rfl
      · exact lk_9_12_0 a
      · exact absurd hb (by decide)
      · exact absurd hb (by decide)
      · exact lk_9_12_3 a
    · exact absurd h (by decide)
    · exact absurd h (by decide)
    · exact absurd h (by decide)
  · rcases gC with rfl | rfl | rfl | rfl | rfl | rfl | rfl | rfl | rfl | rfl | rfl | rfl | rfl | rfl | rfl | rfl
    · exact absurd h (by decide)
    · exact absurd h (by decide)
    · exact absurd h (by decide)
    · rcases gv with rfl | rfl | rfl | rfl
      · exact absurd hb (by decide)
      · exact lk_10_3_1 a
      · exact absurd hb (by decide)
      · exact lk_10_3_3 a
    · exact absurd h (by decide)
    · rcases gv with rfl | rfl | rfl | rfl
      · exact absurd hb (by decide)
      · exact lk_10_5_1 a
      · exact absurd hb (by decide)
      · exact lk_10_5_3 a
    · rcases gv with rfl | rfl | rfl | rfl
      · exact absurd hb (by decide)
      · exact lk_10_6_1 a
      · exact absurd hb (by decide)
      · exact lk_10_6_3 a
    · exact absurd h (by decide)
    · exact absurd h (by decide)
    · rcases gv with rfl | rfl | rfl | rfl
      · exact absurd hb (by decide)
      · exact lk_10_9_1 a
      · exact absurd hb (by decide)
      · exact lk_10_9_3 a
    · rcases gv with rfl | rfl | rfl | rfl
      · exact absurd hb (by decide)
      · exact lk_10_10_1 a
      · exact absurd hb (by decide)
      · exact lk_10_10_3 a
    · exact absurd h (by decide)
    · rcases gv with rfl | rfl | rfl | rfl
      · exact absurd hb (by decide)
      · exact lk_10_12_1 a
      · exact absurd hb (by decide)
      · exact lk_10_12_3 a
    · exact absurd h (by decide)
    · exact absurd h (by decide)
    · exact absurd h (by decide)
  · rcases gC with rfl | rfl | rfl | rfl | rfl | rfl | rfl | rfl | rfl | rfl | rfl | rfl | rfl | rfl | rfl | rfl
    · exact absurd h (by decide)
    · exact absurd h (by decide)
    · exact absurd h (by decide)
    · exact absurd h (by decide)
    · exact absurd h (by decide)
    · exact absurd h (by decide)
    · exact absurd h (by decide)
    · rcases gv with rfl | rfl | rfl | rfl
      · exact lk_11_7_0 a
      · exact lk_11_7_1 a
      · exact absurd hb (by decide)
      · exact lk_11_7_3 a
    · exact absurd h (by decide)
    · exact absurd h (by decide)
    · exact absurd h (by decide)
    · rcases gv with rfl | rfl | rfl | rfl
      · exact lk_11_11_0 a
      · exact lk_11_11_1 a
      · exact absurd hb (by decide)
      · exact lk_11_11_3 a
    · exact absurd h (by decide)
    · rcases gv with rfl | rfl | rfl | rfl
      · exact lk_11_13_0 a
      · exact lk_11_13_1 a
      · exact absurd hb (by decide)
      · exact lk_11_13_3 a
    · rcases gv with rfl | rfl | rfl | rfl
      · exact lk_11_14_0 a
      · exact lk_11_14_1 a
      · exact absurd hb (by decide)
      · exact lk_11_14_3 a
    · exact absurd h (by decide)
  · rcases gC with rfl | rfl | rfl | rfl | rfl | rfl | rfl | rfl | rfl | rfl | rfl | rfl | rfl | rfl | rfl | rfl
    · exact absurd h (by decide)
    · exact absurd h (by decide)
    · exact absurd h (by decide)
    · rcases gv with rfl | rfl | rfl | rfl
      · exact absurd hb (by decide)
      · exact absurd hb (by decide)
      · exact lk_12_3_2 a
      · exact lk_12_3_3 a
    · exact absurd h (by decide)
    · rcases gv with rfl | rfl | rfl | rfl
      · exact absurd hb (by decide)
      · exact absurd hb (by decide)
      · exact lk_12_5_2 a
      · exact lk_12_5_3 a
    · rcases gv with rfl | rfl | rfl | rfl
      · exact absurd hb (by decide)
      · exact absurd hb (by decide)
      · exact lk_12_6_2 a
      · exact lk_12_6_3 a
    · exact absurd h (by decide)
    · exact absurd h (by decide)
    · rcases gv with rfl | rfl | rfl | rfl
      · exact absurd hb (by decide)
      · exact absurd hb (by decide)
      · exact lk_12_9_2 a
      · exact lk_12_9_3 a
    · rcases gv with rfl | rfl | rfl | rfl
      · exact absurd hb (by decide)
      · exact absurd hb (by decide)
      · exact lk_12_10_2 a
      · exact lk_12_10_3 a
    · exact absurd h (by decide)
    · rcases gv with rfl | rfl | rfl | rfl
      · exact absurd hb (by decide)
      · exact absurd hb (by decide)
      · exact lk_12_12_2 a
      · exact lk_12_12_3 a
    · exact absurd h (by decide)
    · exact absurd h (by decide)
    · exact absurd h (by decide)
  · rcases gC with rfl | rfl | rfl | rfl | rfl | rfl | rfl | rfl | rfl | rfl | rfl | rfl | rfl | rfl | rfl | rfl
    · exact absurd h (by decide)
    · exact absurd h (by decide)
    · exact absurd h (by decide)
    · exact absurd h (by decide)
    · exact absurd h (by decide)
    · exact absurd h (by decide)
    · exact absurd h (by decide)
    · rcases gv with rfl | rfl | rfl | rfl
      · exact lk_13_7_0 a
      · exact absurd hb (by decide)
      · exact lk_13_7_2 a
      · exact lk_13_7_3 a
    · exact absurd h (by decide)
    · exact absurd h (by decide)
    · exact absurd h (by decide)
    · rcases gv with rfl | rfl | rfl | rfl
      · exact lk_13_11_0 a
      · exact absurd hb (by decide)
      · exact lk_13_11_2 a
      · exact lk_13_11_3 a
    · exact absurd h (by decide)
    · rcases gv with rfl | rfl | rfl | rfl
      · exact lk_13_13_0 a
      · exact absurd hb (by decide)
      · exact lk_13_13_2 a
      · exact lk_13_13_3 a
    · rcases gv with rfl | rfl | rfl | rfl
      · exact lk_13_14_0 a
      · exact absurd hb (by decide)
      · exact lk_13_14_2 a
      · exact lk_13_14_3 a
    · exact absurd h (by decide)
  · rcases gC with rfl | rfl | rfl | rfl | rfl | rfl | rfl | rfl | rfl | rfl | rfl | rfl | rfl | rfl | rfl | rfl
    · exact absurd h (by decide)
    · exact absurd h (by decide)
    · exact absurd h (by decide)
    · exact absurd h (by decide)
    · exact absurd h (by decide)
    · exact absurd h (by decide)
    · exact absurd h (by decide)
    · rcases gv with rfl | rfl | rfl | rfl
      · exact absurd hb (by decide)
      · exact lk_14_7_1 a
      · exact lk_14_7_2 a
      · exact lk_14_7_3 a
    · exact absurd h (by decide)
    · exact absurd h (by decide)
    · exact absurd h (by decide)
    · rcases gv with rfl | rfl | rfl | rfl
      · exact absurd hb (by decide)
      · exact lk_14_11_1 a
      · exact lk_14_11_2 a
      · exact lk_14_11_3 a
    · exact absurd h (by decide)
    · rcases gv with rfl | rfl | rfl | rfl
      · exact absurd hb (by decide)
      · exact lk_14_13_1 a
      · exact lk_14_13_2 a
      · exact lk_14_13_3 a
    · rcases gv with rfl | rfl | rfl | rfl
      · exact absurd hb (by decide)
      · exact lk_14_14_1 a
      · exact lk_14_14_2 a
      · exact lk_14_14_3 a
    · exact absurd h (by decide)
  · rcases gC with rfl | rfl | rfl | rfl | rfl | rfl | rfl | rfl | rfl | rfl | rfl | rfl | rfl | rfl | rfl | rfl
    · exact absurd h (by decide)
    · exact absurd h (by decide)
    · exact absurd h (by decide)
    · exact absurd h (by decide)
    · exact absurd h (by decide)
    · exact absurd h (by decide)
    · exact absurd h (by decide)
    · exact absurd h (by decide)
    · exact absurd h (by decide)
    · exact absurd h (by decide)
    · exact absurd h (by decide)
    · exact absurd h (by decide)
    · exact absurd h (by decide)
    · exact absurd h (by decide)
    · exact absurd h (by decide)
    · rcases gv with rfl | rfl | rfl | rfl
      · exact lk_15_15_0 a
      · exact lk_15_15_1 a
      · exact lk_15_15_2 a
      · exact lk_15_15_3 a
