/-! a part's shares: identities -/
section IA
variable (a : Nat → Nat → Int)
theorem p_0_0 : sMi a 0 0 = 1 := q_0_0 a
theorem p_1_1 : sMi a 1 1 = (a 0 0) := q_1_1 a
theorem hr_1_1_0 : sRh a 1 1 0 = ((((0 : Int) + (sMi a 0 0)) + 0) + 0) + 0 := rfl
theorem hk_1_1_0 : sKa a 1 1 0 = ((((0 : Int) + (sMi a 0 0)) + 0) + 0) + 0 := rfl
theorem p_1_2 : sMi a 1 2 = (a 0 1) := q_1_2 a
theorem hr_1_2_0 : sRh a 1 2 0 = ((((0 : Int) + 0) + (sMi a 0 0)) + 0) + 0 := rfl
theorem hk_1_2_1 : sKa a 1 2 1 = ((((0 : Int) + (sMi a 0 0)) + 0) + 0) + 0 := rfl
theorem p_1_4 : sMi a 1 4 = (a 0 2) := q_1_4 a
theorem hr_1_4_0 : sRh a 1 4 0 = ((((0 : Int) + 0) + 0) + (sMi a 0 0)) + 0 := rfl
theorem hk_1_4_2 : sKa a 1 4 2 = ((((0 : Int) + (sMi a 0 0)) + 0) + 0) + 0 := rfl
theorem p_1_8 : sMi a 1 8 = (a 0 3) := q_1_8 a
theorem hr_1_8_0 : sRh a 1 8 0 = ((((0 : Int) + 0) + 0) + 0) + (sMi a 0 0) := rfl
theorem hk_1_8_3 : sKa a 1 8 3 = ((((0 : Int) + (sMi a 0 0)) + 0) + 0) + 0 := rfl
theorem p_2_1 : sMi a 2 1 = (a 1 0) := q_2_1 a
theorem hr_2_1_1 : sRh a 2 1 1 = ((((0 : Int) + (sMi a 0 0)) + 0) + 0) + 0 := rfl
theorem hk_2_1_0 : sKa a 2 1 0 = ((((0 : Int) + 0) + (sMi a 0 0)) + 0) + 0 := rfl
theorem p_2_2 : sMi a 2 2 = (a 1 1) := q_2_2 a
theorem hr_2_2_1 : sRh a 2 2 1 = ((((0 : Int) + 0) + (sMi a 0 0)) + 0) + 0 := rfl
theorem hk_2_2_1 : sKa a 2 2 1 = ((((0 : Int) + 0) + (sMi a 0 0)) + 0) + 0 := rfl
theorem p_2_4 : sMi a 2 4 = (a 1 2) := q_2_4 a
theorem hr_2_4_1 : sRh a 2 4 1 = ((((0 : Int) + 0) + 0) + (sMi a 0 0)) + 0 := rfl
theorem hk_2_4_2 : sKa a 2 4 2 = ((((0 : Int) + 0) + (sMi a 0 0)) + 0) + 0 := rfl
theorem p_2_8 : sMi a 2 8 = (a 1 3) := q_2_8 a
theorem hr_2_8_1 : sRh a 2 8 1 = ((((0 : Int) + 0) + 0) + 0) + (sMi a 0 0) := rfl
theorem hk_2_8_3 : sKa a 2 8 3 = ((((0 : Int) + 0) + (sMi a 0 0)) + 0) + 0 := rfl
theorem p_3_3 : sMi a 3 3 = d2 (a 0 0) (a 0 1) (a 1 0) (a 1 1) := q_3_3 a
theorem hr_3_3_0 : sRh a 3 3 0 = ((((0 : Int) + (sMi a 2 2)) + (-sMi a 2 1)) + 0) + 0 := rfl
theorem hr_3_3_1 : sRh a 3 3 1 = ((((0 : Int) + (-sMi a 1 2)) + (sMi a 1 1)) + 0) + 0 := rfl
theorem hk_3_3_0 : sKa a 3 3 0 = ((((0 : Int) + (sMi a 2 2)) + (-sMi a 1 2)) + 0) + 0 := rfl
theorem hk_3_3_1 : sKa a 3 3 1 = ((((0 : Int) + (-sMi a 2 1)) + (sMi a 1 1)) + 0) + 0 := rfl
theorem p_3_5 : sMi a 3 5 = d2 (a 0 0) (a 0 2) (a 1 0) (a 1 2) := q_3_5 a
theorem hr_3_5_0 : sRh a 3 5 0 = ((((0 : Int) + (sMi a 2 4)) + 0) + (-sMi a 2 1)) + 0 := rfl
theorem hr_3_5_1 : sRh a 3 5 1 = ((((0 : Int) + (-sMi a 1 4)) + 0) + (sMi a 1 1)) + 0 := rfl
theorem hk_3_5_0 : sKa a 3 5 0 = ((((0 : Int) + (sMi a 2 4)) + (-sMi a 1 4)) + 0) + 0 := rfl
theorem hk_3_5_2 : sKa a 3 5 2 = ((((0 : Int) + (-sMi a 2 1)) + (sMi a 1 1)) + 0) + 0 := rfl
theorem p_3_6 : sMi a 3 6 = d2 (a 0 1) (a 0 2) (a 1 1) (a 1 2) := q_3_6 a
theorem hr_3_6_0 : sRh a 3 6 0 = ((((0 : Int) + 0) + (sMi a 2 4)) + (-sMi a 2 2)) + 0 := rfl
theorem hr_3_6_1 : sRh a 3 6 1 = ((((0 : Int) + 0) + (-sMi a 1 4)) + (sMi a 1 2)) + 0 := rfl
theorem hk_3_6_1 : sKa a 3 6 1 = ((((0 : Int) + (sMi a 2 4)) + (-sMi a 1 4)) + 0) + 0 := rfl
theorem hk_3_6_2 : sKa a 3 6 2 = ((((0 : Int) + (-sMi a 2 2)) + (sMi a 1 2)) + 0) + 0 := rfl
theorem p_3_9 : sMi a 3 9 = d2 (a 0 0) (a 0 3) (a 1 0) (a 1 3) := q_3_9 a
theorem hr_3_9_0 : sRh a 3 9 0 = ((((0 : Int) + (sMi a 2 8)) + 0) + 0) + (-sMi a 2 1) := rfl
theorem hr_3_9_1 : sRh a 3 9 1 = ((((0 : Int) + (-sMi a 1 8)) + 0) + 0) + (sMi a 1 1) := rfl
theorem hk_3_9_0 : sKa a 3 9 0 = ((((0 : Int) + (sMi a 2 8)) + (-sMi a 1 8)) + 0) + 0 := rfl
theorem hk_3_9_3 : sKa a 3 9 3 = ((((0 : Int) + (-sMi a 2 1)) + (sMi a 1 1)) + 0) + 0 := rfl
theorem p_3_10 : sMi a 3 10 = d2 (a 0 1) (a 0 3) (a 1 1) (a 1 3) := q_3_10 a
theorem hr_3_10_0 : sRh a 3 10 0 = ((((0 : Int) + 0) + (sMi a 2 8)) + 0) + (-sMi a 2 2) := rfl
theorem hr_3_10_1 : sRh a 3 10 1 = ((((0 : Int) + 0) + (-sMi a 1 8)) + 0) + (sMi a 1 2) := rfl
theorem hk_3_10_1 : sKa a 3 10 1 = ((((0 : Int) + (sMi a 2 8)) + (-sMi a 1 8)) + 0) + 0 := rfl
theorem hk_3_10_3 : sKa a 3 10 3 = ((((0 : Int) + (-sMi a 2 2)) + (sMi a 1 2)) + 0) + 0 := rfl
theorem p_3_12 : sMi a 3 12 = d2 (a 0 2) (a 0 3) (a 1 2) (a 1 3) := q_3_12 a
theorem hr_3_12_0 : sRh a 3 12 0 = ((((0 : Int) + 0) + 0) + (sMi a 2 8)) + (-sMi a 2 4) := rfl
theorem hr_3_12_1 : sRh a 3 12 1 = ((((0 : Int) + 0) + 0) + (-sMi a 1 8)) + (sMi a 1 4) := rfl
theorem hk_3_12_2 : sKa a 3 12 2 = ((((0 : Int) + (sMi a 2 8)) + (-sMi a 1 8)) + 0) + 0 := rfl
theorem hk_3_12_3 : sKa a 3 12 3 = ((((0 : Int) + (-sMi a 2 4)) + (sMi a 1 4)) + 0) + 0 := rfl
theorem p_4_1 : sMi a 4 1 = (a 2 0) := q_4_1 a
theorem hr_4_1_2 : sRh a 4 1 2 = ((((0 : Int) + (sMi a 0 0)) + 0) + 0) + 0 := rfl
theorem hk_4_1_0 : sKa a 4 1 0 = ((((0 : Int) + 0) + 0) + (sMi a 0 0)) + 0 := rfl
theorem p_4_2 : sMi a 4 2 = (a 2 1) := q_4_2 a
theorem hr_4_2_2 : sRh a 4 2 2 = ((((0 : Int) + 0) + (sMi a 0 0)) + 0) + 0 := rfl
theorem hk_4_2_1 : sKa a 4 2 1 = ((((0 : Int) + 0) + 0) + (sMi a 0 0)) + 0 := rfl
theorem p_4_4 : sMi a 4 4 = (a 2 2) := q_4_4 a
theorem hr_4_4_2 : sRh a 4 4 2 = ((((0 : Int) + 0) + 0) + (sMi a 0 0)) + 0 := rfl
theorem hk_4_4_2 : sKa a 4 4 2 = ((((0 : Int) + 0) + 0) + (sMi a 0 0)) + 0 := rfl
theorem p_4_8 : sMi a 4 8 = (a 2 3) := q_4_8 a
theorem hr_4_8_2 : sRh a 4 8 2 = ((((0 : Int) + 0) + 0) + 0) + (sMi a 0 0) := rfl
theorem hk_4_8_3 : sKa a 4 8 3 = ((((0 : Int) + 0) + 0) + (sMi a 0 0)) + 0 := rfl
theorem p_5_3 : sMi a 5 3 = d2 (a 0 0) (a 0 1) (a 2 0) (a 2 1) := q_5_3 a
theorem hr_5_3_0 : sRh a 5 3 0 = ((((0 : Int) + (sMi a 4 2)) + (-sMi a 4 1)) + 0) + 0 := rfl
theorem hr_5_3_2 : sRh a 5 3 2 = ((((0 : Int) + (-sMi a 1 2)) + (sMi a 1 1)) + 0) + 0 := rfl
theorem hk_5_3_0 : sKa a 5 3 0 = ((((0 : Int) + (sMi a 4 2)) + 0) + (-sMi a 1 2)) + 0 := rfl
theorem hk_5_3_1 : sKa a 5 3 1 = ((((0 : Int) + (-sMi a 4 1)) + 0) + (sMi a 1 1)) + 0 := rfl
theorem p_5_5 : sMi a 5 5 = d2 (a 0 0) (a 0 2) (a 2 0) (a 2 2) := q_5_5 a
theorem hr_5_5_0 : sRh a 5 5 0 = ((((0 : Int) + (sMi a 4 4)) + 0) + (-sMi a 4 1)) + 0 := rfl
theorem hr_5_5_2 : sRh a 5 5 2 = ((((0 : Int) + (-sMi a 1 4)) + 0) + (sMi a 1 1)) + 0 := rfl
theorem hk_5_5_0 : sKa a 5 5 0 = ((((0 : Int) + (sMi a 4 4)) + 0) + (-sMi a 1 4)) + 0 := rfl
theorem hk_5_5_2 : sKa a 5 5 2 = ((((0 : Int) + (-sMi a 4 1)) + 0) + (sMi a 1 1)) + 0 := rfl
theorem p_5_6 : sMi a 5 6 = d2 (a 0 1) (a 0 2) (a 2 1) (a 2 2) := q_5_6 a
theorem hr_5_6_0 : sRh a 5 6 0 = ((((0 : Int) + 0) + (sMi a 4 4)) + (-sMi a 4 2)) + 0 := rfl
theorem hr_5_6_2 : sRh a 5 6 2 = ((((0 : Int) + 0) + (-sMi a 1 4)) + (sMi a 1 2)) + 0 := rfl
theorem hk_5_6_1 : sKa a 5 6 1 = ((((0 : Int) + (sMi a 4 4)) + 0) + (-sMi a 1 4)) + 0 := rfl
theorem hk_5_6_2 : sKa a 5 6 2 = ((((0 : Int) + (-sMi a 4 2)) + 0) + (sMi a 1 2)) + 0 := rfl
theorem p_5_9 : sMi a 5 9 = d2 (a 0 0) (a 0 3) (a 2 0) (a 2 3) := q_5_9 a
theorem hr_5_9_0 : sRh a 5 9 0 = ((((0 : Int) + (sMi a 4 8)) + 0) + 0) + (-sMi a 4 1) := rfl
theorem hr_5_9_2 : sRh a 5 9 2 = ((((0 : Int) + (-sMi a 1 8)) + 0) + 0) + (sMi a 1 1) := rfl
theorem hk_5_9_0 : sKa a 5 9 0 = ((((0 : Int) + (sMi a 4 8)) + 0) + (-sMi a 1 8)) + 0 := rfl
theorem hk_5_9_3 : sKa a 5 9 3 = ((((0 : Int) + (-sMi a 4 1)) + 0) + (sMi a 1 1)) + 0 := rfl
theorem p_5_10 : sMi a 5 10 = d2 (a 0 1) (a 0 3) (a 2 1) (a 2 3) := q_5_10 a
theorem hr_5_10_0 : sRh a 5 10 0 = ((((0 : Int) + 0) + (sMi a 4 8)) + 0) + (-sMi a 4 2) := rfl
theorem hr_5_10_2 : sRh a 5 10 2 = ((((0 : Int) + 0) + (-sMi a 1 8)) + 0) + (sMi a 1 2) := rfl
theorem hk_5_10_1 : sKa a 5 10 1 = ((((0 : Int) + (sMi a 4 8)) + 0) + (-sMi a 1 8)) + 0 := rfl
theorem hk_5_10_3 : sKa a 5 10 3 = ((((0 : Int) + (-sMi a 4 2)) + 0) + (sMi a 1 2)) + 0 := rfl
theorem p_5_12 : sMi a 5 12 = d2 (a 0 2) (a 0 3) (a 2 2) (a 2 3) := q_5_12 a
theorem hr_5_12_0 : sRh a 5 12 0 = ((((0 : Int) + 0) + 0) + (sMi a 4 8)) + (-sMi a 4 4) := rfl
theorem hr_5_12_2 : sRh a 5 12 2 = ((((0 : Int) + 0) + 0) + (-sMi a 1 8)) + (sMi a 1 4) := rfl
theorem hk_5_12_2 : sKa a 5 12 2 = ((((0 : Int) + (sMi a 4 8)) + 0) + (-sMi a 1 8)) + 0 := rfl
theorem hk_5_12_3 : sKa a 5 12 3 = ((((0 : Int) + (-sMi a 4 4)) + 0) + (sMi a 1 4)) + 0 := rfl
theorem p_6_3 : sMi a 6 3 = d2 (a 1 0) (a 1 1) (a 2 0) (a 2 1) := q_6_3 a
theorem hr_6_3_1 : sRh a 6 3 1 = ((((0 : Int) + (sMi a 4 2)) + (-sMi a 4 1)) + 0) + 0 := rfl
theorem hr_6_3_2 : sRh a 6 3 2 = ((((0 : Int) + (-sMi a 2 2)) + (sMi a 2 1)) + 0) + 0 := rfl
theorem hk_6_3_0 : sKa a 6 3 0 = ((((0 : Int) + 0) + (sMi a 4 2)) + (-sMi a 2 2)) + 0 := rfl
theorem hk_6_3_1 : sKa a 6 3 1 = ((((0 : Int) + 0) + (-sMi a 4 1)) + (sMi a 2 1)) + 0 := rfl
theorem p_6_5 : sMi a 6 5 = d2 (a 1 0) (a 1 2) (a 2 0) (a 2 2) := q_6_5 a
theorem hr_6_5_1 : sRh a 6 5 1 = ((((0 : Int) + (sMi a 4 4)) + 0) + (-sMi a 4 1)) + 0 := rfl
theorem hr_6_5_2 : sRh a 6 5 2 = ((((0 : Int) + (-sMi a 2 4)) + 0) + (sMi a 2 1)) + 0 := rfl
theorem hk_6_5_0 : sKa a 6 5 0 = ((((0 : Int) + 0) + (sMi a 4 4)) + (-sMi a 2 4)) + 0 := rfl
theorem hk_6_5_2 : sKa a 6 5 2 = ((((0 : Int) + 0) + (-sMi a 4 1)) + (sMi a 2 1)) + 0 := rfl
theorem p_6_6 : sMi a 6 6 = d2 (a 1 1) (a 1 2) (a 2 1) (a 2 2) := q_6_6 a
theorem hr_6_6_1 : sRh a 6 6 1 = ((((0 : Int) + 0) + (sMi a 4 4)) + (-sMi a 4 2)) + 0 := rfl
theorem hr_6_6_2 : sRh a 6 6 2 = ((((0 : Int) + 0) + (-sMi a 2 4)) + (sMi a 2 2)) + 0 := rfl
theorem hk_6_6_1 : sKa a 6 6 1 = ((((0 : Int) + 0) + (sMi a 4 4)) + (-sMi a 2 4)) + 0 := rfl
theorem hk_6_6_2 : sKa a 6 6 2 = ((((0 : Int) + 0) + (-sMi a 4 2)) + (sMi a 2 2)) + 0 := rfl
theorem p_6_9 : sMi a 6 9 = d2 (a 1 0) (a 1 3) (a 2 0) (a 2 3) := q_6_9 a
theorem hr_6_9_1 : sRh a 6 9 1 = ((((0 : Int) + (sMi a 4 8)) + 0) + 0) + (-sMi a 4 1) := rfl
theorem hr_6_9_2 : sRh a 6 9 2 = ((((0 : Int) + (-sMi a 2 8)) + 0) + 0) + (sMi a 2 1) := rfl
theorem hk_6_9_0 : sKa a 6 9 0 = ((((0 : Int) + 0) + (sMi a 4 8)) + (-sMi a 2 8)) + 0 := rfl
theorem hk_6_9_3 : sKa a 6 9 3 = ((((0 : Int) + 0) + (-sMi a 4 1)) + (sMi a 2 1)) + 0 := rfl
theorem p_6_10 : sMi a 6 10 = d2 (a 1 1) (a 1 3) (a 2 1) (a 2 3) := q_6_10 a
theorem hr_6_10_1 : sRh a 6 10 1 = ((((0 : Int) + 0) + (sMi a 4 8)) + 0) + (-sMi a 4 2) := rfl
theorem hr_6_10_2 : sRh a 6 10 2 = ((((0 : Int) + 0) + (-sMi a 2 8)) + 0) + (sMi a 2 2) := rfl
theorem hk_6_10_1 : sKa a 6 10 1 = ((((0 : Int) + 0) + (sMi a 4 8)) + (-sMi a 2 8)) + 0 := rfl
theorem hk_6_10_3 : sKa a 6 10 3 = ((((0 : Int) + 0) + (-sMi a 4 2)) + (sMi a 2 2)) + 0 := rfl
theorem p_6_12 : sMi a 6 12 = d2 (a 1 2) (a 1 3) (a 2 2) (a 2 3) := q_6_12 a
theorem hr_6_12_1 : sRh a 6 12 1 = ((((0 : Int) + 0) + 0) + (sMi a 4 8)) + (-sMi a 4 4) := rfl
theorem hr_6_12_2 : sRh a 6 12 2 = ((((0 : Int) + 0) + 0) + (-sMi a 2 8)) + (sMi a 2 4) := rfl
theorem hk_6_12_2 : sKa a 6 12 2 = ((((0 : Int) + 0) + (sMi a 4 8)) + (-sMi a 2 8)) + 0 := rfl
theorem hk_6_12_3 : sKa a 6 12 3 = ((((0 : Int) + 0) + (-sMi a 4 4)) + (sMi a 2 4)) + 0 := rfl
theorem p_7_7 : sMi a 7 7 = d3 (a 0 0) (a 0 1) (a 0 2) (a 1 0) (a 1 1) (a 1 2) (a 2 0) (a 2 1) (a 2 2) := q_7_7 a
theorem hr_7_7_0 : sRh a 7 7 0 = ((((0 : Int) + (sMi a 6 6)) + (-sMi a 6 5)) + (sMi a 6 3)) + 0 := rfl
theorem hr_7_7_1 : sRh a 7 7 1 = ((((0 : Int) + (-sMi a 5 6)) + (sMi a 5 5)) + (-sMi a 5 3)) + 0 := rfl
theorem hr_7_7_2 : sRh a 7 7 2 = ((((0 : Int) + (sMi a 3 6)) + (-sMi a 3 5)) + (sMi a 3 3)) + 0 := rfl
theorem hk_7_7_0 : sKa a 7 7 0 = ((((0 : Int) + (sMi a 6 6)) + (-sMi a 5 6)) + (sMi a 3 6)) + 0 := rfl
theorem hk_7_7_1 : sKa a 7 7 1 = ((((0 : Int) + (-sMi a 6 5)) + (sMi a 5 5)) + (-sMi a 3 5)) + 0 := rfl
theorem hk_7_7_2 : sKa a 7 7 2 = ((((0 : Int) + (sMi a 6 3)) + (-sMi a 5 3)) + (sMi a 3 3)) + 0 := rfl
theorem p_7_11 : sMi a 7 11 = d3 (a 0 0) (a 0 1) (a 0 3) (a 1 0) (a 1 1) (a 1 3) (a 2 0) (a 2 1) (a 2 3) := q_7_11 a
theorem hr_7_11_0 : sRh a 7 11 0 = ((((0 : Int) + (sMi a 6 10)) + (-sMi a 6 9)) + 0) + (sMi a 6 3) := rfl
theorem hr_7_11_1 : sRh a 7 11 1 = ((((0 : Int) + (-sMi a 5 10)) + (sMi a 5 9)) + 0) + (-sMi a 5 3) := rfl
theorem hr_7_11_2 : sRh a 7 11 2 = ((((0 : Int) + (sMi a 3 10)) + (-sMi a 3 9)) + 0) + (sMi a 3 3) := rfl
theorem hk_7_11_0 : sKa a 7 11 0 = ((((0 : Int) + (sMi a 6 10)) + (-sMi a 5 10)) + (sMi a 3 10)) + 0 := rfl
theorem hk_7_11_1 : sKa a 7 11 1 = ((((0 : Int) + (-sMi a 6 9)) + (sMi a 5 9)) + (-sMi a 3 9)) + 0 := rfl
theorem hk_7_11_3 : sKa a 7 11 3 = ((((0 : Int) + (sMi a 6 3)) + (-sMi a 5 3)) + (sMi a 3 3)) + 0 := rfl
theorem p_7_13 : sMi a 7 13 = d3 (a 0 0) (a 0 2) (a 0 3) (a 1 0) (a 1 2) (a 1 3) (a 2 0) (a 2 2) (a 2 3) := q_7_13 a
theorem hr_7_13_0 : sRh a 7 13 0 = ((((0 : Int) + (sMi a 6 12)) + 0) + (-sMi a 6 9)) + (sMi a 6 5) := rfl
theorem hr_7_13_1 : sRh a 7 13 1 = ((((0 : Int) + (-sMi a 5 12)) + 0) + (sMi a 5 9)) + (-sMi a 5 5) := rfl
theorem hr_7_13_2 : sRh a 7 13 2 = ((((0 : Int) + (sMi a 3 12)) + 0) + (-sMi a 3 9)) + (sMi a 3 5) := rfl
theorem hk_7_13_0 : sKa a 7 13 0 = ((((0 : Int) + (sMi a 6 12)) + (-sMi a 5 12)) + (sMi a 3 12)) + 0 := rfl
theorem hk_7_13_2 : sKa a 7 13 2 = ((((0 : Int) + (-sMi a 6 9)) + (sMi a 5 9)) + (-sMi a 3 9)) + 0 := rfl
theorem hk_7_13_3 : sKa a 7 13 3 = ((((0 : Int) + (sMi a 6 5)) + (-sMi a 5 5)) + (sMi a 3 5)) + 0 := rfl
theorem p_7_14 : sMi a 7 14 = d3 (a 0 1) (a 0 2) (a 0 3) (a 1 1) (a 1 2) (a 1 3) (a 2 1) (a 2 2) (a 2 3) := q_7_14 a
theorem hr_7_14_0 : sRh a 7 14 0 = ((((0 : Int) + 0) + (sMi a 6 12)) + (-sMi a 6 10)) + (sMi a 6 6) := rfl
theorem hr_7_14_1 : sRh a 7 14 1 = ((((0 : Int) + 0) + (-sMi a 5 12)) + (sMi a 5 10)) + (-sMi a 5 6) := rfl
theorem hr_7_14_2 : sRh a 7 14 2 = ((((0 : Int) + 0) + (sMi a 3 12)) + (-sMi a 3 10)) + (sMi a 3 6) := rfl
theorem hk_7_14_1 : sKa a 7 14 1 = ((((0 : Int) + (sMi a 6 12)) + (-sMi a 5 12)) + (sMi a 3 12)) + 0 := rfl
theorem hk_7_14_2 : sKa a 7 14 2 = ((((0 : Int) + (-sMi a 6 10)) + (sMi a 5 10)) + (-sMi a 3 10)) + 0 := rfl
theorem hk_7_14_3 : sKa a 7 14 3 = ((((0 : Int) + (sMi a 6 6)) + (-sMi a 5 6)) + (sMi a 3 6)) + 0 := rfl
theorem p_8_1 : sMi a 8 1 = (a 3 0) := q_8_1 a
theorem hr_8_1_3 : sRh a 8 1 3 = ((((0 : Int) + (sMi a 0 0)) + 0) + 0) + 0 := rfl
theorem hk_8_1_0 : sKa a 8 1 0 = ((((0 : Int) + 0) + 0) + 0) + (sMi a 0 0) := rfl
theorem p_8_2 : sMi a 8 2 = (a 3 1) := q_8_2 a
theorem hr_8_2_3 : sRh a 8 2 3 = ((((0 : Int) + 0) + (sMi a 0 0)) + 0) + 0 := rfl
theorem hk_8_2_1 : sKa a 8 2 1 = ((((0 : Int) + 0) + 0) + 0) + (sMi a 0 0) := rfl
theorem p_8_4 : sMi a 8 4 = (a 3 2) := q_8_4 a
theorem hr_8_4_3 : sRh a 8 4 3 = ((((0 : Int) + 0) + 0) + (sMi a 0 0)) + 0 := rfl
theorem hk_8_4_2 : sKa a 8 4 2 = ((((0 : Int) + 0) + 0) + 0) + (sMi a 0 0) := rfl
theorem p_8_8 : sMi a 8 8 = (a 3 3) := q_8_8 a
theorem hr_8_8_3 : sRh a 8 8 3 = ((((0 : Int) + 0) + 0) + 0) + (sMi a 0 0) := rfl
theorem hk_8_8_3 : sKa a 8 8 3 = ((((0 : Int) + 0) + 0) + 0) + (sMi a 0 0) := rfl
theorem p_9_3 : sMi a 9 3 = d2 (a 0 0) (a 0 1) (a 3 0) (a 3 1) := q_9_3 a
theorem hr_9_3_0 : sRh a 9 3 0 = ((((0 : Int) + (sMi a 8 2)) + (-sMi a 8 1)) + 0) + 0 := rfl
theorem hr_9_3_3 : sRh a 9 3 3 = ((((0 : Int) + (-sMi a 1 2)) + (sMi a 1 1)) + 0) + 0 := rfl
theorem hk_9_3_0 : sKa a 9 3 0 = ((((0 : Int) + (sMi a 8 2)) + 0) + 0) + (-sMi a 1 2) := rfl
theorem hk_9_3_1 : sKa a 9 3 1 = ((((0 : Int) + (-sMi a 8 1)) + 0) + 0) + (sMi a 1 1) := rfl
theorem p_9_5 : sMi a 9 5 = d2 (a 0 0) (a 0 2) (a 3 0) (a 3 2) := q_9_5 a
theorem hr_9_5_0 : sRh a 9 5 0 = ((((0 : Int) + (sMi a 8 4)) + 0) + (-sMi a 8 1)) + 0 := rfl
theorem hr_9_5_3 : sRh a 9 5 3 = ((((0 : Int) + (-sMi a 1 4)) + 0) + (sMi a 1 1)) + 0 := rfl
theorem hk_9_5_0 : sKa a 9 5 0 = ((((0 : Int) + (sMi a 8 4)) + 0) + 0) + (-sMi a 1 4) := rfl
theorem hk_9_5_2 : sKa a 9 5 2 = ((((0 : Int) + (-sMi a 8 1)) + 0) + 0) + (sMi a 1 1) := rfl
theorem p_9_6 : sMi a 9 6 = d2 (a 0 1) (a 0 2) (a 3 1) (a 3 2) := q_9_6 a
theorem hr_9_6_0 : sRh a 9 6 0 = ((((0 : Int) + 0) + (sMi a 8 4)) + (-sMi a 8 2)) + 0 := rfl
theorem hr_9_6_3 : sRh a 9 6 3 = ((((0 : Int) + 0) + (-sMi a 1 4)) + (sMi a 1 2)) + 0 := rfl
theorem hk_9_6_1 : sKa a 9 6 1 = ((((0 : Int) + (sMi a 8 4)) + 0) + 0) + (-sMi a 1 4) := rfl
theorem hk_9_6_2 : sKa a 9 6 2 = ((((0 : Int) + (-sMi a 8 2)) + 0) + 0) + (sMi a 1 2) := rfl
theorem p_9_9 : sMi a 9 9 = d2 (a 0 0) (a 0 3) (a 3 0) (a 3 3) := q_9_9 a
theorem hr_9_9_0 : sRh a 9 9 0 = ((((0 : Int) + (sMi a 8 8)) + 0) + 0) + (-sMi a 8 1) := rfl
theorem hr_9_9_3 : sRh a 9 9 3 = ((((0 : Int) + (-sMi a 1 8)) + 0) + 0) + (sMi a 1 1) := rfl
theorem hk_9_9_0 : sKa a 9 9 0 = ((((0 : Int) + (sMi a 8 8)) + 0) + 0) + (-sMi a 1 8) := rfl
theorem hk_9_9_3 : sKa a 9 9 3 = ((((0 : Int) + (-sMi a 8 1)) + 0) + 0) + (sMi a 1 1) := rfl
theorem p_9_10 : sMi a 9 10 = d2 (a 0 1) (a 0 3) (a 3 1) (a 3 3) := q_9_10 a
theorem hr_9_10_0 : sRh a 9 10 0 = ((((0 : Int) + 0) + (sMi a 8 8)) + 0) + (-sMi a 8 2) := rfl
theorem hr_9_10_3 : sRh a 9 10 3 = ((((0 : Int) + 0) + (-sMi a 1 8)) + 0) + (sMi a 1 2) := rfl
theorem hk_9_10_1 : sKa a 9 10 1 = ((((0 : Int) + (sMi a 8 8)) + 0) + 0) + (-sMi a 1 8) := rfl
theorem hk_9_10_3 : sKa a 9 10 3 = ((((0 : Int) + (-sMi a 8 2)) + 0) + 0) + (sMi a 1 2) := rfl
theorem p_9_12 : sMi a 9 12 = d2 (a 0 2) (a 0 3) (a 3 2) (a 3 3) := q_9_12 a
theorem hr_9_12_0 : sRh a 9 12 0 = ((((0 : Int) + 0) + 0) + (sMi a 8 8)) + (-sMi a 8 4) := rfl
theorem hr_9_12_3 : sRh a 9 12 3 = ((((0 : Int) + 0) + 0) + (-sMi a 1 8)) + (sMi a 1 4) := rfl
theorem hk_9_12_2 : sKa a 9 12 2 = ((((0 : Int) + (sMi a 8 8)) + 0) + 0) + (-sMi a 1 8) := rfl
theorem hk_9_12_3 : sKa a 9 12 3 = ((((0 : Int) + (-sMi a 8 4)) + 0) + 0) + (sMi a 1 4) := rfl
theorem p_10_3 : sMi a 10 3 = d2 (a 1 0) (a 1 1) (a 3 0) (a 3 1) := q_10_3 a
theorem hr_10_3_1 : sRh a 10 3 1 = ((((0 : Int) + (sMi a 8 2)) + (-sMi a 8 1)) + 0) + 0 := rfl
theorem hr_10_3_3 : sRh a 10 3 3 = ((((0 : Int) + (-sMi a 2 2)) + (sMi a 2 1)) + 0) + 0 := rfl
theorem hk_10_3_0 : sKa a 10 3 0 = ((((0 : Int) + 0) + (sMi a 8 2)) + 0) + (-sMi a 2 2) := rfl
theorem hk_10_3_1 : sKa a 10 3 1 = ((((0 : Int) + 0) + (-sMi a 8 1)) + 0) + (sMi a 2 1) := rfl
theorem p_10_5 : sMi a 10 5 = d2 (a 1 0) (a 1 2) (a 3 0) (a 3 2) := q_10_5 a
theorem hr_10_5_1 : sRh a 10 5 1 = ((((0 : Int) + (sMi a 8 4)) + 0) + (-sMi a 8 1)) + 0 := rfl
theorem hr_10_5_3 : sRh a 10 5 3 = ((((0 : Int) + (-sMi a 2 4)) + 0) + (sMi a 2 1)) + 0 := rfl
theorem hk_10_5_0 : sKa a 10 5 0 = ((((0 : Int) + 0) + (sMi a 8 4)) + 0) + (-sMi a 2 4) := rfl
theorem hk_10_5_2 : sKa a 10 5 2 = ((((0 : Int) + 0) + (-sMi a 8 1)) + 0) + (sMi a 2 1) := rfl
theorem p_10_6 : sMi a 10 6 = d2 (a 1 1) (a 1 2) (a 3 1) (a 3 2) := q_10_6 a
theorem hr_10_6_1 : sRh a 10 6 1 = ((((0 : Int) + 0) + (sMi a 8 4)) + (-sMi a 8 2)) + 0 := rfl
theorem hr_10_6_3 : sRh a 10 6 3 = ((((0 : Int) + 0) + (-sMi a 2 4)) + (sMi a 2 2)) + 0 := rfl
theorem hk_10_6_1 : sKa a 10 6 1 = ((((0 : Int) + 0) + (sMi a 8 4)) + 0) + (-sMi a 2 4) := rfl
theorem hk_10_6_2 : sKa a 10 6 2 = ((((0 : Int) + 0) + (-sMi a 8 2)) + 0) + (sMi a 2 2) := rfl
theorem p_10_9 : sMi a 10 9 = d2 (a 1 0) (a 1 3) (a 3 0) (a 3 3) := q_10_9 a
theorem hr_10_9_1 : sRh a 10 9 1 = ((((0 : Int) + (sMi a 8 8)) + 0) + 0) + (-sMi a 8 1) := rfl
theorem hr_10_9_3 : sRh a 10 9 3 = ((((0 : Int) + (-sMi a 2 8)) + 0) + 0) + (sMi a 2 1) := rfl
theorem hk_10_9_0 : sKa a 10 9 0 = ((((0 : Int) + 0) + (sMi a 8 8)) + 0) + (-sMi a 2 8) := rfl
theorem hk_10_9_3 : sKa a 10 9 3 = ((((0 : Int) + 0) + (-sMi a 8 1)) + 0) + (sMi a 2 1) := rfl
theorem p_10_10 : sMi a 10 10 = d2 (a 1 1) (a 1 3) (a 3 1) (a 3 3) := q_10_10 a
theorem hr_10_10_1 : sRh a 10 10 1 = ((((0 : Int) + 0) + (sMi a 8 8)) + 0) + (-sMi a 8 2) := rfl
theorem hr_10_10_3 : sRh a 10 10 3 = ((((0 : Int) + 0) + (-sMi a 2 8)) + 0) + (sMi a 2 2) := rfl
theorem hk_10_10_1 : sKa a 10 10 1 = ((((0 : Int) + 0) + (sMi a 8 8)) + 0) + (-sMi a 2 8) := rfl
theorem hk_10_10_3 : sKa a 10 10 3 = ((((0 : Int) + 0) + (-sMi a 8 2)) + 0) + (sMi a 2 2) := rfl
theorem p_10_12 : sMi a 10 12 = d2 (a 1 2) (a 1 3) (a 3 2) (a 3 3) := q_10_12 a
theorem hr_10_12_1 : sRh a 10 12 1 = ((((0 : Int) + 0) + 0) + (sMi a 8 8)) + (-sMi a 8 4) := rfl
theorem hr_10_12_3 : sRh a 10 12 3 = ((((0 : Int) + 0) + 0) + (-sMi a 2 8)) + (sMi a 2 4) := rfl
theorem hk_10_12_2 : sKa a 10 12 2 = ((((0 : Int) + 0) + (sMi a 8 8)) + 0) + (-sMi a 2 8) := rfl
theorem hk_10_12_3 : sKa a 10 12 3 = ((((0 : Int) + 0) + (-sMi a 8 4)) + 0) + (sMi a 2 4) := rfl
theorem p_11_7 : sMi a 11 7 = d3 (a 0 0) (a 0 1) (a 0 2) (a 1 0) (a 1 1) (a 1 2) (a 3 0) (a 3 1) (a 3 2) := q_11_7 a
theorem hr_11_7_0 : sRh a 11 7 0 = ((((0 : Int) + (sMi a 10 6)) + (-sMi a 10 5)) + (sMi a 10 3)) + 0 := rfl
theorem hr_11_7_1 : sRh a 11 7 1 = ((((0 : Int) + (-sMi a 9 6)) + (sMi a 9 5)) + (-sMi a 9 3)) + 0 := rfl
theorem hr_11_7_3 : sRh a 11 7 3 = ((((0 : Int) + (sMi a 3 6)) + (-sMi a 3 5)) + (sMi a 3 3)) + 0 := rfl
theorem hk_11_7_0 : sKa a 11 7 0 = ((((0 : Int) + (sMi a 10 6)) + (-sMi a 9 6)) + 0) + (sMi a 3 6) := rfl
theorem hk_11_7_1 : sKa a 11 7 1 = ((((0 : Int) + (-sMi a 10 5)) + (sMi a 9 5)) + 0) + (-sMi a 3 5) := rfl
theorem hk_11_7_2 : sKa a 11 7 2 = ((((0 : Int) + (sMi a 10 3)) + (-sMi a 9 3)) + 0) + (sMi a 3 3) := rfl
theorem p_11_11 : sMi a 11 11 = d3 (a 0 0) (a 0 1) (a 0 3) (a 1 0) (a 1 1) (a 1 3) (a 3 0) (a 3 1) (a 3 3) := q_11_11 a
theorem hr_11_11_0 : sRh a 11 11 0 = ((((0 : Int) + (sMi a 10 10)) + (-sMi a 10 9)) + 0) + (sMi a 10 3) := rfl
theorem hr_11_11_1 : sRh a 11 11 1 = ((((0 : Int) + (-sMi a 9 10)) + (sMi a 9 9)) + 0) + (-sMi a 9 3) := rfl
theorem hr_11_11_3 : sRh a 11 11 3 = ((((0 : Int) + (sMi a 3 10)) + (-sMi a 3 9)) + 0) + (sMi a 3 3) := rfl
theorem hk_11_11_0 : sKa a 11 11 0 = ((((0 : Int) + (sMi a 10 10)) + (-sMi a 9 10)) + 0) + (sMi a 3 10) := rfl
theorem hk_11_11_1 : sKa a 11 11 1 = ((((0 : Int) + (-sMi a 10 9)) + (sMi a 9 9)) + 0) + (-sMi a 3 9) := rfl
theorem hk_11_11_3 : sKa a 11 11 3 = ((((0 : Int) + (sMi a 10 3)) + (-sMi a 9 3)) + 0) + (sMi a 3 3) := rfl
theorem p_11_13 : sMi a 11 13 = d3 (a 0 0) (a 0 2) (a 0 3) (a 1 0) (a 1 2) (a 1 3) (a 3 0) (a 3 2) (a 3 3) := q_11_13 a
theorem hr_11_13_0 : sRh a 11 13 0 = ((((0 : Int) + (sMi a 10 12)) + 0) + (-sMi a 10 9)) + (sMi a 10 5) := rfl
theorem hr_11_13_1 : sRh a 11 13 1 = ((((0 : Int) + (-sMi a 9 12)) + 0) + (sMi a 9 9)) + (-sMi a 9 5) := rfl
theorem hr_11_13_3 : sRh a 11 13 3 = ((((0 : Int) + (sMi a 3 12)) + 0) + (-sMi a 3 9)) + (sMi a 3 5) := rfl
theorem hk_11_13_0 : sKa a 11 13 0 = ((((0 : Int) + (sMi a 10 12)) + (-sMi a 9 12)) + 0) + (sMi a 3 12) := rfl
theorem hk_11_13_2 : sKa a 11 13 2 = ((((0 : Int) + (-sMi a 10 9)) + (sMi a 9 9)) + 0) + (-sMi a 3 9) := rfl
theorem hk_11_13_3 : sKa a 11 13 3 = ((((0 : Int) + (sMi a 10 5)) + (-sMi a 9 5)) + 0) + (sMi a 3 5) := rfl
theorem p_11_14 : sMi a 11 14 = d3 (a 0 1) (a 0 2) (a 0 3) (a 1 1) (a 1 2) (a 1 3) (a 3 1) (a 3 2) (a 3 3) := q_11_14 a
theorem hr_11_14_0 : sRh a 11 14 0 = ((((0 : Int) + 0) + (sMi a 10 12)) + (-sMi a 10 10)) + (sMi a 10 6) := rfl
theorem hr_11_14_1 : sRh a 11 14 1 = ((((0 : Int) + 0) + (-sMi a 9 12)) + (sMi a 9 10)) + (-sMi a 9 6) := rfl
theorem hr_11_14_3 : sRh a 11 14 3 = ((((0 : Int) + 0) + (sMi a 3 12)) + (-sMi a 3 10)) + (sMi a 3 6) := rfl
theorem hk_11_14_1 : sKa a 11 14 1 = ((((0 : Int) + (sMi a 10 12)) + (-sMi a 9 12)) + 0) + (sMi a 3 12) := rfl
theorem hk_11_14_2 : sKa a 11 14 2 = ((((0 : Int) + (-sMi a 10 10)) + (sMi a 9 10)) + 0) + (-sMi a 3 10) := rfl
theorem hk_11_14_3 : sKa a 11 14 3 = ((((0 : Int) + (sMi a 10 6)) + (-sMi a 9 6)) + 0) + (sMi a 3 6) := rfl
theorem p_12_3 : sMi a 12 3 = d2 (a 2 0) (a 2 1) (a 3 0) (a 3 1) := q_12_3 a
theorem hr_12_3_2 : sRh a 12 3 2 = ((((0 : Int) + (sMi a 8 2)) + (-sMi a 8 1)) + 0) + 0 := rfl
theorem hr_12_3_3 : sRh a 12 3 3 = ((((0 : Int) + (-sMi a 4 2)) + (sMi a 4 1)) + 0) + 0 := rfl
theorem hk_12_3_0 : sKa a 12 3 0 = ((((0 : Int) + 0) + 0) + (sMi a 8 2)) + (-sMi a 4 2) := rfl
theorem hk_12_3_1 : sKa a 12 3 1 = ((((0 : Int) + 0) + 0) + (-sMi a 8 1)) + (sMi a 4 1) := rfl
theorem p_12_5 : sMi a 12 5 = d2 (a 2 0) (a 2 2) (a 3 0) (a 3 2) := q_12_5 a
theorem hr_12_5_2 : sRh a 12 5 2 = ((((0 : Int) + (sMi a 8 4)) + 0) + (-sMi a 8 1)) + 0 := rfl
theorem hr_12_5_3 : sRh a 12 5 3 = ((((0 : Int) + (-sMi a 4 4)) + 0) + (sMi a 4 1)) + 0 := rfl
theorem hk_12_5_0 : sKa a 12 5 0 = ((((0 : Int) + 0) + 0) + (sMi a 8 4)) + (-sMi a 4 4) := rfl
theorem hk_12_5_2 : sKa a 12 5 2 = ((((0 : Int) + 0) + 0) + (-sMi a 8 1)) + (sMi a 4 1) := rfl
theorem p_12_6 : sMi a 12 6 = d2 (a 2 1) (a 2 2) (a 3 1) (a 3 2) := q_12_6 a
theorem hr_12_6_2 : sRh a 12 6 2 = ((((0 : Int) + 0) + (sMi a 8 4)) + (-sMi a 8 2)) + 0 := rfl
theorem hr_12_6_3 : sRh a 12 6 3 = ((((0 : Int) + 0) + (-sMi a 4 4)) + (sMi a 4 2)) + 0 := rfl
theorem hk_12_6_1 : sKa a 12 6 1 = ((((0 : Int) + 0) + 0) + (sMi a 8 4)) + (-sMi a 4 4) := rfl
theorem hk_12_6_2 : sKa a 12 6 2 = ((((0 : Int) + 0) + 0) + (-sMi a 8 2)) + (sMi a 4 2) := rfl
theorem p_12_9 : sMi a 12 9 = d2 (a 2 0) (a 2 3) (a 3 0) (a 3 3) := q_12_9 a
theorem hr_12_9_2 : sRh a 12 9 2 = ((((0 : Int) + (sMi a 8 8)) + 0) + 0) + (-sMi a 8 1) := rfl
theorem hr_12_9_3 : sRh a 12 9 3 = ((((0 : Int) + (-sMi a 4 8)) + 0) + 0) + (sMi a 4 1) := rfl
theorem hk_12_9_0 : sKa a 12 9 0 = ((((0 : Int) + 0) + 0) + (sMi a 8 8)) + (-sMi a 4 8) := rfl
theorem hk_12_9_3 : sKa a 12 9 3 = ((((0 : Int) + 0) + 0) + (-sMi a 8 1)) + (sMi a 4 1) := rfl
theorem p_12_10 : sMi a 12 10 = d2 (a 2 1) (a 2 3) (a 3 1) (a 3 3) := q_12_10 a
theorem hr_12_10_2 : sRh a 12 10 2 = ((((0 : Int) + 0) + (sMi a 8 8)) + 0) + (-sMi a 8 2) := rfl
theorem hr_12_10_3 : sRh a 12 10 3 = ((((0 : Int) + 0) + (-sMi a 4 8)) + 0) + (sMi a 4 2) := rfl
theorem hk_12_10_1 : sKa a 12 10 1 = ((((0 : Int) + 0) + 0) + (sMi a 8 8)) + (-sMi a 4 8) := rfl
theorem hk_12_10_3 : sKa a 12 10 3 = ((((0 : Int) + 0) + 0) + (-sMi a 8 2)) + (sMi a 4 2) := rfl
theorem p_12_12 : sMi a 12 12 = d2 (a 2 2) (a 2 3) (a 3 2) (a 3 3) := q_12_12 a
theorem hr_12_12_2 : sRh a 12 12 2 = ((((0 : Int) + 0) + 0) + (sMi a 8 8)) + (-sMi a 8 4) := rfl
theorem hr_12_12_3 : sRh a 12 12 3 = ((((0 : Int) + 0) + 0) + (-sMi a 4 8)) + (sMi a 4 4) := rfl
theorem hk_12_12_2 : sKa a 12 12 2 = ((((0 : Int) + 0) + 0) + (sMi a 8 8)) + (-sMi a 4 8) := rfl
theorem hk_12_12_3 : sKa a 12 12 3 = ((((0 : Int) + 0) + 0) + (-sMi a 8 4)) + (sMi a 4 4) := rfl
theorem p_13_7 : sMi a 13 7 = d3 (a 0 0) (a 0 1) (a 0 2) (a 2 0) (a 2 1) (a 2 2) (a 3 0) (a 3 1) (a 3 2) := q_13_7 a
theorem hr_13_7_0 : sRh a 13 7 0 = ((((0 : Int) + (sMi a 12 6)) + (-sMi a 12 5)) + (sMi a 12 3)) + 0 := rfl
theorem hr_13_7_2 : sRh a 13 7 2 = ((((0 : Int) + (-sMi a 9 6)) + (sMi a 9 5)) + (-sMi a 9 3)) + 0 := rfl
theorem hr_13_7_3 : sRh a 13 7 3 = ((((0 : Int) + (sMi a 5 6)) + (-sMi a 5 5)) + (sMi a 5 3)) + 0 := rfl
theorem hk_13_7_0 : sKa a 13 7 0 = ((((0 : Int) + (sMi a 12 6)) + 0) + (-sMi a 9 6)) + (sMi a 5 6) := rfl
theorem hk_13_7_1 : sKa a 13 7 1 = ((((0 : Int) + (-sMi a 12 5)) + 0) + (sMi a 9 5)) + (-sMi a 5 5) := rfl
theorem hk_13_7_2 : sKa a 13 7 2 = ((((0 : Int) + (sMi a 12 3)) + 0) + (-sMi a 9 3)) + (sMi a 5 3) := rfl
theorem p_13_11 : sMi a 13 11 = d3 (a 0 0) (a 0 1) (a 0 3) (a 2 0) (a 2 1) (a 2 3) (a 3 0) (a 3 1) (a 3 3) := q_13_11 a
theorem hr_13_11_0 : sRh a 13 11 0 = ((((0 : Int) + (sMi a 12 10)) + (-sMi a 12 9)) + 0) + (sMi a 12 3) := rfl
theorem hr_13_11_2 : sRh a 13 11 2 = ((((0 : Int) + (-sMi a 9 10)) + (sMi a 9 9)) + 0) + (-sMi a 9 3) := rfl
theorem hr_13_11_3 : sRh a 13 11 3 = ((((0 : Int) + (sMi a 5 10)) + (-sMi a 5 9)) + 0) + (sMi a 5 3) := rfl
theorem hk_13_11_0 : sKa a 13 11 0 = ((((0 : Int) + (sMi a 12 10)) + 0) + (-sMi a 9 10)) + (sMi a 5 10) := rfl
theorem hk_13_11_1 : sKa a 13 11 1 = ((((0 : Int) + (-sMi a 12 9)) + 0) + (sMi a 9 9)) + (-sMi a 5 9) := rfl
theorem hk_13_11_3 : sKa a 13 11 3 = ((((0 : Int) + (sMi a 12 3)) + 0) + (-sMi a 9 3)) + (sMi a 5 3) := rfl
theorem p_13_13 : sMi a 13 13 = d3 (a 0 0) (a 0 2) (a 0 3) (a 2 0) (a 2 2) (a 2 3) (a 3 0) (a 3 2) (a 3 3) := q_13_13 a
theorem hr_13_13_0 : sRh a 13 13 0 = ((((0 : Int) + (sMi a 12 12)) + 0) + (-sMi a 12 9)) + (sMi a 12 5) := rfl
theorem hr_13_13_2 : sRh a 13 13 2 = ((((0 : Int) + (-sMi a 9 12)) + 0) + (sMi a 9 9)) + (-sMi a 9 5) := rfl
theorem hr_13_13_3 : sRh a 13 13 3 = ((((0 : Int) + (sMi a 5 12)) + 0) + (-sMi a 5 9)) + (sMi a 5 5) := rfl
theorem hk_13_13_0 : sKa a 13 13 0 = ((((0 : Int) + (sMi a 12 12)) + 0) + (-sMi a 9 12)) + (sMi a 5 12) := rfl
theorem hk_13_13_2 : sKa a 13 13 2 = ((((0 : Int) + (-sMi a 12 9)) + 0) + (sMi a 9 9)) + (-sMi a 5 9) := rfl
theorem hk_13_13_3 : sKa a 13 13 3 = ((((0 : Int) + (sMi a 12 5)) + 0) + (-sMi a 9 5)) + (sMi a 5 5) := rfl
theorem p_13_14 : sMi a 13 14 = d3 (a 0 1) (a 0 2) (a 0 3) (a 2 1) (a 2 2) (a 2 3) (a 3 1) (a 3 2) (a 3 3) := q_13_14 a
theorem hr_13_14_0 : sRh a 13 14 0 = ((((0 : Int) + 0) + (sMi a 12 12)) + (-sMi a 12 10)) + (sMi a 12 6) := rfl
theorem hr_13_14_2 : sRh a 13 14 2 = ((((0 : Int) + 0) + (-sMi a 9 12)) + (sMi a 9 10)) + (-sMi a 9 6) := rfl
theorem hr_13_14_3 : sRh a 13 14 3 = ((((0 : Int) + 0) + (sMi a 5 12)) + (-sMi a 5 10)) + (sMi a 5 6) := rfl
theorem hk_13_14_1 : sKa a 13 14 1 = ((((0 : Int) + (sMi a 12 12)) + 0) + (-sMi a 9 12)) + (sMi a 5 12) := rfl
theorem hk_13_14_2 : sKa a 13 14 2 = ((((0 : Int) + (-sMi a 12 10)) + 0) + (sMi a 9 10)) + (-sMi a 5 10) := rfl
theorem hk_13_14_3 : sKa a 13 14 3 = ((((0 : Int) + (sMi a 12 6)) + 0) + (-sMi a 9 6)) + (sMi a 5 6) := rfl
theorem p_14_7 : sMi a 14 7 = d3 (a 1 0) (a 1 1) (a 1 2) (a 2 0) (a 2 1) (a 2 2) (a 3 0) (a 3 1) (a 3 2) := q_14_7 a
theorem hr_14_7_1 : sRh a 14 7 1 = ((((0 : Int) + (sMi a 12 6)) + (-sMi a 12 5)) + (sMi a 12 3)) + 0 := rfl
theorem hr_14_7_2 : sRh a 14 7 2 = ((((0 : Int) + (-sMi a 10 6)) + (sMi a 10 5)) + (-sMi a 10 3)) + 0 := rfl
theorem hr_14_7_3 : sRh a 14 7 3 = ((((0 : Int) + (sMi a 6 6)) + (-sMi a 6 5)) + (sMi a 6 3)) + 0 := rfl
theorem hk_14_7_0 : sKa a 14 7 0 = ((((0 : Int) + 0) + (sMi a 12 6)) + (-sMi a 10 6)) + (sMi a 6 6) := rfl
theorem hk_14_7_1 : sKa a 14 7 1 = ((((0 : Int) + 0) + (-sMi a 12 5)) + (sMi a 10 5)) + (-sMi a 6 5) := rfl
theorem hk_14_7_2 : sKa a 14 7 2 = ((((0 : Int) + 0) + (sMi a 12 3)) + (-sMi a 10 3)) + (sMi a 6 3) := rfl
theorem p_14_11 : sMi a 14 11 = d3 (a 1 0) (a 1 1) (a 1 3) (a 2 0) (a 2 1) (a 2 3) (a 3 0) (a 3 1) (a 3 3) := q_14_11 a
theorem hr_14_11_1 : sRh a 14 11 1 = ((((0 : Int) + (sMi a 12 10)) + (-sMi a 12 9)) + 0) + (sMi a 12 3) := rfl
theorem hr_14_11_2 : sRh a 14 11 2 = ((((0 : Int) + (-sMi a 10 10)) + (sMi a 10 9)) + 0) + (-sMi a 10 3) := rfl
theorem hr_14_11_3 : sRh a 14 11 3 = ((((0 : Int) + (sMi a 6 10)) + (-sMi a 6 9)) + 0) + (sMi a 6 3) := rfl
theorem hk_14_11_0 : sKa a 14 11 0 = ((((0 : Int) + 0) + (sMi a 12 10)) + (-sMi a 10 10)) + (sMi a 6 10) := rfl
theorem hk_14_11_1 : sKa a 14 11 1 = ((((0 : Int) + 0) + (-sMi a 12 9)) + (sMi a 10 9)) + (-sMi a 6 9) := rfl
theorem hk_14_11_3 : sKa a 14 11 3 = ((((0 : Int) + 0) + (sMi a 12 3)) + (-sMi a 10 3)) + (sMi a 6 3) := rfl
theorem p_14_13 : sMi a 14 13 = d3 (a 1 0) (a 1 2) (a 1 3) (a 2 0) (a 2 2) (a 2 3) (a 3 0) (a 3 2) (a 3 3) := q_14_13 a
theorem hr_14_13_1 : sRh a 14 13 1 = ((((0 : Int) + (sMi a 12 12)) + 0) + (-sMi a 12 9)) + (sMi a 12 5) := rfl
theorem hr_14_13_2 : sRh a 14 13 2 = ((((0 : Int) + (-sMi a 10 12)) + 0) + (sMi a 10 9)) + (-sMi a 10 5) := rfl
theorem hr_14_13_3 : sRh a 14 13 3 = ((((0 : Int) + (sMi a 6 12)) + 0) + (-sMi a 6 9)) + (sMi a 6 5) := rfl
theorem hk_14_13_0 : sKa a 14 13 0 = ((((0 : Int) + 0) + (sMi a 12 12)) + (-sMi a 10 12)) + (sMi a 6 12) := rfl
theorem hk_14_13_2 : sKa a 14 13 2 = ((((0 : Int) + 0) + (-sMi a 12 9)) + (sMi a 10 9)) + (-sMi a 6 9) := rfl
theorem hk_14_13_3 : sKa a 14 13 3 = ((((0 : Int) + 0) + (sMi a 12 5)) + (-sMi a 10 5)) + (sMi a 6 5) := rfl
theorem p_14_14 : sMi a 14 14 = d3 (a 1 1) (a 1 2) (a 1 3) (a 2 1) (a 2 2) (a 2 3) (a 3 1) (a 3 2) (a 3 3) := q_14_14 a
theorem hr_14_14_1 : sRh a 14 14 1 = ((((0 : Int) + 0) + (sMi a 12 12)) + (-sMi a 12 10)) + (sMi a 12 6) := rfl
theorem hr_14_14_2 : sRh a 14 14 2 = ((((0 : Int) + 0) + (-sMi a 10 12)) + (sMi a 10 10)) + (-sMi a 10 6) := rfl
theorem hr_14_14_3 : sRh a 14 14 3 = ((((0 : Int) + 0) + (sMi a 6 12)) + (-sMi a 6 10)) + (sMi a 6 6) := rfl
theorem hk_14_14_1 : sKa a 14 14 1 = ((((0 : Int) + 0) + (sMi a 12 12)) + (-sMi a 10 12)) + (sMi a 6 12) := rfl
theorem hk_14_14_2 : sKa a 14 14 2 = ((((0 : Int) + 0) + (-sMi a 12 10)) + (sMi a 10 10)) + (-sMi a 6 10) := rfl
theorem hk_14_14_3 : sKa a 14 14 3 = ((((0 : Int) + 0) + (sMi a 12 6)) + (-sMi a 10 6)) + (sMi a 6 6) := rfl
theorem p_15_15 : sMi a 15 15 = d4 (a 0 0) (a 0 1) (a 0 2) (a 0 3) (a 1 0) (a 1 1) (a 1 2) (a 1 3) (a 2 0) (a 2 1) (a 2 2) (a 2 3) (a 3 0) (a 3 1) (a 3 2) (a 3 3) := q_15_15 a
theorem hr_15_15_0 : sRh a 15 15 0 = ((((0 : Int) + (sMi a 14 14)) + (-sMi a 14 13)) + (sMi a 14 11)) + (-sMi a 14 7) := rfl
theorem hr_15_15_1 : sRh a 15 15 1 = ((((0 : Int) + (-sMi a 13 14)) + (sMi a 13 13)) + (-sMi a 13 11)) + (sMi a 13 7) := rfl
theorem hr_15_15_2 : sRh a 15 15 2 = ((((0 : Int) + (sMi a 11 14)) + (-sMi a 11 13)) + (sMi a 11 11)) + (-sMi a 11 7) := rfl
theorem hr_15_15_3 : sRh a 15 15 3 = ((((0 : Int) + (-sMi a 7 14)) + (sMi a 7 13)) + (-sMi a 7 11)) + (sMi a 7 7) := rfl
theorem hk_15_15_0 : sKa a 15 15 0 = ((((0 : Int) + (sMi a 14 14)) + (-sMi a 13 14)) + (sMi a 11 14)) + (-sMi a 7 14) := rfl
theorem hk_15_15_1 : sKa a 15 15 1 = ((((0 : Int) + (-sMi a 14 13)) + (sMi a 13 13)) + (-sMi a 11 13)) + (sMi a 7 13) := rfl
theorem hk_15_15_2 : sKa a 15 15 2 = ((((0 : Int) + (sMi a 14 11)) + (-sMi a 13 11)) + (sMi a 11 11)) + (-sMi a 7 11) := rfl
theorem hk_15_15_3 : sKa a 15 15 3 = ((((0 : Int) + (-sMi a 14 7)) + (sMi a 13 7)) + (-sMi a 11 7)) + (sMi a 7 7) := rfl
end IA
