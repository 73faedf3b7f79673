/-! the switches -/
theorem t_0_0 : m_tsb (m_tsl 0) 0 = 3 := rfl
theorem t_0_1 : m_tsb (m_tsl 0) 1 = 4 := rfl
theorem t_0_2 : m_tsb (m_tsl 0) 2 = 5 := rfl
theorem t_0_d {x : Int} (h : x < 0 ∨ 3 ≤ x) : m_tsb (m_tsl 0) x = 6 := if_pos h
theorem t_1_0 : m_tsb (m_tsl 1) 0 = 1 := rfl
theorem t_1_1 : m_tsb (m_tsl 1) 1 = 2 := rfl
theorem t_1_2 : m_tsb (m_tsl 1) 2 = 3 := rfl
theorem t_1_3 : m_tsb (m_tsl 1) 3 = 7 := rfl
theorem t_1_4 : m_tsb (m_tsl 1) 4 = 11 := rfl
theorem t_1_5 : m_tsb (m_tsl 1) 5 = 15 := rfl
theorem t_1_6 : m_tsb (m_tsl 1) 6 = 19 := rfl
theorem t_1_7 : m_tsb (m_tsl 1) 7 = 23 := rfl
theorem t_1_8 : m_tsb (m_tsl 1) 8 = 27 := rfl
theorem t_1_9 : m_tsb (m_tsl 1) 9 = 28 := rfl
theorem t_1_10 : m_tsb (m_tsl 1) 10 = 29 := rfl
theorem t_1_11 : m_tsb (m_tsl 1) 11 = 30 := rfl
theorem t_1_12 : m_tsb (m_tsl 1) 12 = 31 := rfl
theorem t_1_13 : m_tsb (m_tsl 1) 13 = 32 := rfl
theorem t_1_d {x : Int} (h : x < 0 ∨ 14 ≤ x) : m_tsb (m_tsl 1) x = 33 := if_pos h
theorem t_2_0 : m_tsb (m_tsl 2) 0 = 1 := rfl
theorem t_2_1 : m_tsb (m_tsl 2) 1 = 2 := rfl
theorem t_2_2 : m_tsb (m_tsl 2) 2 = 3 := rfl
theorem t_2_3 : m_tsb (m_tsl 2) 3 = 4 := rfl
theorem t_2_4 : m_tsb (m_tsl 2) 4 = 5 := rfl
theorem t_2_5 : m_tsb (m_tsl 2) 5 = 6 := rfl
theorem t_2_6 : m_tsb (m_tsl 2) 6 = 7 := rfl
theorem t_2_7 : m_tsb (m_tsl 2) 7 = 8 := rfl
theorem t_2_8 : m_tsb (m_tsl 2) 8 = 9 := rfl
theorem t_2_9 : m_tsb (m_tsl 2) 9 = 10 := rfl
theorem t_2_10 : m_tsb (m_tsl 2) 10 = 11 := rfl
theorem t_2_11 : m_tsb (m_tsl 2) 11 = 12 := rfl
theorem t_2_12 : m_tsb (m_tsl 2) 12 = 13 := rfl
theorem t_2_13 : m_tsb (m_tsl 2) 13 = 14 := rfl
theorem t_2_d {x : Int} (h : x < 0 ∨ 14 ≤ x) : m_tsb (m_tsl 2) x = 15 := if_pos h
theorem t_3_0 : m_tsb (m_tsl 3) 0 = 3 := rfl
theorem t_3_1 : m_tsb (m_tsl 3) 1 = 5 := rfl
theorem t_3_2 : m_tsb (m_tsl 3) 2 = 7 := rfl
theorem t_3_3 : m_tsb (m_tsl 3) 3 = 15 := rfl
theorem t_3_4 : m_tsb (m_tsl 3) 4 = 17 := rfl
theorem t_3_5 : m_tsb (m_tsl 3) 5 = 25 := rfl
theorem t_3_6 : m_tsb (m_tsl 3) 6 = 27 := rfl
theorem t_3_7 : m_tsb (m_tsl 3) 7 = 29 := rfl
theorem t_3_8 : m_tsb (m_tsl 3) 8 = 31 := rfl
theorem t_3_9 : m_tsb (m_tsl 3) 9 = 33 := rfl
theorem t_3_10 : m_tsb (m_tsl 3) 10 = 35 := rfl
theorem t_3_11 : m_tsb (m_tsl 3) 11 = 37 := rfl
theorem t_3_12 : m_tsb (m_tsl 3) 12 = 39 := rfl
theorem t_3_13 : m_tsb (m_tsl 3) 13 = 41 := rfl
theorem t_3_14 : m_tsb (m_tsl 3) 14 = 43 := rfl
theorem t_3_15 : m_tsb (m_tsl 3) 15 = 45 := rfl
theorem t_3_16 : m_tsb (m_tsl 3) 16 = 47 := rfl
theorem t_3_17 : m_tsb (m_tsl 3) 17 = 49 := rfl
theorem t_3_18 : m_tsb (m_tsl 3) 18 = 51 := rfl
theorem t_3_19 : m_tsb (m_tsl 3) 19 = 53 := rfl
theorem t_3_20 : m_tsb (m_tsl 3) 20 = 55 := rfl
theorem t_3_21 : m_tsb (m_tsl 3) 21 = 57 := rfl
theorem t_3_22 : m_tsb (m_tsl 3) 22 = 65 := rfl
theorem t_3_23 : m_tsb (m_tsl 3) 23 = 79 := rfl
theorem t_3_24 : m_tsb (m_tsl 3) 24 = 81 := rfl
theorem t_3_25 : m_tsb (m_tsl 3) 25 = 83 := rfl
theorem t_3_d {x : Int} (h : x < 0 ∨ 26 ≤ x) : m_tsb (m_tsl 3) x = 85 := if_pos h
theorem v_0_32 : m_lsb (m_lsl 0).2 (m_lsl 0).1 32 = 6 := rfl
theorem v_0_45 : m_lsb (m_lsl 0).2 (m_lsl 0).1 45 = 7 := rfl
theorem v_0_47 : m_lsb (m_lsl 0).2 (m_lsl 0).1 47 = 8 := rfl
theorem v_0_d {x : Int} (h : ¬ x = 32 ∧ ¬ x = 45 ∧ ¬ x = 47) : m_lsb (m_lsl 0).2 (m_lsl 0).1 x = 9 := by
  show m_lsb [(32, 6), (45, 7), (47, 8)] 9 x = 9
  simp only [m_lsb]
  rw [if_neg (by omega), if_neg (by omega), if_neg (by omega)]
