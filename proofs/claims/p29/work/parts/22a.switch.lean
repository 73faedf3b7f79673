/-! the switches -/
theorem t_0_0 : m_tsb (m_tsl 0) 0 = 3 := rfl
theorem t_0_1 : m_tsb (m_tsl 0) 1 = 4 := rfl
theorem t_0_2 : m_tsb (m_tsl 0) 2 = 5 := rfl
theorem t_0_d {x : Int} (h : x < 0 ∨ 3 ≤ x) : m_tsb (m_tsl 0) x = 6 := if_pos h
theorem t_1_0 : m_tsb (m_tsl 1) 0 = 1 := rfl
theorem t_1_1 : m_tsb (m_tsl 1) 1 = 2 := rfl
theorem t_1_2 : m_tsb (m_tsl 1) 2 = 3 := rfl
theorem t_1_3 : m_tsb (m_tsl 1) 3 = 7 := rfl
theorem t_1_4 : m_tsb (m_tsl 1) 4 = 11 := rfl
theorem t_1_5 : m_tsb (m_tsl 1) 5 = 15 := rfl
theorem t_1_6 : m_tsb (m_tsl 1) 6 = 19 := rfl
theorem t_1_7 : m_tsb (m_tsl 1) 7 = 23 := rfl
theorem t_1_8 : m_tsb (m_tsl 1) 8 = 27 := rfl
theorem t_1_9 : m_tsb (m_tsl 1) 9 = 28 := rfl
theorem t_1_10 : m_tsb (m_tsl 1) 10 = 29 := rfl
theorem t_1_11 : m_tsb (m_tsl 1) 11 = 30 := rfl
theorem t_1_12 : m_tsb (m_tsl 1) 12 = 31 := rfl
theorem t_1_13 : m_tsb (m_tsl 1) 13 = 32 := rfl
theorem t_1_d {x : Int} (h : x < 0 ∨ 14 ≤ x) : m_tsb (m_tsl 1) x = 33 := if_pos h
theorem v_0_32 : m_lsb (m_lsl 0).2 (m_lsl 0).1 32 = 6 := rfl
theorem v_0_45 : m_lsb (m_lsl 0).2 (m_lsl 0).1 45 = 7 := rfl
theorem v_0_47 : m_lsb (m_lsl 0).2 (m_lsl 0).1 47 = 8 := rfl
theorem v_0_d {x : Int} (h : ¬ x = 32 ∧ ¬ x = 45 ∧ ¬ x = 47) : m_lsb (m_lsl 0).2 (m_lsl 0).1 x = 9 := by
  show m_lsb [(32, 6), (45, 7), (47, 8)] 9 x = 9
  simp only [m_lsb]
  rw [if_neg (by omega), if_neg (by omega), if_neg (by omega)]
