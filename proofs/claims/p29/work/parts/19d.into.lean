/-! into each of the law's own methods -/
/-- cell ([II)I -/
theorem i_124 {d : Nat} {c0 : Nat} {p1 : Int} {μ : m_M} : m_ev (d + 1) 124 [m_R c0, m_I p1] μ = m_e none (m_ev d) 124 (m_blk 124 0) [m_R c0, m_I p1] [] μ := e_in (Nat.le_of_ble_eq_true rfl)
/-- low (II)I -/
theorem i_125 {d : Nat} {p0 : Int} {p1 : Int} {μ : m_M} : m_ev (d + 1) 125 [m_I p0, m_I p1] μ = m_e none (m_ev d) 125 (m_blk 125 0) [m_I p0, m_I p1] [] μ := e_in (Nat.le_of_ble_eq_true rfl)
/-- begins ([II)V -/
theorem i_126 {d : Nat} {c0 : Nat} {p1 : Int} {μ : m_M} : m_ev (d + 1) 126 [m_R c0, m_I p1] μ = m_e none (m_ev d) 126 (m_blk 126 0) [m_R c0, m_I p1, m_U, m_U] [] μ := e_in (Nat.le_of_ble_eq_true rfl)
/-- alive ([I)I -/
theorem i_127 {d : Nat} {c0 : Nat} {μ : m_M} : m_ev (d + 1) 127 [m_R c0] μ = m_e none (m_ev d) 127 (m_blk 127 0) [m_R c0, m_U, m_U] [] μ := e_in (Nat.le_of_ble_eq_true rfl)
/-- behind ([II)I -/
theorem i_128 {d : Nat} {c0 : Nat} {p1 : Int} {μ : m_M} : m_ev (d + 1) 128 [m_R c0, m_I p1] μ = m_e none (m_ev d) 128 (m_blk 128 0) [m_R c0, m_I p1, m_U, m_U] [] μ := e_in (Nat.le_of_ble_eq_true rfl)
/-- rank ([III)I -/
theorem i_129 {d : Nat} {c0 : Nat} {p1 : Int} {p2 : Int} {μ : m_M} : m_ev (d + 1) 129 [m_R c0, m_I p1, m_I p2] μ = m_e none (m_ev d) 129 (m_blk 129 0) [m_R c0, m_I p1, m_I p2] [] μ := e_in (Nat.le_of_ble_eq_true rfl)
/-- under ([III)I -/
theorem i_130 {d : Nat} {c0 : Nat} {p1 : Int} {p2 : Int} {μ : m_M} : m_ev (d + 1) 130 [m_R c0, m_I p1, m_I p2] μ = m_e none (m_ev d) 130 (m_blk 130 0) [m_R c0, m_I p1, m_I p2, m_U, m_U, m_U] [] μ := e_in (Nat.le_of_ble_eq_true rfl)
/-- all ([II)I -/
theorem i_131 {d : Nat} {c0 : Nat} {p1 : Int} {μ : m_M} : m_ev (d + 1) 131 [m_R c0, m_I p1] μ = m_e none (m_ev d) 131 (m_blk 131 0) [m_R c0, m_I p1, m_U, m_U] [] μ := e_in (Nat.le_of_ble_eq_true rfl)
/-- dice ([I)I -/
theorem i_132 {d : Nat} {c0 : Nat} {μ : m_M} : m_ev (d + 1) 132 [m_R c0] μ = m_e none (m_ev d) 132 (m_blk 132 0) [m_R c0] [] μ := e_in (Nat.le_of_ble_eq_true rfl)
/-- rolls (LCupClaims;[II)Z -/
theorem i_133 {d : Nat} {c0 : Nat} {c1 : Nat} {p2 : Int} {μ : m_M} : m_ev (d + 1) 133 [m_R c0, m_R c1, m_I p2] μ = m_e none (m_ev d) 133 (m_blk 133 0) [m_R c0, m_R c1, m_I p2, m_U, m_U, m_U] [] μ := e_in (Nat.le_of_ble_eq_true rfl)
/-- claims (LCupClaims;[III)Z -/
theorem i_134 {d : Nat} {c0 : Nat} {c1 : Nat} {p2 : Int} {p3 : Int} {μ : m_M} : m_ev (d + 1) 134 [m_R c0, m_R c1, m_I p2, m_I p3] μ = m_e none (m_ev d) 134 (m_blk 134 0) [m_R c0, m_R c1, m_I p2, m_I p3] [] μ := e_in (Nat.le_of_ble_eq_true rfl)
/-- ends ([II)V -/
theorem i_135 {d : Nat} {c0 : Nat} {p1 : Int} {μ : m_M} : m_ev (d + 1) 135 [m_R c0, m_I p1] μ = m_e none (m_ev d) 135 (m_blk 135 0) [m_R c0, m_I p1] [] μ := e_in (Nat.le_of_ble_eq_true rfl)
/-- doubts (LCupClaims;[I)Z -/
theorem i_136 {d : Nat} {c0 : Nat} {c1 : Nat} {μ : m_M} : m_ev (d + 1) 136 [m_R c0, m_R c1] μ = m_e none (m_ev d) 136 (m_blk 136 0) [m_R c0, m_R c1, m_U, m_U] [] μ := e_in (Nat.le_of_ble_eq_true rfl)
/-- calls (LCupClaims;[I)Z -/
theorem i_137 {d : Nat} {c0 : Nat} {c1 : Nat} {μ : m_M} : m_ev (d + 1) 137 [m_R c0, m_R c1] μ = m_e none (m_ev d) 137 (m_blk 137 0) [m_R c0, m_R c1, m_U, m_U] [] μ := e_in (Nat.le_of_ble_eq_true rfl)
/-- isTold (LCupClaims;[I)Z -/
theorem i_138 {d : Nat} {c0 : Nat} {c1 : Nat} {μ : m_M} : m_ev (d + 1) 138 [m_R c0, m_R c1] μ = m_e none (m_ev d) 138 (m_blk 138 0) [m_R c0, m_R c1, m_U, m_U] [] μ := e_in (Nat.le_of_ble_eq_true rfl)
/-- areCounted (LCupClaims;[I)Z -/
theorem i_139 {d : Nat} {c0 : Nat} {c1 : Nat} {μ : m_M} : m_ev (d + 1) 139 [m_R c0, m_R c1] μ = m_e none (m_ev d) 139 (m_blk 139 0) [m_R c0, m_R c1, m_U, m_U, m_U] [] μ := e_in (Nat.le_of_ble_eq_true rfl)
/-- deals (LCupClaims;[II)Z -/
theorem i_140 {d : Nat} {c0 : Nat} {c1 : Nat} {p2 : Int} {μ : m_M} : m_ev (d + 1) 140 [m_R c0, m_R c1, m_I p2] μ = m_e none (m_ev d) 140 (m_blk 140 0) [m_R c0, m_R c1, m_I p2, m_U, m_U, m_U, m_U, m_U, m_U] [] μ := e_in (Nat.le_of_ble_eq_true rfl)
