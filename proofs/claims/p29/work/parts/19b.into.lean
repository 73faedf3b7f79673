/-! into each method, by the kinds of its arguments; small sums -/
theorem i_6 {d : Nat} {c0 : Nat} {p0 : Int} {μ : m_M} : m_ev (d + 1) 6 [m_R c0, m_I p0] μ = m_e none (m_ev d) 6 (m_blk 6 0) [m_R c0, m_I p0, m_U] [] μ := e_in (Nat.le_of_ble_eq_true rfl)
theorem i_11 {d : Nat} {c0 : Nat} {p0 : Int} {μ : m_M} : m_ev (d + 1) 11 [m_R c0, m_I p0] μ = m_e none (m_ev d) 11 (m_blk 11 0) [m_R c0, m_I p0] [] μ := e_in (Nat.le_of_ble_eq_true rfl)
theorem i_12 {d : Nat} {c0 : Nat} {p0 : Int} {μ : m_M} : m_ev (d + 1) 12 [m_R c0, m_I p0] μ = m_e none (m_ev d) 12 (m_blk 12 0) [m_R c0, m_I p0] [] μ := e_in (Nat.le_of_ble_eq_true rfl)
theorem i_13 {d : Nat} {c0 : Nat} {μ : m_M} : m_ev (d + 1) 13 [m_R c0] μ = m_e none (m_ev d) 13 (m_blk 13 0) [m_R c0, m_U] [] μ := e_in (Nat.le_of_ble_eq_true rfl)
theorem i_14 {d : Nat} {c0 : Nat} {p0 : Int} {μ : m_M} : m_ev (d + 1) 14 [m_R c0, m_I p0] μ = m_e none (m_ev d) 14 (m_blk 14 0) [m_R c0, m_I p0] [] μ := e_in (Nat.le_of_ble_eq_true rfl)
theorem i_16 {d : Nat} {c0 : Nat} {p0 : Int} {μ : m_M} : m_ev (d + 1) 16 [m_R c0, m_I p0] μ = m_e none (m_ev d) 16 (m_blk 16 0) [m_R c0, m_I p0] [] μ := e_in (Nat.le_of_ble_eq_true rfl)
theorem i_25 {d : Nat} {c0 : Nat} {p0 : Nat} {p1 : Nat} {μ : m_M} : m_ev (d + 1) 25 [m_R c0, m_R p0, m_R p1] μ = m_e none (m_ev d) 25 (m_blk 25 0) [m_R c0, m_R p0, m_R p1, m_U] [] μ := e_in (Nat.le_of_ble_eq_true rfl)
theorem i_26 {d : Nat} {c0 : Nat} {p0 : Int} {μ : m_M} : m_ev (d + 1) 26 [m_R c0, m_I p0] μ = m_e none (m_ev d) 26 (m_blk 26 0) [m_R c0, m_I p0, m_U] [] μ := e_in (Nat.le_of_ble_eq_true rfl)
theorem i_27 {d : Nat} {c0 : Nat} {p0 : Int} {p1 : Nat} {μ : m_M} : m_ev (d + 1) 27 [m_R c0, m_I p0, m_R p1] μ = m_e none (m_ev d) 27 (m_blk 27 0) [m_R c0, m_I p0, m_R p1] [] μ := e_in (Nat.le_of_ble_eq_true rfl)
theorem i_28 {d : Nat} {c0 : Nat} {p0 : Nat} {μ : m_M} : m_ev (d + 1) 28 [m_R c0, m_R p0] μ = m_e none (m_ev d) 28 (m_blk 28 0) [m_R c0, m_R p0, m_U] [] μ := e_in (Nat.le_of_ble_eq_true rfl)
theorem i_29 {d : Nat} {c0 : Nat} {p0 : Int} {μ : m_M} : m_ev (d + 1) 29 [m_R c0, m_I p0] μ = m_e none (m_ev d) 29 (m_blk 29 0) [m_R c0, m_I p0] [] μ := e_in (Nat.le_of_ble_eq_true rfl)
theorem i_30 {d : Nat} {c0 : Nat} {p0 : Int} {p1 : Nat} {μ : m_M} : m_ev (d + 1) 30 [m_R c0, m_I p0, m_R p1] μ = m_e none (m_ev d) 30 (m_blk 30 0) [m_R c0, m_I p0, m_R p1, m_U] [] μ := e_in (Nat.le_of_ble_eq_true rfl)
theorem i_31 {d : Nat} {p0 : Int} {μ : m_M} : m_ev (d + 1) 31 [m_I p0] μ = m_e none (m_ev d) 31 (m_blk 31 0) [m_I p0] [] μ := e_in (Nat.le_of_ble_eq_true rfl)
theorem i_32 {d : Nat} {c0 : Nat} {p0 : Int} {μ : m_M} : m_ev (d + 1) 32 [m_R c0, m_I p0] μ = m_e none (m_ev d) 32 (m_blk 32 0) [m_R c0, m_I p0, m_U] [] μ := e_in (Nat.le_of_ble_eq_true rfl)
theorem i_33 {d : Nat} {c0 : Nat} {p0 : Nat} {μ : m_M} : m_ev (d + 1) 33 [m_R c0, m_R p0] μ = m_e none (m_ev d) 33 (m_blk 33 0) [m_R c0, m_R p0, m_U] [] μ := e_in (Nat.le_of_ble_eq_true rfl)
theorem i_34 {d : Nat} {c0 : Nat} {p0 : Int} {μ : m_M} : m_ev (d + 1) 34 [m_R c0, m_I p0] μ = m_e none (m_ev d) 34 (m_blk 34 0) [m_R c0, m_I p0, m_U] [] μ := e_in (Nat.le_of_ble_eq_true rfl)
theorem i_35 {d : Nat} {p0 : Int} {p1 : Int} {μ : m_M} : m_ev (d + 1) 35 [m_I p0, m_I p1] μ = m_e none (m_ev d) 35 (m_blk 35 0) [m_I p0, m_I p1, m_U] [] μ := e_in (Nat.le_of_ble_eq_true rfl)
theorem i_36 {d : Nat} {c0 : Nat} {p0 : Nat} {μ : m_M} : m_ev (d + 1) 36 [m_R c0, m_R p0] μ = m_e none (m_ev d) 36 (m_blk 36 0) [m_R c0, m_R p0] [] μ := e_in (Nat.le_of_ble_eq_true rfl)
theorem i_37 {d : Nat} {c0 : Nat} {p0 : Nat} {μ : m_M} : m_ev (d + 1) 37 [m_R c0, m_R p0] μ = m_e none (m_ev d) 37 (m_blk 37 0) [m_R c0, m_R p0] [] μ := e_in (Nat.le_of_ble_eq_true rfl)
theorem i_38 {d : Nat} {c0 : Nat} {p0 : Int} {μ : m_M} : m_ev (d + 1) 38 [m_R c0, m_I p0] μ = m_e none (m_ev d) 38 (m_blk 38 0) [m_R c0, m_I p0, m_U] [] μ := e_in (Nat.le_of_ble_eq_true rfl)
theorem i_39 {d : Nat} {c0 : Nat} {μ : m_M} : m_ev (d + 1) 39 [m_R c0] μ = m_e none (m_ev d) 39 (m_blk 39 0) [m_R c0] [] μ := e_in (Nat.le_of_ble_eq_true rfl)
theorem i_40 {d : Nat} {c0 : Nat} {μ : m_M} : m_ev (d + 1) 40 [m_R c0] μ = m_e none (m_ev d) 40 (m_blk 40 0) [m_R c0] [] μ := e_in (Nat.le_of_ble_eq_true rfl)
theorem i_41 {d : Nat} {c0 : Nat} {μ : m_M} : m_ev (d + 1) 41 [m_R c0] μ = m_e none (m_ev d) 41 (m_blk 41 0) [m_R c0] [] μ := e_in (Nat.le_of_ble_eq_true rfl)
theorem i_42 {d : Nat} {c0 : Nat} {μ : m_M} : m_ev (d + 1) 42 [m_R c0] μ = m_e none (m_ev d) 42 (m_blk 42 0) [m_R c0] [] μ := e_in (Nat.le_of_ble_eq_true rfl)
theorem i_43 {d : Nat} {c0 : Nat} {μ : m_M} : m_ev (d + 1) 43 [m_R c0] μ = m_e none (m_ev d) 43 (m_blk 43 0) [m_R c0, m_U, m_U] [] μ := e_in (Nat.le_of_ble_eq_true rfl)
theorem i_44 {d : Nat} {c0 : Nat} {p0 : Nat} {μ : m_M} : m_ev (d + 1) 44 [m_R c0, m_R p0] μ = m_e none (m_ev d) 44 (m_blk 44 0) [m_R c0, m_R p0, m_U] [] μ := e_in (Nat.le_of_ble_eq_true rfl)
theorem i_45 {d : Nat} {c0 : Nat} {μ : m_M} : m_ev (d + 1) 45 [m_R c0] μ = m_e none (m_ev d) 45 (m_blk 45 0) [m_R c0, m_U, m_U] [] μ := e_in (Nat.le_of_ble_eq_true rfl)
theorem i_46 {d : Nat} {c0 : Nat} {p0 : Int} {μ : m_M} : m_ev (d + 1) 46 [m_R c0, m_I p0] μ = m_e none (m_ev d) 46 (m_blk 46 0) [m_R c0, m_I p0] [] μ := e_in (Nat.le_of_ble_eq_true rfl)
theorem i_47 {d : Nat} {c0 : Nat} {p0 : Int} {μ : m_M} : m_ev (d + 1) 47 [m_R c0, m_I p0] μ = m_e none (m_ev d) 47 (m_blk 47 0) [m_R c0, m_I p0, m_U, m_U, m_U] [] μ := e_in (Nat.le_of_ble_eq_true rfl)
theorem i_48 {d : Nat} {c0 : Nat} {p0 : Int} {p1 : Int} {μ : m_M} : m_ev (d + 1) 48 [m_R c0, m_I p0, m_I p1] μ = m_e none (m_ev d) 48 (m_blk 48 0) [m_R c0, m_I p0, m_I p1, m_U] [] μ := e_in (Nat.le_of_ble_eq_true rfl)
theorem i_49 {d : Nat} {p0 : Int} {p1 : Int} {μ : m_M} : m_ev (d + 1) 49 [m_I p0, m_I p1] μ = m_e none (m_ev d) 49 (m_blk 49 0) [m_I p0, m_I p1] [] μ := e_in (Nat.le_of_ble_eq_true rfl)
theorem i_50 {d : Nat} {c0 : Nat} {p0 : Int} {p1 : Int} {μ : m_M} : m_ev (d + 1) 50 [m_R c0, m_I p0, m_I p1] μ = m_e none (m_ev d) 50 (m_blk 50 0) [m_R c0, m_I p0, m_I p1] [] μ := e_in (Nat.le_of_ble_eq_true rfl)
theorem i_51 {d : Nat} {c0 : Nat} {μ : m_M} : m_ev (d + 1) 51 [m_R c0] μ = m_e none (m_ev d) 51 (m_blk 51 0) [m_R c0] [] μ := e_in (Nat.le_of_ble_eq_true rfl)
theorem i_52 {d : Nat} {c0 : Nat} {p0 : Int} {p1 : Int} {μ : m_M} : m_ev (d + 1) 52 [m_R c0, m_I p0, m_I p1] μ = m_e none (m_ev d) 52 (m_blk 52 0) [m_R c0, m_I p0, m_I p1] [] μ := e_in (Nat.le_of_ble_eq_true rfl)
theorem i_53 {d : Nat} {c0 : Nat} {p0 : Int} {μ : m_M} : m_ev (d + 1) 53 [m_R c0, m_I p0] μ = m_e none (m_ev d) 53 (m_blk 53 0) [m_R c0, m_I p0, m_U] [] μ := e_in (Nat.le_of_ble_eq_true rfl)
theorem i_54 {d : Nat} {c0 : Nat} {μ : m_M} : m_ev (d + 1) 54 [m_R c0] μ = m_e none (m_ev d) 54 (m_blk 54 0) [m_R c0] [] μ := e_in (Nat.le_of_ble_eq_true rfl)
theorem i_55 {d : Nat} {c0 : Nat} {μ : m_M} : m_ev (d + 1) 55 [m_R c0] μ = m_e none (m_ev d) 55 (m_blk 55 0) [m_R c0, m_U, m_U] [] μ := e_in (Nat.le_of_ble_eq_true rfl)
theorem i_56 {d : Nat} {c0 : Nat} {p0 : Int} {μ : m_M} : m_ev (d + 1) 56 [m_R c0, m_I p0] μ = m_e none (m_ev d) 56 (m_blk 56 0) [m_R c0, m_I p0, m_U, m_U] [] μ := e_in (Nat.le_of_ble_eq_true rfl)
theorem i_57 {d : Nat} {c0 : Nat} {p0 : Int} {p1 : Int} {μ : m_M} : m_ev (d + 1) 57 [m_R c0, m_I p0, m_I p1] μ = m_e none (m_ev d) 57 (m_blk 57 0) [m_R c0, m_I p0, m_I p1, m_U, m_U, m_U] [] μ := e_in (Nat.le_of_ble_eq_true rfl)
theorem i_58 {d : Nat} {c0 : Nat} {p0 : Int} {p1 : Int} {μ : m_M} : m_ev (d + 1) 58 [m_R c0, m_I p0, m_I p1] μ = m_e none (m_ev d) 58 (m_blk 58 0) [m_R c0, m_I p0, m_I p1, m_U] [] μ := e_in (Nat.le_of_ble_eq_true rfl)
theorem i_59 {d : Nat} {c0 : Nat} {p0 : Int} {p1 : Int} {μ : m_M} : m_ev (d + 1) 59 [m_R c0, m_I p0, m_I p1] μ = m_e none (m_ev d) 59 (m_blk 59 0) [m_R c0, m_I p0, m_I p1] [] μ := e_in (Nat.le_of_ble_eq_true rfl)
theorem i_60 {d : Nat} {c0 : Nat} {p0 : Int} {μ : m_M} : m_ev (d + 1) 60 [m_R c0, m_I p0] μ = m_e none (m_ev d) 60 (m_blk 60 0) [m_R c0, m_I p0] [] μ := e_in (Nat.le_of_ble_eq_true rfl)
theorem i_61 {d : Nat} {c0 : Nat} {p0 : Int} {μ : m_M} : m_ev (d + 1) 61 [m_R c0, m_I p0] μ = m_e none (m_ev d) 61 (m_blk 61 0) [m_R c0, m_I p0] [] μ := e_in (Nat.le_of_ble_eq_true rfl)
theorem i_62 {d : Nat} {p0 : Int} {p1 : Int} {μ : m_M} : m_ev (d + 1) 62 [m_I p0, m_I p1] μ = m_e none (m_ev d) 62 (m_blk 62 0) [m_I p0, m_I p1] [] μ := e_in (Nat.le_of_ble_eq_true rfl)
theorem i_63 {d : Nat} {c0 : Nat} {p0 : Int} {μ : m_M} : m_ev (d + 1) 63 [m_R c0, m_I p0] μ = m_e none (m_ev d) 63 (m_blk 63 0) [m_R c0, m_I p0] [] μ := e_in (Nat.le_of_ble_eq_true rfl)
theorem i_64 {d : Nat} {c0 : Nat} {μ : m_M} : m_ev (d + 1) 64 [m_R c0] μ = m_e none (m_ev d) 64 (m_blk 64 0) [m_R c0] [] μ := e_in (Nat.le_of_ble_eq_true rfl)
theorem i_65 {d : Nat} {c0 : Nat} {μ : m_M} : m_ev (d + 1) 65 [m_R c0] μ = m_e none (m_ev d) 65 (m_blk 65 0) [m_R c0, m_U, m_U] [] μ := e_in (Nat.le_of_ble_eq_true rfl)
theorem i_66 {d : Nat} {c0 : Nat} {p0 : Int} {μ : m_M} : m_ev (d + 1) 66 [m_R c0, m_I p0] μ = m_e none (m_ev d) 66 (m_blk 66 0) [m_R c0, m_I p0] [] μ := e_in (Nat.le_of_ble_eq_true rfl)
theorem i_67 {d : Nat} {p0 : Int} {p1 : Int} {μ : m_M} : m_ev (d + 1) 67 [m_I p0, m_I p1] μ = m_e none (m_ev d) 67 (m_blk 67 0) [m_I p0, m_I p1] [] μ := e_in (Nat.le_of_ble_eq_true rfl)
theorem i_84 {d : Nat} {c0 : Nat} {μ : m_M} : m_ev (d + 1) 84 [m_R c0] μ = m_e none (m_ev d) 84 (m_blk 84 0) [m_R c0] [] μ := e_in (Nat.le_of_ble_eq_true rfl)
theorem i_86 {d : Nat} {c0 : Nat} {p0 : Int} {p1 : Int} {μ : m_M} : m_ev (d + 1) 86 [m_R c0, m_I p0, m_I p1] μ = m_e none (m_ev d) 86 (m_blk 86 0) [m_R c0, m_I p0, m_I p1] [] μ := e_in (Nat.le_of_ble_eq_true rfl)
theorem i_87 {d : Nat} {c0 : Nat} {p0 : Int} {p1 : Int} {μ : m_M} : m_ev (d + 1) 87 [m_R c0, m_I p0, m_I p1] μ = m_e none (m_ev d) 87 (m_blk 87 0) [m_R c0, m_I p0, m_I p1] [] μ := e_in (Nat.le_of_ble_eq_true rfl)
theorem i_88 {d : Nat} {c0 : Nat} {p0 : Int} {p1 : Int} {μ : m_M} : m_ev (d + 1) 88 [m_R c0, m_I p0, m_I p1] μ = m_e none (m_ev d) 88 (m_blk 88 0) [m_R c0, m_I p0, m_I p1, m_U] [] μ := e_in (Nat.le_of_ble_eq_true rfl)
theorem i_89 {d : Nat} {c0 : Nat} {p0 : Int} {p1 : Int} {μ : m_M} : m_ev (d + 1) 89 [m_R c0, m_I p0, m_I p1] μ = m_e none (m_ev d) 89 (m_blk 89 0) [m_R c0, m_I p0, m_I p1] [] μ := e_in (Nat.le_of_ble_eq_true rfl)
theorem i_115 {d : Nat} {c0 : Nat} {p0 : Int} {μ : m_M} : m_ev (d + 1) 115 [m_R c0, m_I p0] μ = m_e none (m_ev d) 115 (m_blk 115 0) [m_R c0, m_I p0] [] μ := e_in (Nat.le_of_ble_eq_true rfl)
theorem m_w_id {z : Int} (h0 : -2147483648 ≤ z) (h1 : z < 2147483648) : m_w z = z := by unfold m_w; omega
theorem m_x_id {z : Int} (h0 : -9223372036854775808 ≤ z) (h1 : z < 9223372036854775808) : m_x z = z := by unfold m_x; omega
theorem m_up_s {σ : Nat → Nat → Int} {c k : Nat} {z : Int} : m_up σ c k z c k = z := by unfold m_up; rw [if_pos ⟨rfl, rfl⟩]
theorem m_up_c {σ : Nat → Nat → Int} {c k c' k' : Nat} {z : Int} (h : ¬ c' = c) : m_up σ c k z c' k' = σ c' k' := by unfold m_up; rw [if_neg (fun q => h q.1)]
theorem m_up_k {σ : Nat → Nat → Int} {c k c' k' : Nat} {z : Int} (h : ¬ k' = k) : m_up σ c k z c' k' = σ c' k' := by unfold m_up; rw [if_neg (fun q => h q.2)]
/-- loops that count up -/
def m_it {S : Type} (body : Nat → S → S) : Nat → Nat → S → S
  | _, 0, s => s
  | p, n + 1, s => m_it body (p + 1) n (body p s)
theorem m_loop {α S : Type} (W : Nat → S → Option α) (body : Nat → S → S) (I : Nat → S → Prop) (e : Nat) (hs : ∀ p s, p < e → I p s → W p s = W (p + 1) (body p s) ∧ I (p + 1) (body p s)) : ∀ (n p : Nat) (s : S), p + n = e → I p s → W p s = W e (m_it body p n s) ∧ I e (m_it body p n s)
  | 0, p, s, h, hI => by
    have h : p = e := h
    subst h
    exact ⟨rfl, hI⟩
  | n + 1, p, s, h, hI => by
    obtain ⟨h1, h2⟩ := hs p s (by omega) hI
    obtain ⟨h3, h4⟩ := m_loop W body I e hs n (p + 1) (body p s) (by omega) h2
    exact ⟨h1.trans h3, h4⟩
