/-! a table is copied -/
def sF (a b : Nat) (σ σ' : Nat → Nat → Int) : Prop := ∀ c, c < a ∨ b ≤ c → σ' c = σ c
theorem m_cp_i {σ : Nat → Nat → Int} {cs cd n k : Nat} (h : k < n) : m_cp σ cs cd 0 0 n cd k = σ cs k := by
  unfold m_cp; rw [if_pos (by omega), Nat.sub_zero, Nat.zero_add]
theorem m_cp_c {σ : Nat → Nat → Int} {cs cd sp dp n c : Nat} (h : ¬ c = cd) : m_cp σ cs cd sp dp n c = σ c := by
  funext k; unfold m_cp; rw [if_neg (by omega)]
theorem m_up_x {σ : Nat → Nat → Int} {c k c' : Nat} {z : Int} (h : ¬ c' = c) : m_up σ c k z c' = σ c' := by
  funext k'; exact m_up_c h
def sTb (t : Nat) : Prop := ∀ σ : Nat → Nat → Int, m_gk (m_G0, σ) t = (0, 7) ∧ m_gk (m_G0, σ) (t + 1) = (1, 5) ∧ m_gk (m_G0, σ) (t + 2) = (1, 5) ∧ m_gk (m_G0, σ) (t + 3) = (1, 5) ∧ m_gk (m_G0, σ) (t + 4) = (1, 25) ∧ m_gk (m_G0, σ) (t + 5) = (0, 3) ∧ m_gk (m_G0, σ) (t + 6) = (1, 16) ∧
  m_gr (m_G0, σ) t 9 = some (t + 1) ∧ m_gr (m_G0, σ) t 10 = some (t + 2) ∧ m_gr (m_G0, σ) t 11 = some (t + 3) ∧ m_gr (m_G0, σ) t 12 = some (t + 4) ∧ m_gr (m_G0, σ) t 13 = some (t + 5) ∧ m_gr (m_G0, σ) (t + 5) 2 = some (t + 6)
theorem sTb_8 : sTb 8 := fun _ => ⟨rfl, rfl, rfl, rfl, rfl, rfl, rfl, rfl, rfl, rfl, rfl, rfl, rfl⟩
theorem sTb_r {k : Nat} (h : k < 8) : sTb (17 + 7 * k) := by
  have g : k = 0 ∨ k = 1 ∨ k = 2 ∨ k = 3 ∨ k = 4 ∨ k = 5 ∨ k = 6 ∨ k = 7 := by omega
  rcases g with rfl | rfl | rfl | rfl | rfl | rfl | rfl | rfl <;> exact fun _ => ⟨rfl, rfl, rfl, rfl, rfl, rfl, rfl, rfl, rfl, rfl, rfl, rfl, rfl⟩
section CPY
variable {d : Nat} {σ : Nat → Nat → Int} {f : Nat → Int}
theorem c_cpm {a b : Nat} (ka : ∀ σ : Nat → Nat → Int, m_gk (m_G0, σ) a = (0, 3)) (kb : ∀ σ : Nat → Nat → Int, m_gk (m_G0, σ) b = (0, 3)) (ka1 : ∀ σ : Nat → Nat → Int, m_gk (m_G0, σ) (a + 1) = (1, 16)) (kb1 : ∀ σ : Nat → Nat → Int, m_gk (m_G0, σ) (b + 1) = (1, 16)) (ra : ∀ σ : Nat → Nat → Int, m_gr (m_G0, σ) a 2 = some (a + 1)) (rb : ∀ σ : Nat → Nat → Int, m_gr (m_G0, σ) b 2 = some (b + 1)) :
    m_ev (d + 1) 37 [m_R a, m_R b] (m_G0, σ) = some (none, (m_G0, m_cp (m_up (m_up σ a 0 (σ b 0)) a 1 (m_up σ a 0 (σ b 0) b 1)) (b + 1) (a + 1) 0 0 16)) := by
  have g1 : ∀ (σ : Nat → Nat → Int) (X : Option (Nat × (Nat → Int))) (f : m_C) (y p : Nat) (is : List m_P) (ls r : List m_V), m_e X f y ((53, 3, p, 0) :: is) ls (m_R b :: r) (m_G0, σ) = m_e X f y is ls (m_I (σ b p) :: r) (m_G0, σ) := fun σ X f y p is ls r => e_gi (kb σ)
  have g2 : ∀ (σ : Nat → Nat → Int) (X : Option (Nat × (Nat → Int))) (f : m_C) (y p : Nat) (x : Int) (is : List m_P) (ls r : List m_V), m_e X f y ((54, 3, p, 0) :: is) ls (m_I x :: m_R a :: r) (m_G0, σ) = m_e X f y is ls r (m_G0, m_up σ a p x) := fun σ X f y p x is ls r => e_pfi (z := 0) (ka σ)
  have g3 : ∀ (σ : Nat → Nat → Int) (X : Option (Nat × (Nat → Int))) (f : m_C) (y : Nat) (is : List m_P) (ls r : List m_V), m_e X f y ((53, 3, 2, 3) :: is) ls (m_R a :: r) (m_G0, σ) = m_e X f y is ls (m_R (a + 1) :: r) (m_G0, σ) := fun σ X f y is ls r => e_gr (ka σ) (ra σ)
  have g4 : ∀ (σ : Nat → Nat → Int) (X : Option (Nat × (Nat → Int))) (f : m_C) (y : Nat) (is : List m_P) (ls r : List m_V), m_e X f y ((53, 3, 2, 3) :: is) ls (m_R b :: r) (m_G0, σ) = m_e X f y is ls (m_R (b + 1) :: r) (m_G0, σ) := fun σ X f y is ls r => e_gr (kb σ) (rb σ)
  have g5 : ∀ (σ : Nat → Nat → Int) (X : Option (Nat × (Nat → Int))) (f : m_C) (y p q : Nat) (z : Int) (is : List m_P) (ls r : List m_V), m_e X f y ((58, p, q, z) :: is) ls (m_R (a + 1) :: r) (m_G0, σ) = m_e X f y is ls (m_I 16 :: r) (m_G0, σ) := fun σ X f y p q z is ls r => (e_len (by rw [ka1 σ]; decide)).trans (by rw [ka1 σ]; rfl)
  have g6 : ∀ (σ : Nat → Nat → Int) (X : Option (Nat × (Nat → Int))) (f : m_C) (y p q : Nat) (z : Int) (is : List m_P) (ls : List m_V), m_e X f y ((68, p, q, z) :: is) ls [m_I 16, m_I 0, m_R (a + 1), m_I 0, m_R (b + 1)] (m_G0, σ) = m_e X f y is ls [] (m_G0, m_cp σ (b + 1) (a + 1) 0 0 16) := fun σ X f y p q z is ls => e_acp (by rw [kb1 σ]) (by rw [ka1 σ]) (by rw [ka1 σ, kb1 σ]; decide) (by decide)
  rw [i_37]
  simp (disch := first | with_unfolding_all exact id rfl | with_unfolding_all exact ⟨rfl, by decide, Nat.le_of_ble_eq_true rfl⟩ | with_unfolding_all exact Nat.le_of_ble_eq_true rfl | omega) only [b_37_0, e_goto, e_fall, e_if0, e_if1, e_if2, e_if3, e_if4, e_if5, e_ic0, e_ic1, e_ic2, e_ic3, e_ic4, e_ic5, e_null_n, e_null_r, e_nonn_n, e_nonn_r, e_ret0, e_ret1, e_ret20, e_ret21, e_retb, e_ret3, e_ret4, e_pi, e_pj, e_pf, e_pn, e_iadd, e_isub, e_imul, e_iand, e_ixor, e_ishl, e_ishr, e_iushr, e_ladd, e_lsub, e_lmul, e_idiv, e_irem, e_ldiv, e_lrem, e_ineg, e_lneg, e_lcmp, e_i2l, e_l2f, e_f2i, e_i2b, e_fcg, e_fcl, e_dup, e_dupi, e_dup2, s_il, s_ll, s_fl, s_al, s_inc, e_is, e_ls, e_fs, e_aS, e_gi, e_gb, e_gj, s_gr, s_pfi, s_pfj, s_pfb, s_v1, s_v2, s_v3, s_v4, s_v5, s_v6, s_s1, s_s2, s_s3, s_s4, s_s5, s_s6, m_kI_I, m_kJ_J, m_kF_F, m_kR_R, m_ld0, m_ldS, m_st0, m_stS, m_s1, m_s2, m_kl, Option.bind_some, Option.toList_some, Option.toList_none, List.cons_append, List.nil_append, Nat.zero_add, Nat.reduceAdd, Nat.reduceSub, Nat.zero_sub, Nat.reduceEqDiff, Int.reduceLE, Int.reduceLT, Int.reduceEq, Int.reduceNe, Int.reduceAdd, Int.reduceSub, Int.reduceMul, Int.reduceNeg, Int.reduceToNat, Int.toNat_zero, Int.toNat_one, Int.zero_add, Int.zero_mul, Int.one_mul, ↓reduceIte, not_false_eq_true, not_true_eq_false, m_up_s, m_up_c, m_up_k, ne_eq, and_self, and_true, true_and, and_false, false_and, or_true, or_false, true_or, false_or, a_2, u_2, l_2, a_4, u_4, l_4, a_7, u_7, l_7, a_9, u_9, l_9, a_10, u_10, l_10, a_11, u_11, l_11, a_12, u_12, l_12, a_14, u_14, l_14, a_75, u_75, l_75, a_76, u_76, l_76, a_78, u_78, l_78, a_79, u_79, l_79, a_81, u_81, l_81, a_82, u_82, l_82, a_83, u_83, l_83, a_85, u_85, l_85, r_0_0, r_0_1, r_0_2, r_0_3, r_0_4, r_0_5, r_0_6, r_1_0, r_3_0, r_5_0, r_6_2, r_8_9, r_8_10, r_8_11, r_8_12, r_8_13, r_13_2, r_15_0, r_73_0, r_73_1, r_74_2, r_74_3, r_77_2, r_77_3, r_80_0, r_80_1, r_80_2, r_80_3, r_84_2, w_n1, w_0, w_1, w_2, w_3, w_4, w_5, w_6, w_7, w_8, w_9, w_10, w_11, w_12, w_13, w_14, w_15, w_16, w_17, w_18, w_19, w_20, w_21, w_22, w_23, w_24, w_25, w_26, w_27, w_28, w_29, w_30, w_31, w_32, w_33, w_34, w_35, w_36, w_37, w_38, w_39, w_40, w_41, w_42, w_43, w_44, w_45, w_46, w_47, w_48, w_49, w_50, w_51, w_52, w_53, w_54, w_55, w_56, w_57, w_58, w_59, w_60, w_61, w_62, w_63, w_64, w_65, w_66, w_67, w_68, w_69, w_n1000, w_n1001, w_n1002, w_n1003, w_65536, w_1103, w_377, w_127, w_126, w_128, t_0_0, t_0_1, t_0_2, t_0_d, t_1_0, t_1_1, t_1_2, t_1_3, t_1_4, t_1_5, t_1_6, t_1_7, t_1_8, t_1_9, t_1_10, t_1_11, t_1_12, t_1_13, t_1_d, v_0_32, v_0_45, v_0_47, v_0_d, e_tsw, e_lsw, q_le1, q_le0, q_lt1, q_lt0, q_eq1, q_eq0, Int.add_zero, m_ca, Int.reduceNatCast', m_bite, m_b0, m_b1, m_nn, m_tn, m_w_id, m_x_id, g1, g2, g3, g4, g5, g6]
theorem c_cpt {a b : Nat} (A : sTb a) (B : sTb b) (hab : a + 7 ≤ b ∨ b + 7 ≤ a) (hw : σ b 1 = 0 ∨ σ b 1 = 1) (hd : σ b 2 = 0 ∨ σ b 2 = 1) : ∃ σ' : Nat → Nat → Int,
    m_ev (d + 2) 36 [m_R a, m_R b] (m_G0, σ) = some (none, (m_G0, σ')) ∧ sF a (a + 7) σ σ' ∧ (∀ k, k < 9 → σ' a k = σ b k) ∧ (∀ k, k < 5 → σ' (a + 1) k = σ (b + 1) k) ∧ (∀ k, k < 5 → σ' (a + 2) k = σ (b + 2) k) ∧ (∀ k, k < 5 → σ' (a + 3) k = σ (b + 3) k) ∧ (∀ k, k < 25 → σ' (a + 4) k = σ (b + 4) k) ∧ (σ' (a + 5) 0 = σ (b + 5) 0 ∧ σ' (a + 5) 1 = σ (b + 5) 1) ∧ (∀ k, k < 16 → σ' (a + 6) k = σ (b + 6) k) := by
  have g0 : ∀ (σ : Nat → Nat → Int) (X : Option (Nat × (Nat → Int))) (f : m_C) (y p : Nat) (is : List m_P) (ls r : List m_V), m_e X f y ((53, 7, p, 0) :: is) ls (m_R b :: r) (m_G0, σ) = m_e X f y is ls (m_I (σ b p) :: r) (m_G0, σ) := fun σ X f y p is ls r => e_gi (B σ).1
  have g1 : ∀ (σ : Nat → Nat → Int) (X : Option (Nat × (Nat → Int))) (f : m_C) (y p : Nat) (is : List m_P) (ls r : List m_V), m_e X f y ((53, 7, p, 1) :: is) ls (m_R b :: r) (m_G0, σ) = m_e X f y is ls (m_I (σ b p) :: r) (m_G0, σ) := fun σ X f y p is ls r => e_gb (B σ).1
  have g2 : ∀ (σ : Nat → Nat → Int) (X : Option (Nat × (Nat → Int))) (f : m_C) (y p : Nat) (x : Int) (is : List m_P) (ls r : List m_V), m_e X f y ((54, 7, p, 0) :: is) ls (m_I x :: m_R a :: r) (m_G0, σ) = m_e X f y is ls r (m_G0, m_up σ a p x) := fun σ X f y p x is ls r => e_pfi (z := 0) (A σ).1
  have g3 : ∀ (σ : Nat → Nat → Int) (X : Option (Nat × (Nat → Int))) (f : m_C) (y p : Nat) (x : Int) (is : List m_P) (ls r : List m_V), (x = 0 ∨ x = 1) → m_e X f y ((54, 7, p, 1) :: is) ls (m_I x :: m_R a :: r) (m_G0, σ) = m_e X f y is ls r (m_G0, m_up σ a p x) := fun σ X f y p x is ls r h => e_pfb (z := 0) (A σ).1 h
  have g4 : ∀ (σ : Nat → Nat → Int) (X : Option (Nat × (Nat → Int))) (f : m_C) (y : Nat) (is : List m_P) (ls r : List m_V), m_e X f y ((53, 7, 9, 3) :: is) ls (m_R a :: r) (m_G0, σ) = m_e X f y is ls (m_R (a + 1) :: r) (m_G0, σ) := fun σ X f y is ls r => e_gr (A σ).1 (A σ).2.2.2.2.2.2.2.1
  have g5 : ∀ (σ : Nat → Nat → Int) (X : Option (Nat × (Nat → Int))) (f : m_C) (y : Nat) (is : List m_P) (ls r : List m_V), m_e X f y ((53, 7, 9, 3) :: is) ls (m_R b :: r) (m_G0, σ) = m_e X f y is ls (m_R (b + 1) :: r) (m_G0, σ) := fun σ X f y is ls r => e_gr (B σ).1 (B σ).2.2.2.2.2.2.2.1
  have g6 : ∀ (σ : Nat → Nat → Int) (X : Option (Nat × (Nat → Int))) (f : m_C) (y : Nat) (is : List m_P) (ls r : List m_V), m_e X f y ((53, 7, 10, 3) :: is) ls (m_R a :: r) (m_G0, σ) = m_e X f y is ls (m_R (a + 2) :: r) (m_G0, σ) := fun σ X f y is ls r => e_gr (A σ).1 (A σ).2.2.2.2.2.2.2.2.1
  have g7 : ∀ (σ : Nat → Nat → Int) (X : Option (Nat × (Nat → Int))) (f : m_C) (y : Nat) (is : List m_P) (ls r : List m_V), m_e X f y ((53, 7, 10, 3) :: is) ls (m_R b :: r) (m_G0, σ) = m_e X f y is ls (m_R (b + 2) :: r) (m_G0, σ) := fun σ X f y is ls r => e_gr (B σ).1 (B σ).2.2.2.2.2.2.2.2.1
  have g8 : ∀ (σ : Nat → Nat → Int) (X : Option (Nat × (Nat → Int))) (f : m_C) (y : Nat) (is : List m_P) (ls r : List m_V), m_e X f y ((53, 7, 11, 3) :: is) ls (m_R a :: r) (m_G0, σ) = m_e X f y is ls (m_R (a + 3) :: r) (m_G0, σ) := fun σ X f y is ls r => e_gr (A σ).1 (A σ).2.2.2.2.2.2.2.2.2.1
  have g9 : ∀ (σ : Nat → Nat → Int) (X : Option (Nat × (Nat → Int))) (f : m_C) (y : Nat) (is : List m_P) (ls r : List m_V), m_e X f y ((53, 7, 11, 3) :: is) ls (m_R b :: r) (m_G0, σ) = m_e X f y is ls (m_R (b + 3) :: r) (m_G0, σ) := fun σ X f y is ls r => e_gr (B σ).1 (B σ).2.2.2.2.2.2.2.2.2.1
  have g10 : ∀ (σ : Nat → Nat → Int) (X : Option (Nat × (Nat → Int))) (f : m_C) (y : Nat) (is : List m_P) (ls r : List m_V), m_e X f y ((53, 7, 12, 3) :: is) ls (m_R a :: r) (m_G0, σ) = m_e X f y is ls (m_R (a + 4) :: r) (m_G0, σ) := fun σ X f y is ls r => e_gr (A σ).1 (A σ).2.2.2.2.2.2.2.2.2.2.1
  have g11 : ∀ (σ : Nat → Nat → Int) (X : Option (Nat × (Nat → Int))) (f : m_C) (y : Nat) (is : List m_P) (ls r : List m_V), m_e X f y ((53, 7, 12, 3) :: is) ls (m_R b :: r) (m_G0, σ) = m_e X f y is ls (m_R (b + 4) :: r) (m_G0, σ) := fun σ X f y is ls r => e_gr (B σ).1 (B σ).2.2.2.2.2.2.2.2.2.2.1
  have g12 : ∀ (σ : Nat → Nat → Int) (X : Option (Nat × (Nat → Int))) (f : m_C) (y : Nat) (is : List m_P) (ls r : List m_V), m_e X f y ((53, 7, 13, 3) :: is) ls (m_R a :: r) (m_G0, σ) = m_e X f y is ls (m_R (a + 5) :: r) (m_G0, σ) := fun σ X f y is ls r => e_gr (A σ).1 (A σ).2.2.2.2.2.2.2.2.2.2.2.1
  have g13 : ∀ (σ : Nat → Nat → Int) (X : Option (Nat × (Nat → Int))) (f : m_C) (y : Nat) (is : List m_P) (ls r : List m_V), m_e X f y ((53, 7, 13, 3) :: is) ls (m_R b :: r) (m_G0, σ) = m_e X f y is ls (m_R (b + 5) :: r) (m_G0, σ) := fun σ X f y is ls r => e_gr (B σ).1 (B σ).2.2.2.2.2.2.2.2.2.2.2.1
  have g14 : ∀ (σ : Nat → Nat → Int) (X : Option (Nat × (Nat → Int))) (f : m_C) (y p q : Nat) (z : Int) (is : List m_P) (ls r : List m_V), m_e X f y ((58, p, q, z) :: is) ls (m_R (a + 1) :: r) (m_G0, σ) = m_e X f y is ls (m_I 5 :: r) (m_G0, σ) := fun σ X f y p q z is ls r => (e_len (by rw [(A σ).2.1]; decide)).trans (by rw [(A σ).2.1]; rfl)
  have g15 : ∀ (σ : Nat → Nat → Int) (X : Option (Nat × (Nat → Int))) (f : m_C) (y p q : Nat) (z : Int) (is : List m_P) (ls : List m_V), m_e X f y ((68, p, q, z) :: is) ls [m_I 5, m_I 0, m_R (a + 1), m_I 0, m_R (b + 1)] (m_G0, σ) = m_e X f y is ls [] (m_G0, m_cp σ (b + 1) (a + 1) 0 0 5) := fun σ X f y p q z is ls => e_acp (by rw [(B σ).2.1]) (by rw [(A σ).2.1]) (by rw [(A σ).2.1, (B σ).2.1]; decide) (by decide)
  have g16 : ∀ (σ : Nat → Nat → Int) (X : Option (Nat × (Nat → Int))) (f : m_C) (y p q : Nat) (z : Int) (is : List m_P) (ls r : List m_V), m_e X f y ((58, p, q, z) :: is) ls (m_R (a + 2) :: r) (m_G0, σ) = m_e X f y is ls (m_I 5 :: r) (m_G0, σ) := fun σ X f y p q z is ls r => (e_len (by rw [(A σ).2.2.1]; decide)).trans (by rw [(A σ).2.2.1]; rfl)
  have g17 : ∀ (σ : Nat → Nat → Int) (X : Option (Nat × (Nat → Int))) (f : m_C) (y p q : Nat) (z : Int) (is : List m_P) (ls : List m_V), m_e X f y ((68, p, q, z) :: is) ls [m_I 5, m_I 0, m_R (a + 2), m_I 0, m_R (b + 2)] (m_G0, σ) = m_e X f y is ls [] (m_G0, m_cp σ (b + 2) (a + 2) 0 0 5) := fun σ X f y p q z is ls => e_acp (by rw [(B σ).2.2.1]) (by rw [(A σ).2.2.1]) (by rw [(A σ).2.2.1, (B σ).2.2.1]; decide) (by decide)
  have g18 : ∀ (σ : Nat → Nat → Int) (X : Option (Nat × (Nat → Int))) (f : m_C) (y p q : Nat) (z : Int) (is : List m_P) (ls r : List m_V), m_e X f y ((58, p, q, z) :: is) ls (m_R (a + 3) :: r) (m_G0, σ) = m_e X f y is ls (m_I 5 :: r) (m_G0, σ) := fun σ X f y p q z is ls r => (e_len (by rw [(A σ).2.2.2.1]; decide)).trans (by rw [(A σ).2.2.2.1]; rfl)
  have g19 : ∀ (σ : Nat → Nat → Int) (X : Option (Nat × (Nat → Int))) (f : m_C) (y p q : Nat) (z : Int) (is : List m_P) (ls : List m_V), m_e X f y ((68, p, q, z) :: is) ls [m_I 5, m_I 0, m_R (a + 3), m_I 0, m_R (b + 3)] (m_G0, σ) = m_e X f y is ls [] (m_G0, m_cp σ (b + 3) (a + 3) 0 0 5) := fun σ X f y p q z is ls => e_acp (by rw [(B σ).2.2.2.1]) (by rw [(A σ).2.2.2.1]) (by rw [(A σ).2.2.2.1, (B σ).2.2.2.1]; decide) (by decide)
  have g20 : ∀ (σ : Nat → Nat → Int) (X : Option (Nat × (Nat → Int))) (f : m_C) (y p q : Nat) (z : Int) (is : List m_P) (ls r : List m_V), m_e X f y ((58, p, q, z) :: is) ls (m_R (a + 4) :: r) (m_G0, σ) = m_e X f y is ls (m_I 25 :: r) (m_G0, σ) := fun σ X f y p q z is ls r => (e_len (by rw [(A σ).2.2.2.2.1]; decide)).trans (by rw [(A σ).2.2.2.2.1]; rfl)
  have g21 : ∀ (σ : Nat → Nat → Int) (X : Option (Nat × (Nat → Int))) (f : m_C) (y p q : Nat) (z : Int) (is : List m_P) (ls : List m_V), m_e X f y ((68, p, q, z) :: is) ls [m_I 25, m_I 0, m_R (a + 4), m_I 0, m_R (b + 4)] (m_G0, σ) = m_e X f y is ls [] (m_G0, m_cp σ (b + 4) (a + 4) 0 0 25) := fun σ X f y p q z is ls => e_acp (by rw [(B σ).2.2.2.2.1]) (by rw [(A σ).2.2.2.2.1]) (by rw [(A σ).2.2.2.2.1, (B σ).2.2.2.2.1]; decide) (by decide)
  have g22 : ∀ (d : Nat) (σ : Nat → Nat → Int), m_ev (d + 1) 37 [m_R (a + 5), m_R (b + 5)] (m_G0, σ) = _ := fun d σ => c_cpm (fun σ => (A σ).2.2.2.2.2.1) (fun σ => (B σ).2.2.2.2.2.1) (fun σ => (A σ).2.2.2.2.2.2.1) (fun σ => (B σ).2.2.2.2.2.2.1) (fun σ => (A σ).2.2.2.2.2.2.2.2.2.2.2.2) (fun σ => (B σ).2.2.2.2.2.2.2.2.2.2.2.2)
  have g23 : ∀ (σ : Nat → Nat → Int) (f : m_C) (y : Nat) (is : List m_P) (ls : List m_V), m_e none f y ((7, 37, 2, 3) :: is) ls [m_R (b + 5), m_R (a + 5)] (m_G0, σ) = (f 37 [m_R (a + 5), m_R (b + 5)] (m_G0, σ)).bind (fun q => m_e none f y is ls (q.1.toList ++ []) q.2) := fun σ f y is ls => s_v2 ⟨(A σ).2.2.2.2.2.1, by decide, by decide⟩
  refine ⟨_, (by rw [i_36]; simp (disch := first | with_unfolding_all exact id rfl | with_unfolding_all exact ⟨rfl, by decide, Nat.le_of_ble_eq_true rfl⟩ | with_unfolding_all exact Nat.le_of_ble_eq_true rfl | omega) only [b_36_0, e_goto, e_fall, e_if0, e_if1, e_if2, e_if3, e_if4, e_if5, e_ic0, e_ic1, e_ic2, e_ic3, e_ic4, e_ic5, e_null_n, e_null_r, e_nonn_n, e_nonn_r, e_ret0, e_ret1, e_ret20, e_ret21, e_retb, e_ret3, e_ret4, e_pi, e_pj, e_pf, e_pn, e_iadd, e_isub, e_imul, e_iand, e_ixor, e_ishl, e_ishr, e_iushr, e_ladd, e_lsub, e_lmul, e_idiv, e_irem, e_ldiv, e_lrem, e_ineg, e_lneg, e_lcmp, e_i2l, e_l2f, e_f2i, e_i2b, e_fcg, e_fcl, e_dup, e_dupi, e_dup2, s_il, s_ll, s_fl, s_al, s_inc, e_is, e_ls, e_fs, e_aS, e_gi, e_gb, e_gj, s_gr, s_pfi, s_pfj, s_pfb, s_v1, s_v2, s_v3, s_v4, s_v5, s_v6, s_s1, s_s2, s_s3, s_s4, s_s5, s_s6, m_kI_I, m_kJ_J, m_kF_F, m_kR_R, m_ld0, m_ldS, m_st0, m_stS, m_s1, m_s2, m_kl, Option.bind_some, Option.toList_some, Option.toList_none, List.cons_append, List.nil_append, Nat.zero_add, Nat.reduceAdd, Nat.reduceSub, Nat.zero_sub, Nat.reduceEqDiff, Int.reduceLE, Int.reduceLT, Int.reduceEq, Int.reduceNe, Int.reduceAdd, Int.reduceSub, Int.reduceMul, Int.reduceNeg, Int.reduceToNat, Int.toNat_zero, Int.toNat_one, Int.zero_add, Int.zero_mul, Int.one_mul, ↓reduceIte, not_false_eq_true, not_true_eq_false, m_up_s, m_up_c, m_up_k, ne_eq, and_self, and_true, true_and, and_false, false_and, or_true, or_false, true_or, false_or, a_2, u_2, l_2, a_4, u_4, l_4, a_7, u_7, l_7, a_9, u_9, l_9, a_10, u_10, l_10, a_11, u_11, l_11, a_12, u_12, l_12, a_14, u_14, l_14, a_75, u_75, l_75, a_76, u_76, l_76, a_78, u_78, l_78, a_79, u_79, l_79, a_81, u_81, l_81, a_82, u_82, l_82, a_83, u_83, l_83, a_85, u_85, l_85, r_0_0, r_0_1, r_0_2, r_0_3, r_0_4, r_0_5, r_0_6, r_1_0, r_3_0, r_5_0, r_6_2, r_8_9, r_8_10, r_8_11, r_8_12, r_8_13, r_13_2, r_15_0, r_73_0, r_73_1, r_74_2, r_74_3, r_77_2, r_77_3, r_80_0, r_80_1, r_80_2, r_80_3, r_84_2, w_n1, w_0, w_1, w_2, w_3, w_4, w_5, w_6, w_7, w_8, w_9, w_10, w_11, w_12, w_13, w_14, w_15, w_16, w_17, w_18, w_19, w_20, w_21, w_22, w_23, w_24, w_25, w_26, w_27, w_28, w_29, w_30, w_31, w_32, w_33, w_34, w_35, w_36, w_37, w_38, w_39, w_40, w_41, w_42, w_43, w_44, w_45, w_46, w_47, w_48, w_49, w_50, w_51, w_52, w_53, w_54, w_55, w_56, w_57, w_58, w_59, w_60, w_61, w_62, w_63, w_64, w_65, w_66, w_67, w_68, w_69, w_n1000, w_n1001, w_n1002, w_n1003, w_65536, w_1103, w_377, w_127, w_126, w_128, t_0_0, t_0_1, t_0_2, t_0_d, t_1_0, t_1_1, t_1_2, t_1_3, t_1_4, t_1_5, t_1_6, t_1_7, t_1_8, t_1_9, t_1_10, t_1_11, t_1_12, t_1_13, t_1_d, v_0_32, v_0_45, v_0_47, v_0_d, e_tsw, e_lsw, q_le1, q_le0, q_lt1, q_lt0, q_eq1, q_eq0, Int.add_zero, m_ca, Int.reduceNatCast', m_bite, m_b0, m_b1, m_nn, m_tn, m_w_id, m_x_id, g0, g1, g2, g3, g4, g5, g6, g7, g8, g9, g10, g11, g12, g13, g14, g15, g16, g17, g18, g19, g20, g21, g22, g23]; rfl), ?_, ?_, ?_, ?_, ?_, ?_, ?_, ?_⟩
  · intro c hc
    simp (disch := omega) only [m_cp_c, m_cp_i, m_up_x, m_up_s, m_up_k]
  · intro k hk
    have g : k = 0 ∨ k = 1 ∨ k = 2 ∨ k = 3 ∨ k = 4 ∨ k = 5 ∨ k = 6 ∨ k = 7 ∨ k = 8 := by omega
    rcases g with rfl | rfl | rfl | rfl | rfl | rfl | rfl | rfl | rfl <;> simp (disch := omega) only [m_cp_c, m_cp_i, m_up_x, m_up_s, m_up_k]
  · intro k hk
    clear g0 g1 g2 g3
    simp (disch := omega) only [m_cp_c, m_up_x, m_up_k]
    rw [m_cp_i hk]
    simp (disch := omega) only [m_cp_c, m_up_x, m_up_k]
  · intro k hk
    clear g0 g1 g2 g3
    simp (disch := omega) only [m_cp_c, m_up_x, m_up_k]
    rw [m_cp_i hk]
    simp (disch := omega) only [m_cp_c, m_up_x, m_up_k]
  · intro k hk
    clear g0 g1 g2 g3
    simp (disch := omega) only [m_cp_c, m_up_x, m_up_k]
    rw [m_cp_i hk]
    simp (disch := omega) only [m_cp_c, m_up_x, m_up_k]
  · intro k hk
    clear g0 g1 g2 g3
    simp (disch := omega) only [m_cp_c, m_up_x, m_up_k]
    rw [m_cp_i hk]
    simp (disch := omega) only [m_cp_c, m_up_x, m_up_k]
  · constructor <;> simp (disch := omega) only [m_cp_c, m_cp_i, m_up_x, m_up_s, m_up_k]
  · intro k hk
    rw [show a + 6 = a + 5 + 1 from rfl]
    rw [m_cp_i hk]
    simp (disch := omega) only [m_cp_c, m_up_x, m_up_k]
theorem c_cpt_t {a b : Nat} (A : sTb a) (B : sTb b) (hab : a + 7 ≤ b ∨ b + 7 ≤ a) (W : sWF f) (T : sTR σ b f) : ∃ σ' : Nat → Nat → Int, m_ev (d + 2) 36 [m_R a, m_R b] (m_G0, σ) = some (none, (m_G0, σ')) ∧ sF a (a + 7) σ σ' ∧ sTR σ' a f := by
  have w1 := W_dl W
  have w2 := W_w W
  have w3 := W_m W
  obtain ⟨⟨t0, t1, t2⟩, t3, t4, t5, ⟨t6, t7⟩, t8, t9, t10, t11, ⟨t12, t13⟩, t14⟩ := T
  obtain ⟨σ', h, hF, h0, h1, h2, h3, h4, ⟨h5, h6⟩, h7⟩ := c_cpt (d := d) A B hab (σ := σ) (by omega) (by omega)
  refine ⟨σ', h, hF, ⟨?_, ?_, ?_⟩, fun z => ?_, ?_, fun z => ⟨?_, ?_⟩, ⟨?_, ?_⟩, fun p hp => ?_, fun p hp => ?_, fun p hp => ?_, fun z p i hp hi => ?_, ⟨?_, ?_⟩, fun r c hr hc => ?_⟩
  · rw [h0 0 (by omega), t0]
  · rw [h0 1 (by omega), t1]
  · rw [h0 2 (by omega), t2]
  · rw [h0 3 (by omega), t3 z]
  · rw [h0 4 (by omega), t4]
  · rw [h0 5 (by omega), (t5 z).1]
  · rw [h0 6 (by omega), (t5 z).2]
  · rw [h0 7 (by omega), t6]
  · rw [h0 8 (by omega), t7]
  · rw [h1 p hp, t8 p hp]
  · rw [h2 p hp, t9 p hp]
  · rw [h3 p hp, t10 p hp]
  · have := W_d W hp
    rw [h4 _ (by omega), t11 z p i hp hi]
  · rw [h5, t12]
  · rw [h6, t13]
  · rw [h7 _ (by omega), t14 r c hr hc]
end CPY
