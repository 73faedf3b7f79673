/-! the next player who is in; a round's end -/
section J3
variable {d : Nat} {σ : Nat → Nat → Int} {q : Int}
theorem j_bs (hP : 2 ≤ σ 86 40 ∧ σ 86 40 ≤ 5) {k r : Nat} {v : m_V} (hq : 0 ≤ q ∧ q ≤ 5) (hk : (k : Int) < σ 86 40) (hr : Int.tmod (q + k) (σ 86 40) = (r : Int)) (h5 : r < 5) (hd : 0 ≤ σ 86 r) :
    m_e none (m_ev d) 128 (m_blk 128 1) [m_R 86, m_I q, m_I k, v] [] (m_G0, σ) = if 0 < σ 86 r then some (some (m_I r), (m_G0, σ)) else m_e none (m_ev d) 128 (m_blk 128 1) [m_R 86, m_I q, m_I (k + 1 : Nat), m_I r] [] (m_G0, σ) := by
  conv => lhs; rw [b_128_1]
  by_cases h : 0 < σ 86 r
  · rw [if_pos h]
    simp (disch := first | with_unfolding_all exact id rfl | with_unfolding_all exact ⟨rfl, by decide, Nat.le_of_ble_eq_true rfl⟩ | with_unfolding_all exact Nat.le_of_ble_eq_true rfl | omega) only [b_128_0, b_128_2, b_128_3, b_128_4, b_128_5, e_goto, e_fall, e_if0, e_if1, e_if2, e_if3, e_if4, e_if5, e_ic0, e_ic1, e_ic2, e_ic3, e_ic4, e_ic5, e_null_n, e_null_r, e_nonn_n, e_nonn_r, e_ret0, e_ret1, e_ret20, e_ret21, e_retb, e_ret3, e_ret4, e_pi, e_pj, e_pf, e_pn, e_iadd, e_isub, e_imul, e_iand, e_ixor, e_ishl, e_ishr, e_iushr, e_ladd, e_lsub, e_lmul, e_idiv, e_irem, e_ldiv, e_lrem, e_ineg, e_lneg, e_lcmp, e_i2l, e_l2f, e_f2i, e_i2b, e_fcg, e_fcl, e_dup, e_dupi, e_dup2, s_il, s_ll, s_fl, s_al, s_inc, e_is, e_ls, e_fs, e_aS, e_gi, e_gb, e_gj, s_gr, s_pfi, s_pfj, s_pfb, s_v1, s_v2, s_v3, s_v4, s_v5, s_v6, s_s1, s_s2, s_s3, s_s4, s_s5, s_s6, m_kI_I, m_kJ_J, m_kF_F, m_kR_R, m_ld0, m_ldS, m_st0, m_stS, m_s1, m_s2, m_kl, Option.bind_some, Option.toList_some, Option.toList_none, List.cons_append, List.nil_append, Nat.zero_add, Nat.reduceAdd, Nat.reduceSub, Nat.zero_sub, Nat.reduceEqDiff, Int.reduceLE, Int.reduceLT, Int.reduceEq, Int.reduceNe, Int.reduceAdd, Int.reduceSub, Int.reduceMul, Int.reduceNeg, Int.reduceToNat, Int.toNat_zero, Int.toNat_one, Int.zero_add, Int.zero_mul, Int.one_mul, ↓reduceIte, not_false_eq_true, not_true_eq_false, m_up_s, m_up_c, m_up_k, ne_eq, and_self, and_true, true_and, and_false, false_and, or_true, or_false, true_or, false_or, a_2, u_2, l_2, a_4, u_4, l_4, a_7, u_7, l_7, a_9, u_9, l_9, a_10, u_10, l_10, a_11, u_11, l_11, a_12, u_12, l_12, a_14, u_14, l_14, a_75, u_75, l_75, a_76, u_76, l_76, a_78, u_78, l_78, a_79, u_79, l_79, a_81, u_81, l_81, a_82, u_82, l_82, a_83, u_83, l_83, a_85, u_85, l_85, a_86, u_86, l_86, r_0_0, r_0_1, r_0_2, r_0_3, r_0_4, r_0_5, r_0_6, r_1_0, r_3_0, r_5_0, r_6_2, r_8_9, r_8_10, r_8_11, r_8_12, r_8_13, r_13_2, r_15_0, r_73_0, r_73_1, r_74_2, r_74_3, r_77_2, r_77_3, r_80_0, r_80_1, r_80_2, r_80_3, r_84_2, w_n1, w_0, w_1, w_2, w_3, w_4, w_5, w_6, w_7, w_8, w_9, w_10, w_11, w_12, w_13, w_14, w_15, w_16, w_17, w_18, w_19, w_20, w_21, w_22, w_23, w_24, w_25, w_26, w_27, w_28, w_29, w_30, w_31, w_32, w_33, w_34, w_35, w_36, w_37, w_38, w_39, w_40, w_41, w_42, w_43, w_44, w_45, w_46, w_47, w_48, w_49, w_50, w_51, w_52, w_53, w_54, w_55, w_56, w_57, w_58, w_59, w_60, w_61, w_62, w_63, w_64, w_65, w_66, w_67, w_68, w_69, w_n1000, w_n1001, w_n1002, w_n1003, w_65536, w_1103, w_377, w_127, w_126, w_128, w_65535, w_2147483647, w_795577677, t_0_0, t_0_1, t_0_2, t_0_d, t_1_0, t_1_1, t_1_2, t_1_3, t_1_4, t_1_5, t_1_6, t_1_7, t_1_8, t_1_9, t_1_10, t_1_11, t_1_12, t_1_13, t_1_d, v_0_32, v_0_45, v_0_47, v_0_d, e_tsw, e_lsw, q_le1, q_le0, q_lt1, q_lt0, q_eq1, q_eq0, Int.add_zero, m_ca, Int.reduceNatCast', m_bite, m_b0, m_b1, m_nn, m_tn, m_w_id, m_x_id, hr]
  · rw [if_neg h]
    simp (disch := first | with_unfolding_all exact id rfl | with_unfolding_all exact ⟨rfl, by decide, Nat.le_of_ble_eq_true rfl⟩ | with_unfolding_all exact Nat.le_of_ble_eq_true rfl | omega) only [b_128_0, b_128_2, b_128_3, b_128_4, b_128_5, e_goto, e_fall, e_if0, e_if1, e_if2, e_if3, e_if4, e_if5, e_ic0, e_ic1, e_ic2, e_ic3, e_ic4, e_ic5, e_null_n, e_null_r, e_nonn_n, e_nonn_r, e_ret0, e_ret1, e_ret20, e_ret21, e_retb, e_ret3, e_ret4, e_pi, e_pj, e_pf, e_pn, e_iadd, e_isub, e_imul, e_iand, e_ixor, e_ishl, e_ishr, e_iushr, e_ladd, e_lsub, e_lmul, e_idiv, e_irem, e_ldiv, e_lrem, e_ineg, e_lneg, e_lcmp, e_i2l, e_l2f, e_f2i, e_i2b, e_fcg, e_fcl, e_dup, e_dupi, e_dup2, s_il, s_ll, s_fl, s_al, s_inc, e_is, e_ls, e_fs, e_aS, e_gi, e_gb, e_gj, s_gr, s_pfi, s_pfj, s_pfb, s_v1, s_v2, s_v3, s_v4, s_v5, s_v6, s_s1, s_s2, s_s3, s_s4, s_s5, s_s6, m_kI_I, m_kJ_J, m_kF_F, m_kR_R, m_ld0, m_ldS, m_st0, m_stS, m_s1, m_s2, m_kl, Option.bind_some, Option.toList_some, Option.toList_none, List.cons_append, List.nil_append, Nat.zero_add, Nat.reduceAdd, Nat.reduceSub, Nat.zero_sub, Nat.reduceEqDiff, Int.reduceLE, Int.reduceLT, Int.reduceEq, Int.reduceNe, Int.reduceAdd, Int.reduceSub, Int.reduceMul, Int.reduceNeg, Int.reduceToNat, Int.toNat_zero, Int.toNat_one, Int.zero_add, Int.zero_mul, Int.one_mul, ↓reduceIte, not_false_eq_true, not_true_eq_false, m_up_s, m_up_c, m_up_k, ne_eq, and_self, and_true, true_and, and_false, false_and, or_true, or_false, true_or, false_or, a_2, u_2, l_2, a_4, u_4, l_4, a_7, u_7, l_7, a_9, u_9, l_9, a_10, u_10, l_10, a_11, u_11, l_11, a_12, u_12, l_12, a_14, u_14, l_14, a_75, u_75, l_75, a_76, u_76, l_76, a_78, u_78, l_78, a_79, u_79, l_79, a_81, u_81, l_81, a_82, u_82, l_82, a_83, u_83, l_83, a_85, u_85, l_85, a_86, u_86, l_86, r_0_0, r_0_1, r_0_2, r_0_3, r_0_4, r_0_5, r_0_6, r_1_0, r_3_0, r_5_0, r_6_2, r_8_9, r_8_10, r_8_11, r_8_12, r_8_13, r_13_2, r_15_0, r_73_0, r_73_1, r_74_2, r_74_3, r_77_2, r_77_3, r_80_0, r_80_1, r_80_2, r_80_3, r_84_2, w_n1, w_0, w_1, w_2, w_3, w_4, w_5, w_6, w_7, w_8, w_9, w_10, w_11, w_12, w_13, w_14, w_15, w_16, w_17, w_18, w_19, w_20, w_21, w_22, w_23, w_24, w_25, w_26, w_27, w_28, w_29, w_30, w_31, w_32, w_33, w_34, w_35, w_36, w_37, w_38, w_39, w_40, w_41, w_42, w_43, w_44, w_45, w_46, w_47, w_48, w_49, w_50, w_51, w_52, w_53, w_54, w_55, w_56, w_57, w_58, w_59, w_60, w_61, w_62, w_63, w_64, w_65, w_66, w_67, w_68, w_69, w_n1000, w_n1001, w_n1002, w_n1003, w_65536, w_1103, w_377, w_127, w_126, w_128, w_65535, w_2147483647, w_795577677, t_0_0, t_0_1, t_0_2, t_0_d, t_1_0, t_1_1, t_1_2, t_1_3, t_1_4, t_1_5, t_1_6, t_1_7, t_1_8, t_1_9, t_1_10, t_1_11, t_1_12, t_1_13, t_1_d, v_0_32, v_0_45, v_0_47, v_0_d, e_tsw, e_lsw, q_le1, q_le0, q_lt1, q_lt0, q_eq1, q_eq0, Int.add_zero, m_ca, Int.reduceNatCast', m_bite, m_b0, m_b1, m_nn, m_tn, m_w_id, m_x_id, hr]
theorem j_b20 (hP : σ 86 40 = 2) (w : jD (σ 86)) (ha : 1 ≤ sAl (σ 86)) : m_e none (m_ev d) 128 (m_blk 128 1) [m_R 86, m_I 0, m_I (0 : Nat), m_U] [] (m_G0, σ) = some (some (m_I (sFr (σ 86) 0)), (m_G0, σ)) := by
  unfold sAl at ha
  unfold jD at w
  rw [j_bs (by omega) (k := 0) (r := 0) (by omega) (by omega) (by rw [hP]; decide) (by decide) (by omega)]
  split
  · refine m_qI ?_
    simp (disch := omega) only [sFr, sF1, Int.reduceLE, q_lt1, q_lt0, true_and, false_and, and_false, and_true, if_true, if_false, ↓reduceIte]
    rfl
  rw [j_bs (by omega) (k := 1) (r := 1) (by omega) (by omega) (by rw [hP]; decide) (by decide) (by omega)]
  split
  · refine m_qI ?_
    simp (disch := omega) only [sFr, sF1, Int.reduceLE, q_lt1, q_lt0, true_and, false_and, and_false, and_true, if_true, if_false, ↓reduceIte]
    rfl
  exfalso
  (repeat' split at ha) <;> omega
theorem j_b21 (hP : σ 86 40 = 2) (w : jD (σ 86)) (ha : 1 ≤ sAl (σ 86)) : m_e none (m_ev d) 128 (m_blk 128 1) [m_R 86, m_I 1, m_I (0 : Nat), m_U] [] (m_G0, σ) = some (some (m_I (sFr (σ 86) 1)), (m_G0, σ)) := by
  unfold sAl at ha
  unfold jD at w
  rw [j_bs (by omega) (k := 0) (r := 1) (by omega) (by omega) (by rw [hP]; decide) (by decide) (by omega)]
  split
  · refine m_qI ?_
    simp (disch := omega) only [sFr, sF1, Int.reduceLE, q_lt1, q_lt0, true_and, false_and, and_false, and_true, if_true, if_false, ↓reduceIte]
    rfl
  rw [j_bs (by omega) (k := 1) (r := 0) (by omega) (by omega) (by rw [hP]; decide) (by decide) (by omega)]
  split
  · refine m_qI ?_
    simp (disch := omega) only [sFr, sF1, Int.reduceLE, q_lt1, q_lt0, true_and, false_and, and_false, and_true, if_true, if_false, ↓reduceIte]
    rfl
  exfalso
  (repeat' split at ha) <;> omega
theorem j_b22 (hP : σ 86 40 = 2) (w : jD (σ 86)) (ha : 1 ≤ sAl (σ 86)) : m_e none (m_ev d) 128 (m_blk 128 1) [m_R 86, m_I 2, m_I (0 : Nat), m_U] [] (m_G0, σ) = some (some (m_I (sFr (σ 86) 2)), (m_G0, σ)) := by
  unfold sAl at ha
  unfold jD at w
  rw [j_bs (by omega) (k := 0) (r := 0) (by omega) (by omega) (by rw [hP]; decide) (by decide) (by omega)]
  split
  · refine m_qI ?_
    simp (disch := omega) only [sFr, sF1, Int.reduceLE, q_lt1, q_lt0, true_and, false_and, and_false, and_true, if_true, if_false, ↓reduceIte]
    rfl
  rw [j_bs (by omega) (k := 1) (r := 1) (by omega) (by omega) (by rw [hP]; decide) (by decide) (by omega)]
  split
  · refine m_qI ?_
    simp (disch := omega) only [sFr, sF1, Int.reduceLE, q_lt1, q_lt0, true_and, false_and, and_false, and_true, if_true, if_false, ↓reduceIte]
    rfl
  exfalso
  (repeat' split at ha) <;> omega
theorem j_b30 (hP : σ 86 40 = 3) (w : jD (σ 86)) (ha : 1 ≤ sAl (σ 86)) : m_e none (m_ev d) 128 (m_blk 128 1) [m_R 86, m_I 0, m_I (0 : Nat), m_U] [] (m_G0, σ) = some (some (m_I (sFr (σ 86) 0)), (m_G0, σ)) := by
  unfold sAl at ha
  unfold jD at w
  rw [j_bs (by omega) (k := 0) (r := 0) (by omega) (by omega) (by rw [hP]; decide) (by decide) (by omega)]
  split
  · refine m_qI ?_
    simp (disch := omega) only [sFr, sF1, Int.reduceLE, q_lt1, q_lt0, true_and, false_and, and_false, and_true, if_true, if_false, ↓reduceIte]
    rfl
  rw [j_bs (by omega) (k := 1) (r := 1) (by omega) (by omega) (by rw [hP]; decide) (by decide) (by omega)]
  split
  · refine m_qI ?_
    simp (disch := omega) only [sFr, sF1, Int.reduceLE, q_lt1, q_lt0, true_and, false_and, and_false, and_true, if_true, if_false, ↓reduceIte]
    rfl
  rw [j_bs (by omega) (k := 2) (r := 2) (by omega) (by omega) (by rw [hP]; decide) (by decide) (by omega)]
  split
  · refine m_qI ?_
    simp (disch := omega) only [sFr, sF1, Int.reduceLE, q_lt1, q_lt0, true_and, false_and, and_false, and_true, if_true, if_false, ↓reduceIte]
    rfl
  exfalso
  (repeat' split at ha) <;> omega
theorem j_b31 (hP : σ 86 40 = 3) (w : jD (σ 86)) (ha : 1 ≤ sAl (σ 86)) : m_e none (m_ev d) 128 (m_blk 128 1) [m_R 86, m_I 1, m_I (0 : Nat), m_U] [] (m_G0, σ) = some (some (m_I (sFr (σ 86) 1)), (m_G0, σ)) := by
  unfold sAl at ha
  unfold jD at w
  rw [j_bs (by omega) (k := 0) (r := 1) (by omega) (by omega) (by rw [hP]; decide) (by decide) (by omega)]
  split
  · refine m_qI ?_
    simp (disch := omega) only [sFr, sF1, Int.reduceLE, q_lt1, q_lt0, true_and, false_and, and_false, and_true, if_true, if_false, ↓reduceIte]
    rfl
  rw [j_bs (by omega) (k := 1) (r := 2) (by omega) (by omega) (by rw [hP]; decide) (by decide) (by omega)]
  split
  · refine m_qI ?_
    simp (disch := omega) only [sFr, sF1, Int.reduceLE, q_lt1, q_lt0, true_and, false_and, and_false, and_true, if_true, if_false, ↓reduceIte]
    rfl
  rw [j_bs (by omega) (k := 2) (r := 0) (by omega) (by omega) (by rw [hP]; decide) (by decide) (by omega)]
  split
  · refine m_qI ?_
    simp (disch := omega) only [sFr, sF1, Int.reduceLE, q_lt1, q_lt0, true_and, false_and, and_false, and_true, if_true, if_false, ↓reduceIte]
    rfl
  exfalso
  (repeat' split at ha) <;> omega
theorem j_b32 (hP : σ 86 40 = 3) (w : jD (σ 86)) (ha : 1 ≤ sAl (σ 86)) : m_e none (m_ev d) 128 (m_blk 128 1) [m_R 86, m_I 2, m_I (0 : Nat), m_U] [] (m_G0, σ) = some (some (m_I (sFr (σ 86) 2)), (m_G0, σ)) := by
  unfold sAl at ha
  unfold jD at w
  rw [j_bs (by omega) (k := 0) (r := 2) (by omega) (by omega) (by rw [hP]; decide) (by decide) (by omega)]
  split
  · refine m_qI ?_
    simp (disch := omega) only [sFr, sF1, Int.reduceLE, q_lt1, q_lt0, true_and, false_and, and_false, and_true, if_true, if_false, ↓reduceIte]
    rfl
  rw [j_bs (by omega) (k := 1) (r := 0) (by omega) (by omega) (by rw [hP]; decide) (by decide) (by omega)]
  split
  · refine m_qI ?_
    simp (disch := omega) only [sFr, sF1, Int.reduceLE, q_lt1, q_lt0, true_and, false_and, and_false, and_true, if_true, if_false, ↓reduceIte]
    rfl
  rw [j_bs (by omega) (k := 2) (r := 1) (by omega) (by omega) (by rw [hP]; decide) (by decide) (by omega)]
  split
  · refine m_qI ?_
    simp (disch := omega) only [sFr, sF1, Int.reduceLE, q_lt1, q_lt0, true_and, false_and, and_false, and_true, if_true, if_false, ↓reduceIte]
    rfl
  exfalso
  (repeat' split at ha) <;> omega
theorem j_b33 (hP : σ 86 40 = 3) (w : jD (σ 86)) (ha : 1 ≤ sAl (σ 86)) : m_e none (m_ev d) 128 (m_blk 128 1) [m_R 86, m_I 3, m_I (0 : Nat), m_U] [] (m_G0, σ) = some (some (m_I (sFr (σ 86) 3)), (m_G0, σ)) := by
  unfold sAl at ha
  unfold jD at w
  rw [j_bs (by omega) (k := 0) (r := 0) (by omega) (by omega) (by rw [hP]; decide) (by decide) (by omega)]
  split
  · refine m_qI ?_
    simp (disch := omega) only [sFr, sF1, Int.reduceLE, q_lt1, q_lt0, true_and, false_and, and_false, and_true, if_true, if_false, ↓reduceIte]
    rfl
  rw [j_bs (by omega) (k := 1) (r := 1) (by omega) (by omega) (by rw [hP]; decide) (by decide) (by omega)]
  split
  · refine m_qI ?_
    simp (disch := omega) only [sFr, sF1, Int.reduceLE, q_lt1, q_lt0, true_and, false_and, and_false, and_true, if_true, if_false, ↓reduceIte]
    rfl
  rw [j_bs (by omega) (k := 2) (r := 2) (by omega) (by omega) (by rw [hP]; decide) (by decide) (by omega)]
  split
  · refine m_qI ?_
    simp (disch := omega) only [sFr, sF1, Int.reduceLE, q_lt1, q_lt0, true_and, false_and, and_false, and_true, if_true, if_false, ↓reduceIte]
    rfl
  exfalso
  (repeat' split at ha) <;> omega
theorem j_b40 (hP : σ 86 40 = 4) (w : jD (σ 86)) (ha : 1 ≤ sAl (σ 86)) : m_e none (m_ev d) 128 (m_blk 128 1) [m_R 86, m_I 0, m_I (0 : Nat), m_U] [] (m_G0, σ) = some (some (m_I (sFr (σ 86) 0)), (m_G0, σ)) := by
  unfold sAl at ha
  unfold jD at w
  rw [j_bs (by omega) (k := 0) (r := 0) (by omega) (by omega) (by rw [hP]; decide) (by decide) (by omega)]
  split
  · refine m_qI ?_
    simp (disch := omega) only [sFr, sF1, Int.reduceLE, q_lt1, q_lt0, true_and, false_and, and_false, and_true, if_true, if_false, ↓reduceIte]
    rfl
  rw [j_bs (by omega) (k := 1) (r := 1) (by omega) (by omega) (by rw [hP]; decide) (by decide) (by omega)]
  split
  · refine m_qI ?_
    simp (disch := omega) only [sFr, sF1, Int.reduceLE, q_lt1, q_lt0, true_and, false_and, and_false, and_true, if_true, if_false, ↓reduceIte]
    rfl
  rw [j_bs (by omega) (k := 2) (r := 2) (by omega) (by omega) (by rw [hP]; decide) (by decide) (by omega)]
  split
  · refine m_qI ?_
    simp (disch := omega) only [sFr, sF1, Int.reduceLE, q_lt1, q_lt0, true_and, false_and, and_false, and_true, if_true, if_false, ↓reduceIte]
    rfl
  rw [j_bs (by omega) (k := 3) (r := 3) (by omega) (by omega) (by rw [hP]; decide) (by decide) (by omega)]
  split
  · refine m_qI ?_
    simp (disch := omega) only [sFr, sF1, Int.reduceLE, q_lt1, q_lt0, true_and, false_and, and_false, and_true, if_true, if_false, ↓reduceIte]
    rfl
  exfalso
  (repeat' split at ha) <;> omega
theorem j_b41 (hP : σ 86 40 = 4) (w : jD (σ 86)) (ha : 1 ≤ sAl (σ 86)) : m_e none (m_ev d) 128 (m_blk 128 1) [m_R 86, m_I 1, m_I (0 : Nat), m_U] [] (m_G0, σ) = some (some (m_I (sFr (σ 86) 1)), (m_G0, σ)) := by
  unfold sAl at ha
  unfold jD at w
  rw [j_bs (by omega) (k := 0) (r := 1) (by omega) (by omega) (by rw [hP]; decide) (by decide) (by omega)]
  split
  · refine m_qI ?_
    simp (disch := omega) only [sFr, sF1, Int.reduceLE, q_lt1, q_lt0, true_and, false_and, and_false, and_true, if_true, if_false, ↓reduceIte]
    rfl
  rw [j_bs (by omega) (k := 1) (r := 2) (by omega) (by omega) (by rw [hP]; decide) (by decide) (by omega)]
  split
  · refine m_qI ?_
    simp (disch := omega) only [sFr, sF1, Int.reduceLE, q_lt1, q_lt0, true_and, false_and, and_false, and_true, if_true, if_false, ↓reduceIte]
    rfl
  rw [j_bs (by omega) (k := 2) (r := 3) (by omega) (by omega) (by rw [hP]; decide) (by decide) (by omega)]
  split
  · refine m_qI ?_
    simp (disch := omega) only [sFr, sF1, Int.reduceLE, q_lt1, q_lt0, true_and, false_and, and_false, and_true, if_true, if_false, ↓reduceIte]
    rfl
  rw [j_bs (by omega) (k := 3) (r := 0) (by omega) (by omega) (by rw [hP]; decide) (by decide) (by omega)]
  split
  · refine m_qI ?_
    simp (disch := omega) only [sFr, sF1, Int.reduceLE, q_lt1, q_lt0, true_and, false_and, and_false, and_true, if_true, if_false, ↓reduceIte]
    rfl
  exfalso
  (repeat' split at ha) <;> omega
theorem j_b42 (hP : σ 86 40 = 4) (w : jD (σ 86)) (ha : 1 ≤ sAl (σ 86)) : m_e none (m_ev d) 128 (m_blk 128 1) [m_R 86, m_I 2, m_I (0 : Nat), m_U] [] (m_G0, σ) = some (some (m_I (sFr (σ 86) 2)), (m_G0, σ)) := by
  unfold sAl at ha
  unfold jD at w
  rw [j_bs (by omega) (k := 0) (r := 2) (by omega) (by omega) (by rw [hP]; decide) (by decide) (by omega)]
  split
  · refine m_qI ?_
    simp (disch := omega) only [sFr, sF1, Int.reduceLE, q_lt1, q_lt0, true_and, false_and, and_false, and_true, if_true, if_false, ↓reduceIte]
    rfl
  rw [j_bs (by omega) (k := 1) (r := 3) (by omega) (by omega) (by rw [hP]; decide) (by decide) (by omega)]
  split
  · refine m_qI ?_
    simp (disch := omega) only [sFr, sF1, Int.reduceLE, q_lt1, q_lt0, true_and, false_and, and_false, and_true, if_true, if_false, ↓reduceIte]
    rfl
  rw [j_bs (by omega) (k := 2) (r := 0) (by omega) (by omega) (by rw [hP]; decide) (by decide) (by omega)]
  split
  · refine m_qI ?_
    simp (disch := omega) only [sFr, sF1, Int.reduceLE, q_lt1, q_lt0, true_and, false_and, and_false, and_true, if_true, if_false, ↓reduceIte]
    rfl
  rw [j_bs (by omega) (k := 3) (r := 1) (by omega) (by omega) (by rw [hP]; decide) (by decide) (by omega)]
  split
  · refine m_qI ?_
    simp (disch := omega) only [sFr, sF1, Int.reduceLE, q_lt1, q_lt0, true_and, false_and, and_false, and_true, if_true, if_false, ↓reduceIte]
    rfl
  exfalso
  (repeat' split at ha) <;> omega
theorem j_b43 (hP : σ 86 40 = 4) (w : jD (σ 86)) (ha : 1 ≤ sAl (σ 86)) : m_e none (m_ev d) 128 (m_blk 128 1) [m_R 86, m_I 3, m_I (0 : Nat), m_U] [] (m_G0, σ) = some (some (m_I (sFr (σ 86) 3)), (m_G0, σ)) := by
  unfold sAl at ha
  unfold jD at w
  rw [j_bs (by omega) (k := 0) (r := 3) (by omega) (by omega) (by rw [hP]; decide) (by decide) (by omega)]
  split
  · refine m_qI ?_
    simp (disch := omega) only [sFr, sF1, Int.reduceLE, q_lt1, q_lt0, true_and, false_and, and_false, and_true, if_true, if_false, ↓reduceIte]
    rfl
  rw [j_bs (by omega) (k := 1) (r := 0) (by omega) (by omega) (by rw [hP]; decide) (by decide) (by omega)]
  split
  · refine m_qI ?_
    simp (disch := omega) only [sFr, sF1, Int.reduceLE, q_lt1, q_lt0, true_and, false_and, and_false, and_true, if_true, if_false, ↓reduceIte]
    rfl
  rw [j_bs (by omega) (k := 2) (r := 1) (by omega) (by omega) (by rw [hP]; decide) (by decide) (by omega)]
  split
  · refine m_qI ?_
    simp (disch := omega) only [sFr, sF1, Int.reduceLE, q_lt1, q_lt0, true_and, false_and, and_false, and_true, if_true, if_false, ↓reduceIte]
    rfl
  rw [j_bs (by omega) (k := 3) (r := 2) (by omega) (by omega) (by rw [hP]; decide) (by decide) (by omega)]
  split
  · refine m_qI ?_
    simp (disch := omega) only [sFr, sF1, Int.reduceLE, q_lt1, q_lt0, true_and, false_and, and_false, and_true, if_true, if_false, ↓reduceIte]
    rfl
  exfalso
  (repeat' split at ha) <;> omega
theorem j_b44 (hP : σ 86 40 = 4) (w : jD (σ 86)) (ha : 1 ≤ sAl (σ 86)) : m_e none (m_ev d) 128 (m_blk 128 1) [m_R 86, m_I 4, m_I (0 : Nat), m_U] [] (m_G0, σ) = some (some (m_I (sFr (σ 86) 4)), (m_G0, σ)) := by
  unfold sAl at ha
  unfold jD at w
  rw [j_bs (by omega) (k := 0) (r := 0) (by omega) (by omega) (by rw [hP]; decide) (by decide) (by omega)]
  split
  · refine m_qI ?_
    simp (disch := omega) only [sFr, sF1, Int.reduceLE, q_lt1, q_lt0, true_and, false_and, and_false, and_true, if_true, if_false, ↓reduceIte]
    rfl
  rw [j_bs (by omega) (k := 1) (r := 1) (by omega) (by omega) (by rw [hP]; decide) (by decide) (by omega)]
  split
  · refine m_qI ?_
    simp (disch := omega) only [sFr, sF1, Int.reduceLE, q_lt1, q_lt0, true_and, false_and, and_false, and_true, if_true, if_false, ↓reduceIte]
    rfl
  rw [j_bs (by omega) (k := 2) (r := 2) (by omega) (by omega) (by rw [hP]; decide) (by decide) (by omega)]
  split
  · refine m_qI ?_
    simp (disch := omega) only [sFr, sF1, Int.reduceLE, q_lt1, q_lt0, true_and, false_and, and_false, and_true, if_true, if_false, ↓reduceIte]
    rfl
  rw [j_bs (by omega) (k := 3) (r := 3) (by omega) (by omega) (by rw [hP]; decide) (by decide) (by omega)]
  split
  · refine m_qI ?_
    simp (disch := omega) only [sFr, sF1, Int.reduceLE, q_lt1, q_lt0, true_and, false_and, and_false, and_true, if_true, if_false, ↓reduceIte]
    rfl
  exfalso
  (repeat' split at ha) <;> omega
theorem j_b50 (hP : σ 86 40 = 5) (w : jD (σ 86)) (ha : 1 ≤ sAl (σ 86)) : m_e none (m_ev d) 128 (m_blk 128 1) [m_R 86, m_I 0, m_I (0 : Nat), m_U] [] (m_G0, σ) = some (some (m_I (sFr (σ 86) 0)), (m_G0, σ)) := by
  unfold sAl at ha
  unfold jD at w
  rw [j_bs (by omega) (k := 0) (r := 0) (by omega) (by omega) (by rw [hP]; decide) (by decide) (by omega)]
  split
  · refine m_qI ?_
    simp (disch := omega) only [sFr, sF1, Int.reduceLE, q_lt1, q_lt0, true_and, false_and, and_false, and_true, if_true, if_false, ↓reduceIte]
    rfl
  rw [j_bs (by omega) (k := 1) (r := 1) (by omega) (by omega) (by rw [hP]; decide) (by decide) (by omega)]
  split
  · refine m_qI ?_
    simp (disch := omega) only [sFr, sF1, Int.reduceLE, q_lt1, q_lt0, true_and, false_and, and_false, and_true, if_true, if_false, ↓reduceIte]
    rfl
  rw [j_bs (by omega) (k := 2) (r := 2) (by omega) (by omega) (by rw [hP]; decide) (by decide) (by omega)]
  split
  · refine m_qI ?_
    simp (disch := omega) only [sFr, sF1, Int.reduceLE, q_lt1, q_lt0, true_and, false_and, and_false, and_true, if_true, if_false, ↓reduceIte]
    rfl
  rw [j_bs (by omega) (k := 3) (r := 3) (by omega) (by omega) (by rw [hP]; decide) (by decide) (by omega)]
  split
  · refine m_qI ?_
    simp (disch := omega) only [sFr, sF1, Int.reduceLE, q_lt1, q_lt0, true_and, false_and, and_false, and_true, if_true, if_false, ↓reduceIte]
    rfl
  rw [j_bs (by omega) (k := 4) (r := 4) (by omega) (by omega) (by rw [hP]; decide) (by decide) (by omega)]
  split
  · refine m_qI ?_
    simp (disch := omega) only [sFr, sF1, Int.reduceLE, q_lt1, q_lt0, true_and, false_and, and_false, and_true, if_true, if_false, ↓reduceIte]
    rfl
  exfalso
  (repeat' split at ha) <;> omega
theorem j_b51 (hP : σ 86 40 = 5) (w : jD (σ 86)) (ha : 1 ≤ sAl (σ 86)) : m_e none (m_ev d) 128 (m_blk 128 1) [m_R 86, m_I 1, m_I (0 : Nat), m_U] [] (m_G0, σ) = some (some (m_I (sFr (σ 86) 1)), (m_G0, σ)) := by
  unfold sAl at ha
  unfold jD at w
  rw [j_bs (by omega) (k := 0) (r := 1) (by omega) (by omega) (by rw [hP]; decide) (by decide) (by omega)]
  split
  · refine m_qI ?_
    simp (disch := omega) only [sFr, sF1, Int.reduceLE, q_lt1, q_lt0, true_and, false_and, and_false, and_true, if_true, if_false, ↓reduceIte]
    rfl
  rw [j_bs (by omega) (k := 1) (r := 2) (by omega) (by omega) (by rw [hP]; decide) (by decide) (by omega)]
  split
  · refine m_qI ?_
    simp (disch := omega) only [sFr, sF1, Int.reduceLE, q_lt1, q_lt0, true_and, false_and, and_false, and_true, if_true, if_false, ↓reduceIte]
    rfl
  rw [j_bs (by omega) (k := 2) (r := 3) (by omega) (by omega) (by rw [hP]; decide) (by decide) (by omega)]
  split
  · refine m_qI ?_
    simp (disch := omega) only [sFr, sF1, Int.reduceLE, q_lt1, q_lt0, true_and, false_and, and_false, and_true, if_true, if_false, ↓reduceIte]
    rfl
  rw [j_bs (by omega) (k := 3) (r := 4) (by omega) (by omega) (by rw [hP]; decide) (by decide) (by omega)]
  split
  · refine m_qI ?_
    simp (disch := omega) only [sFr, sF1, Int.reduceLE, q_lt1, q_lt0, true_and, false_and, and_false, and_true, if_true, if_false, ↓reduceIte]
    rfl
  rw [j_bs (by omega) (k := 4) (r := 0) (by omega) (by omega) (by rw [hP]; decide) (by decide) (by omega)]
  split
  · refine m_qI ?_
    simp (disch := omega) only [sFr, sF1, Int.reduceLE, q_lt1, q_lt0, true_and, false_and, and_false, and_true, if_true, if_false, ↓reduceIte]
    rfl
  exfalso
  (repeat' split at ha) <;> omega
theorem j_b52 (hP : σ 86 40 = 5) (w : jD (σ 86)) (ha : 1 ≤ sAl (σ 86)) : m_e none (m_ev d) 128 (m_blk 128 1) [m_R 86, m_I 2, m_I (0 : Nat), m_U] [] (m_G0, σ) = some (some (m_I (sFr (σ 86) 2)), (m_G0, σ)) := by
  unfold sAl at ha
  unfold jD at w
  rw [j_bs (by omega) (k := 0) (r := 2) (by omega) (by omega) (by rw [hP]; decide) (by decide) (by omega)]
  split
  · refine m_qI ?_
    simp (disch := omega) only [sFr, sF1, Int.reduceLE, q_lt1, q_lt0, true_and, false_and, and_false, and_true, if_true, if_false, ↓reduceIte]
    rfl
  rw [j_bs (by omega) (k := 1) (r := 3) (by omega) (by omega) (by rw [hP]; decide) (by decide) (by omega)]
  split
  · refine m_qI ?_
    simp (disch := omega) only [sFr, sF1, Int.reduceLE, q_lt1, q_lt0, true_and, false_and, and_false, and_true, if_true, if_false, ↓reduceIte]
    rfl
  rw [j_bs (by omega) (k := 2) (r := 4) (by omega) (by omega) (by rw [hP]; decide) (by decide) (by omega)]
  split
  · refine m_qI ?_
    simp (disch := omega) only [sFr, sF1, Int.reduceLE, q_lt1, q_lt0, true_and, false_and, and_false, and_true, if_true, if_false, ↓reduceIte]
    rfl
  rw [j_bs (by omega) (k := 3) (r := 0) (by omega) (by omega) (by rw [hP]; decide) (by decide) (by omega)]
  split
  · refine m_qI ?_
    simp (disch := omega) only [sFr, sF1, Int.reduceLE, q_lt1, q_lt0, true_and, false_and, and_false, and_true, if_true, if_false, ↓reduceIte]
    rfl
  rw [j_bs (by omega) (k := 4) (r := 1) (by omega) (by omega) (by rw [hP]; decide) (by decide) (by omega)]
  split
  · refine m_qI ?_
    simp (disch := omega) only [sFr, sF1, Int.reduceLE, q_lt1, q_lt0, true_and, false_and, and_false, and_true, if_true, if_false, ↓reduceIte]
    rfl
  exfalso
  (repeat' split at ha) <;> omega
theorem j_b53 (hP : σ 86 40 = 5) (w : jD (σ 86)) (ha : 1 ≤ sAl (σ 86)) : m_e none (m_ev d) 128 (m_blk 128 1) [m_R 86, m_I 3, m_I (0 : Nat), m_U] [] (m_G0, σ) = some (some (m_I (sFr (σ 86) 3)), (m_G0, σ)) := by
  unfold sAl at ha
  unfold jD at w
  rw [j_bs (by omega) (k := 0) (r := 3) (by omega) (by omega) (by rw [hP]; decide) (by decide) (by omega)]
  split
  · refine m_qI ?_
    simp (disch := omega) only [sFr, sF1, Int.reduceLE, q_lt1, q_lt0, true_and, false_and, and_false, and_true, if_true, if_false, ↓reduceIte]
    rfl
  rw [j_bs (by omega) (k := 1) (r := 4) (by omega) (by omega) (by rw [hP]; decide) (by decide) (by omega)]
  split
  · refine m_qI ?_
    simp (disch := omega) only [sFr, sF1, Int.reduceLE, q_lt1, q_lt0, true_and, false_and, and_false, and_true, if_true, if_false, ↓reduceIte]
    rfl
  rw [j_bs (by omega) (k := 2) (r := 0) (by omega) (by omega) (by rw [hP]; decide) (by decide) (by omega)]
  split
  · refine m_qI ?_
    simp (disch := omega) only [sFr, sF1, Int.reduceLE, q_lt1, q_lt0, true_and, false_and, and_false, and_true, if_true, if_false, ↓reduceIte]
    rfl
  rw [j_bs (by omega) (k := 3) (r := 1) (by omega) (by omega) (by rw [hP]; decide) (by decide) (by omega)]
  split
  · refine m_qI ?_
    simp (disch := omega) only [sFr, sF1, Int.reduceLE, q_lt1, q_lt0, true_and, false_and, and_false, and_true, if_true, if_false, ↓reduceIte]
    rfl
  rw [j_bs (by omega) (k := 4) (r := 2) (by omega) (by omega) (by rw [hP]; decide) (by decide) (by omega)]
  split
  · refine m_qI ?_
    simp (disch := omega) only [sFr, sF1, Int.reduceLE, q_lt1, q_lt0, true_and, false_and, and_false, and_true, if_true, if_false, ↓reduceIte]
    rfl
  exfalso
  (repeat' split at ha) <;> omega
theorem j_b54 (hP : σ 86 40 = 5) (w : jD (σ 86)) (ha : 1 ≤ sAl (σ 86)) : m_e none (m_ev d) 128 (m_blk 128 1) [m_R 86, m_I 4, m_I (0 : Nat), m_U] [] (m_G0, σ) = some (some (m_I (sFr (σ 86) 4)), (m_G0, σ)) := by
  unfold sAl at ha
  unfold jD at w
  rw [j_bs (by omega) (k := 0) (r := 4) (by omega) (by omega) (by rw [hP]; decide) (by decide) (by omega)]
  split
  · refine m_qI ?_
    simp (disch := omega) only [sFr, sF1, Int.reduceLE, q_lt1, q_lt0, true_and, false_and, and_false, and_true, if_true, if_false, ↓reduceIte]
    rfl
  rw [j_bs (by omega) (k := 1) (r := 0) (by omega) (by omega) (by rw [hP]; decide) (by decide) (by omega)]
  split
  · refine m_qI ?_
    simp (disch := omega) only [sFr, sF1, Int.reduceLE, q_lt1, q_lt0, true_and, false_and, and_false, and_true, if_true, if_false, ↓reduceIte]
    rfl
  rw [j_bs (by omega) (k := 2) (r := 1) (by omega) (by omega) (by rw [hP]; decide) (by decide) (by omega)]
  split
  · refine m_qI ?_
    simp (disch := omega) only [sFr, sF1, Int.reduceLE, q_lt1, q_lt0, true_and, false_and, and_false, and_true, if_true, if_false, ↓reduceIte]
    rfl
  rw [j_bs (by omega) (k := 3) (r := 2) (by omega) (by omega) (by rw [hP]; decide) (by decide) (by omega)]
  split
  · refine m_qI ?_
    simp (disch := omega) only [sFr, sF1, Int.reduceLE, q_lt1, q_lt0, true_and, false_and, and_false, and_true, if_true, if_false, ↓reduceIte]
    rfl
  rw [j_bs (by omega) (k := 4) (r := 3) (by omega) (by omega) (by rw [hP]; decide) (by decide) (by omega)]
  split
  · refine m_qI ?_
    simp (disch := omega) only [sFr, sF1, Int.reduceLE, q_lt1, q_lt0, true_and, false_and, and_false, and_true, if_true, if_false, ↓reduceIte]
    rfl
  exfalso
  (repeat' split at ha) <;> omega
theorem j_b55 (hP : σ 86 40 = 5) (w : jD (σ 86)) (ha : 1 ≤ sAl (σ 86)) : m_e none (m_ev d) 128 (m_blk 128 1) [m_R 86, m_I 5, m_I (0 : Nat), m_U] [] (m_G0, σ) = some (some (m_I (sFr (σ 86) 5)), (m_G0, σ)) := by
  unfold sAl at ha
  unfold jD at w
  rw [j_bs (by omega) (k := 0) (r := 0) (by omega) (by omega) (by rw [hP]; decide) (by decide) (by omega)]
  split
  · refine m_qI ?_
    simp (disch := omega) only [sFr, sF1, Int.reduceLE, q_lt1, q_lt0, true_and, false_and, and_false, and_true, if_true, if_false, ↓reduceIte]
    rfl
  rw [j_bs (by omega) (k := 1) (r := 1) (by omega) (by omega) (by rw [hP]; decide) (by decide) (by omega)]
  split
  · refine m_qI ?_
    simp (disch := omega) only [sFr, sF1, Int.reduceLE, q_lt1, q_lt0, true_and, false_and, and_false, and_true, if_true, if_false, ↓reduceIte]
    rfl
  rw [j_bs (by omega) (k := 2) (r := 2) (by omega) (by omega) (by rw [hP]; decide) (by decide) (by omega)]
  split
  · refine m_qI ?_
    simp (disch := omega) only [sFr, sF1, Int.reduceLE, q_lt1, q_lt0, true_and, false_and, and_false, and_true, if_true, if_false, ↓reduceIte]
    rfl
  rw [j_bs (by omega) (k := 3) (r := 3) (by omega) (by omega) (by rw [hP]; decide) (by decide) (by omega)]
  split
  · refine m_qI ?_
    simp (disch := omega) only [sFr, sF1, Int.reduceLE, q_lt1, q_lt0, true_and, false_and, and_false, and_true, if_true, if_false, ↓reduceIte]
    rfl
  rw [j_bs (by omega) (k := 4) (r := 4) (by omega) (by omega) (by rw [hP]; decide) (by decide) (by omega)]
  split
  · refine m_qI ?_
    simp (disch := omega) only [sFr, sF1, Int.reduceLE, q_lt1, q_lt0, true_and, false_and, and_false, and_true, if_true, if_false, ↓reduceIte]
    rfl
  exfalso
  (repeat' split at ha) <;> omega
theorem j_be (w : jD (σ 86)) (ha : 1 ≤ sAl (σ 86)) (hq : 0 ≤ q ∧ q ≤ σ 86 40) : m_ev (d + 1) 128 [m_R 86, m_I q] (m_G0, σ) = some (some (m_I (sFr (σ 86) q)), (m_G0, σ)) := by
  have w2 := w
  unfold jD at w2
  rw [i_128]
  simp (disch := first | with_unfolding_all exact id rfl | with_unfolding_all exact ⟨rfl, by decide, Nat.le_of_ble_eq_true rfl⟩ | with_unfolding_all exact Nat.le_of_ble_eq_true rfl | omega) only [b_128_0, b_128_2, b_128_3, b_128_4, b_128_5, e_goto, e_fall, e_if0, e_if1, e_if2, e_if3, e_if4, e_if5, e_ic0, e_ic1, e_ic2, e_ic3, e_ic4, e_ic5, e_null_n, e_null_r, e_nonn_n, e_nonn_r, e_ret0, e_ret1, e_ret20, e_ret21, e_retb, e_ret3, e_ret4, e_pi, e_pj, e_pf, e_pn, e_iadd, e_isub, e_imul, e_iand, e_ixor, e_ishl, e_ishr, e_iushr, e_ladd, e_lsub, e_lmul, e_idiv, e_irem, e_ldiv, e_lrem, e_ineg, e_lneg, e_lcmp, e_i2l, e_l2f, e_f2i, e_i2b, e_fcg, e_fcl, e_dup, e_dupi, e_dup2, s_il, s_ll, s_fl, s_al, s_inc, e_is, e_ls, e_fs, e_aS, e_gi, e_gb, e_gj, s_gr, s_pfi, s_pfj, s_pfb, s_v1, s_v2, s_v3, s_v4, s_v5, s_v6, s_s1, s_s2, s_s3, s_s4, s_s5, s_s6, m_kI_I, m_kJ_J, m_kF_F, m_kR_R, m_ld0, m_ldS, m_st0, m_stS, m_s1, m_s2, m_kl, Option.bind_some, Option.toList_some, Option.toList_none, List.cons_append, List.nil_append, Nat.zero_add, Nat.reduceAdd, Nat.reduceSub, Nat.zero_sub, Nat.reduceEqDiff, Int.reduceLE, Int.reduceLT, Int.reduceEq, Int.reduceNe, Int.reduceAdd, Int.reduceSub, Int.reduceMul, Int.reduceNeg, Int.reduceToNat, Int.toNat_zero, Int.toNat_one, Int.zero_add, Int.zero_mul, Int.one_mul, ↓reduceIte, not_false_eq_true, not_true_eq_false, m_up_s, m_up_c, m_up_k, ne_eq, and_self, and_true, true_and, and_false, false_and, or_true, or_false, true_or, false_or, a_2, u_2, l_2, a_4, u_4, l_4, a_7, u_7, l_7, a_9, u_9, l_9, a_10, u_10, l_10, a_11, u_11, l_11, a_12, u_12, l_12, a_14, u_14, l_14, a_75, u_75, l_75, a_76, u_76, l_76, a_78, u_78, l_78, a_79, u_79, l_79, a_81, u_81, l_81, a_82, u_82, l_82, a_83, u_83, l_83, a_85, u_85, l_85, a_86, u_86, l_86, r_0_0, r_0_1, r_0_2, r_0_3, r_0_4, r_0_5, r_0_6, r_1_0, r_3_0, r_5_0, r_6_2, r_8_9, r_8_10, r_8_11, r_8_12, r_8_13, r_13_2, r_15_0, r_73_0, r_73_1, r_74_2, r_74_3, r_77_2, r_77_3, r_80_0, r_80_1, r_80_2, r_80_3, r_84_2, w_n1, w_0, w_1, w_2, w_3, w_4, w_5, w_6, w_7, w_8, w_9, w_10, w_11, w_12, w_13, w_14, w_15, w_16, w_17, w_18, w_19, w_20, w_21, w_22, w_23, w_24, w_25, w_26, w_27, w_28, w_29, w_30, w_31, w_32, w_33, w_34, w_35, w_36, w_37, w_38, w_39, w_40, w_41, w_42, w_43, w_44, w_45, w_46, w_47, w_48, w_49, w_50, w_51, w_52, w_53, w_54, w_55, w_56, w_57, w_58, w_59, w_60, w_61, w_62, w_63, w_64, w_65, w_66, w_67, w_68, w_69, w_n1000, w_n1001, w_n1002, w_n1003, w_65536, w_1103, w_377, w_127, w_126, w_128, w_65535, w_2147483647, w_795577677, t_0_0, t_0_1, t_0_2, t_0_d, t_1_0, t_1_1, t_1_2, t_1_3, t_1_4, t_1_5, t_1_6, t_1_7, t_1_8, t_1_9, t_1_10, t_1_11, t_1_12, t_1_13, t_1_d, v_0_32, v_0_45, v_0_47, v_0_d, e_tsw, e_lsw, q_le1, q_le0, q_lt1, q_lt0, q_eq1, q_eq0, Int.add_zero, m_ca, Int.reduceNatCast', m_bite, m_b0, m_b1, m_nn, m_tn, m_w_id, m_x_id]
  have g : σ 86 40 = 2 ∨ σ 86 40 = 3 ∨ σ 86 40 = 4 ∨ σ 86 40 = 5 := by omega
  have gq : q = 0 ∨ q = 1 ∨ q = 2 ∨ q = 3 ∨ q = 4 ∨ q = 5 := by omega
  rcases g with g | g | g | g
  · rcases gq with rfl | rfl | rfl | rfl | rfl | rfl
    · exact j_b20 g w ha
    · exact j_b21 g w ha
    · exact j_b22 g w ha
    · exfalso; omega
    · exfalso; omega
    · exfalso; omega
  · rcases gq with rfl | rfl | rfl | rfl | rfl | rfl
    · exact j_b30 g w ha
    · exact j_b31 g w ha
    · exact j_b32 g w ha
    · exact j_b33 g w ha
    · exfalso; omega
    · exfalso; omega
  · rcases gq with rfl | rfl | rfl | rfl | rfl | rfl
    · exact j_b40 g w ha
    · exact j_b41 g w ha
    · exact j_b42 g w ha
    · exact j_b43 g w ha
    · exact j_b44 g w ha
    · exfalso; omega
  · rcases gq with rfl | rfl | rfl | rfl | rfl | rfl
    · exact j_b50 g w ha
    · exact j_b51 g w ha
    · exact j_b52 g w ha
    · exact j_b53 g w ha
    · exact j_b54 g w ha
    · exact j_b55 g w ha
theorem jD_e {f g : Nat → Int} (w : jD f) (h : ∀ k, k < 5 ∨ k = 40 → g k = f k) : jD g := by
  unfold jD at w ⊢
  rw [h 0 (by decide), h 1 (by decide), h 2 (by decide), h 3 (by decide), h 4 (by decide), h 40 (by decide)]
  exact w
theorem j_ends (w : jD (σ 86)) (hq : 0 ≤ q ∧ q ≤ σ 86 40) : ∃ σ' : Nat → Nat → Int, m_ev (d + 2) 135 [m_R 86, m_I q] (m_G0, σ) = some (none, (m_G0, σ')) ∧ σ' 86 = gE (σ 86) q ∧ ∀ c, ¬ c = 86 → σ' c = σ c := by
  obtain ⟨s, es⟩ : ∃ s, s = m_up (m_up (m_up (m_up (m_up σ 86 42 0) 86 43 (-1003)) 86 44 (-1003)) 86 45 (-1003)) 86 47 (m_w (σ 86 47 + 1)) := ⟨_, rfl⟩
  have e8 : s 86 = gE0 (σ 86) := by rw [es, m_up_g, m_up_g, m_up_g, m_up_g, m_up_g]; rfl
  have ec : ∀ c, ¬ c = 86 → s c = σ c := fun c hc => by rw [es, m_up_x hc, m_up_x hc, m_up_x hc, m_up_x hc, m_up_x hc]
  have ek : ∀ k, k < 41 → s 86 k = σ 86 k := fun k hk => by rw [e8]; unfold gE0; rw [g1_n (by omega), g1_n (by omega), g1_n (by omega), g1_n (by omega), g1_n (by omega)]
  have eD : jD (s 86) := jD_e w (fun k hk => ek k (by omega))
  have al : sAl (s 86) = sAl (σ 86) := sAl_c (fun p hp => ek p (by omega))
  have A := j_al (d := d) eD
  have A' := j_al (d := d + 1) eD
  by_cases ha : 1 < sAl (σ 86)
  · have F := j_be (d := d) (σ := s) (q := q) eD (by omega) (by rw [ek 40 (by decide)]; exact hq)
    have F' := j_be (d := d + 1) (σ := s) (q := q) eD (by omega) (by rw [ek 40 (by decide)]; exact hq)
    rw [sFr_c (f := σ 86) (fun p hp => ek p (by omega))] at F F'
    rw [al] at A A'
    refine ⟨m_up s 86 41 (sFr (σ 86) q), ?_, by rw [m_up_g, e8, gE, if_pos ha], fun c hc => by rw [m_up_x hc, ec c hc]⟩
    rw [i_135]
    rw [es] at A F A' F' ⊢
    simp (disch := first | with_unfolding_all exact id rfl | with_unfolding_all exact ⟨rfl, by decide, Nat.le_of_ble_eq_true rfl⟩ | with_unfolding_all exact Nat.le_of_ble_eq_true rfl | omega) only [b_135_0, b_135_1, b_135_2, b_135_3, e_goto, e_fall, e_if0, e_if1, e_if2, e_if3, e_if4, e_if5, e_ic0, e_ic1, e_ic2, e_ic3, e_ic4, e_ic5, e_null_n, e_null_r, e_nonn_n, e_nonn_r, e_ret0, e_ret1, e_ret20, e_ret21, e_retb, e_ret3, e_ret4, e_pi, e_pj, e_pf, e_pn, e_iadd, e_isub, e_imul, e_iand, e_ixor, e_ishl, e_ishr, e_iushr, e_ladd, e_lsub, e_lmul, e_idiv, e_irem, e_ldiv, e_lrem, e_ineg, e_lneg, e_lcmp, e_i2l, e_l2f, e_f2i, e_i2b, e_fcg, e_fcl, e_dup, e_dupi, e_dup2, s_il, s_ll, s_fl, s_al, s_inc, e_is, e_ls, e_fs, e_aS, e_gi, e_gb, e_gj, s_gr, s_pfi, s_pfj, s_pfb, s_v1, s_v2, s_v3, s_v4, s_v5, s_v6, s_s1, s_s2, s_s3, s_s4, s_s5, s_s6, m_kI_I, m_kJ_J, m_kF_F, m_kR_R, m_ld0, m_ldS, m_st0, m_stS, m_s1, m_s2, m_kl, Option.bind_some, Option.toList_some, Option.toList_none, List.cons_append, List.nil_append, Nat.zero_add, Nat.reduceAdd, Nat.reduceSub, Nat.zero_sub, Nat.reduceEqDiff, Int.reduceLE, Int.reduceLT, Int.reduceEq, Int.reduceNe, Int.reduceAdd, Int.reduceSub, Int.reduceMul, Int.reduceNeg, Int.reduceToNat, Int.toNat_zero, Int.toNat_one, Int.zero_add, Int.zero_mul, Int.one_mul, ↓reduceIte, not_false_eq_true, not_true_eq_false, m_up_s, m_up_c, m_up_k, ne_eq, and_self, and_true, true_and, and_false, false_and, or_true, or_false, true_or, false_or, a_2, u_2, l_2, a_4, u_4, l_4, a_7, u_7, l_7, a_9, u_9, l_9, a_10, u_10, l_10, a_11, u_11, l_11, a_12, u_12, l_12, a_14, u_14, l_14, a_75, u_75, l_75, a_76, u_76, l_76, a_78, u_78, l_78, a_79, u_79, l_79, a_81, u_81, l_81, a_82, u_82, l_82, a_83, u_83, l_83, a_85, u_85, l_85, a_86, u_86, l_86, r_0_0, r_0_1, r_0_2, r_0_3, r_0_4, r_0_5, r_0_6, r_1_0, r_3_0, r_5_0, r_6_2, r_8_9, r_8_10, r_8_11, r_8_12, r_8_13, r_13_2, r_15_0, r_73_0, r_73_1, r_74_2, r_74_3, r_77_2, r_77_3, r_80_0, r_80_1, r_80_2, r_80_3, r_84_2, w_n1, w_0, w_1, w_2, w_3, w_4, w_5, w_6, w_7, w_8, w_9, w_10, w_11, w_12, w_13, w_14, w_15, w_16, w_17, w_18, w_19, w_20, w_21, w_22, w_23, w_24, w_25, w_26, w_27, w_28, w_29, w_30, w_31, w_32, w_33, w_34, w_35, w_36, w_37, w_38, w_39, w_40, w_41, w_42, w_43, w_44, w_45, w_46, w_47, w_48, w_49, w_50, w_51, w_52, w_53, w_54, w_55, w_56, w_57, w_58, w_59, w_60, w_61, w_62, w_63, w_64, w_65, w_66, w_67, w_68, w_69, w_n1000, w_n1001, w_n1002, w_n1003, w_65536, w_1103, w_377, w_127, w_126, w_128, w_65535, w_2147483647, w_795577677, t_0_0, t_0_1, t_0_2, t_0_d, t_1_0, t_1_1, t_1_2, t_1_3, t_1_4, t_1_5, t_1_6, t_1_7, t_1_8, t_1_9, t_1_10, t_1_11, t_1_12, t_1_13, t_1_d, v_0_32, v_0_45, v_0_47, v_0_d, e_tsw, e_lsw, q_le1, q_le0, q_lt1, q_lt0, q_eq1, q_eq0, Int.add_zero, m_ca, Int.reduceNatCast', m_bite, m_b0, m_b1, m_nn, m_tn, m_w_id, m_x_id, A, F, A', F']
  · rw [al] at A A'
    refine ⟨m_up s 86 41 (-1003), ?_, by rw [m_up_g, e8, gE, if_neg ha], fun c hc => by rw [m_up_x hc, ec c hc]⟩
    rw [i_135]
    rw [es] at A A' ⊢
    simp (disch := first | with_unfolding_all exact id rfl | with_unfolding_all exact ⟨rfl, by decide, Nat.le_of_ble_eq_true rfl⟩ | with_unfolding_all exact Nat.le_of_ble_eq_true rfl | omega) only [b_135_0, b_135_1, b_135_2, b_135_3, e_goto, e_fall, e_if0, e_if1, e_if2, e_if3, e_if4, e_if5, e_ic0, e_ic1, e_ic2, e_ic3, e_ic4, e_ic5, e_null_n, e_null_r, e_nonn_n, e_nonn_r, e_ret0, e_ret1, e_ret20, e_ret21, e_retb, e_ret3, e_ret4, e_pi, e_pj, e_pf, e_pn, e_iadd, e_isub, e_imul, e_iand, e_ixor, e_ishl, e_ishr, e_iushr, e_ladd, e_lsub, e_lmul, e_idiv, e_irem, e_ldiv, e_lrem, e_ineg, e_lneg, e_lcmp, e_i2l, e_l2f, e_f2i, e_i2b, e_fcg, e_fcl, e_dup, e_dupi, e_dup2, s_il, s_ll, s_fl, s_al, s_inc, e_is, e_ls, e_fs, e_aS, e_gi, e_gb, e_gj, s_gr, s_pfi, s_pfj, s_pfb, s_v1, s_v2, s_v3, s_v4, s_v5, s_v6, s_s1, s_s2, s_s3, s_s4, s_s5, s_s6, m_kI_I, m_kJ_J, m_kF_F, m_kR_R, m_ld0, m_ldS, m_st0, m_stS, m_s1, m_s2, m_kl, Option.bind_some, Option.toList_some, Option.toList_none, List.cons_append, List.nil_append, Nat.zero_add, Nat.reduceAdd, Nat.reduceSub, Nat.zero_sub, Nat.reduceEqDiff, Int.reduceLE, Int.reduceLT, Int.reduceEq, Int.reduceNe, Int.reduceAdd, Int.reduceSub, Int.reduceMul, Int.reduceNeg, Int.reduceToNat, Int.toNat_zero, Int.toNat_one, Int.zero_add, Int.zero_mul, Int.one_mul, ↓reduceIte, not_false_eq_true, not_true_eq_false, m_up_s, m_up_c, m_up_k, ne_eq, and_self, and_true, true_and, and_false, false_and, or_true, or_false, true_or, false_or, a_2, u_2, l_2, a_4, u_4, l_4, a_7, u_7, l_7, a_9, u_9, l_9, a_10, u_10, l_10, a_11, u_11, l_11, a_12, u_12, l_12, a_14, u_14, l_14, a_75, u_75, l_75, a_76, u_76, l_76, a_78, u_78, l_78, a_79, u_79, l_79, a_81, u_81, l_81, a_82, u_82, l_82, a_83, u_83, l_83, a_85, u_85, l_85, a_86, u_86, l_86, r_0_0, r_0_1, r_0_2, r_0_3, r_0_4, r_0_5, r_0_6, r_1_0, r_3_0, r_5_0, r_6_2, r_8_9, r_8_10, r_8_11, r_8_12, r_8_13, r_13_2, r_15_0, r_73_0, r_73_1, r_74_2, r_74_3, r_77_2, r_77_3, r_80_0, r_80_1, r_80_2, r_80_3, r_84_2, w_n1, w_0, w_1, w_2, w_3, w_4, w_5, w_6, w_7, w_8, w_9, w_10, w_11, w_12, w_13, w_14, w_15, w_16, w_17, w_18, w_19, w_20, w_21, w_22, w_23, w_24, w_25, w_26, w_27, w_28, w_29, w_30, w_31, w_32, w_33, w_34, w_35, w_36, w_37, w_38, w_39, w_40, w_41, w_42, w_43, w_44, w_45, w_46, w_47, w_48, w_49, w_50, w_51, w_52, w_53, w_54, w_55, w_56, w_57, w_58, w_59, w_60, w_61, w_62, w_63, w_64, w_65, w_66, w_67, w_68, w_69, w_n1000, w_n1001, w_n1002, w_n1003, w_65536, w_1103, w_377, w_127, w_126, w_128, w_65535, w_2147483647, w_795577677, t_0_0, t_0_1, t_0_2, t_0_d, t_1_0, t_1_1, t_1_2, t_1_3, t_1_4, t_1_5, t_1_6, t_1_7, t_1_8, t_1_9, t_1_10, t_1_11, t_1_12, t_1_13, t_1_d, v_0_32, v_0_45, v_0_47, v_0_d, e_tsw, e_lsw, q_le1, q_le0, q_lt1, q_lt0, q_eq1, q_eq0, Int.add_zero, m_ca, Int.reduceNatCast', m_bite, m_b0, m_b1, m_nn, m_tn, m_w_id, m_x_id, A, A']
end J3
