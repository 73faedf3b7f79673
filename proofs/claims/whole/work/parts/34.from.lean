/-! the next player who is not out -/
section FR
variable {d : Nat} {σ : Nat → Nat → Int} {q : Int}
theorem d_frs (hP : 2 ≤ σ 87 40 ∧ σ 87 40 ≤ 5) {p r : Nat} (hp : (p : Int) < σ 87 40) (hd : 0 ≤ σ 87 p) (hr : (r : Int) = if (p : Int) + 1 = σ 87 40 then 0 else (p : Int) + 1) :
    m_e none (m_ev d) 153 (m_blk 153 1) [m_R 86, m_I q, m_I p] [] (m_G0, σ) = if 0 < σ 87 p then some (some (m_I p), (m_G0, σ)) else m_e none (m_ev d) 153 (m_blk 153 1) [m_R 86, m_I q, m_I r] [] (m_G0, σ) := by
  have et : Int.tmod ((p : Int) + 1) (σ 87 40) = r := by
    rw [Int.tmod_eq_emod_of_nonneg (by omega), hr]
    split
    next g => rw [g, Int.emod_self]
    next g => exact Int.emod_eq_of_lt (by omega) (by omega)
  clear hr
  conv => lhs; rw [b_153_1]
  by_cases h : 0 < σ 87 p
  · rw [if_pos h]
    simp (disch := first | with_unfolding_all exact id rfl | with_unfolding_all exact ⟨rfl, by decide, Nat.le_of_ble_eq_true rfl⟩ | with_unfolding_all exact Nat.le_of_ble_eq_true rfl | omega) only [b_153_0, b_153_2, b_153_3, e_goto, e_fall, e_if0, e_if1, e_if2, e_if3, e_if4, e_if5, e_ic0, e_ic1, e_ic2, e_ic3, e_ic4, e_ic5, e_null_n, e_null_r, e_nonn_n, e_nonn_r, e_ret0, e_ret1, e_ret20, e_ret21, e_retb, e_ret3, e_ret4, e_pi, e_pj, e_pf, e_pn, e_iadd, e_isub, e_imul, e_iand, e_ixor, e_ishl, e_ishr, e_iushr, e_ladd, e_lsub, e_lmul, e_idiv, e_irem, e_ldiv, e_lrem, e_ineg, e_lneg, e_lcmp, e_i2l, e_l2f, e_f2i, e_i2b, e_fcg, e_fcl, e_dup, e_dupi, e_dup2, s_il, s_ll, s_fl, s_al, s_inc, e_is, e_ls, e_fs, e_aS, e_gi, e_gb, e_gj, s_gr, s_pfi, s_pfj, s_pfb, s_v1, s_v2, s_v3, s_v4, s_v5, s_v6, s_s1, s_s2, s_s3, s_s4, s_s5, s_s6, m_kI_I, m_kJ_J, m_kF_F, m_kR_R, m_ld0, m_ldS, m_st0, m_stS, m_s1, m_s2, m_kl, Option.bind_some, Option.toList_some, Option.toList_none, List.cons_append, List.nil_append, Nat.zero_add, Nat.reduceAdd, Nat.reduceSub, Nat.zero_sub, Nat.reduceEqDiff, Int.reduceLE, Int.reduceLT, Int.reduceEq, Int.reduceNe, Int.reduceAdd, Int.reduceSub, Int.reduceMul, Int.reduceNeg, Int.reduceToNat, Int.toNat_zero, Int.toNat_one, Int.zero_add, Int.zero_mul, Int.one_mul, ↓reduceIte, not_false_eq_true, not_true_eq_false, m_up_s, m_up_c, m_up_k, ne_eq, and_self, and_true, true_and, and_false, false_and, or_true, or_false, true_or, false_or, a_2, u_2, l_2, a_4, u_4, l_4, a_7, u_7, l_7, a_9, u_9, l_9, a_10, u_10, l_10, a_11, u_11, l_11, a_12, u_12, l_12, a_14, u_14, l_14, a_75, u_75, l_75, a_76, u_76, l_76, a_78, u_78, l_78, a_79, u_79, l_79, a_81, u_81, l_81, a_82, u_82, l_82, a_83, u_83, l_83, a_85, u_85, l_85, a_87, u_87, l_87, a_88, u_88, l_88, a_89, u_89, l_89, a_90, u_90, l_90, a_91, u_91, l_91, a_92, u_92, l_92, r_0_0, r_0_1, r_0_2, r_0_3, r_0_4, r_0_5, r_0_6, r_1_0, r_3_0, r_5_0, r_6_2, r_8_9, r_8_10, r_8_11, r_8_12, r_8_13, r_13_2, r_15_0, r_73_0, r_73_1, r_74_2, r_74_3, r_77_2, r_77_3, r_80_0, r_80_1, r_80_2, r_80_3, r_84_2, r_86_0, r_86_1, r_86_3, r_86_7, r_86_11, r_86_12, w_n1, w_0, w_1, w_2, w_3, w_4, w_5, w_6, w_7, w_8, w_9, w_10, w_11, w_12, w_13, w_14, w_15, w_16, w_17, w_18, w_19, w_20, w_21, w_22, w_23, w_24, w_25, w_26, w_27, w_28, w_29, w_30, w_31, w_32, w_33, w_34, w_35, w_36, w_37, w_38, w_39, w_40, w_41, w_42, w_43, w_44, w_45, w_46, w_47, w_48, w_49, w_50, w_51, w_52, w_53, w_54, w_55, w_56, w_57, w_58, w_59, w_60, w_61, w_62, w_63, w_64, w_65, w_66, w_67, w_68, w_69, w_n1000, w_n1001, w_n1002, w_n1003, w_65536, w_1103, w_377, w_127, w_126, w_128, w_536, w_469, t_0_0, t_0_1, t_0_2, t_0_d, t_1_0, t_1_1, t_1_2, t_1_3, t_1_4, t_1_5, t_1_6, t_1_7, t_1_8, t_1_9, t_1_10, t_1_11, t_1_12, t_1_13, t_1_d, t_2_0, t_2_1, t_2_2, t_2_3, t_2_4, t_2_5, t_2_6, t_2_7, t_2_8, t_2_9, t_2_10, t_2_11, t_2_12, t_2_13, t_2_d, t_3_0, t_3_1, t_3_2, t_3_3, t_3_4, t_3_5, t_3_6, t_3_7, t_3_8, t_3_9, t_3_10, t_3_11, t_3_12, t_3_13, t_3_14, t_3_15, t_3_16, t_3_17, t_3_18, t_3_19, t_3_20, t_3_21, t_3_22, t_3_23, t_3_24, t_3_25, t_3_d, v_0_32, v_0_45, v_0_47, v_0_d, e_tsw, e_lsw, q_le1, q_le0, q_lt1, q_lt0, q_eq1, q_eq0, Int.add_zero, m_ca, Int.reduceNatCast', m_bite, m_b0, m_b1, m_nn, m_tn, m_w_id, m_x_id]
  · rw [if_neg h]
    simp (disch := first | with_unfolding_all exact id rfl | with_unfolding_all exact ⟨rfl, by decide, Nat.le_of_ble_eq_true rfl⟩ | with_unfolding_all exact Nat.le_of_ble_eq_true rfl | omega) only [b_153_0, b_153_2, b_153_3, e_goto, e_fall, e_if0, e_if1, e_if2, e_if3, e_if4, e_if5, e_ic0, e_ic1, e_ic2, e_ic3, e_ic4, e_ic5, e_null_n, e_null_r, e_nonn_n, e_nonn_r, e_ret0, e_ret1, e_ret20, e_ret21, e_retb, e_ret3, e_ret4, e_pi, e_pj, e_pf, e_pn, e_iadd, e_isub, e_imul, e_iand, e_ixor, e_ishl, e_ishr, e_iushr, e_ladd, e_lsub, e_lmul, e_idiv, e_irem, e_ldiv, e_lrem, e_ineg, e_lneg, e_lcmp, e_i2l, e_l2f, e_f2i, e_i2b, e_fcg, e_fcl, e_dup, e_dupi, e_dup2, s_il, s_ll, s_fl, s_al, s_inc, e_is, e_ls, e_fs, e_aS, e_gi, e_gb, e_gj, s_gr, s_pfi, s_pfj, s_pfb, s_v1, s_v2, s_v3, s_v4, s_v5, s_v6, s_s1, s_s2, s_s3, s_s4, s_s5, s_s6, m_kI_I, m_kJ_J, m_kF_F, m_kR_R, m_ld0, m_ldS, m_st0, m_stS, m_s1, m_s2, m_kl, Option.bind_some, Option.toList_some, Option.toList_none, List.cons_append, List.nil_append, Nat.zero_add, Nat.reduceAdd, Nat.reduceSub, Nat.zero_sub, Nat.reduceEqDiff, Int.reduceLE, Int.reduceLT, Int.reduceEq, Int.reduceNe, Int.reduceAdd, Int.reduceSub, Int.reduceMul, Int.reduceNeg, Int.reduceToNat, Int.toNat_zero, Int.toNat_one, Int.zero_add, Int.zero_mul, Int.one_mul, ↓reduceIte, not_false_eq_true, not_true_eq_false, m_up_s, m_up_c, m_up_k, ne_eq, and_self, and_true, true_and, and_false, false_and, or_true, or_false, true_or, false_or, a_2, u_2, l_2, a_4, u_4, l_4, a_7, u_7, l_7, a_9, u_9, l_9, a_10, u_10, l_10, a_11, u_11, l_11, a_12, u_12, l_12, a_14, u_14, l_14, a_75, u_75, l_75, a_76, u_76, l_76, a_78, u_78, l_78, a_79, u_79, l_79, a_81, u_81, l_81, a_82, u_82, l_82, a_83, u_83, l_83, a_85, u_85, l_85, a_87, u_87, l_87, a_88, u_88, l_88, a_89, u_89, l_89, a_90, u_90, l_90, a_91, u_91, l_91, a_92, u_92, l_92, r_0_0, r_0_1, r_0_2, r_0_3, r_0_4, r_0_5, r_0_6, r_1_0, r_3_0, r_5_0, r_6_2, r_8_9, r_8_10, r_8_11, r_8_12, r_8_13, r_13_2, r_15_0, r_73_0, r_73_1, r_74_2, r_74_3, r_77_2, r_77_3, r_80_0, r_80_1, r_80_2, r_80_3, r_84_2, r_86_0, r_86_1, r_86_3, r_86_7, r_86_11, r_86_12, w_n1, w_0, w_1, w_2, w_3, w_4, w_5, w_6, w_7, w_8, w_9, w_10, w_11, w_12, w_13, w_14, w_15, w_16, w_17, w_18, w_19, w_20, w_21, w_22, w_23, w_24, w_25, w_26, w_27, w_28, w_29, w_30, w_31, w_32, w_33, w_34, w_35, w_36, w_37, w_38, w_39, w_40, w_41, w_42, w_43, w_44, w_45, w_46, w_47, w_48, w_49, w_50, w_51, w_52, w_53, w_54, w_55, w_56, w_57, w_58, w_59, w_60, w_61, w_62, w_63, w_64, w_65, w_66, w_67, w_68, w_69, w_n1000, w_n1001, w_n1002, w_n1003, w_65536, w_1103, w_377, w_127, w_126, w_128, w_536, w_469, t_0_0, t_0_1, t_0_2, t_0_d, t_1_0, t_1_1, t_1_2, t_1_3, t_1_4, t_1_5, t_1_6, t_1_7, t_1_8, t_1_9, t_1_10, t_1_11, t_1_12, t_1_13, t_1_d, t_2_0, t_2_1, t_2_2, t_2_3, t_2_4, t_2_5, t_2_6, t_2_7, t_2_8, t_2_9, t_2_10, t_2_11, t_2_12, t_2_13, t_2_d, t_3_0, t_3_1, t_3_2, t_3_3, t_3_4, t_3_5, t_3_6, t_3_7, t_3_8, t_3_9, t_3_10, t_3_11, t_3_12, t_3_13, t_3_14, t_3_15, t_3_16, t_3_17, t_3_18, t_3_19, t_3_20, t_3_21, t_3_22, t_3_23, t_3_24, t_3_25, t_3_d, v_0_32, v_0_45, v_0_47, v_0_d, e_tsw, e_lsw, q_le1, q_le0, q_lt1, q_lt0, q_eq1, q_eq0, Int.add_zero, m_ca, Int.reduceNatCast', m_bite, m_b0, m_b1, m_nn, m_tn, m_w_id, m_x_id, et]
theorem d_fr20 (hP : σ 87 40 = 2) (hd : 0 ≤ σ 87 0 ∧ 0 ≤ σ 87 1 ∧ 0 ≤ σ 87 2 ∧ 0 ≤ σ 87 3 ∧ 0 ≤ σ 87 4) (hz : (σ 87 40 ≤ 2 → σ 87 2 = 0) ∧ (σ 87 40 ≤ 3 → σ 87 3 = 0) ∧ (σ 87 40 ≤ 4 → σ 87 4 = 0)) (ha : 1 ≤ sAl (σ 87)) : m_e none (m_ev d) 153 (m_blk 153 1) [m_R 86, m_I q, m_I (0 : Nat)] [] (m_G0, σ) = some (some (m_I (sFr (σ 87) 0)), (m_G0, σ)) := by
  unfold sAl at ha
  rw [d_frs (by omega) (p := 0) (r := 1) (by omega) (by omega) (by omega)]
  split
  · refine m_qI ?_
    simp (disch := omega) only [sFr, sF1, Int.reduceLE, q_lt1, q_lt0, true_and, false_and, and_false, and_true, if_true, if_false, ↓reduceIte]
    rfl
  rw [d_frs (by omega) (p := 1) (r := 0) (by omega) (by omega) (by omega)]
  split
  · refine m_qI ?_
    simp (disch := omega) only [sFr, sF1, Int.reduceLE, q_lt1, q_lt0, true_and, false_and, and_false, and_true, if_true, if_false, ↓reduceIte]
    rfl
  exfalso
  (repeat' split at ha) <;> omega
theorem d_fr21 (hP : σ 87 40 = 2) (hd : 0 ≤ σ 87 0 ∧ 0 ≤ σ 87 1 ∧ 0 ≤ σ 87 2 ∧ 0 ≤ σ 87 3 ∧ 0 ≤ σ 87 4) (hz : (σ 87 40 ≤ 2 → σ 87 2 = 0) ∧ (σ 87 40 ≤ 3 → σ 87 3 = 0) ∧ (σ 87 40 ≤ 4 → σ 87 4 = 0)) (ha : 1 ≤ sAl (σ 87)) : m_e none (m_ev d) 153 (m_blk 153 1) [m_R 86, m_I q, m_I (1 : Nat)] [] (m_G0, σ) = some (some (m_I (sFr (σ 87) 1)), (m_G0, σ)) := by
  unfold sAl at ha
  rw [d_frs (by omega) (p := 1) (r := 0) (by omega) (by omega) (by omega)]
  split
  · refine m_qI ?_
    simp (disch := omega) only [sFr, sF1, Int.reduceLE, q_lt1, q_lt0, true_and, false_and, and_false, and_true, if_true, if_false, ↓reduceIte]
    rfl
  rw [d_frs (by omega) (p := 0) (r := 1) (by omega) (by omega) (by omega)]
  split
  · refine m_qI ?_
    simp (disch := omega) only [sFr, sF1, Int.reduceLE, q_lt1, q_lt0, true_and, false_and, and_false, and_true, if_true, if_false, ↓reduceIte]
    rfl
  exfalso
  (repeat' split at ha) <;> omega
theorem d_fr30 (hP : σ 87 40 = 3) (hd : 0 ≤ σ 87 0 ∧ 0 ≤ σ 87 1 ∧ 0 ≤ σ 87 2 ∧ 0 ≤ σ 87 3 ∧ 0 ≤ σ 87 4) (hz : (σ 87 40 ≤ 2 → σ 87 2 = 0) ∧ (σ 87 40 ≤ 3 → σ 87 3 = 0) ∧ (σ 87 40 ≤ 4 → σ 87 4 = 0)) (ha : 1 ≤ sAl (σ 87)) : m_e none (m_ev d) 153 (m_blk 153 1) [m_R 86, m_I q, m_I (0 : Nat)] [] (m_G0, σ) = some (some (m_I (sFr (σ 87) 0)), (m_G0, σ)) := by
  unfold sAl at ha
  rw [d_frs (by omega) (p := 0) (r := 1) (by omega) (by omega) (by omega)]
  split
  · refine m_qI ?_
    simp (disch := omega) only [sFr, sF1, Int.reduceLE, q_lt1, q_lt0, true_and, false_and, and_false, and_true, if_true, if_false, ↓reduceIte]
    rfl
  rw [d_frs (by omega) (p := 1) (r := 2) (by omega) (by omega) (by omega)]
  split
  · refine m_qI ?_
    simp (disch := omega) only [sFr, sF1, Int.reduceLE, q_lt1, q_lt0, true_and, false_and, and_false, and_true, if_true, if_false, ↓reduceIte]
    rfl
  rw [d_frs (by omega) (p := 2) (r := 0) (by omega) (by omega) (by omega)]
  split
  · refine m_qI ?_
    simp (disch := omega) only [sFr, sF1, Int.reduceLE, q_lt1, q_lt0, true_and, false_and, and_false, and_true, if_true, if_false, ↓reduceIte]
    rfl
  exfalso
  (repeat' split at ha) <;> omega
theorem d_fr31 (hP : σ 87 40 = 3) (hd : 0 ≤ σ 87 0 ∧ 0 ≤ σ 87 1 ∧ 0 ≤ σ 87 2 ∧ 0 ≤ σ 87 3 ∧ 0 ≤ σ 87 4) (hz : (σ 87 40 ≤ 2 → σ 87 2 = 0) ∧ (σ 87 40 ≤ 3 → σ 87 3 = 0) ∧ (σ 87 40 ≤ 4 → σ 87 4 = 0)) (ha : 1 ≤ sAl (σ 87)) : m_e none (m_ev d) 153 (m_blk 153 1) [m_R 86, m_I q, m_I (1 : Nat)] [] (m_G0, σ) = some (some (m_I (sFr (σ 87) 1)), (m_G0, σ)) := by
  unfold sAl at ha
  rw [d_frs (by omega) (p := 1) (r := 2) (by omega) (by omega) (by omega)]
  split
  · refine m_qI ?_
    simp (disch := omega) only [sFr, sF1, Int.reduceLE, q_lt1, q_lt0, true_and, false_and, and_false, and_true, if_true, if_false, ↓reduceIte]
    rfl
  rw [d_frs (by omega) (p := 2) (r := 0) (by omega) (by omega) (by omega)]
  split
  · refine m_qI ?_
    simp (disch := omega) only [sFr, sF1, Int.reduceLE, q_lt1, q_lt0, true_and, false_and, and_false, and_true, if_true, if_false, ↓reduceIte]
    rfl
  rw [d_frs (by omega) (p := 0) (r := 1) (by omega) (by omega) (by omega)]
  split
  · refine m_qI ?_
    simp (disch := omega) only [sFr, sF1, Int.reduceLE, q_lt1, q_lt0, true_and, false_and, and_false, and_true, if_true, if_false, ↓reduceIte]
    rfl
  exfalso
  (repeat' split at ha) <;> omega
theorem d_fr32 (hP : σ 87 40 = 3) (hd : 0 ≤ σ 87 0 ∧ 0 ≤ σ 87 1 ∧ 0 ≤ σ 87 2 ∧ 0 ≤ σ 87 3 ∧ 0 ≤ σ 87 4) (hz : (σ 87 40 ≤ 2 → σ 87 2 = 0) ∧ (σ 87 40 ≤ 3 → σ 87 3 = 0) ∧ (σ 87 40 ≤ 4 → σ 87 4 = 0)) (ha : 1 ≤ sAl (σ 87)) : m_e none (m_ev d) 153 (m_blk 153 1) [m_R 86, m_I q, m_I (2 : Nat)] [] (m_G0, σ) = some (some (m_I (sFr (σ 87) 2)), (m_G0, σ)) := by
  unfold sAl at ha
  rw [d_frs (by omega) (p := 2) (r := 0) (by omega) (by omega) (by omega)]
  split
  · refine m_qI ?_
    simp (disch := omega) only [sFr, sF1, Int.reduceLE, q_lt1, q_lt0, true_and, false_and, and_false, and_true, if_true, if_false, ↓reduceIte]
    rfl
  rw [d_frs (by omega) (p := 0) (r := 1) (by omega) (by omega) (by omega)]
  split
  · refine m_qI ?_
    simp (disch := omega) only [sFr, sF1, Int.reduceLE, q_lt1, q_lt0, true_and, false_and, and_false, and_true, if_true, if_false, ↓reduceIte]
    rfl
  rw [d_frs (by omega) (p := 1) (r := 2) (by omega) (by omega) (by omega)]
  split
  · refine m_qI ?_
    simp (disch := omega) only [sFr, sF1, Int.reduceLE, q_lt1, q_lt0, true_and, false_and, and_false, and_true, if_true, if_false, ↓reduceIte]
    rfl
  exfalso
  (repeat' split at ha) <;> omega
theorem d_fr40 (hP : σ 87 40 = 4) (hd : 0 ≤ σ 87 0 ∧ 0 ≤ σ 87 1 ∧ 0 ≤ σ 87 2 ∧ 0 ≤ σ 87 3 ∧ 0 ≤ σ 87 4) (hz : (σ 87 40 ≤ 2 → σ 87 2 = 0) ∧ (σ 87 40 ≤ 3 → σ 87 3 = 0) ∧ (σ 87 40 ≤ 4 → σ 87 4 = 0)) (ha : 1 ≤ sAl (σ 87)) : m_e none (m_ev d) 153 (m_blk 153 1) [m_R 86, m_I q, m_I (0 : Nat)] [] (m_G0, σ) = some (some (m_I (sFr (σ 87) 0)), (m_G0, σ)) := by
  unfold sAl at ha
  rw [d_frs (by omega) (p := 0) (r := 1) (by omega) (by omega) (by omega)]
  split
  · refine m_qI ?_
    simp (disch := omega) only [sFr, sF1, Int.reduceLE, q_lt1, q_lt0, true_and, false_and, and_false, and_true, if_true, if_false, ↓reduceIte]
    rfl
  rw [d_frs (by omega) (p := 1) (r := 2) (by omega) (by omega) (by omega)]
  split
  · refine m_qI ?_
    simp (disch := omega) only [sFr, sF1, Int.reduceLE, q_lt1, q_lt0, true_and, false_and, and_false, and_true, if_true, if_false, ↓reduceIte]
    rfl
  rw [d_frs (by omega) (p := 2) (r := 3) (by omega) (by omega) (by omega)]
  split
  · refine m_qI ?_
    simp (disch := omega) only [sFr, sF1, Int.reduceLE, q_lt1, q_lt0, true_and, false_and, and_false, and_true, if_true, if_false, ↓reduceIte]
    rfl
  rw [d_frs (by omega) (p := 3) (r := 0) (by omega) (by omega) (by omega)]
  split
  · refine m_qI ?_
    simp (disch := omega) only [sFr, sF1, Int.reduceLE, q_lt1, q_lt0, true_and, false_and, and_false, and_true, if_true, if_false, ↓reduceIte]
    rfl
  exfalso
  (repeat' split at ha) <;> omega
theorem d_fr41 (hP : σ 87 40 = 4) (hd : 0 ≤ σ 87 0 ∧ 0 ≤ σ 87 1 ∧ 0 ≤ σ 87 2 ∧ 0 ≤ σ 87 3 ∧ 0 ≤ σ 87 4) (hz : (σ 87 40 ≤ 2 → σ 87 2 = 0) ∧ (σ 87 40 ≤ 3 → σ 87 3 = 0) ∧ (σ 87 40 ≤ 4 → σ 87 4 = 0)) (ha : 1 ≤ sAl (σ 87)) : m_e none (m_ev d) 153 (m_blk 153 1) [m_R 86, m_I q, m_I (1 : Nat)] [] (m_G0, σ) = some (some (m_I (sFr (σ 87) 1)), (m_G0, σ)) := by
  unfold sAl at ha
  rw [d_frs (by omega) (p := 1) (r := 2) (by omega) (by omega) (by omega)]
  split
  · refine m_qI ?_
    simp (disch := omega) only [sFr, sF1, Int.reduceLE, q_lt1, q_lt0, true_and, false_and, and_false, and_true, if_true, if_false, ↓reduceIte]
    rfl
  rw [d_frs (by omega) (p := 2) (r := 3) (by omega) (by omega) (by omega)]
  split
  · refine m_qI ?_
    simp (disch := omega) only [sFr, sF1, Int.reduceLE, q_lt1, q_lt0, true_and, false_and, and_false, and_true, if_true, if_false, ↓reduceIte]
    rfl
  rw [d_frs (by omega) (p := 3) (r := 0) (by omega) (by omega) (by omega)]
  split
  · refine m_qI ?_
    simp (disch := omega) only [sFr, sF1, Int.reduceLE, q_lt1, q_lt0, true_and, false_and, and_false, and_true, if_true, if_false, ↓reduceIte]
    rfl
  rw [d_frs (by omega) (p := 0) (r := 1) (by omega) (by omega) (by omega)]
  split
  · refine m_qI ?_
    simp (disch := omega) only [sFr, sF1, Int.reduceLE, q_lt1, q_lt0, true_and, false_and, and_false, and_true, if_true, if_false, ↓reduceIte]
    rfl
  exfalso
  (repeat' split at ha) <;> omega
theorem d_fr42 (hP : σ 87 40 = 4) (hd : 0 ≤ σ 87 0 ∧ 0 ≤ σ 87 1 ∧ 0 ≤ σ 87 2 ∧ 0 ≤ σ 87 3 ∧ 0 ≤ σ 87 4) (hz : (σ 87 40 ≤ 2 → σ 87 2 = 0) ∧ (σ 87 40 ≤ 3 → σ 87 3 = 0) ∧ (σ 87 40 ≤ 4 → σ 87 4 = 0)) (ha : 1 ≤ sAl (σ 87)) : m_e none (m_ev d) 153 (m_blk 153 1) [m_R 86, m_I q, m_I (2 : Nat)] [] (m_G0, σ) = some (some (m_I (sFr (σ 87) 2)), (m_G0, σ)) := by
  unfold sAl at ha
  rw [d_frs (by omega) (p := 2) (r := 3) (by omega) (by omega) (by omega)]
  split
  · refine m_qI ?_
    simp (disch := omega) only [sFr, sF1, Int.reduceLE, q_lt1, q_lt0, true_and, false_and, and_false, and_true, if_true, if_false, ↓reduceIte]
    rfl
  rw [d_frs (by omega) (p := 3) (r := 0) (by omega) (by omega) (by omega)]
  split
  · refine m_qI ?_
    simp (disch := omega) only [sFr, sF1, Int.reduceLE, q_lt1, q_lt0, true_and, false_and, and_false, and_true, if_true, if_false, ↓reduceIte]
    rfl
  rw [d_frs (by omega) (p := 0) (r := 1) (by omega) (by omega) (by omega)]
  split
  · refine m_qI ?_
    simp (disch := omega) only [sFr, sF1, Int.reduceLE, q_lt1, q_lt0, true_and, false_and, and_false, and_true, if_true, if_false, ↓reduceIte]
    rfl
  rw [d_frs (by omega) (p := 1) (r := 2) (by omega) (by omega) (by omega)]
  split
  · refine m_qI ?_
    simp (disch := omega) only [sFr, sF1, Int.reduceLE, q_lt1, q_lt0, true_and, false_and, and_false, and_true, if_true, if_false, ↓reduceIte]
    rfl
  exfalso
  (repeat' split at ha) <;> omega
theorem d_fr43 (hP : σ 87 40 = 4) (hd : 0 ≤ σ 87 0 ∧ 0 ≤ σ 87 1 ∧ 0 ≤ σ 87 2 ∧ 0 ≤ σ 87 3 ∧ 0 ≤ σ 87 4) (hz : (σ 87 40 ≤ 2 → σ 87 2 = 0) ∧ (σ 87 40 ≤ 3 → σ 87 3 = 0) ∧ (σ 87 40 ≤ 4 → σ 87 4 = 0)) (ha : 1 ≤ sAl (σ 87)) : m_e none (m_ev d) 153 (m_blk 153 1) [m_R 86, m_I q, m_I (3 : Nat)] [] (m_G0, σ) = some (some (m_I (sFr (σ 87) 3)), (m_G0, σ)) := by
  unfold sAl at ha
  rw [d_frs (by omega) (p := 3) (r := 0) (by omega) (by omega) (by omega)]
  split
  · refine m_qI ?_
    simp (disch := omega) only [sFr, sF1, Int.reduceLE, q_lt1, q_lt0, true_and, false_and, and_false, and_true, if_true, if_false, ↓reduceIte]
    rfl
  rw [d_frs (by omega) (p := 0) (r := 1) (by omega) (by omega) (by omega)]
  split
  · refine m_qI ?_
    simp (disch := omega) only [sFr, sF1, Int.reduceLE, q_lt1, q_lt0, true_and, false_and, and_false, and_true, if_true, if_false, ↓reduceIte]
    rfl
  rw [d_frs (by omega) (p := 1) (r := 2) (by omega) (by omega) (by omega)]
  split
  · refine m_qI ?_
    simp (disch := omega) only [sFr, sF1, Int.reduceLE, q_lt1, q_lt0, true_and, false_and, and_false, and_true, if_true, if_false, ↓reduceIte]
    rfl
  rw [d_frs (by omega) (p := 2) (r := 3) (by omega) (by omega) (by omega)]
  split
  · refine m_qI ?_
    simp (disch := omega) only [sFr, sF1, Int.reduceLE, q_lt1, q_lt0, true_and, false_and, and_false, and_true, if_true, if_false, ↓reduceIte]
    rfl
  exfalso
  (repeat' split at ha) <;> omega
theorem d_fr50 (hP : σ 87 40 = 5) (hd : 0 ≤ σ 87 0 ∧ 0 ≤ σ 87 1 ∧ 0 ≤ σ 87 2 ∧ 0 ≤ σ 87 3 ∧ 0 ≤ σ 87 4) (hz : (σ 87 40 ≤ 2 → σ 87 2 = 0) ∧ (σ 87 40 ≤ 3 → σ 87 3 = 0) ∧ (σ 87 40 ≤ 4 → σ 87 4 = 0)) (ha : 1 ≤ sAl (σ 87)) : m_e none (m_ev d) 153 (m_blk 153 1) [m_R 86, m_I q, m_I (0 : Nat)] [] (m_G0, σ) = some (some (m_I (sFr (σ 87) 0)), (m_G0, σ)) := by
  unfold sAl at ha
  rw [d_frs (by omega) (p := 0) (r := 1) (by omega) (by omega) (by omega)]
  split
  · refine m_qI ?_
    simp (disch := omega) only [sFr, sF1, Int.reduceLE, q_lt1, q_lt0, true_and, false_and, and_false, and_true, if_true, if_false, ↓reduceIte]
    rfl
  rw [d_frs (by omega) (p := 1) (r := 2) (by omega) (by omega) (by omega)]
  split
  · refine m_qI ?_
    simp (disch := omega) only [sFr, sF1, Int.reduceLE, q_lt1, q_lt0, true_and, false_and, and_false, and_true, if_true, if_false, ↓reduceIte]
    rfl
  rw [d_frs (by omega) (p := 2) (r := 3) (by omega) (by omega) (by omega)]
  split
  · refine m_qI ?_
    simp (disch := omega) only [sFr, sF1, Int.reduceLE, q_lt1, q_lt0, true_and, false_and, and_false, and_true, if_true, if_false, ↓reduceIte]
    rfl
  rw [d_frs (by omega) (p := 3) (r := 4) (by omega) (by omega) (by omega)]
  split
  · refine m_qI ?_
    simp (disch := omega) only [sFr, sF1, Int.reduceLE, q_lt1, q_lt0, true_and, false_and, and_false, and_true, if_true, if_false, ↓reduceIte]
    rfl
  rw [d_frs (by omega) (p := 4) (r := 0) (by omega) (by omega) (by omega)]
  split
  · refine m_qI ?_
    simp (disch := omega) only [sFr, sF1, Int.reduceLE, q_lt1, q_lt0, true_and, false_and, and_false, and_true, if_true, if_false, ↓reduceIte]
    rfl
  exfalso
  (repeat' split at ha) <;> omega
theorem d_fr51 (hP : σ 87 40 = 5) (hd : 0 ≤ σ 87 0 ∧ 0 ≤ σ 87 1 ∧ 0 ≤ σ 87 2 ∧ 0 ≤ σ 87 3 ∧ 0 ≤ σ 87 4) (hz : (σ 87 40 ≤ 2 → σ 87 2 = 0) ∧ (σ 87 40 ≤ 3 → σ 87 3 = 0) ∧ (σ 87 40 ≤ 4 → σ 87 4 = 0)) (ha : 1 ≤ sAl (σ 87)) : m_e none (m_ev d) 153 (m_blk 153 1) [m_R 86, m_I q, m_I (1 : Nat)] [] (m_G0, σ) = some (some (m_I (sFr (σ 87) 1)), (m_G0, σ)) := by
  unfold sAl at ha
  rw [d_frs (by omega) (p := 1) (r := 2) (by omega) (by omega) (by omega)]
  split
  · refine m_qI ?_
    simp (disch := omega) only [sFr, sF1, Int.reduceLE, q_lt1, q_lt0, true_and, false_and, and_false, and_true, if_true, if_false, ↓reduceIte]
    rfl
  rw [d_frs (by omega) (p := 2) (r := 3) (by omega) (by omega) (by omega)]
  split
  · refine m_qI ?_
    simp (disch := omega) only [sFr, sF1, Int.reduceLE, q_lt1, q_lt0, true_and, false_and, and_false, and_true, if_true, if_false, ↓reduceIte]
    rfl
  rw [d_frs (by omega) (p := 3) (r := 4) (by omega) (by omega) (by omega)]
  split
  · refine m_qI ?_
    simp (disch := omega) only [sFr, sF1, Int.reduceLE, q_lt1, q_lt0, true_and, false_and, and_false, and_true, if_true, if_false, ↓reduceIte]
    rfl
  rw [d_frs (by omega) (p := 4) (r := 0) (by omega) (by omega) (by omega)]
  split
  · refine m_qI ?_
    simp (disch := omega) only [sFr, sF1, Int.reduceLE, q_lt1, q_lt0, true_and, false_and, and_false, and_true, if_true, if_false, ↓reduceIte]
    rfl
  rw [d_frs (by omega) (p := 0) (r := 1) (by omega) (by omega) (by omega)]
  split
  · refine m_qI ?_
    simp (disch := omega) only [sFr, sF1, Int.reduceLE, q_lt1, q_lt0, true_and, false_and, and_false, and_true, if_true, if_false, ↓reduceIte]
    rfl
  exfalso
  (repeat' split at ha) <;> omega
theorem d_fr52 (hP : σ 87 40 = 5) (hd : 0 ≤ σ 87 0 ∧ 0 ≤ σ 87 1 ∧ 0 ≤ σ 87 2 ∧ 0 ≤ σ 87 3 ∧ 0 ≤ σ 87 4) (hz : (σ 87 40 ≤ 2 → σ 87 2 = 0) ∧ (σ 87 40 ≤ 3 → σ 87 3 = 0) ∧ (σ 87 40 ≤ 4 → σ 87 4 = 0)) (ha : 1 ≤ sAl (σ 87)) : m_e none (m_ev d) 153 (m_blk 153 1) [m_R 86, m_I q, m_I (2 : Nat)] [] (m_G0, σ) = some (some (m_I (sFr (σ 87) 2)), (m_G0, σ)) := by
  unfold sAl at ha
  rw [d_frs (by omega) (p := 2) (r := 3) (by omega) (by omega) (by omega)]
  split
  · refine m_qI ?_
    simp (disch := omega) only [sFr, sF1, Int.reduceLE, q_lt1, q_lt0, true_and, false_and, and_false, and_true, if_true, if_false, ↓reduceIte]
    rfl
  rw [d_frs (by omega) (p := 3) (r := 4) (by omega) (by omega) (by omega)]
  split
  · refine m_qI ?_
    simp (disch := omega) only [sFr, sF1, Int.reduceLE, q_lt1, q_lt0, true_and, false_and, and_false, and_true, if_true, if_false, ↓reduceIte]
    rfl
  rw [d_frs (by omega) (p := 4) (r := 0) (by omega) (by omega) (by omega)]
  split
  · refine m_qI ?_
    simp (disch := omega) only [sFr, sF1, Int.reduceLE, q_lt1, q_lt0, true_and, false_and, and_false, and_true, if_true, if_false, ↓reduceIte]
    rfl
  rw [d_frs (by omega) (p := 0) (r := 1) (by omega) (by omega) (by omega)]
  split
  · refine m_qI ?_
    simp (disch := omega) only [sFr, sF1, Int.reduceLE, q_lt1, q_lt0, true_and, false_and, and_false, and_true, if_true, if_false, ↓reduceIte]
    rfl
  rw [d_frs (by omega) (p := 1) (r := 2) (by omega) (by omega) (by omega)]
  split
  · refine m_qI ?_
    simp (disch := omega) only [sFr, sF1, Int.reduceLE, q_lt1, q_lt0, true_and, false_and, and_false, and_true, if_true, if_false, ↓reduceIte]
    rfl
  exfalso
  (repeat' split at ha) <;> omega
theorem d_fr53 (hP : σ 87 40 = 5) (hd : 0 ≤ σ 87 0 ∧ 0 ≤ σ 87 1 ∧ 0 ≤ σ 87 2 ∧ 0 ≤ σ 87 3 ∧ 0 ≤ σ 87 4) (hz : (σ 87 40 ≤ 2 → σ 87 2 = 0) ∧ (σ 87 40 ≤ 3 → σ 87 3 = 0) ∧ (σ 87 40 ≤ 4 → σ 87 4 = 0)) (ha : 1 ≤ sAl (σ 87)) : m_e none (m_ev d) 153 (m_blk 153 1) [m_R 86, m_I q, m_I (3 : Nat)] [] (m_G0, σ) = some (some (m_I (sFr (σ 87) 3)), (m_G0, σ)) := by
  unfold sAl at ha
  rw [d_frs (by omega) (p := 3) (r := 4) (by omega) (by omega) (by omega)]
  split
  · refine m_qI ?_
    simp (disch := omega) only [sFr, sF1, Int.reduceLE, q_lt1, q_lt0, true_and, false_and, and_false, and_true, if_true, if_false, ↓reduceIte]
    rfl
  rw [d_frs (by omega) (p := 4) (r := 0) (by omega) (by omega) (by omega)]
  split
  · refine m_qI ?_
    simp (disch := omega) only [sFr, sF1, Int.reduceLE, q_lt1, q_lt0, true_and, false_and, and_false, and_true, if_true, if_false, ↓reduceIte]
    rfl
  rw [d_frs (by omega) (p := 0) (r := 1) (by omega) (by omega) (by omega)]
  split
  · refine m_qI ?_
    simp (disch := omega) only [sFr, sF1, Int.reduceLE, q_lt1, q_lt0, true_and, false_and, and_false, and_true, if_true, if_false, ↓reduceIte]
    rfl
  rw [d_frs (by omega) (p := 1) (r := 2) (by omega) (by omega) (by omega)]
  split
  · refine m_qI ?_
    simp (disch := omega) only [sFr, sF1, Int.reduceLE, q_lt1, q_lt0, true_and, false_and, and_false, and_true, if_true, if_false, ↓reduceIte]
    rfl
  rw [d_frs (by omega) (p := 2) (r := 3) (by omega) (by omega) (by omega)]
  split
  · refine m_qI ?_
    simp (disch := omega) only [sFr, sF1, Int.reduceLE, q_lt1, q_lt0, true_and, false_and, and_false, and_true, if_true, if_false, ↓reduceIte]
    rfl
  exfalso
  (repeat' split at ha) <;> omega
theorem d_fr54 (hP : σ 87 40 = 5) (hd : 0 ≤ σ 87 0 ∧ 0 ≤ σ 87 1 ∧ 0 ≤ σ 87 2 ∧ 0 ≤ σ 87 3 ∧ 0 ≤ σ 87 4) (hz : (σ 87 40 ≤ 2 → σ 87 2 = 0) ∧ (σ 87 40 ≤ 3 → σ 87 3 = 0) ∧ (σ 87 40 ≤ 4 → σ 87 4 = 0)) (ha : 1 ≤ sAl (σ 87)) : m_e none (m_ev d) 153 (m_blk 153 1) [m_R 86, m_I q, m_I (4 : Nat)] [] (m_G0, σ) = some (some (m_I (sFr (σ 87) 4)), (m_G0, σ)) := by
  unfold sAl at ha
  rw [d_frs (by omega) (p := 4) (r := 0) (by omega) (by omega) (by omega)]
  split
  · refine m_qI ?_
    simp (disch := omega) only [sFr, sF1, Int.reduceLE, q_lt1, q_lt0, true_and, false_and, and_false, and_true, if_true, if_false, ↓reduceIte]
    rfl
  rw [d_frs (by omega) (p := 0) (r := 1) (by omega) (by omega) (by omega)]
  split
  · refine m_qI ?_
    simp (disch := omega) only [sFr, sF1, Int.reduceLE, q_lt1, q_lt0, true_and, false_and, and_false, and_true, if_true, if_false, ↓reduceIte]
    rfl
  rw [d_frs (by omega) (p := 1) (r := 2) (by omega) (by omega) (by omega)]
  split
  · refine m_qI ?_
    simp (disch := omega) only [sFr, sF1, Int.reduceLE, q_lt1, q_lt0, true_and, false_and, and_false, and_true, if_true, if_false, ↓reduceIte]
    rfl
  rw [d_frs (by omega) (p := 2) (r := 3) (by omega) (by omega) (by omega)]
  split
  · refine m_qI ?_
    simp (disch := omega) only [sFr, sF1, Int.reduceLE, q_lt1, q_lt0, true_and, false_and, and_false, and_true, if_true, if_false, ↓reduceIte]
    rfl
  rw [d_frs (by omega) (p := 3) (r := 4) (by omega) (by omega) (by omega)]
  split
  · refine m_qI ?_
    simp (disch := omega) only [sFr, sF1, Int.reduceLE, q_lt1, q_lt0, true_and, false_and, and_false, and_true, if_true, if_false, ↓reduceIte]
    rfl
  exfalso
  (repeat' split at ha) <;> omega
end FR
