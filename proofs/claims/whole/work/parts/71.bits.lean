/-! sets as numbers -/
def sBi (R i : Nat) : Nat := R / 2 ^ i % 2
def sCn (R : Nat) : Nat → Nat
  | 0 => 0
  | r + 1 => sCn R r + sBi R r
def sPc (R : Nat) : Nat := sCn R 4
def sLo (R : Nat) : Nat := if sBi R 0 = 1 then 0 else if sBi R 1 = 1 then 1 else if sBi R 2 = 1 then 2 else 3
theorem sBi_2 (R i : Nat) : sBi R i = 0 ∨ sBi R i = 1 := by unfold sBi; omega
theorem bt_and : ∀ R : Nat, R < 16 → ∀ c : Nat, c < 4 → m_and (m_shr (R : Int) (c : Int)) 1 = ((sBi R c : Nat) : Int) := by decide +kernel
theorem bt_shl : ∀ c : Nat, c < 5 → m_shl 1 (c : Int) = ((2 ^ c : Nat) : Int) := by decide +kernel
theorem bt_xor : ∀ R : Nat, R < 16 → ∀ c : Nat, c < 4 → sBi R c = 1 → m_xor (R : Int) ((2 ^ c : Nat) : Int) = ((R - 2 ^ c : Nat) : Int) := by decide +kernel
theorem bt_not : ∀ R : Nat, R < 16 → ∀ c : Nat, c < 4 → sBi R c = 1 → m_and (R : Int) (m_xor ((2 ^ c : Nat) : Int) (-1)) = ((R - 2 ^ c : Nat) : Int) := by decide +kernel
theorem bt_low : ∀ R : Nat, R < 16 → ∀ c : Nat, c < 4 → m_and (R : Int) (((2 ^ c : Nat) : Int) - 1) = ((R % 2 ^ c : Nat) : Int) := by decide +kernel
theorem bt_cn : ∀ R : Nat, R < 16 → ∀ c : Nat, c < 4 → sPc (R % 2 ^ c) = sCn R c := by decide +kernel
theorem bt_sub : ∀ R : Nat, R < 16 → ∀ c : Nat, c < 4 → sBi R c = 1 → sPc R = sPc (R - 2 ^ c) + 1 ∧ R - 2 ^ c < R := by decide +kernel
theorem bt_lo : ∀ R : Nat, R < 16 → 0 < R → sLo R < 4 ∧ sBi R (sLo R) = 1 := by decide +kernel
theorem bt_rc : ∀ n : Nat, n < 5 → ∀ R : Nat, R < 2 ^ n → ∀ c : Nat, c < 4 → sBi R c = 1 → c < n := by decide +kernel
theorem bt_sm : ∀ n : Nat, n < 5 → ∀ R : Nat, R < 2 ^ n → R < 16 := by decide +kernel
theorem bt_0 : ∀ R : Nat, R < 16 → sPc R = 0 → R = 0 := by decide +kernel
theorem bt_4 : ∀ R : Nat, R < 16 → sPc R ≤ 4 := by decide +kernel
def sBq (x : Int) : Int :=
  let a1 := m_w (x - m_and (m_ush x 1) 1431655765)
  let a2 := m_w (m_and a1 858993459 + m_and (m_ush a1 2) 858993459)
  let a3 := m_and (m_w (a2 + m_ush a2 4)) 252645135
  let a4 := m_w (a3 + m_ush a3 8)
  m_and (m_w (a4 + m_ush a4 16)) 63
theorem bt_pc : ∀ R : Nat, R < 16 → sBq (R : Int) = ((sPc R : Nat) : Int) := by decide +kernel
section BS
variable {d : Nat} {σ : Nat → Nat → Int} {R : Nat} {c : Int}
theorem c_bc (h : R < 16) : m_ev (d + 1) 72 [m_I (R : Int)] (m_G0, σ) = some (some (m_I ((sPc R : Nat) : Int)), (m_G0, σ)) := by
  rw [← bt_pc R h, i_72]
  obtain ⟨x, hx⟩ : ∃ x, x = (R : Int) := ⟨_, rfl⟩
  rw [← hx]
  unfold sBq
  conv => lhs; rw [b_72_0]
  simp only [s_il, m_kI_I, m_ld0, e_pi, e_iushr, e_iand, e_isub, e_iadd, e_is, m_s1, m_kl, m_st0, m_stS, e_ret1, Nat.zero_sub]
theorem c_isi (h : R < 16) (hc : 0 ≤ c ∧ c < 4) : m_ev (d + 1) 74 [m_I (R : Int), m_I c] (m_G0, σ) = some (some (m_I ((sBi R c.toNat : Nat) : Int)), (m_G0, σ)) := by
  have e := bt_and R h c.toNat (by omega)
  rw [Int.toNat_of_nonneg hc.1] at e
  rw [i_74]
  rcases sBi_2 R c.toNat with z | z
  · rw [z] at e ⊢
    simp (disch := first | with_unfolding_all exact id rfl | with_unfolding_all exact ⟨rfl, by decide, Nat.le_of_ble_eq_true rfl⟩ | with_unfolding_all exact Nat.le_of_ble_eq_true rfl | omega) only [b_74_0, b_74_1, b_74_2, b_74_3, e_goto, e_fall, e_if0, e_if1, e_if2, e_if3, e_if4, e_if5, e_ic0, e_ic1, e_ic2, e_ic3, e_ic4, e_ic5, e_null_n, e_null_r, e_nonn_n, e_nonn_r, e_ret0, e_ret1, e_ret20, e_ret21, e_retb, e_ret3, e_ret4, e_pi, e_pj, e_pf, e_pn, e_iadd, e_isub, e_imul, e_iand, e_ixor, e_ishl, e_ishr, e_iushr, e_ladd, e_lsub, e_lmul, e_idiv, e_irem, e_ldiv, e_lrem, e_ineg, e_lneg, e_lcmp, e_i2l, e_l2f, e_f2i, e_i2b, e_fcg, e_fcl, e_dup, e_dupi, e_dup2, s_il, s_ll, s_fl, s_al, s_inc, e_is, e_ls, e_fs, e_aS, e_gi, e_gb, e_gj, s_gr, s_pfi, s_pfj, s_pfb, s_v1, s_v2, s_v3, s_v4, s_v5, s_v6, s_s1, s_s2, s_s3, s_s4, s_s5, s_s6, m_kI_I, m_kJ_J, m_kF_F, m_kR_R, m_ld0, m_ldS, m_st0, m_stS, m_s1, m_s2, m_kl, Option.bind_some, Option.toList_some, Option.toList_none, List.cons_append, List.nil_append, Nat.zero_add, Nat.reduceAdd, Nat.reduceSub, Nat.zero_sub, Nat.reduceEqDiff, Int.reduceLE, Int.reduceLT, Int.reduceEq, Int.reduceNe, Int.reduceAdd, Int.reduceSub, Int.reduceMul, Int.reduceNeg, Int.reduceToNat, Int.toNat_zero, Int.toNat_one, Int.zero_add, Int.zero_mul, Int.one_mul, ↓reduceIte, not_false_eq_true, not_true_eq_false, m_up_s, m_up_c, m_up_k, ne_eq, and_self, and_true, true_and, and_false, false_and, or_true, or_false, true_or, false_or, a_2, u_2, l_2, a_4, u_4, l_4, a_7, u_7, l_7, a_9, u_9, l_9, a_10, u_10, l_10, a_11, u_11, l_11, a_12, u_12, l_12, a_14, u_14, l_14, a_75, u_75, l_75, a_76, u_76, l_76, a_78, u_78, l_78, a_79, u_79, l_79, a_81, u_81, l_81, a_82, u_82, l_82, a_83, u_83, l_83, a_85, u_85, l_85, a_87, u_87, l_87, a_88, u_88, l_88, a_89, u_89, l_89, a_90, u_90, l_90, a_91, u_91, l_91, a_92, u_92, l_92, r_0_0, r_0_1, r_0_2, r_0_3, r_0_4, r_0_5, r_0_6, r_1_0, r_3_0, r_5_0, r_6_2, r_8_9, r_8_10, r_8_11, r_8_12, r_8_13, r_13_2, r_15_0, r_73_0, r_73_1, r_74_2, r_74_3, r_77_2, r_77_3, r_80_0, r_80_1, r_80_2, r_80_3, r_84_2, r_86_0, r_86_1, r_86_3, r_86_7, r_86_11, r_86_12, w_n1, w_0, w_1, w_2, w_3, w_4, w_5, w_6, w_7, w_8, w_9, w_10, w_11, w_12, w_13, w_14, w_15, w_16, w_17, w_18, w_19, w_20, w_21, w_22, w_23, w_24, w_25, w_26, w_27, w_28, w_29, w_30, w_31, w_32, w_33, w_34, w_35, w_36, w_37, w_38, w_39, w_40, w_41, w_42, w_43, w_44, w_45, w_46, w_47, w_48, w_49, w_50, w_51, w_52, w_53, w_54, w_55, w_56, w_57, w_58, w_59, w_60, w_61, w_62, w_63, w_64, w_65, w_66, w_67, w_68, w_69, w_n1000, w_n1001, w_n1002, w_n1003, w_65536, w_1103, w_377, w_127, w_126, w_128, w_536, w_469, t_0_0, t_0_1, t_0_2, t_0_d, t_1_0, t_1_1, t_1_2, t_1_3, t_1_4, t_1_5, t_1_6, t_1_7, t_1_8, t_1_9, t_1_10, t_1_11, t_1_12, t_1_13, t_1_d, t_2_0, t_2_1, t_2_2, t_2_3, t_2_4, t_2_5, t_2_6, t_2_7, t_2_8, t_2_9, t_2_10, t_2_11, t_2_12, t_2_13, t_2_d, t_3_0, t_3_1, t_3_2, t_3_3, t_3_4, t_3_5, t_3_6, t_3_7, t_3_8, t_3_9, t_3_10, t_3_11, t_3_12, t_3_13, t_3_14, t_3_15, t_3_16, t_3_17, t_3_18, t_3_19, t_3_20, t_3_21, t_3_22, t_3_23, t_3_24, t_3_25, t_3_d, v_0_32, v_0_45, v_0_47, v_0_d, e_tsw, e_lsw, q_le1, q_le0, q_lt1, q_lt0, q_eq1, q_eq0, Int.add_zero, m_ca, Int.reduceNatCast', m_bite, m_b0, m_b1, m_nn, m_tn, m_w_id, m_x_id, e, Int.natCast_zero]
  · rw [z] at e ⊢
    simp (disch := first | with_unfolding_all exact id rfl | with_unfolding_all exact ⟨rfl, by decide, Nat.le_of_ble_eq_true rfl⟩ | with_unfolding_all exact Nat.le_of_ble_eq_true rfl | omega) only [b_74_0, b_74_1, b_74_2, b_74_3, e_goto, e_fall, e_if0, e_if1, e_if2, e_if3, e_if4, e_if5, e_ic0, e_ic1, e_ic2, e_ic3, e_ic4, e_ic5, e_null_n, e_null_r, e_nonn_n, e_nonn_r, e_ret0, e_ret1, e_ret20, e_ret21, e_retb, e_ret3, e_ret4, e_pi, e_pj, e_pf, e_pn, e_iadd, e_isub, e_imul, e_iand, e_ixor, e_ishl, e_ishr, e_iushr, e_ladd, e_lsub, e_lmul, e_idiv, e_irem, e_ldiv, e_lrem, e_ineg, e_lneg, e_lcmp, e_i2l, e_l2f, e_f2i, e_i2b, e_fcg, e_fcl, e_dup, e_dupi, e_dup2, s_il, s_ll, s_fl, s_al, s_inc, e_is, e_ls, e_fs, e_aS, e_gi, e_gb, e_gj, s_gr, s_pfi, s_pfj, s_pfb, s_v1, s_v2, s_v3, s_v4, s_v5, s_v6, s_s1, s_s2, s_s3, s_s4, s_s5, s_s6, m_kI_I, m_kJ_J, m_kF_F, m_kR_R, m_ld0, m_ldS, m_st0, m_stS, m_s1, m_s2, m_kl, Option.bind_some, Option.toList_some, Option.toList_none, List.cons_append, List.nil_append, Nat.zero_add, Nat.reduceAdd, Nat.reduceSub, Nat.zero_sub, Nat.reduceEqDiff, Int.reduceLE, Int.reduceLT, Int.reduceEq, Int.reduceNe, Int.reduceAdd, Int.reduceSub, Int.reduceMul, Int.reduceNeg, Int.reduceToNat, Int.toNat_zero, Int.toNat_one, Int.zero_add, Int.zero_mul, Int.one_mul, ↓reduceIte, not_false_eq_true, not_true_eq_false, m_up_s, m_up_c, m_up_k, ne_eq, and_self, and_true, true_and, and_false, false_and, or_true, or_false, true_or, false_or, a_2, u_2, l_2, a_4, u_4, l_4, a_7, u_7, l_7, a_9, u_9, l_9, a_10, u_10, l_10, a_11, u_11, l_11, a_12, u_12, l_12, a_14, u_14, l_14, a_75, u_75, l_75, a_76, u_76, l_76, a_78, u_78, l_78, a_79, u_79, l_79, a_81, u_81, l_81, a_82, u_82, l_82, a_83, u_83, l_83, a_85, u_85, l_85, a_87, u_87, l_87, a_88, u_88, l_88, a_89, u_89, l_89, a_90, u_90, l_90, a_91, u_91, l_91, a_92, u_92, l_92, r_0_0, r_0_1, r_0_2, r_0_3, r_0_4, r_0_5, r_0_6, r_1_0, r_3_0, r_5_0, r_6_2, r_8_9, r_8_10, r_8_11, r_8_12, r_8_13, r_13_2, r_15_0, r_73_0, r_73_1, r_74_2, r_74_3, r_77_2, r_77_3, r_80_0, r_80_1, r_80_2, r_80_3, r_84_2, r_86_0, r_86_1, r_86_3, r_86_7, r_86_11, r_86_12, w_n1, w_0, w_1, w_2, w_3, w_4, w_5, w_6, w_7, w_8, w_9, w_10, w_11, w_12, w_13, w_14, w_15, w_16, w_17, w_18, w_19, w_20, w_21, w_22, w_23, w_24, w_25, w_26, w_27, w_28, w_29, w_30, w_31, w_32, w_33, w_34, w_35, w_36, w_37, w_38, w_39, w_40, w_41, w_42, w_43, w_44, w_45, w_46, w_47, w_48, w_49, w_50, w_51, w_52, w_53, w_54, w_55, w_56, w_57, w_58, w_59, w_60, w_61, w_62, w_63, w_64, w_65, w_66, w_67, w_68, w_69, w_n1000, w_n1001, w_n1002, w_n1003, w_65536, w_1103, w_377, w_127, w_126, w_128, w_536, w_469, t_0_0, t_0_1, t_0_2, t_0_d, t_1_0, t_1_1, t_1_2, t_1_3, t_1_4, t_1_5, t_1_6, t_1_7, t_1_8, t_1_9, t_1_10, t_1_11, t_1_12, t_1_13, t_1_d, t_2_0, t_2_1, t_2_2, t_2_3, t_2_4, t_2_5, t_2_6, t_2_7, t_2_8, t_2_9, t_2_10, t_2_11, t_2_12, t_2_13, t_2_d, t_3_0, t_3_1, t_3_2, t_3_3, t_3_4, t_3_5, t_3_6, t_3_7, t_3_8, t_3_9, t_3_10, t_3_11, t_3_12, t_3_13, t_3_14, t_3_15, t_3_16, t_3_17, t_3_18, t_3_19, t_3_20, t_3_21, t_3_22, t_3_23, t_3_24, t_3_25, t_3_d, v_0_32, v_0_45, v_0_47, v_0_d, e_tsw, e_lsw, q_le1, q_le0, q_lt1, q_lt0, q_eq1, q_eq0, Int.add_zero, m_ca, Int.reduceNatCast', m_bite, m_b0, m_b1, m_nn, m_tn, m_w_id, m_x_id, e, Int.natCast_one]
theorem d_cou (h : R < 16) : m_ev (d + 1) 185 [m_I (R : Int)] (m_G0, σ) = some (some (m_I ((sPc R : Nat) : Int)), (m_G0, σ)) := by
  have L := m_loop (fun (k : Nat) (s : Int) => m_e none (m_ev d) 185 (m_blk 185 1) [m_I (R : Int), m_I s, m_I (k : Int)] [] (m_G0, σ)) (fun k s => s + ((sBi R k : Nat) : Int)) (fun k s => s = ((sCn R k : Nat) : Int) ∧ sCn R k ≤ k) 4 (fun k s hk hI => by
    have e := bt_and R h k hk
    have b := sBi_2 R k
    obtain ⟨hs, hb⟩ := hI
    have e2 : sCn R (k + 1) = sCn R k + sBi R k := rfl
    refine ⟨?_, by rw [hs, e2]; rfl, by omega⟩
    conv => lhs; rw [b_185_1]
    simp (disch := first | with_unfolding_all exact id rfl | with_unfolding_all exact ⟨rfl, by decide, Nat.le_of_ble_eq_true rfl⟩ | with_unfolding_all exact Nat.le_of_ble_eq_true rfl | omega) only [b_185_0, b_185_2, b_185_3, e_goto, e_fall, e_if0, e_if1, e_if2, e_if3, e_if4, e_if5, e_ic0, e_ic1, e_ic2, e_ic3, e_ic4, e_ic5, e_null_n, e_null_r, e_nonn_n, e_nonn_r, e_ret0, e_ret1, e_ret20, e_ret21, e_retb, e_ret3, e_ret4, e_pi, e_pj, e_pf, e_pn, e_iadd, e_isub, e_imul, e_iand, e_ixor, e_ishl, e_ishr, e_iushr, e_ladd, e_lsub, e_lmul, e_idiv, e_irem, e_ldiv, e_lrem, e_ineg, e_lneg, e_lcmp, e_i2l, e_l2f, e_f2i, e_i2b, e_fcg, e_fcl, e_dup, e_dupi, e_dup2, s_il, s_ll, s_fl, s_al, s_inc, e_is, e_ls, e_fs, e_aS, e_gi, e_gb, e_gj, s_gr, s_pfi, s_pfj, s_pfb, s_v1, s_v2, s_v3, s_v4, s_v5, s_v6, s_s1, s_s2, s_s3, s_s4, s_s5, s_s6, m_kI_I, m_kJ_J, m_kF_F, m_kR_R, m_ld0, m_ldS, m_st0, m_stS, m_s1, m_s2, m_kl, Option.bind_some, Option.toList_some, Option.toList_none, List.cons_append, List.nil_append, Nat.zero_add, Nat.reduceAdd, Nat.reduceSub, Nat.zero_sub, Nat.reduceEqDiff, Int.reduceLE, Int.reduceLT, Int.reduceEq, Int.reduceNe, Int.reduceAdd, Int.reduceSub, Int.reduceMul, Int.reduceNeg, Int.reduceToNat, Int.toNat_zero, Int.toNat_one, Int.zero_add, Int.zero_mul, Int.one_mul, ↓reduceIte, not_false_eq_true, not_true_eq_false, m_up_s, m_up_c, m_up_k, ne_eq, and_self, and_true, true_and, and_false, false_and, or_true, or_false, true_or, false_or, a_2, u_2, l_2, a_4, u_4, l_4, a_7, u_7, l_7, a_9, u_9, l_9, a_10, u_10, l_10, a_11, u_11, l_11, a_12, u_12, l_12, a_14, u_14, l_14, a_75, u_75, l_75, a_76, u_76, l_76, a_78, u_78, l_78, a_79, u_79, l_79, a_81, u_81, l_81, a_82, u_82, l_82, a_83, u_83, l_83, a_85, u_85, l_85, a_87, u_87, l_87, a_88, u_88, l_88, a_89, u_89, l_89, a_90, u_90, l_90, a_91, u_91, l_91, a_92, u_92, l_92, r_0_0, r_0_1, r_0_2, r_0_3, r_0_4, r_0_5, r_0_6, r_1_0, r_3_0, r_5_0, r_6_2, r_8_9, r_8_10, r_8_11, r_8_12, r_8_13, r_13_2, r_15_0, r_73_0, r_73_1, r_74_2, r_74_3, r_77_2, r_77_3, r_80_0, r_80_1, r_80_2, r_80_3, r_84_2, r_86_0, r_86_1, r_86_3, r_86_7, r_86_11, r_86_12, w_n1, w_0, w_1, w_2, w_3, w_4, w_5, w_6, w_7, w_8, w_9, w_10, w_11, w_12, w_13, w_14, w_15, w_16, w_17, w_18, w_19, w_20, w_21, w_22, w_23, w_24, w_25, w_26, w_27, w_28, w_29, w_30, w_31, w_32, w_33, w_34, w_35, w_36, w_37, w_38, w_39, w_40, w_41, w_42, w_43, w_44, w_45, w_46, w_47, w_48, w_49, w_50, w_51, w_52, w_53, w_54, w_55, w_56, w_57, w_58, w_59, w_60, w_61, w_62, w_63, w_64, w_65, w_66, w_67, w_68, w_69, w_n1000, w_n1001, w_n1002, w_n1003, w_65536, w_1103, w_377, w_127, w_126, w_128, w_536, w_469, t_0_0, t_0_1, t_0_2, t_0_d, t_1_0, t_1_1, t_1_2, t_1_3, t_1_4, t_1_5, t_1_6, t_1_7, t_1_8, t_1_9, t_1_10, t_1_11, t_1_12, t_1_13, t_1_d, t_2_0, t_2_1, t_2_2, t_2_3, t_2_4, t_2_5, t_2_6, t_2_7, t_2_8, t_2_9, t_2_10, t_2_11, t_2_12, t_2_13, t_2_d, t_3_0, t_3_1, t_3_2, t_3_3, t_3_4, t_3_5, t_3_6, t_3_7, t_3_8, t_3_9, t_3_10, t_3_11, t_3_12, t_3_13, t_3_14, t_3_15, t_3_16, t_3_17, t_3_18, t_3_19, t_3_20, t_3_21, t_3_22, t_3_23, t_3_24, t_3_25, t_3_d, v_0_32, v_0_45, v_0_47, v_0_d, e_tsw, e_lsw, q_le1, q_le0, q_lt1, q_lt0, q_eq1, q_eq0, Int.add_zero, m_ca, Int.reduceNatCast', m_bite, m_b0, m_b1, m_nn, m_tn, m_w_id, m_x_id, e, m_cs]) 4 0 0 rfl ⟨rfl, Nat.le_refl _⟩
  generalize m_it _ _ _ _ = s' at L
  rw [i_185]
  refine Eq.trans ?_ (L.1.trans ?_)
  · conv => lhs; rw [b_185_0]
    simp (disch := first | with_unfolding_all exact id rfl | with_unfolding_all exact ⟨rfl, by decide, Nat.le_of_ble_eq_true rfl⟩ | with_unfolding_all exact Nat.le_of_ble_eq_true rfl | omega) only [b_185_2, b_185_3, e_goto, e_fall, e_if0, e_if1, e_if2, e_if3, e_if4, e_if5, e_ic0, e_ic1, e_ic2, e_ic3, e_ic4, e_ic5, e_null_n, e_null_r, e_nonn_n, e_nonn_r, e_ret0, e_ret1, e_ret20, e_ret21, e_retb, e_ret3, e_ret4, e_pi, e_pj, e_pf, e_pn, e_iadd, e_isub, e_imul, e_iand, e_ixor, e_ishl, e_ishr, e_iushr, e_ladd, e_lsub, e_lmul, e_idiv, e_irem, e_ldiv, e_lrem, e_ineg, e_lneg, e_lcmp, e_i2l, e_l2f, e_f2i, e_i2b, e_fcg, e_fcl, e_dup, e_dupi, e_dup2, s_il, s_ll, s_fl, s_al, s_inc, e_is, e_ls, e_fs, e_aS, e_gi, e_gb, e_gj, s_gr, s_pfi, s_pfj, s_pfb, s_v1, s_v2, s_v3, s_v4, s_v5, s_v6, s_s1, s_s2, s_s3, s_s4, s_s5, s_s6, m_kI_I, m_kJ_J, m_kF_F, m_kR_R, m_ld0, m_ldS, m_st0, m_stS, m_s1, m_s2, m_kl, Option.bind_some, Option.toList_some, Option.toList_none, List.cons_append, List.nil_append, Nat.zero_add, Nat.reduceAdd, Nat.reduceSub, Nat.zero_sub, Nat.reduceEqDiff, Int.reduceLE, Int.reduceLT, Int.reduceEq, Int.reduceNe, Int.reduceAdd, Int.reduceSub, Int.reduceMul, Int.reduceNeg, Int.reduceToNat, Int.toNat_zero, Int.toNat_one, Int.zero_add, Int.zero_mul, Int.one_mul, ↓reduceIte, not_false_eq_true, not_true_eq_false, m_up_s, m_up_c, m_up_k, ne_eq, and_self, and_true, true_and, and_false, false_and, or_true, or_false, true_or, false_or, a_2, u_2, l_2, a_4, u_4, l_4, a_7, u_7, l_7, a_9, u_9, l_9, a_10, u_10, l_10, a_11, u_11, l_11, a_12, u_12, l_12, a_14, u_14, l_14, a_75, u_75, l_75, a_76, u_76, l_76, a_78, u_78, l_78, a_79, u_79, l_79, a_81, u_81, l_81, a_82, u_82, l_82, a_83, u_83, l_83, a_85, u_85, l_85, a_87, u_87, l_87, a_88, u_88, l_88, a_89, u_89, l_89, a_90, u_90, l_90, a_91, u_91, l_91, a_92, u_92, l_92, r_0_0, r_0_1, r_0_2, r_0_3, r_0_4, r_0_5, r_0_6, r_1_0, r_3_0, r_5_0, r_6_2, r_8_9, r_8_10, r_8_11, r_8_12, r_8_13, r_13_2, r_15_0, r_73_0, r_73_1, r_74_2, r_74_3, r_77_2, r_77_3, r_80_0, r_80_1, r_80_2, r_80_3, r_84_2, r_86_0, r_86_1, r_86_3, r_86_7, r_86_11, r_86_12, w_n1, w_0, w_1, w_2, w_3, w_4, w_5, w_6, w_7, w_8, w_9, w_10, w_11, w_12, w_13, w_14, w_15, w_16, w_17, w_18, w_19, w_20, w_21, w_22, w_23, w_24, w_25, w_26, w_27, w_28, w_29, w_30, w_31, w_32, w_33, w_34, w_35, w_36, w_37, w_38, w_39, w_40, w_41, w_42, w_43, w_44, w_45, w_46, w_47, w_48, w_49, w_50, w_51, w_52, w_53, w_54, w_55, w_56, w_57, w_58, w_59, w_60, w_61, w_62, w_63, w_64, w_65, w_66, w_67, w_68, w_69, w_n1000, w_n1001, w_n1002, w_n1003, w_65536, w_1103, w_377, w_127, w_126, w_128, w_536, w_469, t_0_0, t_0_1, t_0_2, t_0_d, t_1_0, t_1_1, t_1_2, t_1_3, t_1_4, t_1_5, t_1_6, t_1_7, t_1_8, t_1_9, t_1_10, t_1_11, t_1_12, t_1_13, t_1_d, t_2_0, t_2_1, t_2_2, t_2_3, t_2_4, t_2_5, t_2_6, t_2_7, t_2_8, t_2_9, t_2_10, t_2_11, t_2_12, t_2_13, t_2_d, t_3_0, t_3_1, t_3_2, t_3_3, t_3_4, t_3_5, t_3_6, t_3_7, t_3_8, t_3_9, t_3_10, t_3_11, t_3_12, t_3_13, t_3_14, t_3_15, t_3_16, t_3_17, t_3_18, t_3_19, t_3_20, t_3_21, t_3_22, t_3_23, t_3_24, t_3_25, t_3_d, v_0_32, v_0_45, v_0_47, v_0_d, e_tsw, e_lsw, q_le1, q_le0, q_lt1, q_lt0, q_eq1, q_eq0, Int.add_zero, m_ca, Int.reduceNatCast', m_bite, m_b0, m_b1, m_nn, m_tn, m_w_id, m_x_id, Int.natCast_zero]
  · rw [b_185_1, L.2.1]
    have q4 : ((4 : Nat) : Int) = 4 := rfl
    rw [q4]
    simp (disch := first | with_unfolding_all exact id rfl | with_unfolding_all exact ⟨rfl, by decide, Nat.le_of_ble_eq_true rfl⟩ | with_unfolding_all exact Nat.le_of_ble_eq_true rfl | omega) only [b_185_0, b_185_2, b_185_3, e_goto, e_fall, e_if0, e_if1, e_if2, e_if3, e_if4, e_if5, e_ic0, e_ic1, e_ic2, e_ic3, e_ic4, e_ic5, e_null_n, e_null_r, e_nonn_n, e_nonn_r, e_ret0, e_ret1, e_ret20, e_ret21, e_retb, e_ret3, e_ret4, e_pi, e_pj, e_pf, e_pn, e_iadd, e_isub, e_imul, e_iand, e_ixor, e_ishl, e_ishr, e_iushr, e_ladd, e_lsub, e_lmul, e_idiv, e_irem, e_ldiv, e_lrem, e_ineg, e_lneg, e_lcmp, e_i2l, e_l2f, e_f2i, e_i2b, e_fcg, e_fcl, e_dup, e_dupi, e_dup2, s_il, s_ll, s_fl, s_al, s_inc, e_is, e_ls, e_fs, e_aS, e_gi, e_gb, e_gj, s_gr, s_pfi, s_pfj, s_pfb, s_v1, s_v2, s_v3, s_v4, s_v5, s_v6, s_s1, s_s2, s_s3, s_s4, s_s5, s_s6, m_kI_I, m_kJ_J, m_kF_F, m_kR_R, m_ld0, m_ldS, m_st0, m_stS, m_s1, m_s2, m_kl, Option.bind_some, Option.toList_some, Option.toList_none, List.cons_append, List.nil_append, Nat.zero_add, Nat.reduceAdd, Nat.reduceSub, Nat.zero_sub, Nat.reduceEqDiff, Int.reduceLE, Int.reduceLT, Int.reduceEq, Int.reduceNe, Int.reduceAdd, Int.reduceSub, Int.reduceMul, Int.reduceNeg, Int.reduceToNat, Int.toNat_zero, Int.toNat_one, Int.zero_add, Int.zero_mul, Int.one_mul, ↓reduceIte, not_false_eq_true, not_true_eq_false, m_up_s, m_up_c, m_up_k, ne_eq, and_self, and_true, true_and, and_false, false_and, or_true, or_false, true_or, false_or, a_2, u_2, l_2, a_4, u_4, l_4, a_7, u_7, l_7, a_9, u_9, l_9, a_10, u_10, l_10, a_11, u_11, l_11, a_12, u_12, l_12, a_14, u_14, l_14, a_75, u_75, l_75, a_76, u_76, l_76, a_78, u_78, l_78, a_79, u_79, l_79, a_81, u_81, l_81, a_82, u_82, l_82, a_83, u_83, l_83, a_85, u_85, l_85, a_87, u_87, l_87, a_88, u_88, l_88, a_89, u_89, l_89, a_90, u_90, l_90, a_91, u_91, l_91, a_92, u_92, l_92, r_0_0, r_0_1, r_0_2, r_0_3, r_0_4, r_0_5, r_0_6, r_1_0, r_3_0, r_5_0, r_6_2, r_8_9, r_8_10, r_8_11, r_8_12, r_8_13, r_13_2, r_15_0, r_73_0, r_73_1, r_74_2, r_74_3, r_77_2, r_77_3, r_80_0, r_80_1, r_80_2, r_80_3, r_84_2, r_86_0, r_86_1, r_86_3, r_86_7, r_86_11, r_86_12, w_n1, w_0, w_1, w_2, w_3, w_4, w_5, w_6, w_7, w_8, w_9, w_10, w_11, w_12, w_13, w_14, w_15, w_16, w_17, w_18, w_19, w_20, w_21, w_22, w_23, w_24, w_25, w_26, w_27, w_28, w_29, w_30, w_31, w_32, w_33, w_34, w_35, w_36, w_37, w_38, w_39, w_40, w_41, w_42, w_43, w_44, w_45, w_46, w_47, w_48, w_49, w_50, w_51, w_52, w_53, w_54, w_55, w_56, w_57, w_58, w_59, w_60, w_61, w_62, w_63, w_64, w_65, w_66, w_67, w_68, w_69, w_n1000, w_n1001, w_n1002, w_n1003, w_65536, w_1103, w_377, w_127, w_126, w_128, w_536, w_469, t_0_0, t_0_1, t_0_2, t_0_d, t_1_0, t_1_1, t_1_2, t_1_3, t_1_4, t_1_5, t_1_6, t_1_7, t_1_8, t_1_9, t_1_10, t_1_11, t_1_12, t_1_13, t_1_d, t_2_0, t_2_1, t_2_2, t_2_3, t_2_4, t_2_5, t_2_6, t_2_7, t_2_8, t_2_9, t_2_10, t_2_11, t_2_12, t_2_13, t_2_d, t_3_0, t_3_1, t_3_2, t_3_3, t_3_4, t_3_5, t_3_6, t_3_7, t_3_8, t_3_9, t_3_10, t_3_11, t_3_12, t_3_13, t_3_14, t_3_15, t_3_16, t_3_17, t_3_18, t_3_19, t_3_20, t_3_21, t_3_22, t_3_23, t_3_24, t_3_25, t_3_d, v_0_32, v_0_45, v_0_47, v_0_d, e_tsw, e_lsw, q_le1, q_le0, q_lt1, q_lt0, q_eq1, q_eq0, Int.add_zero, m_ca, Int.reduceNatCast', m_bite, m_b0, m_b1, m_nn, m_tn, m_w_id, m_x_id]
    rfl
end BS
/-! minors, as the class finds them -/
def sMf (a : Nat → Nat → Int) : Nat → Nat → Nat → Int
  | 0, _, _ => 1
  | n + 1, R, C => (m_it (fun c (s : Int × Int) => if sBi C c = 1 then (s.1 + s.2 * a (sLo R) c * sMf a n (R - 2 ^ sLo R) (C - 2 ^ c), -s.2) else s) 0 4 ((0 : Int), (1 : Int))).1
def sMi (a : Nat → Nat → Int) (R C : Nat) : Int := sMf a (sPc R) R C
def sEa (f : Nat → Int) : Nat → Nat → Int := fun r c => f (51 + 4 * r + c)
section MI
variable {d : Nat} {σ : Nat → Nat → Int} {f : Nat → Int} {a : Nat → Nat → Int} {R C : Nat}
theorem mul_b {x y p q : Int} (hx : -p ≤ x ∧ x ≤ p) (hy : -q ≤ y ∧ y ≤ q) (hp : 0 ≤ p) (hq : 0 ≤ q) : -(p * q) ≤ x * y ∧ x * y ≤ p * q := by
  have h1 : (x * y).natAbs ≤ (p * q).natAbs := by
    rw [Int.natAbs_mul, Int.natAbs_mul]
    exact Nat.mul_le_mul (by omega) (by omega)
  have h2 : 0 ≤ p * q := Int.mul_nonneg hp hq
  generalize x * y = z at h1
  generalize p * q = w at h1 h2
  omega
theorem sMs_b {g : Nat → Int} {K : Int} (hK : 0 ≤ K) {lo : Nat} (ha : ∀ c, c < 4 → -99 ≤ a lo c ∧ a lo c ≤ 99) (hg : ∀ c, c < 4 → -K ≤ g c ∧ g c ≤ K) : ∀ (k c : Nat) (s : Int × Int), c + k = 4 → (s.2 = 1 ∨ s.2 = -1) → (-((c : Int) * (99 * K)) ≤ s.1 ∧ s.1 ≤ (c : Int) * (99 * K)) → -(4 * (99 * K)) ≤ (m_it (fun c (s : Int × Int) => if sBi C c = 1 then (s.1 + s.2 * a lo c * g c, -s.2) else s) c k s).1 ∧ (m_it (fun c (s : Int × Int) => if sBi C c = 1 then (s.1 + s.2 * a lo c * g c, -s.2) else s) c k s).1 ≤ 4 * (99 * K)
  | 0, c, s, hc, h2, h1 => by
    have e : c = 4 := hc
    subst e
    exact h1
  | k + 1, c, s, hc, h2, h1 => by
    unfold m_it
    have hK2 : 0 ≤ 99 * K := by omega
    have b1 := mul_b (ha c (by omega)) (hg c (by omega)) (by decide) hK
    have e1 : ((c + 1 : Nat) : Int) * (99 * K) = (c : Int) * (99 * K) + 99 * K := by
      show ((c : Int) + 1) * (99 * K) = _
      rw [Int.add_mul, Int.one_mul]
    by_cases z : sBi C c = 1
    · rw [if_pos z]
      refine sMs_b hK ha hg k (c + 1) _ (by omega) (by
        rcases h2 with h2 | h2
        · exact Or.inr (by show -s.2 = -1; rw [h2])
        · exact Or.inl (by show -s.2 = 1; rw [h2]; rfl)) ?_
      rw [e1]
      show _ ≤ s.1 + s.2 * a lo c * g c ∧ s.1 + s.2 * a lo c * g c ≤ _
      rcases h2 with h2 | h2
      · rw [h2, Int.one_mul]
        generalize a lo c * g c = y at b1
        generalize (c : Int) * (99 * K) = w at h1
        omega
      · rw [h2, Int.neg_mul, Int.one_mul, Int.neg_mul]
        generalize a lo c * g c = y at b1
        generalize (c : Int) * (99 * K) = w at h1
        omega
    · rw [if_neg z]
      refine sMs_b hK ha hg k (c + 1) s (by omega) h2 ?_
      rw [e1]
      generalize (c : Int) * (99 * K) = w at h1
      omega
theorem sMf_b (ha : ∀ r c, r < 4 → c < 4 → -99 ≤ a r c ∧ a r c ≤ 99) : ∀ (n R C : Nat), -((396 ^ n : Nat) : Int) ≤ sMf a n R C ∧ sMf a n R C ≤ ((396 ^ n : Nat) : Int)
  | 0, _, _ => by
    show -((396 ^ 0 : Nat) : Int) ≤ 1 ∧ 1 ≤ ((396 ^ 0 : Nat) : Int)
    decide
  | n + 1, R, C => by
    have lo : sLo R < 4 := by
      unfold sLo
      repeat' split
      all_goals decide
    have h := sMs_b (C := C) (a := a) (lo := sLo R) (K := ((396 ^ n : Nat) : Int)) (Int.natCast_nonneg _) (fun c hc => ha _ c lo hc) (fun c _ => sMf_b ha n (R - 2 ^ sLo R) (C - 2 ^ c)) 4 0 ((0 : Int), (1 : Int)) rfl (Or.inl rfl) (by
      show -(((0 : Nat) : Int) * _) ≤ (0 : Int) ∧ (0 : Int) ≤ ((0 : Nat) : Int) * _
      rw [Int.natCast_zero, Int.zero_mul]
      decide)
    have e : ((396 ^ (n + 1) : Nat) : Int) = 4 * (99 * ((396 ^ n : Nat) : Int)) := by
      rw [Nat.pow_succ, Int.natCast_mul]
      generalize ((396 ^ n : Nat) : Int) = y
      show y * 396 = _
      omega
    rw [e]
    exact h
theorem c_mof (hR : R < 16) (hC : C < 16) : m_ev (d + 1) 75 [m_R 80, m_I (R : Int), m_I (C : Int)] (m_G0, σ) = some (some (m_J (σ 81 (16 * R + C))), (m_G0, σ)) := by
  obtain ⟨r, hr⟩ : ∃ r : Int, r = (R : Int) := ⟨_, rfl⟩
  obtain ⟨c, hc⟩ : ∃ c : Int, c = (C : Int) := ⟨_, rfl⟩
  have e : (r * 16 + c).toNat = 16 * R + C := by omega
  have b : 0 ≤ r ∧ r < 16 ∧ 0 ≤ c ∧ c < 16 := by omega
  rw [← hr, ← hc, i_75]
  simp (disch := first | with_unfolding_all exact id rfl | with_unfolding_all exact ⟨rfl, by decide, Nat.le_of_ble_eq_true rfl⟩ | with_unfolding_all exact Nat.le_of_ble_eq_true rfl | omega) only [b_75_0, b_75_1, b_75_2, b_75_3, b_75_4, e_goto, e_fall, e_if0, e_if1, e_if2, e_if3, e_if4, e_if5, e_ic0, e_ic1, e_ic2, e_ic3, e_ic4, e_ic5, e_null_n, e_null_r, e_nonn_n, e_nonn_r, e_ret0, e_ret1, e_ret20, e_ret21, e_retb, e_ret3, e_ret4, e_pi, e_pj, e_pf, e_pn, e_iadd, e_isub, e_imul, e_iand, e_ixor, e_ishl, e_ishr, e_iushr, e_ladd, e_lsub, e_lmul, e_idiv, e_irem, e_ldiv, e_lrem, e_ineg, e_lneg, e_lcmp, e_i2l, e_l2f, e_f2i, e_i2b, e_fcg, e_fcl, e_dup, e_dupi, e_dup2, s_il, s_ll, s_fl, s_al, s_inc, e_is, e_ls, e_fs, e_aS, e_gi, e_gb, e_gj, s_gr, s_pfi, s_pfj, s_pfb, s_v1, s_v2, s_v3, s_v4, s_v5, s_v6, s_s1, s_s2, s_s3, s_s4, s_s5, s_s6, m_kI_I, m_kJ_J, m_kF_F, m_kR_R, m_ld0, m_ldS, m_st0, m_stS, m_s1, m_s2, m_kl, Option.bind_some, Option.toList_some, Option.toList_none, List.cons_append, List.nil_append, Nat.zero_add, Nat.reduceAdd, Nat.reduceSub, Nat.zero_sub, Nat.reduceEqDiff, Int.reduceLE, Int.reduceLT, Int.reduceEq, Int.reduceNe, Int.reduceAdd, Int.reduceSub, Int.reduceMul, Int.reduceNeg, Int.reduceToNat, Int.toNat_zero, Int.toNat_one, Int.zero_add, Int.zero_mul, Int.one_mul, ↓reduceIte, not_false_eq_true, not_true_eq_false, m_up_s, m_up_c, m_up_k, ne_eq, and_self, and_true, true_and, and_false, false_and, or_true, or_false, true_or, false_or, a_2, u_2, l_2, a_4, u_4, l_4, a_7, u_7, l_7, a_9, u_9, l_9, a_10, u_10, l_10, a_11, u_11, l_11, a_12, u_12, l_12, a_14, u_14, l_14, a_75, u_75, l_75, a_76, u_76, l_76, a_78, u_78, l_78, a_79, u_79, l_79, a_81, u_81, l_81, a_82, u_82, l_82, a_83, u_83, l_83, a_85, u_85, l_85, a_87, u_87, l_87, a_88, u_88, l_88, a_89, u_89, l_89, a_90, u_90, l_90, a_91, u_91, l_91, a_92, u_92, l_92, r_0_0, r_0_1, r_0_2, r_0_3, r_0_4, r_0_5, r_0_6, r_1_0, r_3_0, r_5_0, r_6_2, r_8_9, r_8_10, r_8_11, r_8_12, r_8_13, r_13_2, r_15_0, r_73_0, r_73_1, r_74_2, r_74_3, r_77_2, r_77_3, r_80_0, r_80_1, r_80_2, r_80_3, r_84_2, r_86_0, r_86_1, r_86_3, r_86_7, r_86_11, r_86_12, w_n1, w_0, w_1, w_2, w_3, w_4, w_5, w_6, w_7, w_8, w_9, w_10, w_11, w_12, w_13, w_14, w_15, w_16, w_17, w_18, w_19, w_20, w_21, w_22, w_23, w_24, w_25, w_26, w_27, w_28, w_29, w_30, w_31, w_32, w_33, w_34, w_35, w_36, w_37, w_38, w_39, w_40, w_41, w_42, w_43, w_44, w_45, w_46, w_47, w_48, w_49, w_50, w_51, w_52, w_53, w_54, w_55, w_56, w_57, w_58, w_59, w_60, w_61, w_62, w_63, w_64, w_65, w_66, w_67, w_68, w_69, w_n1000, w_n1001, w_n1002, w_n1003, w_65536, w_1103, w_377, w_127, w_126, w_128, w_536, w_469, t_0_0, t_0_1, t_0_2, t_0_d, t_1_0, t_1_1, t_1_2, t_1_3, t_1_4, t_1_5, t_1_6, t_1_7, t_1_8, t_1_9, t_1_10, t_1_11, t_1_12, t_1_13, t_1_d, t_2_0, t_2_1, t_2_2, t_2_3, t_2_4, t_2_5, t_2_6, t_2_7, t_2_8, t_2_9, t_2_10, t_2_11, t_2_12, t_2_13, t_2_d, t_3_0, t_3_1, t_3_2, t_3_3, t_3_4, t_3_5, t_3_6, t_3_7, t_3_8, t_3_9, t_3_10, t_3_11, t_3_12, t_3_13, t_3_14, t_3_15, t_3_16, t_3_17, t_3_18, t_3_19, t_3_20, t_3_21, t_3_22, t_3_23, t_3_24, t_3_25, t_3_d, v_0_32, v_0_45, v_0_47, v_0_d, e_tsw, e_lsw, q_le1, q_le0, q_lt1, q_lt0, q_eq1, q_eq0, Int.add_zero, m_ca, Int.reduceNatCast', m_bite, m_b0, m_b1, m_nn, m_tn, m_w_id, m_x_id, e]
end MI
