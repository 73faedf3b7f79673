/-! doubts and exact calls of the law -/
section J4
variable {d : Nat} {σ : Nat → Nat → Int} {f : Nat → Int} {u : Nat} {h : Nat → Nat → Int} {l : Nat} {t : Nat → Int} {P : Int}
theorem gDb_43 : gDb f 43 = -1003 := gE_43
theorem gEx_43 : gEx f 43 = -1003 := gE_43
theorem j_doubt (V : jV σ f u h l t P) : ∃ σ', m_ev (d + 6) 136 [m_R 0, m_R 86] (m_G0, σ) = some (some (m_I 1), (m_G0, σ')) ∧ jE σ' P := by
  have V0 := V
  obtain ⟨Q, T, ⟨H, hu⟩, ⟨X, l60, L⟩, R, hP⟩ := V
  have W := Q.1
  have e43 : σ 86 43 = f 43 := R.2.1 43 (by decide) (by decide)
  by_cases hn : f 43 = -1003
  · have c1 := c_doubt1 (d := d) T W hn
    refine ⟨σ, ?_, f, u, h, l, t, V0⟩
    rw [hn] at e43
    rw [i_136]
    simp (disch := first | with_unfolding_all exact id rfl | with_unfolding_all exact ⟨rfl, by decide, Nat.le_of_ble_eq_true rfl⟩ | with_unfolding_all exact Nat.le_of_ble_eq_true rfl | omega) only [b_136_0, b_136_1, b_136_2, b_136_3, b_136_4, b_136_5, b_136_6, b_136_7, b_136_8, b_136_9, b_136_10, b_136_11, b_136_12, b_136_13, b_136_14, b_136_15, b_136_16, b_136_17, b_136_18, e_goto, e_fall, e_if0, e_if1, e_if2, e_if3, e_if4, e_if5, e_ic0, e_ic1, e_ic2, e_ic3, e_ic4, e_ic5, e_null_n, e_null_r, e_nonn_n, e_nonn_r, e_ret0, e_ret1, e_ret20, e_ret21, e_retb, e_ret3, e_ret4, e_pi, e_pj, e_pf, e_pn, e_iadd, e_isub, e_imul, e_iand, e_ixor, e_ishl, e_ishr, e_iushr, e_ladd, e_lsub, e_lmul, e_idiv, e_irem, e_ldiv, e_lrem, e_ineg, e_lneg, e_lcmp, e_i2l, e_l2f, e_f2i, e_i2b, e_fcg, e_fcl, e_dup, e_dupi, e_dup2, s_il, s_ll, s_fl, s_al, s_inc, e_is, e_ls, e_fs, e_aS, e_gi, e_gb, e_gj, s_gr, s_pfi, s_pfj, s_pfb, s_v1, s_v2, s_v3, s_v4, s_v5, s_v6, s_s1, s_s2, s_s3, s_s4, s_s5, s_s6, m_kI_I, m_kJ_J, m_kF_F, m_kR_R, m_ld0, m_ldS, m_st0, m_stS, m_s1, m_s2, m_kl, Option.bind_some, Option.toList_some, Option.toList_none, List.cons_append, List.nil_append, Nat.zero_add, Nat.reduceAdd, Nat.reduceSub, Nat.zero_sub, Nat.reduceEqDiff, Int.reduceLE, Int.reduceLT, Int.reduceEq, Int.reduceNe, Int.reduceAdd, Int.reduceSub, Int.reduceMul, Int.reduceNeg, Int.reduceToNat, Int.toNat_zero, Int.toNat_one, Int.zero_add, Int.zero_mul, Int.one_mul, ↓reduceIte, not_false_eq_true, not_true_eq_false, m_up_s, m_up_c, m_up_k, ne_eq, and_self, and_true, true_and, and_false, false_and, or_true, or_false, true_or, false_or, a_2, u_2, l_2, a_4, u_4, l_4, a_7, u_7, l_7, a_9, u_9, l_9, a_10, u_10, l_10, a_11, u_11, l_11, a_12, u_12, l_12, a_14, u_14, l_14, a_75, u_75, l_75, a_76, u_76, l_76, a_78, u_78, l_78, a_79, u_79, l_79, a_81, u_81, l_81, a_82, u_82, l_82, a_83, u_83, l_83, a_85, u_85, l_85, a_86, u_86, l_86, r_0_0, r_0_1, r_0_2, r_0_3, r_0_4, r_0_5, r_0_6, r_1_0, r_3_0, r_5_0, r_6_2, r_8_9, r_8_10, r_8_11, r_8_12, r_8_13, r_13_2, r_15_0, r_73_0, r_73_1, r_74_2, r_74_3, r_77_2, r_77_3, r_80_0, r_80_1, r_80_2, r_80_3, r_84_2, w_n1, w_0, w_1, w_2, w_3, w_4, w_5, w_6, w_7, w_8, w_9, w_10, w_11, w_12, w_13, w_14, w_15, w_16, w_17, w_18, w_19, w_20, w_21, w_22, w_23, w_24, w_25, w_26, w_27, w_28, w_29, w_30, w_31, w_32, w_33, w_34, w_35, w_36, w_37, w_38, w_39, w_40, w_41, w_42, w_43, w_44, w_45, w_46, w_47, w_48, w_49, w_50, w_51, w_52, w_53, w_54, w_55, w_56, w_57, w_58, w_59, w_60, w_61, w_62, w_63, w_64, w_65, w_66, w_67, w_68, w_69, w_n1000, w_n1001, w_n1002, w_n1003, w_65536, w_1103, w_377, w_127, w_126, w_128, w_65535, w_2147483647, w_795577677, t_0_0, t_0_1, t_0_2, t_0_d, t_1_0, t_1_1, t_1_2, t_1_3, t_1_4, t_1_5, t_1_6, t_1_7, t_1_8, t_1_9, t_1_10, t_1_11, t_1_12, t_1_13, t_1_d, v_0_32, v_0_45, v_0_47, v_0_d, e_tsw, e_lsw, q_le1, q_le0, q_lt1, q_lt0, q_eq1, q_eq0, Int.add_zero, m_ca, Int.reduceNatCast', m_bite, m_b0, m_b1, m_nn, m_tn, m_w_id, m_x_id, e43, c1]
  · have D := R_D R W
    have e44 : σ 86 44 = f 44 := R.2.1 44 (by decide) (by decide)
    have e48 : σ 86 48 = f 48 := R.2.1 48 (by decide) (by decide)
    have e41 : σ 86 41 = f 41 := R.2.1 41 (by decide) (by decide)
    have e45 : σ 86 45 = f 45 := R.2.1 45 (by decide) (by decide)
    have i48 : -2147483648 ≤ f 48 ∧ f 48 < 2147483648 := Q.2.2.2.1
    have wn := W_n W
    have v := sLs_v W hn
    have wp := W_p W
    obtain ⟨p, hp⟩ : ∃ p : Nat, p = (sLs f).toNat := ⟨_, rfl⟩
    have hpi : sLs f = (p : Int) := by omega
    rw [← hp] at v
    have p5 : p < 5 := by omega
    have wd := W_d W p5
    have ep : σ 86 p = f p := R.1 p (by omega)
    have ep5 : σ 86 (5 + p) = f (5 + p) := R.1 (5 + p) (by omega)
    have t5 : (5 + (p : Int)).toNat = 5 + p := by omega
    obtain ⟨s, es⟩ : ∃ s, s = m_up (m_up (m_up σ 86 48 (if f 43 ≤ sUA f (f 44) then f 48 else m_w (f 48 + 1))) 86 p (f p - 1)) 86 (5 + p) (m_w (f (5 + p) + 1)) := ⟨_, rfl⟩
    have e8 : s 86 = g1 (g1 (g1 (σ 86) 48 (if f 43 ≤ sUA f (f 44) then f 48 else m_w (f 48 + 1))) p (f p - 1)) (5 + p) (m_w (f (5 + p) + 1)) := by rw [es, m_up_g, m_up_g, m_up_g]
    have ek : ∀ k, ¬ k = 48 → ¬ k = 5 + p → s 86 k = if k = p then f p - 1 else σ 86 k := fun k a b => by
      rw [e8, g1_n b]
      by_cases g : k = p
      · rw [if_pos g, g, g1_s]
      · rw [if_neg g, g1_n g, g1_n a]
    have eg : ∀ k, k < 15 ∨ 40 ≤ k → k < 49 → s 86 k = gL (g1 f 48 (if f 43 ≤ sUA f (f 44) then f 48 else m_w (f 48 + 1))) p k := fun k a b => by
      rw [e8]
      unfold gL
      rw [show g1 f 48 (if f 43 ≤ sUA f (f 44) then f 48 else m_w (f 48 + 1)) p = f p from g1_n (by omega), show g1 f 48 (if f 43 ≤ sUA f (f 44) then f 48 else m_w (f 48 + 1)) (5 + p) = f (5 + p) from g1_n (by omega)]
      unfold g1
      have r : k < 15 → σ 86 k = f k := R.1 k
      have r2 : 40 ≤ k → k < 49 → σ 86 k = f k := R.2.1 k
      (repeat' split) <;> first | rfl | omega
    have eD : jD (s 86) := by
      have k0 := ek 0 (by decide) (by omega)
      have k1 := ek 1 (by decide) (by omega)
      have k2 := ek 2 (by decide) (by omega)
      have k3 := ek 3 (by decide) (by omega)
      have k4 := ek 4 (by decide) (by omega)
      have k40 := ek 40 (by decide) (by omega)
      rw [if_neg (by omega)] at k40
      unfold jD at D ⊢
      have g : p = 0 ∨ p = 1 ∨ p = 2 ∨ p = 3 ∨ p = 4 := by omega
      rcases g with rfl | rfl | rfl | rfl | rfl <;> simp only [Nat.reduceEqDiff, if_true, if_false, ↓reduceIte] at k0 k1 k2 k3 k4 <;> omega
    obtain ⟨σ1, c2, x1, x2⟩ := j_ends (d := d + 3) (q := p) eD (by rw [ek 40 (by decide) (by omega), if_neg (by omega), R.2.1 40 (by decide) (by decide)]; omega)
    have ec : ∀ c, ¬ c = 86 → σ1 c = σ c := fun c hc => by rw [x2 c hc, es, m_up_x hc, m_up_x hc, m_up_x hc]
    have T1 : sTR σ1 8 f := sTR_fr (fun c a b => ec c (by omega)) T
    obtain ⟨σ2, c3, F3, T3, H3⟩ := c_doubt (d := d) T1 W (sHC_f H (fun c a b => ec c (by omega))) hu hn
    have Q3 := sRq_doubt Q hn
    have c4 := c_doubt1 (d := d) T3 Q3.1.1 gDb_43
    have ua := j_ua (d := d + 3) (face := f 44) D
    rw [R_ua R] at ua
    rw [hpi] at c3
    refine ⟨σ2, ?_, gDb f, gU u, gH u h f, l, t, Q3.1, T3, ⟨H3, by unfold gU; split <;> omega⟩, ⟨sTX_e X (by rw [F3 1 (by omega), ec 1 (by decide)]) (by rw [F3 2 (by omega), ec 2 (by decide)]), l60, L⟩, ?_, ?_⟩
    · rw [i_136]
      by_cases g : f 43 ≤ sUA f (f 44)
      · have hls : f 41 = (p : Int) := by rw [← hpi]; exact (if_pos g).symm
        rw [if_pos g] at es
        rw [es] at c2
        rw [hls] at e41
        simp (disch := first | with_unfolding_all exact id rfl | with_unfolding_all exact ⟨rfl, by decide, Nat.le_of_ble_eq_true rfl⟩ | with_unfolding_all exact Nat.le_of_ble_eq_true rfl | omega) only [b_136_0, b_136_1, b_136_2, b_136_3, b_136_4, b_136_5, b_136_6, b_136_7, b_136_8, b_136_9, b_136_10, b_136_11, b_136_12, b_136_13, b_136_14, b_136_15, b_136_16, b_136_17, b_136_18, e_goto, e_fall, e_if0, e_if1, e_if2, e_if3, e_if4, e_if5, e_ic0, e_ic1, e_ic2, e_ic3, e_ic4, e_ic5, e_null_n, e_null_r, e_nonn_n, e_nonn_r, e_ret0, e_ret1, e_ret20, e_ret21, e_retb, e_ret3, e_ret4, e_pi, e_pj, e_pf, e_pn, e_iadd, e_isub, e_imul, e_iand, e_ixor, e_ishl, e_ishr, e_iushr, e_ladd, e_lsub, e_lmul, e_idiv, e_irem, e_ldiv, e_lrem, e_ineg, e_lneg, e_lcmp, e_i2l, e_l2f, e_f2i, e_i2b, e_fcg, e_fcl, e_dup, e_dupi, e_dup2, s_il, s_ll, s_fl, s_al, s_inc, e_is, e_ls, e_fs, e_aS, e_gi, e_gb, e_gj, s_gr, s_pfi, s_pfj, s_pfb, s_v1, s_v2, s_v3, s_v4, s_v5, s_v6, s_s1, s_s2, s_s3, s_s4, s_s5, s_s6, m_kI_I, m_kJ_J, m_kF_F, m_kR_R, m_ld0, m_ldS, m_st0, m_stS, m_s1, m_s2, m_kl, Option.bind_some, Option.toList_some, Option.toList_none, List.cons_append, List.nil_append, Nat.zero_add, Nat.reduceAdd, Nat.reduceSub, Nat.zero_sub, Nat.reduceEqDiff, Int.reduceLE, Int.reduceLT, Int.reduceEq, Int.reduceNe, Int.reduceAdd, Int.reduceSub, Int.reduceMul, Int.reduceNeg, Int.reduceToNat, Int.toNat_zero, Int.toNat_one, Int.zero_add, Int.zero_mul, Int.one_mul, ↓reduceIte, not_false_eq_true, not_true_eq_false, m_up_s, m_up_c, m_up_k, ne_eq, and_self, and_true, true_and, and_false, false_and, or_true, or_false, true_or, false_or, a_2, u_2, l_2, a_4, u_4, l_4, a_7, u_7, l_7, a_9, u_9, l_9, a_10, u_10, l_10, a_11, u_11, l_11, a_12, u_12, l_12, a_14, u_14, l_14, a_75, u_75, l_75, a_76, u_76, l_76, a_78, u_78, l_78, a_79, u_79, l_79, a_81, u_81, l_81, a_82, u_82, l_82, a_83, u_83, l_83, a_85, u_85, l_85, a_86, u_86, l_86, r_0_0, r_0_1, r_0_2, r_0_3, r_0_4, r_0_5, r_0_6, r_1_0, r_3_0, r_5_0, r_6_2, r_8_9, r_8_10, r_8_11, r_8_12, r_8_13, r_13_2, r_15_0, r_73_0, r_73_1, r_74_2, r_74_3, r_77_2, r_77_3, r_80_0, r_80_1, r_80_2, r_80_3, r_84_2, w_n1, w_0, w_1, w_2, w_3, w_4, w_5, w_6, w_7, w_8, w_9, w_10, w_11, w_12, w_13, w_14, w_15, w_16, w_17, w_18, w_19, w_20, w_21, w_22, w_23, w_24, w_25, w_26, w_27, w_28, w_29, w_30, w_31, w_32, w_33, w_34, w_35, w_36, w_37, w_38, w_39, w_40, w_41, w_42, w_43, w_44, w_45, w_46, w_47, w_48, w_49, w_50, w_51, w_52, w_53, w_54, w_55, w_56, w_57, w_58, w_59, w_60, w_61, w_62, w_63, w_64, w_65, w_66, w_67, w_68, w_69, w_n1000, w_n1001, w_n1002, w_n1003, w_65536, w_1103, w_377, w_127, w_126, w_128, w_65535, w_2147483647, w_795577677, t_0_0, t_0_1, t_0_2, t_0_d, t_1_0, t_1_1, t_1_2, t_1_3, t_1_4, t_1_5, t_1_6, t_1_7, t_1_8, t_1_9, t_1_10, t_1_11, t_1_12, t_1_13, t_1_d, v_0_32, v_0_45, v_0_47, v_0_d, e_tsw, e_lsw, q_le1, q_le0, q_lt1, q_lt0, q_eq1, q_eq0, Int.add_zero, m_ca, Int.reduceNatCast', m_bite, m_b0, m_b1, m_nn, m_tn, m_w_id, m_x_id, hn, ua, e41, e43, e44, e48, ep, ep5, t5, g, c2, c3, c4]
      · have hls : f 45 = (p : Int) := by rw [← hpi]; exact (if_neg g).symm
        rw [if_neg g] at es
        rw [es] at c2
        rw [hls] at e45
        simp (disch := first | with_unfolding_all exact id rfl | with_unfolding_all exact ⟨rfl, by decide, Nat.le_of_ble_eq_true rfl⟩ | with_unfolding_all exact Nat.le_of_ble_eq_true rfl | omega) only [b_136_0, b_136_1, b_136_2, b_136_3, b_136_4, b_136_5, b_136_6, b_136_7, b_136_8, b_136_9, b_136_10, b_136_11, b_136_12, b_136_13, b_136_14, b_136_15, b_136_16, b_136_17, b_136_18, e_goto, e_fall, e_if0, e_if1, e_if2, e_if3, e_if4, e_if5, e_ic0, e_ic1, e_ic2, e_ic3, e_ic4, e_ic5, e_null_n, e_null_r, e_nonn_n, e_nonn_r, e_ret0, e_ret1, e_ret20, e_ret21, e_retb, e_ret3, e_ret4, e_pi, e_pj, e_pf, e_pn, e_iadd, e_isub, e_imul, e_iand, e_ixor, e_ishl, e_ishr, e_iushr, e_ladd, e_lsub, e_lmul, e_idiv, e_irem, e_ldiv, e_lrem, e_ineg, e_lneg, e_lcmp, e_i2l, e_l2f, e_f2i, e_i2b, e_fcg, e_fcl, e_dup, e_dupi, e_dup2, s_il, s_ll, s_fl, s_al, s_inc, e_is, e_ls, e_fs, e_aS, e_gi, e_gb, e_gj, s_gr, s_pfi, s_pfj, s_pfb, s_v1, s_v2, s_v3, s_v4, s_v5, s_v6, s_s1, s_s2, s_s3, s_s4, s_s5, s_s6, m_kI_I, m_kJ_J, m_kF_F, m_kR_R, m_ld0, m_ldS, m_st0, m_stS, m_s1, m_s2, m_kl, Option.bind_some, Option.toList_some, Option.toList_none, List.cons_append, List.nil_append, Nat.zero_add, Nat.reduceAdd, Nat.reduceSub, Nat.zero_sub, Nat.reduceEqDiff, Int.reduceLE, Int.reduceLT, Int.reduceEq, Int.reduceNe, Int.reduceAdd, Int.reduceSub, Int.reduceMul, Int.reduceNeg, Int.reduceToNat, Int.toNat_zero, Int.toNat_one, Int.zero_add, Int.zero_mul, Int.one_mul, ↓reduceIte, not_false_eq_true, not_true_eq_false, m_up_s, m_up_c, m_up_k, ne_eq, and_self, and_true, true_and, and_false, false_and, or_true, or_false, true_or, false_or, a_2, u_2, l_2, a_4, u_4, l_4, a_7, u_7, l_7, a_9, u_9, l_9, a_10, u_10, l_10, a_11, u_11, l_11, a_12, u_12, l_12, a_14, u_14, l_14, a_75, u_75, l_75, a_76, u_76, l_76, a_78, u_78, l_78, a_79, u_79, l_79, a_81, u_81, l_81, a_82, u_82, l_82, a_83, u_83, l_83, a_85, u_85, l_85, a_86, u_86, l_86, r_0_0, r_0_1, r_0_2, r_0_3, r_0_4, r_0_5, r_0_6, r_1_0, r_3_0, r_5_0, r_6_2, r_8_9, r_8_10, r_8_11, r_8_12, r_8_13, r_13_2, r_15_0, r_73_0, r_73_1, r_74_2, r_74_3, r_77_2, r_77_3, r_80_0, r_80_1, r_80_2, r_80_3, r_84_2, w_n1, w_0, w_1, w_2, w_3, w_4, w_5, w_6, w_7, w_8, w_9, w_10, w_11, w_12, w_13, w_14, w_15, w_16, w_17, w_18, w_19, w_20, w_21, w_22, w_23, w_24, w_25, w_26, w_27, w_28, w_29, w_30, w_31, w_32, w_33, w_34, w_35, w_36, w_37, w_38, w_39, w_40, w_41, w_42, w_43, w_44, w_45, w_46, w_47, w_48, w_49, w_50, w_51, w_52, w_53, w_54, w_55, w_56, w_57, w_58, w_59, w_60, w_61, w_62, w_63, w_64, w_65, w_66, w_67, w_68, w_69, w_n1000, w_n1001, w_n1002, w_n1003, w_65536, w_1103, w_377, w_127, w_126, w_128, w_65535, w_2147483647, w_795577677, t_0_0, t_0_1, t_0_2, t_0_d, t_1_0, t_1_1, t_1_2, t_1_3, t_1_4, t_1_5, t_1_6, t_1_7, t_1_8, t_1_9, t_1_10, t_1_11, t_1_12, t_1_13, t_1_d, v_0_32, v_0_45, v_0_47, v_0_d, e_tsw, e_lsw, q_le1, q_le0, q_lt1, q_lt0, q_eq1, q_eq0, Int.add_zero, m_ca, Int.reduceNatCast', m_bite, m_b0, m_b1, m_nn, m_tn, m_w_id, m_x_id, hn, ua, e45, e43, e44, e48, ep, ep5, t5, g, c2, c3, c4]
    · rw [F3 86 (by omega), x1]
      unfold gDb
      rw [hpi, m_tn]
      exact R_gE (fun k a => eg k (by omega) (by omega)) (fun k a b => eg k (by omega) (by omega))
    · unfold gDb
      rw [gE_e (by omega), gL_e (by omega) (by omega), g1_n (by omega)]
      exact hP
end J4
