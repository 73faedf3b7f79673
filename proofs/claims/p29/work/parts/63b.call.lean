/-! exact calls of the law -/
section J5
variable {d : Nat} {σ : Nat → Nat → Int} {f : Nat → Int} {u : Nat} {h : Nat → Nat → Int} {l : Nat} {t : Nat → Int} {P : Int}
theorem j_call (V : jV σ f u h l t P) : ∃ σ', m_ev (d + 6) 137 [m_R 0, m_R 86] (m_G0, σ) = some (some (m_I 1), (m_G0, σ')) ∧ jE σ' P := by
  have V0 := V
  obtain ⟨Q, T, ⟨H, hu⟩, ⟨X, l60, L⟩, R, hP⟩ := V
  have W := Q.1
  have e43 : σ 86 43 = f 43 := R.2.1 43 (by decide) (by decide)
  by_cases hn : f 43 = -1003
  · have c1 := c_exact1 (d := d) T W hn
    refine ⟨σ, ?_, f, u, h, l, t, V0⟩
    rw [hn] at e43
    rw [i_137]
    simp (disch := first | with_unfolding_all exact id rfl | with_unfolding_all exact ⟨rfl, by decide, Nat.le_of_ble_eq_true rfl⟩ | with_unfolding_all exact Nat.le_of_ble_eq_true rfl | omega) only [b_137_0, b_137_1, b_137_2, b_137_3, b_137_4, b_137_5, b_137_6, b_137_7, b_137_8, b_137_9, b_137_10, b_137_11, b_137_12, b_137_13, b_137_14, b_137_15, b_137_16, b_137_17, b_137_18, b_137_19, b_137_20, b_137_21, b_137_22, e_goto, e_fall, e_if0, e_if1, e_if2, e_if3, e_if4, e_if5, e_ic0, e_ic1, e_ic2, e_ic3, e_ic4, e_ic5, e_null_n, e_null_r, e_nonn_n, e_nonn_r, e_ret0, e_ret1, e_ret20, e_ret21, e_retb, e_ret3, e_ret4, e_pi, e_pj, e_pf, e_pn, e_iadd, e_isub, e_imul, e_iand, e_ixor, e_ishl, e_ishr, e_iushr, e_ladd, e_lsub, e_lmul, e_idiv, e_irem, e_ldiv, e_lrem, e_ineg, e_lneg, e_lcmp, e_i2l, e_l2f, e_f2i, e_i2b, e_fcg, e_fcl, e_dup, e_dupi, e_dup2, s_il, s_ll, s_fl, s_al, s_inc, e_is, e_ls, e_fs, e_aS, e_gi, e_gb, e_gj, s_gr, s_pfi, s_pfj, s_pfb, s_v1, s_v2, s_v3, s_v4, s_v5, s_v6, s_s1, s_s2, s_s3, s_s4, s_s5, s_s6, m_kI_I, m_kJ_J, m_kF_F, m_kR_R, m_ld0, m_ldS, m_st0, m_stS, m_s1, m_s2, m_kl, Option.bind_some, Option.toList_some, Option.toList_none, List.cons_append, List.nil_append, Nat.zero_add, Nat.reduceAdd, Nat.reduceSub, Nat.zero_sub, Nat.reduceEqDiff, Int.reduceLE, Int.reduceLT, Int.reduceEq, Int.reduceNe, Int.reduceAdd, Int.reduceSub, Int.reduceMul, Int.reduceNeg, Int.reduceToNat, Int.toNat_zero, Int.toNat_one, Int.zero_add, Int.zero_mul, Int.one_mul, ↓reduceIte, not_false_eq_true, not_true_eq_false, m_up_s, m_up_c, m_up_k, ne_eq, and_self, and_true, true_and, and_false, false_and, or_true, or_false, true_or, false_or, a_2, u_2, l_2, a_4, u_4, l_4, a_7, u_7, l_7, a_9, u_9, l_9, a_10, u_10, l_10, a_11, u_11, l_11, a_12, u_12, l_12, a_14, u_14, l_14, a_75, u_75, l_75, a_76, u_76, l_76, a_78, u_78, l_78, a_79, u_79, l_79, a_81, u_81, l_81, a_82, u_82, l_82, a_83, u_83, l_83, a_85, u_85, l_85, a_86, u_86, l_86, r_0_0, r_0_1, r_0_2, r_0_3, r_0_4, r_0_5, r_0_6, r_1_0, r_3_0, r_5_0, r_6_2, r_8_9, r_8_10, r_8_11, r_8_12, r_8_13, r_13_2, r_15_0, r_73_0, r_73_1, r_74_2, r_74_3, r_77_2, r_77_3, r_80_0, r_80_1, r_80_2, r_80_3, r_84_2, w_n1, w_0, w_1, w_2, w_3, w_4, w_5, w_6, w_7, w_8, w_9, w_10, w_11, w_12, w_13, w_14, w_15, w_16, w_17, w_18, w_19, w_20, w_21, w_22, w_23, w_24, w_25, w_26, w_27, w_28, w_29, w_30, w_31, w_32, w_33, w_34, w_35, w_36, w_37, w_38, w_39, w_40, w_41, w_42, w_43, w_44, w_45, w_46, w_47, w_48, w_49, w_50, w_51, w_52, w_53, w_54, w_55, w_56, w_57, w_58, w_59, w_60, w_61, w_62, w_63, w_64, w_65, w_66, w_67, w_68, w_69, w_n1000, w_n1001, w_n1002, w_n1003, w_65536, w_1103, w_377, w_127, w_126, w_128, w_65535, w_2147483647, w_795577677, t_0_0, t_0_1, t_0_2, t_0_d, t_1_0, t_1_1, t_1_2, t_1_3, t_1_4, t_1_5, t_1_6, t_1_7, t_1_8, t_1_9, t_1_10, t_1_11, t_1_12, t_1_13, t_1_d, v_0_32, v_0_45, v_0_47, v_0_d, e_tsw, e_lsw, q_le1, q_le0, q_lt1, q_lt0, q_eq1, q_eq0, Int.add_zero, m_ca, Int.reduceNatCast', m_bite, m_b0, m_b1, m_nn, m_tn, m_w_id, m_x_id, e43, c1]
  · have D := R_D R W
    have e44 : σ 86 44 = f 44 := R.2.1 44 (by decide) (by decide)
    have e41 : σ 86 41 = f 41 := R.2.1 41 (by decide) (by decide)
    have wn := W_n W
    have v := W_t W (W_al W (by omega))
    have wp := W_p W
    obtain ⟨p, hp⟩ : ∃ p : Nat, p = (f 41).toNat := ⟨_, rfl⟩
    have hpi : f 41 = (p : Int) := by omega
    rw [← hp] at v
    have p5 : p < 5 := by omega
    have wd := W_d W p5
    have ep : σ 86 p = f p := R.1 p (by omega)
    have ep5 : σ 86 (5 + p) = f (5 + p) := R.1 (5 + p) (by omega)
    have ep10 : σ 86 (10 + p) = f (10 + p) := R.1 (10 + p) (by omega)
    have t5 : (5 + (p : Int)).toNat = 5 + p := by omega
    have t10 : (10 + (p : Int)).toNat = 10 + p := by omega
    have ua := j_ua (d := d + 3) (face := f 44) D
    rw [R_ua R] at ua
    have Q3 := sRq_exact Q hn
    have main : ∀ (b : Nat) (x : Int), (b = 5 ∨ b = 10) → 0 ≤ x ∧ x ≤ 5 → gX0 f = g1 (g1 f p x) (b + p) (m_w (f (b + p) + 1)) → ∃ σ1 σ2 : Nat → Nat → Int, m_ev (d + 5) 135 [m_R 86, m_I p] (m_G0, m_up (m_up σ 86 p x) 86 (b + p) (m_w (f (b + p) + 1))) = some (none, (m_G0, σ1)) ∧ m_ev (d + 5) 64 [m_R 0] (m_G0, σ1) = some (some (m_I (if sUA f (f 44) = f 43 then 1 else 0)), (m_G0, σ2)) ∧ jE σ2 P := by
      intro b x hb hx hg
      obtain ⟨s, es⟩ : ∃ s, s = m_up (m_up σ 86 p x) 86 (b + p) (m_w (f (b + p) + 1)) := ⟨_, rfl⟩
      have e8 : s 86 = g1 (g1 (σ 86) p x) (b + p) (m_w (f (b + p) + 1)) := by rw [es, m_up_g, m_up_g]
      have ek : ∀ k, ¬ k = b + p → s 86 k = if k = p then x else σ 86 k := fun k b => by
        rw [e8, g1_n b]
        by_cases g : k = p
        · rw [if_pos g, g, g1_s]
        · rw [if_neg g, g1_n g]
      have eg : ∀ k, k < 15 ∨ 40 ≤ k → k < 49 → s 86 k = gX0 f k := fun k a b => by
        rw [e8, hg]
        unfold g1
        have r : k < 15 → σ 86 k = f k := R.1 k
        have r2 : 40 ≤ k → k < 49 → σ 86 k = f k := R.2.1 k
        (repeat' split) <;> first | rfl | omega
      have eD : jD (s 86) := by
        have k0 := ek 0 (by omega)
        have k1 := ek 1 (by omega)
        have k2 := ek 2 (by omega)
        have k3 := ek 3 (by omega)
        have k4 := ek 4 (by omega)
        have k40 := ek 40 (by omega)
        rw [if_neg (by omega)] at k40
        have r40 : σ 86 40 = f 40 := R.2.1 40 (by decide) (by decide)
        unfold jD at D ⊢
        have g : p = 0 ∨ p = 1 ∨ p = 2 ∨ p = 3 ∨ p = 4 := by omega
        rcases g with rfl | rfl | rfl | rfl | rfl <;> simp only [Nat.reduceEqDiff, if_true, if_false, ↓reduceIte] at k0 k1 k2 k3 k4 <;> omega
      obtain ⟨σ1, c2, x1, x2⟩ := j_ends (d := d + 3) (q := p) eD (by rw [ek 40 (by omega), if_neg (by omega), R.2.1 40 (by decide) (by decide)]; omega)
      have ec : ∀ c, ¬ c = 86 → σ1 c = σ c := fun c hc => by rw [x2 c hc, es, m_up_x hc, m_up_x hc]
      have T1 : sTR σ1 8 f := sTR_fr (fun c a b => ec c (by omega)) T
      obtain ⟨σ2, c3, F3, T3, H3⟩ := c_exact (d := d) T1 W (sHC_f H (fun c a b => ec c (by omega))) hu hn
      refine ⟨σ1, σ2, by rw [← es]; exact c2, c3, gEx f, gU u, gH u h f, l, t, Q3.1, T3, ⟨H3, by unfold gU; split <;> omega⟩, ⟨sTX_e X (by rw [F3 1 (by omega), ec 1 (by decide)]) (by rw [F3 2 (by omega), ec 2 (by decide)]), l60, L⟩, ?_, ?_⟩
      · rw [F3 86 (by omega), x1]
        unfold gEx
        rw [hpi]
        exact R_gE (fun k a => eg k (by omega) (by omega)) (fun k a b => eg k (by omega) (by omega))
      · unfold gEx
        rw [gE_e (by omega), hg, g1_n (by omega), g1_n (by omega)]
        exact hP
    by_cases g : sUA f (f 44) = f 43
    · have g0 : gX0 f = gWn f p := by unfold gX0; rw [if_pos g, hp]
      by_cases g5 : f p < 5
      · obtain ⟨σ1, σ2, c2, c3, J⟩ := main 10 (f p + 1) (by omega) (by omega) (by rw [g0]; unfold gWn; rw [if_pos g5])
        rw [if_pos g] at c3
        refine ⟨σ2, ?_, J⟩
        rw [hpi] at e41
        rw [i_137]
        simp (disch := first | with_unfolding_all exact id rfl | with_unfolding_all exact ⟨rfl, by decide, Nat.le_of_ble_eq_true rfl⟩ | with_unfolding_all exact Nat.le_of_ble_eq_true rfl | omega) only [b_137_0, b_137_1, b_137_2, b_137_3, b_137_4, b_137_5, b_137_6, b_137_7, b_137_8, b_137_9, b_137_10, b_137_11, b_137_12, b_137_13, b_137_14, b_137_15, b_137_16, b_137_17, b_137_18, b_137_19, b_137_20, b_137_21, b_137_22, e_goto, e_fall, e_if0, e_if1, e_if2, e_if3, e_if4, e_if5, e_ic0, e_ic1, e_ic2, e_ic3, e_ic4, e_ic5, e_null_n, e_null_r, e_nonn_n, e_nonn_r, e_ret0, e_ret1, e_ret20, e_ret21, e_retb, e_ret3, e_ret4, e_pi, e_pj, e_pf, e_pn, e_iadd, e_isub, e_imul, e_iand, e_ixor, e_ishl, e_ishr, e_iushr, e_ladd, e_lsub, e_lmul, e_idiv, e_irem, e_ldiv, e_lrem, e_ineg, e_lneg, e_lcmp, e_i2l, e_l2f, e_f2i, e_i2b, e_fcg, e_fcl, e_dup, e_dupi, e_dup2, s_il, s_ll, s_fl, s_al, s_inc, e_is, e_ls, e_fs, e_aS, e_gi, e_gb, e_gj, s_gr, s_pfi, s_pfj, s_pfb, s_v1, s_v2, s_v3, s_v4, s_v5, s_v6, s_s1, s_s2, s_s3, s_s4, s_s5, s_s6, m_kI_I, m_kJ_J, m_kF_F, m_kR_R, m_ld0, m_ldS, m_st0, m_stS, m_s1, m_s2, m_kl, Option.bind_some, Option.toList_some, Option.toList_none, List.cons_append, List.nil_append, Nat.zero_add, Nat.reduceAdd, Nat.reduceSub, Nat.zero_sub, Nat.reduceEqDiff, Int.reduceLE, Int.reduceLT, Int.reduceEq, Int.reduceNe, Int.reduceAdd, Int.reduceSub, Int.reduceMul, Int.reduceNeg, Int.reduceToNat, Int.toNat_zero, Int.toNat_one, Int.zero_add, Int.zero_mul, Int.one_mul, ↓reduceIte, not_false_eq_true, not_true_eq_false, m_up_s, m_up_c, m_up_k, ne_eq, and_self, and_true, true_and, and_false, false_and, or_true, or_false, true_or, false_or, a_2, u_2, l_2, a_4, u_4, l_4, a_7, u_7, l_7, a_9, u_9, l_9, a_10, u_10, l_10, a_11, u_11, l_11, a_12, u_12, l_12, a_14, u_14, l_14, a_75, u_75, l_75, a_76, u_76, l_76, a_78, u_78, l_78, a_79, u_79, l_79, a_81, u_81, l_81, a_82, u_82, l_82, a_83, u_83, l_83, a_85, u_85, l_85, a_86, u_86, l_86, r_0_0, r_0_1, r_0_2, r_0_3, r_0_4, r_0_5, r_0_6, r_1_0, r_3_0, r_5_0, r_6_2, r_8_9, r_8_10, r_8_11, r_8_12, r_8_13, r_13_2, r_15_0, r_73_0, r_73_1, r_74_2, r_74_3, r_77_2, r_77_3, r_80_0, r_80_1, r_80_2, r_80_3, r_84_2, w_n1, w_0, w_1, w_2, w_3, w_4, w_5, w_6, w_7, w_8, w_9, w_10, w_11, w_12, w_13, w_14, w_15, w_16, w_17, w_18, w_19, w_20, w_21, w_22, w_23, w_24, w_25, w_26, w_27, w_28, w_29, w_30, w_31, w_32, w_33, w_34, w_35, w_36, w_37, w_38, w_39, w_40, w_41, w_42, w_43, w_44, w_45, w_46, w_47, w_48, w_49, w_50, w_51, w_52, w_53, w_54, w_55, w_56, w_57, w_58, w_59, w_60, w_61, w_62, w_63, w_64, w_65, w_66, w_67, w_68, w_69, w_n1000, w_n1001, w_n1002, w_n1003, w_65536, w_1103, w_377, w_127, w_126, w_128, w_65535, w_2147483647, w_795577677, t_0_0, t_0_1, t_0_2, t_0_d, t_1_0, t_1_1, t_1_2, t_1_3, t_1_4, t_1_5, t_1_6, t_1_7, t_1_8, t_1_9, t_1_10, t_1_11, t_1_12, t_1_13, t_1_d, v_0_32, v_0_45, v_0_47, v_0_d, e_tsw, e_lsw, q_le1, q_le0, q_lt1, q_lt0, q_eq1, q_eq0, Int.add_zero, m_ca, Int.reduceNatCast', m_bite, m_b0, m_b1, m_nn, m_tn, m_w_id, m_x_id, hn, ua, e41, e43, e44, ep, ep10, t10, g, g5, c2, c3]
      · obtain ⟨σ1, σ2, c2, c3, J⟩ := main 10 (f p) (by omega) (by omega) (by rw [g0]; unfold gWn; rw [if_neg g5, Int.add_zero])
        rw [if_pos g] at c3
        refine ⟨σ2, ?_, J⟩
        rw [hpi] at e41
        rw [i_137]
        simp (disch := first | with_unfolding_all exact id rfl | with_unfolding_all exact ⟨rfl, by decide, Nat.le_of_ble_eq_true rfl⟩ | with_unfolding_all exact Nat.le_of_ble_eq_true rfl | omega) only [b_137_0, b_137_1, b_137_2, b_137_3, b_137_4, b_137_5, b_137_6, b_137_7, b_137_8, b_137_9, b_137_10, b_137_11, b_137_12, b_137_13, b_137_14, b_137_15, b_137_16, b_137_17, b_137_18, b_137_19, b_137_20, b_137_21, b_137_22, e_goto, e_fall, e_if0, e_if1, e_if2, e_if3, e_if4, e_if5, e_ic0, e_ic1, e_ic2, e_ic3, e_ic4, e_ic5, e_null_n, e_null_r, e_nonn_n, e_nonn_r, e_ret0, e_ret1, e_ret20, e_ret21, e_retb, e_ret3, e_ret4, e_pi, e_pj, e_pf, e_pn, e_iadd, e_isub, e_imul, e_iand, e_ixor, e_ishl, e_ishr, e_iushr, e_ladd, e_lsub, e_lmul, e_idiv, e_irem, e_ldiv, e_lrem, e_ineg, e_lneg, e_lcmp, e_i2l, e_l2f, e_f2i, e_i2b, e_fcg, e_fcl, e_dup, e_dupi, e_dup2, s_il, s_ll, s_fl, s_al, s_inc, e_is, e_ls, e_fs, e_aS, e_gi, e_gb, e_gj, s_gr, s_pfi, s_pfj, s_pfb, s_v1, s_v2, s_v3, s_v4, s_v5, s_v6, s_s1, s_s2, s_s3, s_s4, s_s5, s_s6, m_kI_I, m_kJ_J, m_kF_F, m_kR_R, m_ld0, m_ldS, m_st0, m_stS, m_s1, m_s2, m_kl, Option.bind_some, Option.toList_some, Option.toList_none, List.cons_append, List.nil_append, Nat.zero_add, Nat.reduceAdd, Nat.reduceSub, Nat.zero_sub, Nat.reduceEqDiff, Int.reduceLE, Int.reduceLT, Int.reduceEq, Int.reduceNe, Int.reduceAdd, Int.reduceSub, Int.reduceMul, Int.reduceNeg, Int.reduceToNat, Int.toNat_zero, Int.toNat_one, Int.zero_add, Int.zero_mul, Int.one_mul, ↓reduceIte, not_false_eq_true, not_true_eq_false, m_up_s, m_up_c, m_up_k, ne_eq, and_self, and_true, true_and, and_false, false_and, or_true, or_false, true_or, false_or, a_2, u_2, l_2, a_4, u_4, l_4, a_7, u_7, l_7, a_9, u_9, l_9, a_10, u_10, l_10, a_11, u_11, l_11, a_12, u_12, l_12, a_14, u_14, l_14, a_75, u_75, l_75, a_76, u_76, l_76, a_78, u_78, l_78, a_79, u_79, l_79, a_81, u_81, l_81, a_82, u_82, l_82, a_83, u_83, l_83, a_85, u_85, l_85, a_86, u_86, l_86, r_0_0, r_0_1, r_0_2, r_0_3, r_0_4, r_0_5, r_0_6, r_1_0, r_3_0, r_5_0, r_6_2, r_8_9, r_8_10, r_8_11, r_8_12, r_8_13, r_13_2, r_15_0, r_73_0, r_73_1, r_74_2, r_74_3, r_77_2, r_77_3, r_80_0, r_80_1, r_80_2, r_80_3, r_84_2, w_n1, w_0, w_1, w_2, w_3, w_4, w_5, w_6, w_7, w_8, w_9, w_10, w_11, w_12, w_13, w_14, w_15, w_16, w_17, w_18, w_19, w_20, w_21, w_22, w_23, w_24, w_25, w_26, w_27, w_28, w_29, w_30, w_31, w_32, w_33, w_34, w_35, w_36, w_37, w_38, w_39, w_40, w_41, w_42, w_43, w_44, w_45, w_46, w_47, w_48, w_49, w_50, w_51, w_52, w_53, w_54, w_55, w_56, w_57, w_58, w_59, w_60, w_61, w_62, w_63, w_64, w_65, w_66, w_67, w_68, w_69, w_n1000, w_n1001, w_n1002, w_n1003, w_65536, w_1103, w_377, w_127, w_126, w_128, w_65535, w_2147483647, w_795577677, t_0_0, t_0_1, t_0_2, t_0_d, t_1_0, t_1_1, t_1_2, t_1_3, t_1_4, t_1_5, t_1_6, t_1_7, t_1_8, t_1_9, t_1_10, t_1_11, t_1_12, t_1_13, t_1_d, v_0_32, v_0_45, v_0_47, v_0_d, e_tsw, e_lsw, q_le1, q_le0, q_lt1, q_lt0, q_eq1, q_eq0, Int.add_zero, m_ca, Int.reduceNatCast', m_bite, m_b0, m_b1, m_nn, m_tn, m_w_id, m_x_id, hn, ua, e41, e43, e44, ep, ep10, t10, g, g5, c2, c3]
    · have g0 : gX0 f = gL f p := by unfold gX0; rw [if_neg g, hp]
      obtain ⟨σ1, σ2, c2, c3, J⟩ := main 5 (f p - 1) (by omega) (by omega) (by rw [g0]; rfl)
      rw [if_neg g] at c3
      refine ⟨σ2, ?_, J⟩
      have em : f p + -1 = f p - 1 := rfl
      rw [hpi] at e41
      rw [i_137]
      simp (disch := first | with_unfolding_all exact id rfl | with_unfolding_all exact ⟨rfl, by decide, Nat.le_of_ble_eq_true rfl⟩ | with_unfolding_all exact Nat.le_of_ble_eq_true rfl | omega) only [b_137_0, b_137_1, b_137_2, b_137_3, b_137_4, b_137_5, b_137_6, b_137_7, b_137_8, b_137_9, b_137_10, b_137_11, b_137_12, b_137_13, b_137_14, b_137_15, b_137_16, b_137_17, b_137_18, b_137_19, b_137_20, b_137_21, b_137_22, e_goto, e_fall, e_if0, e_if1, e_if2, e_if3, e_if4, e_if5, e_ic0, e_ic1, e_ic2, e_ic3, e_ic4, e_ic5, e_null_n, e_null_r, e_nonn_n, e_nonn_r, e_ret0, e_ret1, e_ret20, e_ret21, e_retb, e_ret3, e_ret4, e_pi, e_pj, e_pf, e_pn, e_iadd, e_isub, e_imul, e_iand, e_ixor, e_ishl, e_ishr, e_iushr, e_ladd, e_lsub, e_lmul, e_idiv, e_irem, e_ldiv, e_lrem, e_ineg, e_lneg, e_lcmp, e_i2l, e_l2f, e_f2i, e_i2b, e_fcg, e_fcl, e_dup, e_dupi, e_dup2, s_il, s_ll, s_fl, s_al, s_inc, e_is, e_ls, e_fs, e_aS, e_gi, e_gb, e_gj, s_gr, s_pfi, s_pfj, s_pfb, s_v1, s_v2, s_v3, s_v4, s_v5, s_v6, s_s1, s_s2, s_s3, s_s4, s_s5, s_s6, m_kI_I, m_kJ_J, m_kF_F, m_kR_R, m_ld0, m_ldS, m_st0, m_stS, m_s1, m_s2, m_kl, Option.bind_some, Option.toList_some, Option.toList_none, List.cons_append, List.nil_append, Nat.zero_add, Nat.reduceAdd, Nat.reduceSub, Nat.zero_sub, Nat.reduceEqDiff, Int.reduceLE, Int.reduceLT, Int.reduceEq, Int.reduceNe, Int.reduceAdd, Int.reduceSub, Int.reduceMul, Int.reduceNeg, Int.reduceToNat, Int.toNat_zero, Int.toNat_one, Int.zero_add, Int.zero_mul, Int.one_mul, ↓reduceIte, not_false_eq_true, not_true_eq_false, m_up_s, m_up_c, m_up_k, ne_eq, and_self, and_true, true_and, and_false, false_and, or_true, or_false, true_or, false_or, a_2, u_2, l_2, a_4, u_4, l_4, a_7, u_7, l_7, a_9, u_9, l_9, a_10, u_10, l_10, a_11, u_11, l_11, a_12, u_12, l_12, a_14, u_14, l_14, a_75, u_75, l_75, a_76, u_76, l_76, a_78, u_78, l_78, a_79, u_79, l_79, a_81, u_81, l_81, a_82, u_82, l_82, a_83, u_83, l_83, a_85, u_85, l_85, a_86, u_86, l_86, r_0_0, r_0_1, r_0_2, r_0_3, r_0_4, r_0_5, r_0_6, r_1_0, r_3_0, r_5_0, r_6_2, r_8_9, r_8_10, r_8_11, r_8_12, r_8_13, r_13_2, r_15_0, r_73_0, r_73_1, r_74_2, r_74_3, r_77_2, r_77_3, r_80_0, r_80_1, r_80_2, r_80_3, r_84_2, w_n1, w_0, w_1, w_2, w_3, w_4, w_5, w_6, w_7, w_8, w_9, w_10, w_11, w_12, w_13, w_14, w_15, w_16, w_17, w_18, w_19, w_20, w_21, w_22, w_23, w_24, w_25, w_26, w_27, w_28, w_29, w_30, w_31, w_32, w_33, w_34, w_35, w_36, w_37, w_38, w_39, w_40, w_41, w_42, w_43, w_44, w_45, w_46, w_47, w_48, w_49, w_50, w_51, w_52, w_53, w_54, w_55, w_56, w_57, w_58, w_59, w_60, w_61, w_62, w_63, w_64, w_65, w_66, w_67, w_68, w_69, w_n1000, w_n1001, w_n1002, w_n1003, w_65536, w_1103, w_377, w_127, w_126, w_128, w_65535, w_2147483647, w_795577677, t_0_0, t_0_1, t_0_2, t_0_d, t_1_0, t_1_1, t_1_2, t_1_3, t_1_4, t_1_5, t_1_6, t_1_7, t_1_8, t_1_9, t_1_10, t_1_11, t_1_12, t_1_13, t_1_d, v_0_32, v_0_45, v_0_47, v_0_d, e_tsw, e_lsw, q_le1, q_le0, q_lt1, q_lt0, q_eq1, q_eq0, Int.add_zero, m_ca, Int.reduceNatCast', m_bite, m_b0, m_b1, m_nn, m_tn, m_w_id, m_x_id, hn, ua, e41, e43, e44, ep, ep5, t5, g, em, c2, c3]
end J5
