/-! a deal of the law -/
section J11
variable {d : Nat} {σ : Nat → Nat → Int} {f : Nat → Int} {u : Nat} {h : Nat → Nat → Int} {l : Nat} {t : Nat → Int} {P x : Int}
theorem gOf_N (W : sWF f) {N : Nat} (hN : (N : Int) = f 40) {n : Nat} (hn : (n : Int) < sDc f) : n < gOf f N + 0 := by
  have w := W_p W
  have w2 := W_ds W
  unfold sDc at hn
  have g : N = 2 ∨ N = 3 ∨ N = 4 ∨ N = 5 := by omega
  rcases g with rfl | rfl | rfl | rfl <;> simp only [gOf] <;> omega
theorem j_deal (V : jV σ f u h l t P) (hc : f 42 = 0 ∧ 2 ≤ sAl f) : ∃ σ', m_ev (d + 6) 140 [m_R 0, m_R 86, m_I x] (m_G0, σ) = some (some (m_I 1), (m_G0, σ')) ∧ jE σ' P := by
  obtain ⟨Q, T, ⟨H, hu⟩, ⟨X, l60, L⟩, R, hP⟩ := V
  have W := Q.1
  have D := R_D R W
  have wp := W_p W
  have e42 : σ 86 42 = f 42 := R.2.1 42 (by decide) (by decide)
  have e40 : σ 86 40 = f 40 := R.2.1 40 (by decide) (by decide)
  have hb : ∀ p, p < 5 → 0 ≤ f p ∧ f p ≤ 5 := fun p hp => ⟨(W_d W hp).1, (W_d W hp).2.1⟩
  obtain ⟨N, hN⟩ : ∃ N : Nat, (N : Int) = f 40 := ⟨(f 40).toNat, by omega⟩
  obtain ⟨s0, c0, F0, X0⟩ := c_clear (d := d + 4) X
  have G0 : jDs σ s0 f 0 0 0 t (fun _ => 0) := ⟨fun c h1 h2 => F0 c (by omega), ⟨X0, fun i hi => absurd hi (by omega)⟩, by rw [F0 86 (by omega)]; exact jFa_0, fun n hn => absurd hn (by show ¬ n < 0 + 0; omega)⟩
  obtain ⟨k', first', l', t', V', s, v7, v8, a1, a2, a3, a4⟩ := j_dlo (d := d) (x := x) W (e42.trans hc.1) T H (fun p hp => R.1 p (by omega)) Q.2.2.2.2 hN e40 N 0 0 0 t (fun _ => 0) s0 1 (sF1 f 0 (-1003)) 0 m_U m_U (by omega) (by omega) (by omega) G0 Q_0 (Or.inl ⟨rfl, rfl, rfl, rfl, fun q hq => absurd hq (by omega)⟩)
  obtain ⟨s1, c1, F1⟩ := c_fault0 (d := d) (jDs_T a3 T) W a3.2.1.1 a2 a3.2.1.2 Q.2.2.2.2
  have a5 := jDs_fa a3 F1
  rw [a4] at c1
  obtain ⟨s2, es2⟩ : ∃ s2, s2 = m_up s1 86 42 1 := ⟨_, rfl⟩
  have R1 : jR (s2 86) (gDl f V') := R_dl R hb (P := N) (fun q hq h2 => by have := (W_d W hq).2.2 (by omega); omega) a5.2.2.1 (by rw [es2, m_up_g])
  have ec : ∀ c, ¬ c = 86 → ¬ (1 ≤ c ∧ c < 5) → s2 c = σ c := fun c h1 h2 => by rw [es2, m_up_x h1]; exact a5.1 c h1 h2
  have X2 : sTX s2 l' t' := sTX_e a5.2.1.1 (by rw [es2, m_up_x (by decide)]) (by rw [es2, m_up_x (by decide)])
  have T2 : sTR s2 8 f := sTR_fr (fun c a b => ec c (by omega) (by omega)) T
  obtain ⟨σ2, c3, F3, T3, H3⟩ := c_deal (d := d) T2 W X2 a2 a5.2.1.2 (sHC_f H (fun c a b => ec c (by omega) (by omega))) hu hc (by rw [a4])
  rw [a4] at T3
  have T3 : sTR σ2 8 (gDl f V') := T3
  have Q3 := sRq_deal (v := V') Q hc (fun n hn => a5.2.2.2 n (gOf_N W hN hn))
  have e86 : σ2 86 = s2 86 := F3 86 (by omega)
  have D2 : jD (σ2 86) := by rw [e86]; exact R_D R1 Q3.1.1
  have k2 := j_dc (d := d + 4) D2
  rw [show sDc (σ2 86) = sDc f by rw [e86, R_dc R1]; unfold sDc; rw [gDl_e (by decide) (by decide), gDl_e (by decide) (by decide), gDl_e (by decide) (by decide), gDl_e (by decide) (by decide), gDl_e (by decide) (by decide)]] at k2
  have eA : s1 86 = s 86 := F1 86 (by omega)
  have D1 : jD (s1 86) := jD_e D (fun k hk => a5.2.2.1.1 k (by omega))
  have al := j_al (d := d + 4) D1
  rw [sAl_c (f := f) (fun p hp => (a5.2.2.1.1 p (by omega)).trans (R.1 p (by omega)))] at al
  have f42 : s1 86 42 = 0 := ((a5.2.2.1.1 42 (by omega)).trans e42).trans hc.1
  refine ⟨σ2, ?_, gDl f V', gU u, gH u h f, l', t', Q3.1, T3, ⟨H3, by unfold gU; split <;> omega⟩, ⟨sTX_e X2 (F3 1 (by omega)) (F3 2 (by omega)), a2, a5.2.1.2⟩, by rw [e86]; exact R1, ?_⟩
  · rw [es2] at c3
    have k0 : m_e none (m_ev (d + 5)) 140 (m_blk 140 0) [m_R 0, m_R 86, m_I x, m_U, m_U, m_U, m_U, m_U, m_U] [] (m_G0, σ) = m_e none (m_ev (d + 5)) 140 (m_blk 140 4) [m_R 0, m_R 86, m_I x, m_I 1, m_I 1, m_I 0, m_I (0 : Nat), m_U, m_U] [] (m_G0, s0) := by
      conv => lhs; rw [b_140_0]
      simp (disch := first | with_unfolding_all exact id rfl | with_unfolding_all exact ⟨rfl, by decide, Nat.le_of_ble_eq_true rfl⟩ | with_unfolding_all exact Nat.le_of_ble_eq_true rfl | omega) only [b_140_0, b_140_1, b_140_2, b_140_3, b_140_5, b_140_6, b_140_7, b_140_8, b_140_9, b_140_10, b_140_11, b_140_12, b_140_14, b_140_15, b_140_16, b_140_17, b_140_18, b_140_19, b_140_20, b_140_21, b_140_22, b_140_23, b_140_24, b_140_26, b_140_27, b_140_28, b_140_29, b_140_30, b_140_31, b_140_32, b_140_33, b_140_34, b_140_35, b_140_36, b_140_37, b_140_38, b_140_39, b_140_40, e_goto, e_fall, e_if0, e_if1, e_if2, e_if3, e_if4, e_if5, e_ic0, e_ic1, e_ic2, e_ic3, e_ic4, e_ic5, e_null_n, e_null_r, e_nonn_n, e_nonn_r, e_ret0, e_ret1, e_ret20, e_ret21, e_retb, e_ret3, e_ret4, e_pi, e_pj, e_pf, e_pn, e_iadd, e_isub, e_imul, e_iand, e_ixor, e_ishl, e_ishr, e_iushr, e_ladd, e_lsub, e_lmul, e_idiv, e_irem, e_ldiv, e_lrem, e_ineg, e_lneg, e_lcmp, e_i2l, e_l2f, e_f2i, e_i2b, e_fcg, e_fcl, e_dup, e_dupi, e_dup2, s_il, s_ll, s_fl, s_al, s_inc, e_is, e_ls, e_fs, e_aS, e_gi, e_gb, e_gj, s_gr, s_pfi, s_pfj, s_pfb, s_v1, s_v2, s_v3, s_v4, s_v5, s_v6, s_s1, s_s2, s_s3, s_s4, s_s5, s_s6, m_kI_I, m_kJ_J, m_kF_F, m_kR_R, m_ld0, m_ldS, m_st0, m_stS, m_s1, m_s2, m_kl, Option.bind_some, Option.toList_some, Option.toList_none, List.cons_append, List.nil_append, Nat.zero_add, Nat.reduceAdd, Nat.reduceSub, Nat.zero_sub, Nat.reduceEqDiff, Int.reduceLE, Int.reduceLT, Int.reduceEq, Int.reduceNe, Int.reduceAdd, Int.reduceSub, Int.reduceMul, Int.reduceNeg, Int.reduceToNat, Int.toNat_zero, Int.toNat_one, Int.zero_add, Int.zero_mul, Int.one_mul, ↓reduceIte, not_false_eq_true, not_true_eq_false, m_up_s, m_up_c, m_up_k, ne_eq, and_self, and_true, true_and, and_false, false_and, or_true, or_false, true_or, false_or, a_2, u_2, l_2, a_4, u_4, l_4, a_7, u_7, l_7, a_9, u_9, l_9, a_10, u_10, l_10, a_11, u_11, l_11, a_12, u_12, l_12, a_14, u_14, l_14, a_75, u_75, l_75, a_76, u_76, l_76, a_78, u_78, l_78, a_79, u_79, l_79, a_81, u_81, l_81, a_82, u_82, l_82, a_83, u_83, l_83, a_85, u_85, l_85, a_86, u_86, l_86, r_0_0, r_0_1, r_0_2, r_0_3, r_0_4, r_0_5, r_0_6, r_1_0, r_3_0, r_5_0, r_6_2, r_8_9, r_8_10, r_8_11, r_8_12, r_8_13, r_13_2, r_15_0, r_73_0, r_73_1, r_74_2, r_74_3, r_77_2, r_77_3, r_80_0, r_80_1, r_80_2, r_80_3, r_84_2, w_n1, w_0, w_1, w_2, w_3, w_4, w_5, w_6, w_7, w_8, w_9, w_10, w_11, w_12, w_13, w_14, w_15, w_16, w_17, w_18, w_19, w_20, w_21, w_22, w_23, w_24, w_25, w_26, w_27, w_28, w_29, w_30, w_31, w_32, w_33, w_34, w_35, w_36, w_37, w_38, w_39, w_40, w_41, w_42, w_43, w_44, w_45, w_46, w_47, w_48, w_49, w_50, w_51, w_52, w_53, w_54, w_55, w_56, w_57, w_58, w_59, w_60, w_61, w_62, w_63, w_64, w_65, w_66, w_67, w_68, w_69, w_n1000, w_n1001, w_n1002, w_n1003, w_65536, w_1103, w_377, w_127, w_126, w_128, w_65535, w_2147483647, w_795577677, t_0_0, t_0_1, t_0_2, t_0_d, t_1_0, t_1_1, t_1_2, t_1_3, t_1_4, t_1_5, t_1_6, t_1_7, t_1_8, t_1_9, t_1_10, t_1_11, t_1_12, t_1_13, t_1_d, v_0_32, v_0_45, v_0_47, v_0_d, e_tsw, e_lsw, q_le1, q_le0, q_lt1, q_lt0, q_eq1, q_eq0, Int.add_zero, m_ca, Int.reduceNatCast', m_bite, m_b0, m_b1, m_nn, m_tn, m_w_id, m_x_id, c0]
    rw [i_140, k0, a1, b_140_25]
    simp (disch := first | with_unfolding_all exact id rfl | with_unfolding_all exact ⟨rfl, by decide, Nat.le_of_ble_eq_true rfl⟩ | with_unfolding_all exact Nat.le_of_ble_eq_true rfl | omega) only [b_140_0, b_140_1, b_140_2, b_140_3, b_140_5, b_140_6, b_140_7, b_140_8, b_140_9, b_140_10, b_140_11, b_140_12, b_140_14, b_140_15, b_140_16, b_140_17, b_140_18, b_140_19, b_140_20, b_140_21, b_140_22, b_140_23, b_140_24, b_140_26, b_140_27, b_140_28, b_140_29, b_140_30, b_140_31, b_140_32, b_140_33, b_140_34, b_140_35, b_140_36, b_140_37, b_140_38, b_140_39, b_140_40, e_goto, e_fall, e_if0, e_if1, e_if2, e_if3, e_if4, e_if5, e_ic0, e_ic1, e_ic2, e_ic3, e_ic4, e_ic5, e_null_n, e_null_r, e_nonn_n, e_nonn_r, e_ret0, e_ret1, e_ret20, e_ret21, e_retb, e_ret3, e_ret4, e_pi, e_pj, e_pf, e_pn, e_iadd, e_isub, e_imul, e_iand, e_ixor, e_ishl, e_ishr, e_iushr, e_ladd, e_lsub, e_lmul, e_idiv, e_irem, e_ldiv, e_lrem, e_ineg, e_lneg, e_lcmp, e_i2l, e_l2f, e_f2i, e_i2b, e_fcg, e_fcl, e_dup, e_dupi, e_dup2, s_il, s_ll, s_fl, s_al, s_inc, e_is, e_ls, e_fs, e_aS, e_gi, e_gb, e_gj, s_gr, s_pfi, s_pfj, s_pfb, s_v1, s_v2, s_v3, s_v4, s_v5, s_v6, s_s1, s_s2, s_s3, s_s4, s_s5, s_s6, m_kI_I, m_kJ_J, m_kF_F, m_kR_R, m_ld0, m_ldS, m_st0, m_stS, m_s1, m_s2, m_kl, Option.bind_some, Option.toList_some, Option.toList_none, List.cons_append, List.nil_append, Nat.zero_add, Nat.reduceAdd, Nat.reduceSub, Nat.zero_sub, Nat.reduceEqDiff, Int.reduceLE, Int.reduceLT, Int.reduceEq, Int.reduceNe, Int.reduceAdd, Int.reduceSub, Int.reduceMul, Int.reduceNeg, Int.reduceToNat, Int.toNat_zero, Int.toNat_one, Int.zero_add, Int.zero_mul, Int.one_mul, ↓reduceIte, not_false_eq_true, not_true_eq_false, m_up_s, m_up_c, m_up_k, ne_eq, and_self, and_true, true_and, and_false, false_and, or_true, or_false, true_or, false_or, a_2, u_2, l_2, a_4, u_4, l_4, a_7, u_7, l_7, a_9, u_9, l_9, a_10, u_10, l_10, a_11, u_11, l_11, a_12, u_12, l_12, a_14, u_14, l_14, a_75, u_75, l_75, a_76, u_76, l_76, a_78, u_78, l_78, a_79, u_79, l_79, a_81, u_81, l_81, a_82, u_82, l_82, a_83, u_83, l_83, a_85, u_85, l_85, a_86, u_86, l_86, r_0_0, r_0_1, r_0_2, r_0_3, r_0_4, r_0_5, r_0_6, r_1_0, r_3_0, r_5_0, r_6_2, r_8_9, r_8_10, r_8_11, r_8_12, r_8_13, r_13_2, r_15_0, r_73_0, r_73_1, r_74_2, r_74_3, r_77_2, r_77_3, r_80_0, r_80_1, r_80_2, r_80_3, r_84_2, w_n1, w_0, w_1, w_2, w_3, w_4, w_5, w_6, w_7, w_8, w_9, w_10, w_11, w_12, w_13, w_14, w_15, w_16, w_17, w_18, w_19, w_20, w_21, w_22, w_23, w_24, w_25, w_26, w_27, w_28, w_29, w_30, w_31, w_32, w_33, w_34, w_35, w_36, w_37, w_38, w_39, w_40, w_41, w_42, w_43, w_44, w_45, w_46, w_47, w_48, w_49, w_50, w_51, w_52, w_53, w_54, w_55, w_56, w_57, w_58, w_59, w_60, w_61, w_62, w_63, w_64, w_65, w_66, w_67, w_68, w_69, w_n1000, w_n1001, w_n1002, w_n1003, w_65536, w_1103, w_377, w_127, w_126, w_128, w_65535, w_2147483647, w_795577677, t_0_0, t_0_1, t_0_2, t_0_d, t_1_0, t_1_1, t_1_2, t_1_3, t_1_4, t_1_5, t_1_6, t_1_7, t_1_8, t_1_9, t_1_10, t_1_11, t_1_12, t_1_13, t_1_d, v_0_32, v_0_45, v_0_47, v_0_d, e_tsw, e_lsw, q_le1, q_le0, q_lt1, q_lt0, q_eq1, q_eq0, Int.add_zero, m_ca, Int.reduceNatCast', m_bite, m_b0, m_b1, m_nn, m_tn, m_w_id, m_x_id, c1, f42, al, hc.2, c3, k2]
  · rw [gDl_e (by omega) (by omega)]
    exact hP
end J11
