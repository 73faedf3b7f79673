/-! doubt -/
def sLs (f : Nat → Int) : Int := if f 43 ≤ sUA f (f 44) then f 41 else f 45
def gL (f : Nat → Int) (p : Nat) : Nat → Int := g1 (g1 f p (f p - 1)) (5 + p) (m_w (f (5 + p) + 1))
def gDb (f : Nat → Int) : Nat → Int := gE (gL (g1 f 48 (if f 43 ≤ sUA f (f 44) then f 48 else m_w (f 48 + 1))) (sLs f).toNat) (sLs f)
section DB
variable {d : Nat} {σ : Nat → Nat → Int} {f : Nat → Int} {u : Nat} {h : Nat → Nat → Int}
theorem gL_p {p : Nat} : gL f p p = f p - 1 := by unfold gL; rw [g1_n (by omega), g1_s]
theorem gL_5 {p : Nat} : gL f p (5 + p) = m_w (f (5 + p) + 1) := by unfold gL; rw [g1_s]
theorem gL_e {p k : Nat} (h1 : ¬ k = p) (h2 : ¬ k = 5 + p) : gL f p k = f k := by unfold gL; rw [g1_n h2, g1_n h1]
theorem sLs_v (W : sWF f) (hn : ¬ f 43 = -1003) : 0 ≤ sLs f ∧ sLs f < f 40 ∧ 0 < f (sLs f).toNat := by
  have wn := W_n W
  have wt := W_t W (W_al W (by omega))
  unfold sLs
  split
  · exact wt
  · omega
theorem W_doubt (W : sWF f) (hn : ¬ f 43 = -1003) : sWF (gDb f) := by
  have wp := W_p W
  have v := sLs_v W hn
  refine W_end W ?_ (fun p hp => ?_) (fun k hk => ?_)
  · rw [gL_e (by omega) (by omega), g1_n (by decide)]
  · have w := W_d W hp
    by_cases g : p = (sLs f).toNat
    · rw [g, gL_p, g1_n (by omega), ← g]; rw [← g] at v; omega
    · rw [gL_e g (by omega), g1_n (by omega)]; exact w
  · rw [gL_e (by omega) (by omega), g1_n (by omega)]
theorem c_lose {p : Nat} {P : Int} (h0 : σ 8 0 = P) (hp : (p : Int) < P) (hP : P ≤ 5) (hd : 0 < σ 9 p ∧ σ 9 p ≤ 5) : m_ev (d + 2) 60 [m_R 8, m_I p] (m_G0, σ) = some (none, (m_G0, m_up (m_up σ 9 p (σ 9 p - 1)) 10 p (m_w (σ 10 p + 1)))) := by
  rw [i_60]
  simp (disch := first | with_unfolding_all exact id rfl | with_unfolding_all exact ⟨rfl, by decide, Nat.le_of_ble_eq_true rfl⟩ | with_unfolding_all exact Nat.le_of_ble_eq_true rfl | omega) only [b_60_0, b_60_1, b_60_2, b_61_0, b_61_1, b_61_2, b_61_3, b_61_4, b_61_5, b_62_0, b_62_1, b_62_2, b_62_3, e_goto, e_fall, e_if0, e_if1, e_if2, e_if3, e_if4, e_if5, e_ic0, e_ic1, e_ic2, e_ic3, e_ic4, e_ic5, e_null_n, e_null_r, e_nonn_n, e_nonn_r, e_ret0, e_ret1, e_ret20, e_ret21, e_retb, e_ret3, e_ret4, e_pi, e_pj, e_pf, e_pn, e_iadd, e_isub, e_imul, e_iand, e_ixor, e_ishl, e_ishr, e_iushr, e_ladd, e_lsub, e_lmul, e_idiv, e_irem, e_ldiv, e_lrem, e_ineg, e_lneg, e_lcmp, e_i2l, e_l2f, e_f2i, e_i2b, e_fcg, e_fcl, e_dup, e_dupi, e_dup2, s_il, s_ll, s_fl, s_al, s_inc, e_is, e_ls, e_fs, e_aS, e_gi, e_gb, e_gj, s_gr, s_pfi, s_pfj, s_pfb, s_v1, s_v2, s_v3, s_v4, s_v5, s_v6, s_s1, s_s2, s_s3, s_s4, s_s5, s_s6, m_kI_I, m_kJ_J, m_kF_F, m_kR_R, m_ld0, m_ldS, m_st0, m_stS, m_s1, m_s2, m_kl, Option.bind_some, Option.toList_some, Option.toList_none, List.cons_append, List.nil_append, Nat.zero_add, Nat.reduceAdd, Nat.reduceSub, Nat.zero_sub, Nat.reduceEqDiff, Int.reduceLE, Int.reduceLT, Int.reduceEq, Int.reduceNe, Int.reduceAdd, Int.reduceSub, Int.reduceMul, Int.reduceNeg, Int.reduceToNat, Int.toNat_zero, Int.toNat_one, Int.zero_add, Int.zero_mul, Int.one_mul, ↓reduceIte, not_false_eq_true, not_true_eq_false, m_up_s, m_up_c, m_up_k, ne_eq, and_self, and_true, true_and, and_false, false_and, or_true, or_false, true_or, false_or, a_2, u_2, l_2, a_4, u_4, l_4, a_7, u_7, l_7, a_9, u_9, l_9, a_10, u_10, l_10, a_11, u_11, l_11, a_12, u_12, l_12, a_14, u_14, l_14, a_75, u_75, l_75, a_76, u_76, l_76, a_78, u_78, l_78, a_79, u_79, l_79, a_81, u_81, l_81, a_82, u_82, l_82, a_83, u_83, l_83, a_85, u_85, l_85, r_0_0, r_0_1, r_0_2, r_0_3, r_0_4, r_0_5, r_0_6, r_1_0, r_3_0, r_5_0, r_6_2, r_8_9, r_8_10, r_8_11, r_8_12, r_8_13, r_13_2, r_15_0, r_73_0, r_73_1, r_74_2, r_74_3, r_77_2, r_77_3, r_80_0, r_80_1, r_80_2, r_80_3, r_84_2, w_n1, w_0, w_1, w_2, w_3, w_4, w_5, w_6, w_7, w_8, w_9, w_10, w_11, w_12, w_13, w_14, w_15, w_16, w_17, w_18, w_19, w_20, w_21, w_22, w_23, w_24, w_25, w_26, w_27, w_28, w_29, w_30, w_31, w_32, w_33, w_34, w_35, w_36, w_37, w_38, w_39, w_40, w_41, w_42, w_43, w_44, w_45, w_46, w_47, w_48, w_49, w_50, w_51, w_52, w_53, w_54, w_55, w_56, w_57, w_58, w_59, w_60, w_61, w_62, w_63, w_64, w_65, w_66, w_67, w_68, w_69, w_n1000, w_n1001, w_n1002, w_n1003, w_65536, w_1103, w_377, w_127, w_126, w_128, t_0_0, t_0_1, t_0_2, t_0_d, t_1_0, t_1_1, t_1_2, t_1_3, t_1_4, t_1_5, t_1_6, t_1_7, t_1_8, t_1_9, t_1_10, t_1_11, t_1_12, t_1_13, t_1_d, v_0_32, v_0_45, v_0_47, v_0_d, e_tsw, e_lsw, q_le1, q_le0, q_lt1, q_lt0, q_eq1, q_eq0, Int.add_zero, m_ca, Int.reduceNatCast', m_bite, m_b0, m_b1, m_nn, m_tn, m_w_id, m_x_id, i_61, i_62, h0]
  split
  · rfl
  · rw [show σ 9 p - 1 = 0 by omega]
theorem c_ebd (T : sTR σ 8 f) (W : sWF f) (hn : ¬ f 43 = -1003) : ∃ σ' : Nat → Nat → Int, m_ev (d + 4) 55 [m_R 8] (m_G0, σ) = some (some (m_I (sLs f)), (m_G0, σ')) ∧ sF 8 15 σ σ' ∧ sTR σ' 8 (gDb f) := by
  have wn := W_n W
  have wp := W_p W
  have al := W_al W (by omega)
  have v := sLs_v W hn
  have wd := W_d W (p := (sLs f).toNat) (by omega)
  have td := T_d T (p := (sLs f).toNat) (by omega)
  have tl := T_l T (p := (sLs f).toNat) (by omega)
  have t43 := T_n T
  rw [if_neg hn] at t43
  obtain ⟨p, hp⟩ : ∃ p : Nat, p = (sLs f).toNat := ⟨_, rfl⟩
  have hpi : (p : Int) = sLs f := by omega
  rw [← hp] at wd td tl v
  obtain ⟨s0, e0⟩ : ∃ s, s = (if f 43 ≤ sUA f (f 44) then σ else m_up σ 8 8 (m_w (f 48 + 1))) := ⟨_, rfl⟩
  have c0 : ∀ c, ¬ c = 8 → s0 c = σ c := fun c hc => by rw [e0]; split <;> first | rfl | exact m_up_x hc
  have k0 : ∀ k, ¬ k = 8 → s0 8 k = σ 8 k := fun k hk => by rw [e0]; split <;> first | rfl | exact m_up_k hk
  have k8 : s0 8 8 = (if f 43 ≤ sUA f (f 44) then f 48 else m_w (f 48 + 1)) := by
    rw [e0]; split
    · exact T_rd T
    · exact m_up_s
  have l := fun d => c_lose (d := d) (σ := s0) (p := p) (P := f 40) (by rw [k0 0 (by decide)]; exact T_p T) (by omega) (by omega) (by rw [c0 9 (by decide)]; omega)
  obtain ⟨s1, e1⟩ : ∃ s, s = m_up (m_up s0 9 p (s0 9 p - 1)) 10 p (m_w (s0 10 p + 1)) := ⟨_, rfl⟩
  rw [← e1] at l
  have ff : gDb f = gE (gL (g1 f 48 (if f 43 ≤ sUA f (f 44) then f 48 else m_w (f 48 + 1))) p) p := by unfold gDb; rw [hp, ← hp, hpi]
  have D : ∀ k, k < 5 → s1 9 k = gL (g1 f 48 (if f 43 ≤ sUA f (f 44) then f 48 else m_w (f 48 + 1))) p k := fun k hk => by
    rw [e1, m_up_x (by decide)]
    by_cases g : k = p
    · rw [g, m_up_s, gL_p, g1_n (by omega), c0 9 (by decide), td]
    · rw [m_up_k g, gL_e g (by omega), g1_n (by omega), c0 9 (by decide), T_d T hk]
  have R := fun d => c_er (d := d) (σ := s1) (q := p) D (by omega)
  refine ⟨m_up (m_up (m_up (m_up s1 8 7 (m_w (s1 8 7 + 1))) 8 2 0) 8 4 0) 8 3 (sFr (gL (g1 f 48 (if f 43 ≤ sUA f (f 44) then f 48 else m_w (f 48 + 1))) p) p), ?_, ?_, ?_⟩
  rotate_left
  · intro c hc
    rw [m_up_x (by omega), m_up_x (by omega), m_up_x (by omega), m_up_x (by omega), e1, m_up_x (by omega), m_up_x (by omega), c0 c (by omega)]
  · rw [ff]
    have ce : ∀ c, ¬ c = 9 → ¬ c = 10 → s1 c = s0 c := fun c a b => by rw [e1, m_up_x b, m_up_x a]
    have e88 := ce 8 (by decide) (by decide)
    refine T_end T W ?_ (fun k hk => ?_) gE_42 ?_ (fun z => ?_) gE_43 ?_ ?_ ?_ (fun k hk => ?_) (fun k hk => ?_) (fun k hk => ?_) ?_ ?_ ?_ ?_
    · rw [gE_e (by decide), gL_e (by omega) (by omega), g1_n (by decide)]
    · rw [gE_e (by omega), gL_e (by omega) (by omega), g1_n (by omega)]
    · rw [m_up_k (by decide), m_up_k (by decide), m_up_s]
    · rw [gE_al] at z
      rw [m_up_s, gE_41]
      exact (if_pos (by omega)).symm
    · rw [m_up_k (by decide), m_up_s]
    · rw [m_up_k (by decide), m_up_k (by decide), m_up_k (by decide), m_up_s, gE_47, gL_e (by omega) (by omega), g1_n (by decide), e88, k0 7 (by decide), T_r T]
    · rw [m_up_k (by decide), m_up_k (by decide), m_up_k (by decide), m_up_k (by decide), gE_e (by decide), gL_e (by omega) (by omega), g1_s, e88, k8]
    · rw [m_up_x (by decide), m_up_x (by decide), m_up_x (by decide), m_up_x (by decide), gE_e (by omega), D k hk]
    · rw [m_up_x (by decide), m_up_x (by decide), m_up_x (by decide), m_up_x (by decide), gE_e (by omega), e1]
      by_cases g : k = p
      · rw [g, m_up_s, gL_5, g1_n (by omega), c0 10 (by decide), tl]
      · rw [m_up_k g, m_up_x (by decide), gL_e (by omega) (by omega), g1_n (by omega), c0 10 (by decide), T_l T hk]
    · rw [m_up_x (by decide), m_up_x (by decide), m_up_x (by decide), m_up_x (by decide), gE_e (by omega), gL_e (by omega) (by omega), g1_n (by omega), ce 11 (by decide) (by decide), c0 11 (by decide), T_x T hk]
    · rw [m_up_k (by decide), m_up_k (by decide), m_up_k (by decide), m_up_k (by decide), e88, k0 0 (by decide)]
    · rw [m_up_k (by decide), m_up_k (by decide), m_up_k (by decide), m_up_k (by decide), e88, k0 1 (by decide)]
    · rw [m_up_x (by decide), m_up_x (by decide), m_up_x (by decide), m_up_x (by decide), ce 13 (by decide) (by decide), c0 13 (by decide)]
    · rw [m_up_x (by decide), m_up_x (by decide), m_up_x (by decide), m_up_x (by decide), ce 14 (by decide) (by decide), c0 14 (by decide)]
  · rw [i_55]
    by_cases g : f 43 ≤ sUA f (f 44)
    · have hls : sLs f = f 41 := if_pos g
      rw [if_pos g] at e0
      rw [e0] at l
      rw [hpi, hls] at l R ⊢
      simp (disch := first | with_unfolding_all exact id rfl | with_unfolding_all exact ⟨rfl, by decide, Nat.le_of_ble_eq_true rfl⟩ | with_unfolding_all exact Nat.le_of_ble_eq_true rfl | omega) only [b_55_0, b_55_1, b_55_2, b_55_3, b_55_4, b_55_5, b_55_6, b_55_7, b_55_8, e_goto, e_fall, e_if0, e_if1, e_if2, e_if3, e_if4, e_if5, e_ic0, e_ic1, e_ic2, e_ic3, e_ic4, e_ic5, e_null_n, e_null_r, e_nonn_n, e_nonn_r, e_ret0, e_ret1, e_ret20, e_ret21, e_retb, e_ret3, e_ret4, e_pi, e_pj, e_pf, e_pn, e_iadd, e_isub, e_imul, e_iand, e_ixor, e_ishl, e_ishr, e_iushr, e_ladd, e_lsub, e_lmul, e_idiv, e_irem, e_ldiv, e_lrem, e_ineg, e_lneg, e_lcmp, e_i2l, e_l2f, e_f2i, e_i2b, e_fcg, e_fcl, e_dup, e_dupi, e_dup2, s_il, s_ll, s_fl, s_al, s_inc, e_is, e_ls, e_fs, e_aS, e_gi, e_gb, e_gj, s_gr, s_pfi, s_pfj, s_pfb, s_v1, s_v2, s_v3, s_v4, s_v5, s_v6, s_s1, s_s2, s_s3, s_s4, s_s5, s_s6, m_kI_I, m_kJ_J, m_kF_F, m_kR_R, m_ld0, m_ldS, m_st0, m_stS, m_s1, m_s2, m_kl, Option.bind_some, Option.toList_some, Option.toList_none, List.cons_append, List.nil_append, Nat.zero_add, Nat.reduceAdd, Nat.reduceSub, Nat.zero_sub, Nat.reduceEqDiff, Int.reduceLE, Int.reduceLT, Int.reduceEq, Int.reduceNe, Int.reduceAdd, Int.reduceSub, Int.reduceMul, Int.reduceNeg, Int.reduceToNat, Int.toNat_zero, Int.toNat_one, Int.zero_add, Int.zero_mul, Int.one_mul, ↓reduceIte, not_false_eq_true, not_true_eq_false, m_up_s, m_up_c, m_up_k, ne_eq, and_self, and_true, true_and, and_false, false_and, or_true, or_false, true_or, false_or, a_2, u_2, l_2, a_4, u_4, l_4, a_7, u_7, l_7, a_9, u_9, l_9, a_10, u_10, l_10, a_11, u_11, l_11, a_12, u_12, l_12, a_14, u_14, l_14, a_75, u_75, l_75, a_76, u_76, l_76, a_78, u_78, l_78, a_79, u_79, l_79, a_81, u_81, l_81, a_82, u_82, l_82, a_83, u_83, l_83, a_85, u_85, l_85, r_0_0, r_0_1, r_0_2, r_0_3, r_0_4, r_0_5, r_0_6, r_1_0, r_3_0, r_5_0, r_6_2, r_8_9, r_8_10, r_8_11, r_8_12, r_8_13, r_13_2, r_15_0, r_73_0, r_73_1, r_74_2, r_74_3, r_77_2, r_77_3, r_80_0, r_80_1, r_80_2, r_80_3, r_84_2, w_n1, w_0, w_1, w_2, w_3, w_4, w_5, w_6, w_7, w_8, w_9, w_10, w_11, w_12, w_13, w_14, w_15, w_16, w_17, w_18, w_19, w_20, w_21, w_22, w_23, w_24, w_25, w_26, w_27, w_28, w_29, w_30, w_31, w_32, w_33, w_34, w_35, w_36, w_37, w_38, w_39, w_40, w_41, w_42, w_43, w_44, w_45, w_46, w_47, w_48, w_49, w_50, w_51, w_52, w_53, w_54, w_55, w_56, w_57, w_58, w_59, w_60, w_61, w_62, w_63, w_64, w_65, w_66, w_67, w_68, w_69, w_n1000, w_n1001, w_n1002, w_n1003, w_65536, w_1103, w_377, w_127, w_126, w_128, t_0_0, t_0_1, t_0_2, t_0_d, t_1_0, t_1_1, t_1_2, t_1_3, t_1_4, t_1_5, t_1_6, t_1_7, t_1_8, t_1_9, t_1_10, t_1_11, t_1_12, t_1_13, t_1_d, v_0_32, v_0_45, v_0_47, v_0_d, e_tsw, e_lsw, q_le1, q_le0, q_lt1, q_lt0, q_eq1, q_eq0, Int.add_zero, m_ca, Int.reduceNatCast', m_bite, m_b0, m_b1, m_nn, m_tn, m_w_id, m_x_id, c_ua T W, T_f T hn, t43, T_t T al, l, R]
    · have hls : sLs f = f 45 := if_neg g
      rw [if_neg g] at e0
      rw [e0] at l
      rw [hpi, hls] at l R ⊢
      have trd := T_rd T
      simp (disch := first | with_unfolding_all exact id rfl | with_unfolding_all exact ⟨rfl, by decide, Nat.le_of_ble_eq_true rfl⟩ | with_unfolding_all exact Nat.le_of_ble_eq_true rfl | omega) only [b_55_0, b_55_1, b_55_2, b_55_3, b_55_4, b_55_5, b_55_6, b_55_7, b_55_8, e_goto, e_fall, e_if0, e_if1, e_if2, e_if3, e_if4, e_if5, e_ic0, e_ic1, e_ic2, e_ic3, e_ic4, e_ic5, e_null_n, e_null_r, e_nonn_n, e_nonn_r, e_ret0, e_ret1, e_ret20, e_ret21, e_retb, e_ret3, e_ret4, e_pi, e_pj, e_pf, e_pn, e_iadd, e_isub, e_imul, e_iand, e_ixor, e_ishl, e_ishr, e_iushr, e_ladd, e_lsub, e_lmul, e_idiv, e_irem, e_ldiv, e_lrem, e_ineg, e_lneg, e_lcmp, e_i2l, e_l2f, e_f2i, e_i2b, e_fcg, e_fcl, e_dup, e_dupi, e_dup2, s_il, s_ll, s_fl, s_al, s_inc, e_is, e_ls, e_fs, e_aS, e_gi, e_gb, e_gj, s_gr, s_pfi, s_pfj, s_pfb, s_v1, s_v2, s_v3, s_v4, s_v5, s_v6, s_s1, s_s2, s_s3, s_s4, s_s5, s_s6, m_kI_I, m_kJ_J, m_kF_F, m_kR_R, m_ld0, m_ldS, m_st0, m_stS, m_s1, m_s2, m_kl, Option.bind_some, Option.toList_some, Option.toList_none, List.cons_append, List.nil_append, Nat.zero_add, Nat.reduceAdd, Nat.reduceSub, Nat.zero_sub, Nat.reduceEqDiff, Int.reduceLE, Int.reduceLT, Int.reduceEq, Int.reduceNe, Int.reduceAdd, Int.reduceSub, Int.reduceMul, Int.reduceNeg, Int.reduceToNat, Int.toNat_zero, Int.toNat_one, Int.zero_add, Int.zero_mul, Int.one_mul, ↓reduceIte, not_false_eq_true, not_true_eq_false, m_up_s, m_up_c, m_up_k, ne_eq, and_self, and_true, true_and, and_false, false_and, or_true, or_false, true_or, false_or, a_2, u_2, l_2, a_4, u_4, l_4, a_7, u_7, l_7, a_9, u_9, l_9, a_10, u_10, l_10, a_11, u_11, l_11, a_12, u_12, l_12, a_14, u_14, l_14, a_75, u_75, l_75, a_76, u_76, l_76, a_78, u_78, l_78, a_79, u_79, l_79, a_81, u_81, l_81, a_82, u_82, l_82, a_83, u_83, l_83, a_85, u_85, l_85, r_0_0, r_0_1, r_0_2, r_0_3, r_0_4, r_0_5, r_0_6, r_1_0, r_3_0, r_5_0, r_6_2, r_8_9, r_8_10, r_8_11, r_8_12, r_8_13, r_13_2, r_15_0, r_73_0, r_73_1, r_74_2, r_74_3, r_77_2, r_77_3, r_80_0, r_80_1, r_80_2, r_80_3, r_84_2, w_n1, w_0, w_1, w_2, w_3, w_4, w_5, w_6, w_7, w_8, w_9, w_10, w_11, w_12, w_13, w_14, w_15, w_16, w_17, w_18, w_19, w_20, w_21, w_22, w_23, w_24, w_25, w_26, w_27, w_28, w_29, w_30, w_31, w_32, w_33, w_34, w_35, w_36, w_37, w_38, w_39, w_40, w_41, w_42, w_43, w_44, w_45, w_46, w_47, w_48, w_49, w_50, w_51, w_52, w_53, w_54, w_55, w_56, w_57, w_58, w_59, w_60, w_61, w_62, w_63, w_64, w_65, w_66, w_67, w_68, w_69, w_n1000, w_n1001, w_n1002, w_n1003, w_65536, w_1103, w_377, w_127, w_126, w_128, t_0_0, t_0_1, t_0_2, t_0_d, t_1_0, t_1_1, t_1_2, t_1_3, t_1_4, t_1_5, t_1_6, t_1_7, t_1_8, t_1_9, t_1_10, t_1_11, t_1_12, t_1_13, t_1_d, v_0_32, v_0_45, v_0_47, v_0_d, e_tsw, e_lsw, q_le1, q_le0, q_lt1, q_lt0, q_eq1, q_eq0, Int.add_zero, m_ca, Int.reduceNatCast', m_bite, m_b0, m_b1, m_nn, m_tn, m_w_id, m_x_id, c_ua T W, T_f T hn, T_b T hn, t43, trd, l, R]
theorem c_doubt1 (T : sTR σ 8 f) (W : sWF f) (hn : f 43 = -1003) : m_ev (d + 5) 54 [m_R 0] (m_G0, σ) = some (some (m_I (-1001)), (m_G0, σ)) := by
  rw [i_54]
  simp (disch := first | with_unfolding_all exact id rfl | with_unfolding_all exact ⟨rfl, by decide, Nat.le_of_ble_eq_true rfl⟩ | with_unfolding_all exact Nat.le_of_ble_eq_true rfl | omega) only [b_54_0, b_54_1, b_54_2, e_goto, e_fall, e_if0, e_if1, e_if2, e_if3, e_if4, e_if5, e_ic0, e_ic1, e_ic2, e_ic3, e_ic4, e_ic5, e_null_n, e_null_r, e_nonn_n, e_nonn_r, e_ret0, e_ret1, e_ret20, e_ret21, e_retb, e_ret3, e_ret4, e_pi, e_pj, e_pf, e_pn, e_iadd, e_isub, e_imul, e_iand, e_ixor, e_ishl, e_ishr, e_iushr, e_ladd, e_lsub, e_lmul, e_idiv, e_irem, e_ldiv, e_lrem, e_ineg, e_lneg, e_lcmp, e_i2l, e_l2f, e_f2i, e_i2b, e_fcg, e_fcl, e_dup, e_dupi, e_dup2, s_il, s_ll, s_fl, s_al, s_inc, e_is, e_ls, e_fs, e_aS, e_gi, e_gb, e_gj, s_gr, s_pfi, s_pfj, s_pfb, s_v1, s_v2, s_v3, s_v4, s_v5, s_v6, s_s1, s_s2, s_s3, s_s4, s_s5, s_s6, m_kI_I, m_kJ_J, m_kF_F, m_kR_R, m_ld0, m_ldS, m_st0, m_stS, m_s1, m_s2, m_kl, Option.bind_some, Option.toList_some, Option.toList_none, List.cons_append, List.nil_append, Nat.zero_add, Nat.reduceAdd, Nat.reduceSub, Nat.zero_sub, Nat.reduceEqDiff, Int.reduceLE, Int.reduceLT, Int.reduceEq, Int.reduceNe, Int.reduceAdd, Int.reduceSub, Int.reduceMul, Int.reduceNeg, Int.reduceToNat, Int.toNat_zero, Int.toNat_one, Int.zero_add, Int.zero_mul, Int.one_mul, ↓reduceIte, not_false_eq_true, not_true_eq_false, m_up_s, m_up_c, m_up_k, ne_eq, and_self, and_true, true_and, and_false, false_and, or_true, or_false, true_or, false_or, a_2, u_2, l_2, a_4, u_4, l_4, a_7, u_7, l_7, a_9, u_9, l_9, a_10, u_10, l_10, a_11, u_11, l_11, a_12, u_12, l_12, a_14, u_14, l_14, a_75, u_75, l_75, a_76, u_76, l_76, a_78, u_78, l_78, a_79, u_79, l_79, a_81, u_81, l_81, a_82, u_82, l_82, a_83, u_83, l_83, a_85, u_85, l_85, r_0_0, r_0_1, r_0_2, r_0_3, r_0_4, r_0_5, r_0_6, r_1_0, r_3_0, r_5_0, r_6_2, r_8_9, r_8_10, r_8_11, r_8_12, r_8_13, r_13_2, r_15_0, r_73_0, r_73_1, r_74_2, r_74_3, r_77_2, r_77_3, r_80_0, r_80_1, r_80_2, r_80_3, r_84_2, w_n1, w_0, w_1, w_2, w_3, w_4, w_5, w_6, w_7, w_8, w_9, w_10, w_11, w_12, w_13, w_14, w_15, w_16, w_17, w_18, w_19, w_20, w_21, w_22, w_23, w_24, w_25, w_26, w_27, w_28, w_29, w_30, w_31, w_32, w_33, w_34, w_35, w_36, w_37, w_38, w_39, w_40, w_41, w_42, w_43, w_44, w_45, w_46, w_47, w_48, w_49, w_50, w_51, w_52, w_53, w_54, w_55, w_56, w_57, w_58, w_59, w_60, w_61, w_62, w_63, w_64, w_65, w_66, w_67, w_68, w_69, w_n1000, w_n1001, w_n1002, w_n1003, w_65536, w_1103, w_377, w_127, w_126, w_128, t_0_0, t_0_1, t_0_2, t_0_d, t_1_0, t_1_1, t_1_2, t_1_3, t_1_4, t_1_5, t_1_6, t_1_7, t_1_8, t_1_9, t_1_10, t_1_11, t_1_12, t_1_13, t_1_d, v_0_32, v_0_45, v_0_47, v_0_d, e_tsw, e_lsw, q_le1, q_le0, q_lt1, q_lt0, q_eq1, q_eq0, Int.add_zero, m_ca, Int.reduceNatCast', m_bite, m_b0, m_b1, m_nn, m_tn, m_w_id, m_x_id, c_hc T W, hn]
theorem c_doubt (T : sTR σ 8 f) (W : sWF f) (H : sHC σ u h) (hu : u ≤ 8) (hn : ¬ f 43 = -1003) : ∃ σ' : Nat → Nat → Int, m_ev (d + 5) 54 [m_R 0] (m_G0, σ) = some (some (m_I (sLs f)), (m_G0, σ')) ∧ sF 8 73 σ σ' ∧ sTR σ' 8 (gDb f) ∧ sHC σ' (gU u) (gH u h f) := by
  obtain ⟨σ1, hc1, hF, hH⟩ := c_rec (d := d + 1) H hu T W
  have T1 : sTR σ1 8 f := sTR_fr (fun c a b => hF c (by omega)) T
  obtain ⟨σ2, hc2, hF2, hT2⟩ := c_ebd (d := d) T1 W hn
  refine ⟨σ2, ?_, fun c hc => by rw [hF2 c (by omega), hF c (by omega)], hT2, ?_⟩
  · rw [i_54]
    simp (disch := first | with_unfolding_all exact id rfl | with_unfolding_all exact ⟨rfl, by decide, Nat.le_of_ble_eq_true rfl⟩ | with_unfolding_all exact Nat.le_of_ble_eq_true rfl | omega) only [b_54_0, b_54_1, b_54_2, e_goto, e_fall, e_if0, e_if1, e_if2, e_if3, e_if4, e_if5, e_ic0, e_ic1, e_ic2, e_ic3, e_ic4, e_ic5, e_null_n, e_null_r, e_nonn_n, e_nonn_r, e_ret0, e_ret1, e_ret20, e_ret21, e_retb, e_ret3, e_ret4, e_pi, e_pj, e_pf, e_pn, e_iadd, e_isub, e_imul, e_iand, e_ixor, e_ishl, e_ishr, e_iushr, e_ladd, e_lsub, e_lmul, e_idiv, e_irem, e_ldiv, e_lrem, e_ineg, e_lneg, e_lcmp, e_i2l, e_l2f, e_f2i, e_i2b, e_fcg, e_fcl, e_dup, e_dupi, e_dup2, s_il, s_ll, s_fl, s_al, s_inc, e_is, e_ls, e_fs, e_aS, e_gi, e_gb, e_gj, s_gr, s_pfi, s_pfj, s_pfb, s_v1, s_v2, s_v3, s_v4, s_v5, s_v6, s_s1, s_s2, s_s3, s_s4, s_s5, s_s6, m_kI_I, m_kJ_J, m_kF_F, m_kR_R, m_ld0, m_ldS, m_st0, m_stS, m_s1, m_s2, m_kl, Option.bind_some, Option.toList_some, Option.toList_none, List.cons_append, List.nil_append, Nat.zero_add, Nat.reduceAdd, Nat.reduceSub, Nat.zero_sub, Nat.reduceEqDiff, Int.reduceLE, Int.reduceLT, Int.reduceEq, Int.reduceNe, Int.reduceAdd, Int.reduceSub, Int.reduceMul, Int.reduceNeg, Int.reduceToNat, Int.toNat_zero, Int.toNat_one, Int.zero_add, Int.zero_mul, Int.one_mul, ↓reduceIte, not_false_eq_true, not_true_eq_false, m_up_s, m_up_c, m_up_k, ne_eq, and_self, and_true, true_and, and_false, false_and, or_true, or_false, true_or, false_or, a_2, u_2, l_2, a_4, u_4, l_4, a_7, u_7, l_7, a_9, u_9, l_9, a_10, u_10, l_10, a_11, u_11, l_11, a_12, u_12, l_12, a_14, u_14, l_14, a_75, u_75, l_75, a_76, u_76, l_76, a_78, u_78, l_78, a_79, u_79, l_79, a_81, u_81, l_81, a_82, u_82, l_82, a_83, u_83, l_83, a_85, u_85, l_85, r_0_0, r_0_1, r_0_2, r_0_3, r_0_4, r_0_5, r_0_6, r_1_0, r_3_0, r_5_0, r_6_2, r_8_9, r_8_10, r_8_11, r_8_12, r_8_13, r_13_2, r_15_0, r_73_0, r_73_1, r_74_2, r_74_3, r_77_2, r_77_3, r_80_0, r_80_1, r_80_2, r_80_3, r_84_2, w_n1, w_0, w_1, w_2, w_3, w_4, w_5, w_6, w_7, w_8, w_9, w_10, w_11, w_12, w_13, w_14, w_15, w_16, w_17, w_18, w_19, w_20, w_21, w_22, w_23, w_24, w_25, w_26, w_27, w_28, w_29, w_30, w_31, w_32, w_33, w_34, w_35, w_36, w_37, w_38, w_39, w_40, w_41, w_42, w_43, w_44, w_45, w_46, w_47, w_48, w_49, w_50, w_51, w_52, w_53, w_54, w_55, w_56, w_57, w_58, w_59, w_60, w_61, w_62, w_63, w_64, w_65, w_66, w_67, w_68, w_69, w_n1000, w_n1001, w_n1002, w_n1003, w_65536, w_1103, w_377, w_127, w_126, w_128, t_0_0, t_0_1, t_0_2, t_0_d, t_1_0, t_1_1, t_1_2, t_1_3, t_1_4, t_1_5, t_1_6, t_1_7, t_1_8, t_1_9, t_1_10, t_1_11, t_1_12, t_1_13, t_1_d, v_0_32, v_0_45, v_0_47, v_0_d, e_tsw, e_lsw, q_le1, q_le0, q_lt1, q_lt0, q_eq1, q_eq0, Int.add_zero, m_ca, Int.reduceNatCast', m_bite, m_b0, m_b1, m_nn, m_tn, m_w_id, m_x_id, c_hc T W, hn, hc1, hc2]
  · obtain ⟨q1, q2, q3⟩ := hH
    have e15 : σ2 15 = σ1 15 := hF2 15 (by decide)
    refine ⟨by rw [e15]; exact q1, by rw [e15]; exact q2, fun j hj => ?_⟩
    rw [e15]
    exact sTR_fr (fun c a b => hF2 c (by omega)) (q3 j hj)
end DB
