/-! deal: both sides -/
section VA
variable {f t : Nat → Int} {l : Nat}
theorem gOf_e {p : Nat} : ∀ q, p ≤ q → (∀ r, p ≤ r → r < q → f r ≤ 0) → gOf f q = gOf f p
  | 0, h, _ => by
    have : p = 0 := by omega
    rw [this]
  | q + 1, h, hz => by
    by_cases g : p = q + 1
    · rw [g]
    · have e : gOf f (q + 1) = gOf f q + (f q).toNat := rfl
      have z := hz q (by omega) (by omega)
      have := gOf_e q (by omega) (fun r a b => hz r a (by omega))
      omega
theorem sA_v (W : sWF f) : ∀ (n : Nat) (c j : Int) (V : Nat → Int), ((0 ≤ c ∧ c < 5) ∧ 0 < f c.toNat) → (0 ≤ j ∧ j ≤ f c.toNat) → (∀ k : Nat, k < gOf f c.toNat + j.toNat → 1 ≤ V k ∧ V k ≤ 6) → (sA f t l n c j V).1 = -1003 → ∀ k : Nat, k < gOf f 5 → 1 ≤ (sA f t l n c j V).2 k ∧ (sA f t l n c j V).2 k ≤ 6
  | 0, c, j, V, hc, hj, hV, h => by
    have hd : sD f c = f c.toNat := by rw [sD, if_pos hc.1]
    have e : sA f t l 0 c j V = (if j = sD f c ∧ sF1 f (c + 1) (-1003) = -1003 then -1003 else (l : Int), V) := rfl
    rw [e] at h ⊢
    by_cases g : j = sD f c ∧ sF1 f (c + 1) (-1003) = -1003
    · intro k hk
      refine hV k ?_
      have e5 := gOf_e (f := f) (p := c.toNat + 1) 5 (by omega) (fun r a b => sF1_none g.2 r b (by omega))
      have e6 : gOf f (c.toNat + 1) = gOf f c.toNat + (f c.toNat).toNat := rfl
      omega
    · have h2 : (if j = sD f c ∧ sF1 f (c + 1) (-1003) = -1003 then -1003 else (l : Int)) = -1003 := h
      rw [if_neg g] at h2
      omega
  | n + 1, c, j, V, hc, hj, hV, h => by
    have hd : sD f c = f c.toNat := by rw [sD, if_pos hc.1]
    have w := W_d W (p := c.toNat) (by omega)
    have k : sA f t l (n + 1) c j V = if t (l - (n + 1)) = 32 then sA f t l n c j V
      else if t (l - (n + 1)) = 47 then (if j < sD f c ∨ sF1 f (c + 1) (-1003) = -1003 then (((l - (n + 1) : Nat) : Int), V) else sA f t l n (sF1 f (c + 1) (-1003)) 0 V)
      else if (1 ≤ t (l - (n + 1)) - 48 ∧ t (l - (n + 1)) - 48 ≤ 6) ∧ j < sD f c then sA f t l n c (j + 1) (g1 V (gOf f c.toNat + j.toNat) (t (l - (n + 1)) - 48)) else (((l - (n + 1) : Nat) : Int), V) := rfl
    rw [k] at h ⊢
    by_cases y1 : t (l - (n + 1)) = 32
    · rw [if_pos y1] at h ⊢
      exact sA_v W n c j V hc hj hV h
    rw [if_neg y1] at h ⊢
    by_cases y2 : t (l - (n + 1)) = 47
    · rw [if_pos y2] at h ⊢
      by_cases y3 : j < sD f c ∨ sF1 f (c + 1) (-1003) = -1003
      · rw [if_pos y3] at h
        have h2 : ((l - (n + 1) : Nat) : Int) = -1003 := h
        omega
      · rw [if_neg y3] at h ⊢
        have nx := sF1_nx (f := f) (c := c) (fun z => y3 (Or.inr z))
        refine sA_v W n _ 0 V ⟨⟨by omega, nx.2.1⟩, nx.2.2.1⟩ ⟨by decide, by omega⟩ (fun k hk => hV k ?_) h
        have e5 := gOf_e (f := f) (p := c.toNat + 1) (sF1 f (c + 1) (-1003)).toNat (by omega) (fun r a b => nx.2.2.2 r (by omega) (by omega))
        have e6 : gOf f (c.toNat + 1) = gOf f c.toNat + (f c.toNat).toNat := rfl
        have e0 : (0 : Int).toNat = 0 := rfl
        omega
    rw [if_neg y2] at h ⊢
    by_cases y3 : (1 ≤ t (l - (n + 1)) - 48 ∧ t (l - (n + 1)) - 48 ≤ 6) ∧ j < sD f c
    · rw [if_pos y3] at h ⊢
      refine sA_v W n c (j + 1) _ hc (by omega) (fun k hk => ?_) h
      by_cases z : k = gOf f c.toNat + j.toNat
      · rw [z, g1_s]; exact y3.1
      · rw [g1_n z]; exact hV k (by omega)
    · rw [if_neg y3] at h
      have h2 : ((l - (n + 1) : Nat) : Int) = -1003 := h
      omega
theorem sFD_v (W : sWF f) (ha : 1 ≤ sAl f) (h : (sFD f t l).1 = -1003) : ∀ n : Nat, (n : Int) < sDc f → 1 ≤ (sFD f t l).2 n ∧ (sFD f t l).2 n ≤ 6 := by
  intro n hn
  have w := W_ds W
  have h0 := sF1_0 ha
  have em : (-1 : Int) + 1 = 0 := by decide
  have nx := sF1_nx (f := f) (c := -1) (by rw [em]; exact h0)
  rw [em] at nx
  have e0 : (0 : Int).toNat = 0 := rfl
  refine sA_v W l _ 0 _ ⟨⟨by omega, nx.2.1⟩, nx.2.2.1⟩ ⟨by decide, by omega⟩ (fun k hk => ?_) h n ?_
  · exfalso
    have e5 := gOf_e (f := f) (p := 0) (sF1 f 0 (-1003)).toNat (by omega) (fun r a b => nx.2.2.2 r (by omega) (by omega))
    have e6 : gOf f 0 = 0 := rfl
    omega
  · unfold sDc at hn
    simp only [gOf]
    omega
end VA
section DC
variable {d : Nat} {σ : Nat → Nat → Int} {f t : Nat → Int} {l u : Nat} {h : Nat → Nat → Int}
theorem c_dfc : ∃ s' : Nat → Nat → Int, m_ev (d + 1) 44 [m_R 8, m_R 4] (m_G0, σ) = some (none, (m_G0, m_up s' 8 2 1)) ∧ (∀ c, ¬ c = 12 → s' c = σ c) ∧ ∀ k, k < 25 → s' 12 k = σ 4 k := by
  have L := m_loop (fun (i : Nat) (s : Nat → Nat → Int) => m_e none (m_ev d) 44 (m_blk 44 1) [m_R 8, m_R 4, m_I i] [] (m_G0, s)) (fun i s => m_up s 12 i (σ 4 i)) (fun i s => (∀ c, ¬ c = 12 → s c = σ c) ∧ ∀ k, k < i → s 12 k = σ 4 k) 25 (fun i s hi hI => by
    have e4 : s 4 = σ 4 := hI.1 4 (by decide)
    refine ⟨?_, fun c hc => by rw [m_up_x hc]; exact hI.1 c hc, fun k hk => ?_⟩
    · conv => lhs; rw [b_44_1]
      simp (disch := first | with_unfolding_all exact id rfl | with_unfolding_all exact ⟨rfl, by decide, Nat.le_of_ble_eq_true rfl⟩ | with_unfolding_all exact Nat.le_of_ble_eq_true rfl | omega) only [b_44_0, b_44_2, b_44_3, b_44_4, e_goto, e_fall, e_if0, e_if1, e_if2, e_if3, e_if4, e_if5, e_ic0, e_ic1, e_ic2, e_ic3, e_ic4, e_ic5, e_null_n, e_null_r, e_nonn_n, e_nonn_r, e_ret0, e_ret1, e_ret20, e_ret21, e_retb, e_ret3, e_ret4, e_pi, e_pj, e_pf, e_pn, e_iadd, e_isub, e_imul, e_iand, e_ixor, e_ishl, e_ishr, e_iushr, e_ladd, e_lsub, e_lmul, e_idiv, e_irem, e_ldiv, e_lrem, e_ineg, e_lneg, e_lcmp, e_i2l, e_l2f, e_f2i, e_i2b, e_fcg, e_fcl, e_dup, e_dupi, e_dup2, s_il, s_ll, s_fl, s_al, s_inc, e_is, e_ls, e_fs, e_aS, e_gi, e_gb, e_gj, s_gr, s_pfi, s_pfj, s_pfb, s_v1, s_v2, s_v3, s_v4, s_v5, s_v6, s_s1, s_s2, s_s3, s_s4, s_s5, s_s6, m_kI_I, m_kJ_J, m_kF_F, m_kR_R, m_ld0, m_ldS, m_st0, m_stS, m_s1, m_s2, m_kl, Option.bind_some, Option.toList_some, Option.toList_none, List.cons_append, List.nil_append, Nat.zero_add, Nat.reduceAdd, Nat.reduceSub, Nat.zero_sub, Nat.reduceEqDiff, Int.reduceLE, Int.reduceLT, Int.reduceEq, Int.reduceNe, Int.reduceAdd, Int.reduceSub, Int.reduceMul, Int.reduceNeg, Int.reduceToNat, Int.toNat_zero, Int.toNat_one, Int.zero_add, Int.zero_mul, Int.one_mul, ↓reduceIte, not_false_eq_true, not_true_eq_false, m_up_s, m_up_c, m_up_k, ne_eq, and_self, and_true, true_and, and_false, false_and, or_true, or_false, true_or, false_or, a_2, u_2, l_2, a_4, u_4, l_4, a_7, u_7, l_7, a_9, u_9, l_9, a_10, u_10, l_10, a_11, u_11, l_11, a_12, u_12, l_12, a_14, u_14, l_14, a_75, u_75, l_75, a_76, u_76, l_76, a_78, u_78, l_78, a_79, u_79, l_79, a_81, u_81, l_81, a_82, u_82, l_82, a_83, u_83, l_83, a_85, u_85, l_85, r_0_0, r_0_1, r_0_2, r_0_3, r_0_4, r_0_5, r_0_6, r_1_0, r_3_0, r_5_0, r_6_2, r_8_9, r_8_10, r_8_11, r_8_12, r_8_13, r_13_2, r_15_0, r_73_0, r_73_1, r_74_2, r_74_3, r_77_2, r_77_3, r_80_0, r_80_1, r_80_2, r_80_3, r_84_2, w_n1, w_0, w_1, w_2, w_3, w_4, w_5, w_6, w_7, w_8, w_9, w_10, w_11, w_12, w_13, w_14, w_15, w_16, w_17, w_18, w_19, w_20, w_21, w_22, w_23, w_24, w_25, w_26, w_27, w_28, w_29, w_30, w_31, w_32, w_33, w_34, w_35, w_36, w_37, w_38, w_39, w_40, w_41, w_42, w_43, w_44, w_45, w_46, w_47, w_48, w_49, w_50, w_51, w_52, w_53, w_54, w_55, w_56, w_57, w_58, w_59, w_60, w_61, w_62, w_63, w_64, w_65, w_66, w_67, w_68, w_69, w_n1000, w_n1001, w_n1002, w_n1003, w_65536, w_1103, w_377, w_127, w_126, w_128, t_0_0, t_0_1, t_0_2, t_0_d, t_1_0, t_1_1, t_1_2, t_1_3, t_1_4, t_1_5, t_1_6, t_1_7, t_1_8, t_1_9, t_1_10, t_1_11, t_1_12, t_1_13, t_1_d, v_0_32, v_0_45, v_0_47, v_0_d, e_tsw, e_lsw, q_le1, q_le0, q_lt1, q_lt0, q_eq1, q_eq0, Int.add_zero, m_ca, Int.reduceNatCast', m_bite, m_b0, m_b1, m_nn, m_tn, m_w_id, m_x_id, e4, m_cs]
    · by_cases q : k = i
      · rw [q, m_up_s]
      · rw [m_up_k q]; exact hI.2 k (by omega)) 25 0 σ rfl ⟨fun _ _ => rfl, fun k hk => absurd hk (by omega)⟩
  generalize m_it _ _ _ _ = s' at L
  refine ⟨s', ?_, L.2.1, L.2.2⟩
  rw [i_44]
  refine Eq.trans ?_ (L.1.trans ?_)
  · conv => lhs; rw [b_44_0]
    simp (disch := first | with_unfolding_all exact id rfl | with_unfolding_all exact ⟨rfl, by decide, Nat.le_of_ble_eq_true rfl⟩ | with_unfolding_all exact Nat.le_of_ble_eq_true rfl | omega) only [b_44_2, b_44_3, b_44_4, e_goto, e_fall, e_if0, e_if1, e_if2, e_if3, e_if4, e_if5, e_ic0, e_ic1, e_ic2, e_ic3, e_ic4, e_ic5, e_null_n, e_null_r, e_nonn_n, e_nonn_r, e_ret0, e_ret1, e_ret20, e_ret21, e_retb, e_ret3, e_ret4, e_pi, e_pj, e_pf, e_pn, e_iadd, e_isub, e_imul, e_iand, e_ixor, e_ishl, e_ishr, e_iushr, e_ladd, e_lsub, e_lmul, e_idiv, e_irem, e_ldiv, e_lrem, e_ineg, e_lneg, e_lcmp, e_i2l, e_l2f, e_f2i, e_i2b, e_fcg, e_fcl, e_dup, e_dupi, e_dup2, s_il, s_ll, s_fl, s_al, s_inc, e_is, e_ls, e_fs, e_aS, e_gi, e_gb, e_gj, s_gr, s_pfi, s_pfj, s_pfb, s_v1, s_v2, s_v3, s_v4, s_v5, s_v6, s_s1, s_s2, s_s3, s_s4, s_s5, s_s6, m_kI_I, m_kJ_J, m_kF_F, m_kR_R, m_ld0, m_ldS, m_st0, m_stS, m_s1, m_s2, m_kl, Option.bind_some, Option.toList_some, Option.toList_none, List.cons_append, List.nil_append, Nat.zero_add, Nat.reduceAdd, Nat.reduceSub, Nat.zero_sub, Nat.reduceEqDiff, Int.reduceLE, Int.reduceLT, Int.reduceEq, Int.reduceNe, Int.reduceAdd, Int.reduceSub, Int.reduceMul, Int.reduceNeg, Int.reduceToNat, Int.toNat_zero, Int.toNat_one, Int.zero_add, Int.zero_mul, Int.one_mul, ↓reduceIte, not_false_eq_true, not_true_eq_false, m_up_s, m_up_c, m_up_k, ne_eq, and_self, and_true, true_and, and_false, false_and, or_true, or_false, true_or, false_or, a_2, u_2, l_2, a_4, u_4, l_4, a_7, u_7, l_7, a_9, u_9, l_9, a_10, u_10, l_10, a_11, u_11, l_11, a_12, u_12, l_12, a_14, u_14, l_14, a_75, u_75, l_75, a_76, u_76, l_76, a_78, u_78, l_78, a_79, u_79, l_79, a_81, u_81, l_81, a_82, u_82, l_82, a_83, u_83, l_83, a_85, u_85, l_85, r_0_0, r_0_1, r_0_2, r_0_3, r_0_4, r_0_5, r_0_6, r_1_0, r_3_0, r_5_0, r_6_2, r_8_9, r_8_10, r_8_11, r_8_12, r_8_13, r_13_2, r_15_0, r_73_0, r_73_1, r_74_2, r_74_3, r_77_2, r_77_3, r_80_0, r_80_1, r_80_2, r_80_3, r_84_2, w_n1, w_0, w_1, w_2, w_3, w_4, w_5, w_6, w_7, w_8, w_9, w_10, w_11, w_12, w_13, w_14, w_15, w_16, w_17, w_18, w_19, w_20, w_21, w_22, w_23, w_24, w_25, w_26, w_27, w_28, w_29, w_30, w_31, w_32, w_33, w_34, w_35, w_36, w_37, w_38, w_39, w_40, w_41, w_42, w_43, w_44, w_45, w_46, w_47, w_48, w_49, w_50, w_51, w_52, w_53, w_54, w_55, w_56, w_57, w_58, w_59, w_60, w_61, w_62, w_63, w_64, w_65, w_66, w_67, w_68, w_69, w_n1000, w_n1001, w_n1002, w_n1003, w_65536, w_1103, w_377, w_127, w_126, w_128, t_0_0, t_0_1, t_0_2, t_0_d, t_1_0, t_1_1, t_1_2, t_1_3, t_1_4, t_1_5, t_1_6, t_1_7, t_1_8, t_1_9, t_1_10, t_1_11, t_1_12, t_1_13, t_1_d, v_0_32, v_0_45, v_0_47, v_0_d, e_tsw, e_lsw, q_le1, q_le0, q_lt1, q_lt0, q_eq1, q_eq0, Int.add_zero, m_ca, Int.reduceNatCast', m_bite, m_b0, m_b1, m_nn, m_tn, m_w_id, m_x_id]
  · rw [b_44_1]
    simp (disch := first | with_unfolding_all exact id rfl | with_unfolding_all exact ⟨rfl, by decide, Nat.le_of_ble_eq_true rfl⟩ | with_unfolding_all exact Nat.le_of_ble_eq_true rfl | omega) only [b_44_0, b_44_2, b_44_3, b_44_4, e_goto, e_fall, e_if0, e_if1, e_if2, e_if3, e_if4, e_if5, e_ic0, e_ic1, e_ic2, e_ic3, e_ic4, e_ic5, e_null_n, e_null_r, e_nonn_n, e_nonn_r, e_ret0, e_ret1, e_ret20, e_ret21, e_retb, e_ret3, e_ret4, e_pi, e_pj, e_pf, e_pn, e_iadd, e_isub, e_imul, e_iand, e_ixor, e_ishl, e_ishr, e_iushr, e_ladd, e_lsub, e_lmul, e_idiv, e_irem, e_ldiv, e_lrem, e_ineg, e_lneg, e_lcmp, e_i2l, e_l2f, e_f2i, e_i2b, e_fcg, e_fcl, e_dup, e_dupi, e_dup2, s_il, s_ll, s_fl, s_al, s_inc, e_is, e_ls, e_fs, e_aS, e_gi, e_gb, e_gj, s_gr, s_pfi, s_pfj, s_pfb, s_v1, s_v2, s_v3, s_v4, s_v5, s_v6, s_s1, s_s2, s_s3, s_s4, s_s5, s_s6, m_kI_I, m_kJ_J, m_kF_F, m_kR_R, m_ld0, m_ldS, m_st0, m_stS, m_s1, m_s2, m_kl, Option.bind_some, Option.toList_some, Option.toList_none, List.cons_append, List.nil_append, Nat.zero_add, Nat.reduceAdd, Nat.reduceSub, Nat.zero_sub, Nat.reduceEqDiff, Int.reduceLE, Int.reduceLT, Int.reduceEq, Int.reduceNe, Int.reduceAdd, Int.reduceSub, Int.reduceMul, Int.reduceNeg, Int.reduceToNat, Int.toNat_zero, Int.toNat_one, Int.zero_add, Int.zero_mul, Int.one_mul, ↓reduceIte, not_false_eq_true, not_true_eq_false, m_up_s, m_up_c, m_up_k, ne_eq, and_self, and_true, true_and, and_false, false_and, or_true, or_false, true_or, false_or, a_2, u_2, l_2, a_4, u_4, l_4, a_7, u_7, l_7, a_9, u_9, l_9, a_10, u_10, l_10, a_11, u_11, l_11, a_12, u_12, l_12, a_14, u_14, l_14, a_75, u_75, l_75, a_76, u_76, l_76, a_78, u_78, l_78, a_79, u_79, l_79, a_81, u_81, l_81, a_82, u_82, l_82, a_83, u_83, l_83, a_85, u_85, l_85, r_0_0, r_0_1, r_0_2, r_0_3, r_0_4, r_0_5, r_0_6, r_1_0, r_3_0, r_5_0, r_6_2, r_8_9, r_8_10, r_8_11, r_8_12, r_8_13, r_13_2, r_15_0, r_73_0, r_73_1, r_74_2, r_74_3, r_77_2, r_77_3, r_80_0, r_80_1, r_80_2, r_80_3, r_84_2, w_n1, w_0, w_1, w_2, w_3, w_4, w_5, w_6, w_7, w_8, w_9, w_10, w_11, w_12, w_13, w_14, w_15, w_16, w_17, w_18, w_19, w_20, w_21, w_22, w_23, w_24, w_25, w_26, w_27, w_28, w_29, w_30, w_31, w_32, w_33, w_34, w_35, w_36, w_37, w_38, w_39, w_40, w_41, w_42, w_43, w_44, w_45, w_46, w_47, w_48, w_49, w_50, w_51, w_52, w_53, w_54, w_55, w_56, w_57, w_58, w_59, w_60, w_61, w_62, w_63, w_64, w_65, w_66, w_67, w_68, w_69, w_n1000, w_n1001, w_n1002, w_n1003, w_65536, w_1103, w_377, w_127, w_126, w_128, t_0_0, t_0_1, t_0_2, t_0_d, t_1_0, t_1_1, t_1_2, t_1_3, t_1_4, t_1_5, t_1_6, t_1_7, t_1_8, t_1_9, t_1_10, t_1_11, t_1_12, t_1_13, t_1_d, v_0_32, v_0_45, v_0_47, v_0_d, e_tsw, e_lsw, q_le1, q_le0, q_lt1, q_lt0, q_eq1, q_eq0, Int.add_zero, m_ca, Int.reduceNatCast', m_bite, m_b0, m_b1, m_nn, m_tn, m_w_id, m_x_id]
theorem c_deal1 (T : sTR σ 8 f) (W : sWF f) (hc : ¬ (f 42 = 0 ∧ 2 ≤ sAl f)) : m_ev (d + 5) 40 [m_R 0] (m_G0, σ) = some (some (m_I (-1001)), (m_G0, σ)) := by
  have c := fun d => c_can (d := d) T W
  rw [if_neg hc] at c
  rw [i_40]
  simp (disch := first | with_unfolding_all exact id rfl | with_unfolding_all exact ⟨rfl, by decide, Nat.le_of_ble_eq_true rfl⟩ | with_unfolding_all exact Nat.le_of_ble_eq_true rfl | omega) only [b_40_0, b_40_1, b_40_2, b_40_3, e_goto, e_fall, e_if0, e_if1, e_if2, e_if3, e_if4, e_if5, e_ic0, e_ic1, e_ic2, e_ic3, e_ic4, e_ic5, e_null_n, e_null_r, e_nonn_n, e_nonn_r, e_ret0, e_ret1, e_ret20, e_ret21, e_retb, e_ret3, e_ret4, e_pi, e_pj, e_pf, e_pn, e_iadd, e_isub, e_imul, e_iand, e_ixor, e_ishl, e_ishr, e_iushr, e_ladd, e_lsub, e_lmul, e_idiv, e_irem, e_ldiv, e_lrem, e_ineg, e_lneg, e_lcmp, e_i2l, e_l2f, e_f2i, e_i2b, e_fcg, e_fcl, e_dup, e_dupi, e_dup2, s_il, s_ll, s_fl, s_al, s_inc, e_is, e_ls, e_fs, e_aS, e_gi, e_gb, e_gj, s_gr, s_pfi, s_pfj, s_pfb, s_v1, s_v2, s_v3, s_v4, s_v5, s_v6, s_s1, s_s2, s_s3, s_s4, s_s5, s_s6, m_kI_I, m_kJ_J, m_kF_F, m_kR_R, m_ld0, m_ldS, m_st0, m_stS, m_s1, m_s2, m_kl, Option.bind_some, Option.toList_some, Option.toList_none, List.cons_append, List.nil_append, Nat.zero_add, Nat.reduceAdd, Nat.reduceSub, Nat.zero_sub, Nat.reduceEqDiff, Int.reduceLE, Int.reduceLT, Int.reduceEq, Int.reduceNe, Int.reduceAdd, Int.reduceSub, Int.reduceMul, Int.reduceNeg, Int.reduceToNat, Int.toNat_zero, Int.toNat_one, Int.zero_add, Int.zero_mul, Int.one_mul, ↓reduceIte, not_false_eq_true, not_true_eq_false, m_up_s, m_up_c, m_up_k, ne_eq, and_self, and_true, true_and, and_false, false_and, or_true, or_false, true_or, false_or, a_2, u_2, l_2, a_4, u_4, l_4, a_7, u_7, l_7, a_9, u_9, l_9, a_10, u_10, l_10, a_11, u_11, l_11, a_12, u_12, l_12, a_14, u_14, l_14, a_75, u_75, l_75, a_76, u_76, l_76, a_78, u_78, l_78, a_79, u_79, l_79, a_81, u_81, l_81, a_82, u_82, l_82, a_83, u_83, l_83, a_85, u_85, l_85, r_0_0, r_0_1, r_0_2, r_0_3, r_0_4, r_0_5, r_0_6, r_1_0, r_3_0, r_5_0, r_6_2, r_8_9, r_8_10, r_8_11, r_8_12, r_8_13, r_13_2, r_15_0, r_73_0, r_73_1, r_74_2, r_74_3, r_77_2, r_77_3, r_80_0, r_80_1, r_80_2, r_80_3, r_84_2, w_n1, w_0, w_1, w_2, w_3, w_4, w_5, w_6, w_7, w_8, w_9, w_10, w_11, w_12, w_13, w_14, w_15, w_16, w_17, w_18, w_19, w_20, w_21, w_22, w_23, w_24, w_25, w_26, w_27, w_28, w_29, w_30, w_31, w_32, w_33, w_34, w_35, w_36, w_37, w_38, w_39, w_40, w_41, w_42, w_43, w_44, w_45, w_46, w_47, w_48, w_49, w_50, w_51, w_52, w_53, w_54, w_55, w_56, w_57, w_58, w_59, w_60, w_61, w_62, w_63, w_64, w_65, w_66, w_67, w_68, w_69, w_n1000, w_n1001, w_n1002, w_n1003, w_65536, w_1103, w_377, w_127, w_126, w_128, t_0_0, t_0_1, t_0_2, t_0_d, t_1_0, t_1_1, t_1_2, t_1_3, t_1_4, t_1_5, t_1_6, t_1_7, t_1_8, t_1_9, t_1_10, t_1_11, t_1_12, t_1_13, t_1_d, v_0_32, v_0_45, v_0_47, v_0_d, e_tsw, e_lsw, q_le1, q_le0, q_lt1, q_lt0, q_eq1, q_eq0, Int.add_zero, m_ca, Int.reduceNatCast', m_bite, m_b0, m_b1, m_nn, m_tn, m_w_id, m_x_id, c]
theorem c_deal2 (T : sTR σ 8 f) (W : sWF f) (X : sTX σ l t) (hl : l ≤ 60) (ht : ∀ i, i < l → 0 ≤ t i ∧ t i ≤ 127) (hc : f 42 = 0 ∧ 2 ≤ sAl f) (hf : ¬ (sFD f t l).1 = -1003) : ∃ σ' : Nat → Nat → Int, m_ev (d + 5) 40 [m_R 0] (m_G0, σ) = some (some (m_I (-1001)), (m_G0, σ')) ∧ sF 3 5 σ σ' := by
  obtain ⟨σ', k1, k2, k3⟩ := c_fd (d := d) T W X hl ht (by omega)
  have c := fun d => c_can (d := d) T W
  rw [if_pos hc] at c
  refine ⟨σ', ?_, k2⟩
  rw [i_40]
  simp (disch := first | with_unfolding_all exact id rfl | with_unfolding_all exact ⟨rfl, by decide, Nat.le_of_ble_eq_true rfl⟩ | with_unfolding_all exact Nat.le_of_ble_eq_true rfl | omega) only [b_40_0, b_40_1, b_40_2, b_40_3, e_goto, e_fall, e_if0, e_if1, e_if2, e_if3, e_if4, e_if5, e_ic0, e_ic1, e_ic2, e_ic3, e_ic4, e_ic5, e_null_n, e_null_r, e_nonn_n, e_nonn_r, e_ret0, e_ret1, e_ret20, e_ret21, e_retb, e_ret3, e_ret4, e_pi, e_pj, e_pf, e_pn, e_iadd, e_isub, e_imul, e_iand, e_ixor, e_ishl, e_ishr, e_iushr, e_ladd, e_lsub, e_lmul, e_idiv, e_irem, e_ldiv, e_lrem, e_ineg, e_lneg, e_lcmp, e_i2l, e_l2f, e_f2i, e_i2b, e_fcg, e_fcl, e_dup, e_dupi, e_dup2, s_il, s_ll, s_fl, s_al, s_inc, e_is, e_ls, e_fs, e_aS, e_gi, e_gb, e_gj, s_gr, s_pfi, s_pfj, s_pfb, s_v1, s_v2, s_v3, s_v4, s_v5, s_v6, s_s1, s_s2, s_s3, s_s4, s_s5, s_s6, m_kI_I, m_kJ_J, m_kF_F, m_kR_R, m_ld0, m_ldS, m_st0, m_stS, m_s1, m_s2, m_kl, Option.bind_some, Option.toList_some, Option.toList_none, List.cons_append, List.nil_append, Nat.zero_add, Nat.reduceAdd, Nat.reduceSub, Nat.zero_sub, Nat.reduceEqDiff, Int.reduceLE, Int.reduceLT, Int.reduceEq, Int.reduceNe, Int.reduceAdd, Int.reduceSub, Int.reduceMul, Int.reduceNeg, Int.reduceToNat, Int.toNat_zero, Int.toNat_one, Int.zero_add, Int.zero_mul, Int.one_mul, ↓reduceIte, not_false_eq_true, not_true_eq_false, m_up_s, m_up_c, m_up_k, ne_eq, and_self, and_true, true_and, and_false, false_and, or_true, or_false, true_or, false_or, a_2, u_2, l_2, a_4, u_4, l_4, a_7, u_7, l_7, a_9, u_9, l_9, a_10, u_10, l_10, a_11, u_11, l_11, a_12, u_12, l_12, a_14, u_14, l_14, a_75, u_75, l_75, a_76, u_76, l_76, a_78, u_78, l_78, a_79, u_79, l_79, a_81, u_81, l_81, a_82, u_82, l_82, a_83, u_83, l_83, a_85, u_85, l_85, r_0_0, r_0_1, r_0_2, r_0_3, r_0_4, r_0_5, r_0_6, r_1_0, r_3_0, r_5_0, r_6_2, r_8_9, r_8_10, r_8_11, r_8_12, r_8_13, r_13_2, r_15_0, r_73_0, r_73_1, r_74_2, r_74_3, r_77_2, r_77_3, r_80_0, r_80_1, r_80_2, r_80_3, r_84_2, w_n1, w_0, w_1, w_2, w_3, w_4, w_5, w_6, w_7, w_8, w_9, w_10, w_11, w_12, w_13, w_14, w_15, w_16, w_17, w_18, w_19, w_20, w_21, w_22, w_23, w_24, w_25, w_26, w_27, w_28, w_29, w_30, w_31, w_32, w_33, w_34, w_35, w_36, w_37, w_38, w_39, w_40, w_41, w_42, w_43, w_44, w_45, w_46, w_47, w_48, w_49, w_50, w_51, w_52, w_53, w_54, w_55, w_56, w_57, w_58, w_59, w_60, w_61, w_62, w_63, w_64, w_65, w_66, w_67, w_68, w_69, w_n1000, w_n1001, w_n1002, w_n1003, w_65536, w_1103, w_377, w_127, w_126, w_128, t_0_0, t_0_1, t_0_2, t_0_d, t_1_0, t_1_1, t_1_2, t_1_3, t_1_4, t_1_5, t_1_6, t_1_7, t_1_8, t_1_9, t_1_10, t_1_11, t_1_12, t_1_13, t_1_d, v_0_32, v_0_45, v_0_47, v_0_d, e_tsw, e_lsw, q_le1, q_le0, q_lt1, q_lt0, q_eq1, q_eq0, Int.add_zero, m_ca, Int.reduceNatCast', m_bite, m_b0, m_b1, m_nn, m_tn, m_w_id, m_x_id, c, k1, hf]
theorem c_deal (T : sTR σ 8 f) (W : sWF f) (X : sTX σ l t) (hl : l ≤ 60) (ht : ∀ i, i < l → 0 ≤ t i ∧ t i ≤ 127) (H : sHC σ u h) (hu : u ≤ 8) (hc : f 42 = 0 ∧ 2 ≤ sAl f) (hf : (sFD f t l).1 = -1003) : ∃ σ' : Nat → Nat → Int, m_ev (d + 5) 40 [m_R 0] (m_G0, σ) = some (some (m_I (sDc f)), (m_G0, σ')) ∧ sF 3 73 σ σ' ∧ sTR σ' 8 (gDl f (sFD f t l).2) ∧ sHC σ' (gU u) (gH u h f) := by
  have wn := W_n W
  obtain ⟨σ1, k1, k2, k3⟩ := c_fd (d := d) T W X hl ht (by omega)
  have c := fun d => c_can (d := d) T W
  rw [if_pos hc] at c
  have T1 : sTR σ1 8 f := sTR_fr (fun c a b => k2 c (by omega)) T
  have H1 : sHC σ1 u h := by
    obtain ⟨q1, q2, q3⟩ := H
    have e15 : σ1 15 = σ 15 := k2 15 (by omega)
    refine ⟨by rw [e15]; exact q1, by rw [e15]; exact q2, fun j hj => ?_⟩
    rw [e15]
    exact sTR_fr (fun c a b => k2 c (by omega)) (q3 j hj)
  obtain ⟨σ2, hc1, hF, hH⟩ := c_rec (d := d + 1) H1 hu T1 W
  have T2 : sTR σ2 8 f := sTR_fr (fun c a b => hF c (by omega)) T1
  obtain ⟨s3, hc2, h1, h2⟩ := c_dfc (d := d + 3) (σ := σ2)
  have W3 : sWF (gDl f (sFD f t l).2) := W_deal W hc.2 (sFD_v W (by omega) hf) (by omega)
  have T3 : sTR (m_up s3 8 2 1) 8 (gDl f (sFD f t l).2) := T_deal T2 W m_up_s (fun k hk => by rw [m_up_k hk, h1 8 (by decide)]) (fun c a b e => by rw [m_up_x (by omega), h1 c e]) (fun p i hp hi => by
    have := W_d W hp
    rw [m_up_x (by decide), h2 _ (by omega), hF 4 (by omega)]
    exact k3 hf p i hp hi)
  have dc := fun d => c_dcs (d := d) T3 W3
  have edc : sDc (gDl f (sFD f t l).2) = sDc f := by unfold sDc; rw [gDl_e (by decide) (by decide), gDl_e (by decide) (by decide), gDl_e (by decide) (by decide), gDl_e (by decide) (by decide), gDl_e (by decide) (by decide)]
  rw [edc] at dc
  refine ⟨m_up s3 8 2 1, ?_, fun c hc => by rw [m_up_x (by omega), h1 c (by omega), hF c (by omega), k2 c (by omega)], T3, ?_⟩
  · rw [i_40]
    simp (disch := first | with_unfolding_all exact id rfl | with_unfolding_all exact ⟨rfl, by decide, Nat.le_of_ble_eq_true rfl⟩ | with_unfolding_all exact Nat.le_of_ble_eq_true rfl | omega) only [b_40_0, b_40_1, b_40_2, b_40_3, e_goto, e_fall, e_if0, e_if1, e_if2, e_if3, e_if4, e_if5, e_ic0, e_ic1, e_ic2, e_ic3, e_ic4, e_ic5, e_null_n, e_null_r, e_nonn_n, e_nonn_r, e_ret0, e_ret1, e_ret20, e_ret21, e_retb, e_ret3, e_ret4, e_pi, e_pj, e_pf, e_pn, e_iadd, e_isub, e_imul, e_iand, e_ixor, e_ishl, e_ishr, e_iushr, e_ladd, e_lsub, e_lmul, e_idiv, e_irem, e_ldiv, e_lrem, e_ineg, e_lneg, e_lcmp, e_i2l, e_l2f, e_f2i, e_i2b, e_fcg, e_fcl, e_dup, e_dupi, e_dup2, s_il, s_ll, s_fl, s_al, s_inc, e_is, e_ls, e_fs, e_aS, e_gi, e_gb, e_gj, s_gr, s_pfi, s_pfj, s_pfb, s_v1, s_v2, s_v3, s_v4, s_v5, s_v6, s_s1, s_s2, s_s3, s_s4, s_s5, s_s6, m_kI_I, m_kJ_J, m_kF_F, m_kR_R, m_ld0, m_ldS, m_st0, m_stS, m_s1, m_s2, m_kl, Option.bind_some, Option.toList_some, Option.toList_none, List.cons_append, List.nil_append, Nat.zero_add, Nat.reduceAdd, Nat.reduceSub, Nat.zero_sub, Nat.reduceEqDiff, Int.reduceLE, Int.reduceLT, Int.reduceEq, Int.reduceNe, Int.reduceAdd, Int.reduceSub, Int.reduceMul, Int.reduceNeg, Int.reduceToNat, Int.toNat_zero, Int.toNat_one, Int.zero_add, Int.zero_mul, Int.one_mul, ↓reduceIte, not_false_eq_true, not_true_eq_false, m_up_s, m_up_c, m_up_k, ne_eq, and_self, and_true, true_and, and_false, false_and, or_true, or_false, true_or, false_or, a_2, u_2, l_2, a_4, u_4, l_4, a_7, u_7, l_7, a_9, u_9, l_9, a_10, u_10, l_10, a_11, u_11, l_11, a_12, u_12, l_12, a_14, u_14, l_14, a_75, u_75, l_75, a_76, u_76, l_76, a_78, u_78, l_78, a_79, u_79, l_79, a_81, u_81, l_81, a_82, u_82, l_82, a_83, u_83, l_83, a_85, u_85, l_85, r_0_0, r_0_1, r_0_2, r_0_3, r_0_4, r_0_5, r_0_6, r_1_0, r_3_0, r_5_0, r_6_2, r_8_9, r_8_10, r_8_11, r_8_12, r_8_13, r_13_2, r_15_0, r_73_0, r_73_1, r_74_2, r_74_3, r_77_2, r_77_3, r_80_0, r_80_1, r_80_2, r_80_3, r_84_2, w_n1, w_0, w_1, w_2, w_3, w_4, w_5, w_6, w_7, w_8, w_9, w_10, w_11, w_12, w_13, w_14, w_15, w_16, w_17, w_18, w_19, w_20, w_21, w_22, w_23, w_24, w_25, w_26, w_27, w_28, w_29, w_30, w_31, w_32, w_33, w_34, w_35, w_36, w_37, w_38, w_39, w_40, w_41, w_42, w_43, w_44, w_45, w_46, w_47, w_48, w_49, w_50, w_51, w_52, w_53, w_54, w_55, w_56, w_57, w_58, w_59, w_60, w_61, w_62, w_63, w_64, w_65, w_66, w_67, w_68, w_69, w_n1000, w_n1001, w_n1002, w_n1003, w_65536, w_1103, w_377, w_127, w_126, w_128, t_0_0, t_0_1, t_0_2, t_0_d, t_1_0, t_1_1, t_1_2, t_1_3, t_1_4, t_1_5, t_1_6, t_1_7, t_1_8, t_1_9, t_1_10, t_1_11, t_1_12, t_1_13, t_1_d, v_0_32, v_0_45, v_0_47, v_0_d, e_tsw, e_lsw, q_le1, q_le0, q_lt1, q_lt0, q_eq1, q_eq0, Int.add_zero, m_ca, Int.reduceNatCast', m_bite, m_b0, m_b1, m_nn, m_tn, m_w_id, m_x_id, c, k1, hf, hc1, hc2, dc]
  · obtain ⟨q1, q2, q3⟩ := hH
    have e15 : m_up s3 8 2 1 15 = σ2 15 := by rw [m_up_x (by decide), h1 15 (by decide)]
    refine ⟨by rw [e15]; exact q1, by rw [e15]; exact q2, fun j hj => ?_⟩
    rw [e15]
    exact sTR_fr (fun c a b => by rw [m_up_x (by omega), h1 c (by omega)]) (q3 j hj)
end DC
section DD
variable {d : Nat} {σ : Nat → Nat → Int} {f t v : Nat → Int} {l u : Nat} {h : Nat → Nat → Int}
end DD
