/-! the reference reads a matrix: an entry joined with the automaton -/
section RF
variable {d : Nat} {σ : Nat → Nat → Int} {l : Nat} {t : Nat → Int}
def sNg (x : Int) : Int := if x = 45 then 1 else 0
theorem g1_g {E : Nat → Int} {p : Nat} {v w : Int} : g1 (g1 E p v) p w = g1 E p w := by
  funext c
  unfold g1
  split <;> rfl
/-- from the first digit's place on: what the automaton does -/
theorem sBt_d1 {r i k b q : Int} {E : Nat → Int} {p : Nat} (hi : 0 ≤ i ∧ 0 ≤ r) (hp : p ≤ l) (hb : b = 1 ∧ (q = 0 ∨ q = 1) ∧ E (4 * r.toNat + i.toNat) = 0) (h0 : sDg (sNx t l p)) (h1 : ¬ sDg (sNx t l (p + 1))) : sBt t l p r (i + 1) k 0 b q E = sBt t l (sBl t l (p + 1)) r (i + 1) k 0 0 q (g1 E (4 * r.toNat + i.toNat) (sBv q 0 (sNx t l p - 48))) := by
  obtain ⟨rfl, hq, hE⟩ := hb
  have z : p < l := by
    by_cases z : p < l
    · exact z
    · have := h0.1
      rw [sNx, if_neg z] at this; omega
  have ex : sNx t l p = t p := if_pos z
  rw [ex] at h0 ⊢
  have e : 4 * r.toNat + (i + 1).toNat - 1 = 4 * r.toNat + i.toNat := by omega
  rw [sBt_s z, if_pos h0, if_neg (by omega), if_neg (by omega), e, hE, sBt_g (by omega) h1]
theorem sBt_d2 {r i k b q : Int} {E : Nat → Int} {p : Nat} (hi : 0 ≤ i ∧ 0 ≤ r) (hp : p ≤ l) (hb : b = 1 ∧ (q = 0 ∨ q = 1) ∧ E (4 * r.toNat + i.toNat) = 0) (h0 : sDg (sNx t l p)) (h1 : sDg (sNx t l (p + 1))) : sBt t l p r (i + 1) k 0 b q E = sBt t l (p + 2) r (i + 1) k 2 0 q (g1 E (4 * r.toNat + i.toNat) (sBv q (sBv q 0 (sNx t l p - 48)) (sNx t l (p + 1) - 48))) := by
  obtain ⟨rfl, hq, hE⟩ := hb
  have z1 : p + 1 < l := by
    by_cases z : p + 1 < l
    · exact z
    · have := h1.1
      rw [sNx, if_neg z] at this; omega
  have z : p < l := by omega
  have ex : sNx t l p = t p := if_pos z
  have ex1 : sNx t l (p + 1) = t (p + 1) := if_pos z1
  rw [ex] at h0 ⊢
  rw [ex1] at h1 ⊢
  have e : 4 * r.toNat + (i + 1).toNat - 1 = 4 * r.toNat + i.toNat := by omega
  rw [sBt_s z, if_pos h0, if_neg (by omega), if_neg (by omega), e, hE, sBt_s z1, if_pos h1, if_neg (by omega), if_neg (by omega), e, g1_s, g1_g]
  rfl
/-- a digit opens an entry just as a minus would, but for the sign -/
theorem sBt_o {r i k q : Int} {E : Nat → Int} {p : Nat} (hi : 0 ≤ i ∧ 0 ≤ r) (hk : i < k) (h0 : sDg (sNx t l p)) : sBt t l p r i k 0 0 q E = sBt t l p r (i + 1) k 0 1 0 (g1 E (4 * r.toNat + i.toNat) 0) := by
  have z : p < l := by
    by_cases z : p < l
    · exact z
    · have := h0.1
      rw [sNx, if_neg z] at this; omega
  have ex : sNx t l p = t p := if_pos z
  rw [ex] at h0
  have e : 4 * r.toNat + (i + 1).toNat - 1 = 4 * r.toNat + i.toNat := by omega
  rw [sBt_s z, if_pos h0, if_neg (by omega), if_pos ⟨rfl, rfl⟩, sBt_s z, if_pos h0, if_neg (by omega), if_neg (by omega), e, g1_s, g1_g]
  have : sBv 0 0 (t p - 48) = t p - 48 := by unfold sBv; rw [if_neg (by decide)]; omega
  rw [this]
  rfl
theorem sBt_m {r i k q : Int} {E : Nat → Int} {p : Nat} (hk : i < k) (h0 : sNx t l p = 45) : sBt t l p r i k 0 0 q E = sBt t l (p + 1) r (i + 1) k 0 1 1 (g1 E (4 * r.toNat + i.toNat) 0) := by
  obtain ⟨z, h0⟩ := sNx_l h0 (by decide)
  rw [sBt_s z, h0, if_neg (by decide), if_neg (by decide), if_neg (by decide), if_pos rfl, if_neg (by omega)]
theorem sBt_x {r i k q : Int} {E : Nat → Int} {p : Nat} (hp : p ≤ l) (h0 : ¬ sDg (sNx t l p)) : (sBt t l p r i k 0 1 q E).1 = (p : Int) := by
  by_cases z : p < l
  · rw [sNx, if_pos z] at h0
    rw [sBt_s z, if_neg h0, if_pos rfl]
  · rw [sBt_0 (by omega), if_neg (by omega)]
    show (l : Int) = p
    omega
theorem sBt_y {r i k q b : Int} {E : Nat → Int} {p : Nat} (h0 : sDg (sNx t l p)) : (sBt t l p r i k 2 b q E).1 = (p : Int) := by
  have z : p < l := by
    by_cases z : p < l
    · exact z
    · have := h0.1
      rw [sNx, if_neg z] at this; omega
  rw [sNx, if_pos z] at h0
  rw [sBt_s z, if_pos h0, if_pos (Or.inl rfl)]
theorem sBv_v {q x : Int} : (if q = 1 then -x else x) = sBv q 0 x := by
  unfold sBv
  split <;> omega
theorem sBv_w {q x y : Int} : (if q = 1 then -(10 * x + y) else 10 * x + y) = sBv q (sBv q 0 x) y := by
  unfold sBv
  split <;> omega
set_option maxHeartbeats 4000000 in
/-- the reference reads an entry, as the automaton does -/
theorem d_ent (hl : l ≤ 60) (X : sMX σ l t) {a R : Nat} {V : Nat → Int} {s : Nat → Nat → Int} (ha : a ≤ l) (S : sRS σ s a R V) (hR : R < 25) (he : sDg (sNx t l a) ∨ sNx t l a = 45) : ∃ s' : Nat → Nat → Int, m_ev (d + 3) 136 [m_R 86] (m_G0, s) = some (none, (m_G0, s')) ∧ ((∃ (a' : Nat) (v q' : Int), a' ≤ l ∧ (a' < l → ¬ t a' = 32) ∧ sRS σ s' a' (R + 1) (g1 V R v) ∧ ∀ (r i k q : Int) (E : Nat → Int), 0 ≤ i → 0 ≤ r → i < k → sBt t l a r i k 0 0 q E = sBt t l a' r (i + 1) k 0 0 q' (g1 E (4 * r.toNat + i.toNat) v)) ∨ (sFS σ s' ∧ 0 ≤ s' 86 6 ∧ ∀ (r i k q : Int) (E : Nat → Int), 0 ≤ i → 0 ≤ r → i < k → (sBt t l a r i k 0 0 q E).1 = s' 86 6)) := by
  obtain ⟨F, h5, h6, h8, hV⟩ := S
  have Xs : sMX s l t := sFS_X F X
  have nx := fun d => d_next (d := d) Xs hl h5 ha
  have hal : a < l := by
    by_cases z : a < l
    · exact z
    · rw [sNx, if_neg z] at he
      unfold sDg at he
      omega
  obtain ⟨mi, hmi⟩ : ∃ mi, mi = sNg (sNx t l a) := ⟨_, rfl⟩
  have m01 : mi = 0 ∨ mi = 1 := by rw [hmi]; unfold sNg; split <;> omega
  obtain ⟨p, hp⟩ : ∃ p : Nat, p = a + mi.toNat := ⟨_, rfl⟩
  have hpl : p ≤ l := by omega
  have hpi : (p : Int) = (a : Int) + mi := by omega
  -- up to the digits
  have st : ∀ d, m_ev (d + 3) 136 [m_R 86] (m_G0, s) = m_e none (m_ev (d + 2)) 136 (m_blk 136 7) [m_R 86, m_I mi, m_I (p : Int), m_I 0] [] (m_G0, m_up s 86 5 (p : Int)) := fun d => by
    rw [i_136, hpi]
    by_cases g : sNx t l a = 45
    · have e1 : mi = 1 := by rw [hmi]; unfold sNg; rw [if_pos g]
      subst e1
      conv => lhs; rw [b_136_0]
      simp (disch := first | with_unfolding_all exact id rfl | with_unfolding_all exact ⟨rfl, by decide, Nat.le_of_ble_eq_true rfl⟩ | with_unfolding_all exact Nat.le_of_ble_eq_true rfl | omega) only [b_136_1, b_136_2, b_136_3, b_136_4, b_136_5, b_136_6, b_136_8, b_136_9, b_136_10, b_136_11, b_136_12, b_136_13, b_136_14, b_136_15, b_136_16, e_goto, e_fall, e_if0, e_if1, e_if2, e_if3, e_if4, e_if5, e_ic0, e_ic1, e_ic2, e_ic3, e_ic4, e_ic5, e_null_n, e_null_r, e_nonn_n, e_nonn_r, e_ret0, e_ret1, e_ret20, e_ret21, e_retb, e_ret3, e_ret4, e_pi, e_pj, e_pf, e_pn, e_iadd, e_isub, e_imul, e_iand, e_ixor, e_ishl, e_ishr, e_iushr, e_ladd, e_lsub, e_lmul, e_idiv, e_irem, e_ldiv, e_lrem, e_ineg, e_lneg, e_lcmp, e_i2l, e_l2f, e_f2i, e_i2b, e_fcg, e_fcl, e_dup, e_dupi, e_dup2, s_il, s_ll, s_fl, s_al, s_inc, e_is, e_ls, e_fs, e_aS, e_gi, e_gb, e_gj, s_gr, s_pfi, s_pfj, s_pfb, s_v1, s_v2, s_v3, s_v4, s_v5, s_v6, s_s1, s_s2, s_s3, s_s4, s_s5, s_s6, m_kI_I, m_kJ_J, m_kF_F, m_kR_R, m_ld0, m_ldS, m_st0, m_stS, m_s1, m_s2, m_kl, Option.bind_some, Option.toList_some, Option.toList_none, List.cons_append, List.nil_append, Nat.zero_add, Nat.reduceAdd, Nat.reduceSub, Nat.zero_sub, Nat.reduceEqDiff, Int.reduceLE, Int.reduceLT, Int.reduceEq, Int.reduceNe, Int.reduceAdd, Int.reduceSub, Int.reduceMul, Int.reduceNeg, Int.reduceToNat, Int.toNat_zero, Int.toNat_one, Int.zero_add, Int.zero_mul, Int.one_mul, ↓reduceIte, not_false_eq_true, not_true_eq_false, m_up_s, m_up_c, m_up_k, ne_eq, and_self, and_true, true_and, and_false, false_and, or_true, or_false, true_or, false_or, a_2, u_2, l_2, a_4, u_4, l_4, a_7, u_7, l_7, a_9, u_9, l_9, a_10, u_10, l_10, a_11, u_11, l_11, a_12, u_12, l_12, a_14, u_14, l_14, a_75, u_75, l_75, a_76, u_76, l_76, a_78, u_78, l_78, a_79, u_79, l_79, a_81, u_81, l_81, a_82, u_82, l_82, a_83, u_83, l_83, a_85, u_85, l_85, a_87, u_87, l_87, a_88, u_88, l_88, a_89, u_89, l_89, a_90, u_90, l_90, a_91, u_91, l_91, a_92, u_92, l_92, r_0_0, r_0_1, r_0_2, r_0_3, r_0_4, r_0_5, r_0_6, r_1_0, r_3_0, r_5_0, r_6_2, r_8_9, r_8_10, r_8_11, r_8_12, r_8_13, r_13_2, r_15_0, r_73_0, r_73_1, r_74_2, r_74_3, r_77_2, r_77_3, r_80_0, r_80_1, r_80_2, r_80_3, r_84_2, r_86_0, r_86_1, r_86_3, r_86_7, r_86_11, r_86_12, w_n1, w_0, w_1, w_2, w_3, w_4, w_5, w_6, w_7, w_8, w_9, w_10, w_11, w_12, w_13, w_14, w_15, w_16, w_17, w_18, w_19, w_20, w_21, w_22, w_23, w_24, w_25, w_26, w_27, w_28, w_29, w_30, w_31, w_32, w_33, w_34, w_35, w_36, w_37, w_38, w_39, w_40, w_41, w_42, w_43, w_44, w_45, w_46, w_47, w_48, w_49, w_50, w_51, w_52, w_53, w_54, w_55, w_56, w_57, w_58, w_59, w_60, w_61, w_62, w_63, w_64, w_65, w_66, w_67, w_68, w_69, w_n1000, w_n1001, w_n1002, w_n1003, w_65536, w_1103, w_377, w_127, w_126, w_128, w_536, w_469, t_0_0, t_0_1, t_0_2, t_0_d, t_1_0, t_1_1, t_1_2, t_1_3, t_1_4, t_1_5, t_1_6, t_1_7, t_1_8, t_1_9, t_1_10, t_1_11, t_1_12, t_1_13, t_1_d, t_2_0, t_2_1, t_2_2, t_2_3, t_2_4, t_2_5, t_2_6, t_2_7, t_2_8, t_2_9, t_2_10, t_2_11, t_2_12, t_2_13, t_2_d, t_3_0, t_3_1, t_3_2, t_3_3, t_3_4, t_3_5, t_3_6, t_3_7, t_3_8, t_3_9, t_3_10, t_3_11, t_3_12, t_3_13, t_3_14, t_3_15, t_3_16, t_3_17, t_3_18, t_3_19, t_3_20, t_3_21, t_3_22, t_3_23, t_3_24, t_3_25, t_3_d, v_0_32, v_0_45, v_0_47, v_0_d, e_tsw, e_lsw, q_le1, q_le0, q_lt1, q_lt0, q_eq1, q_eq0, Int.add_zero, m_ca, Int.reduceNatCast', m_bite, m_b0, m_b1, m_nn, m_tn, m_w_id, m_x_id, nx, g, h5]
    · have e1 : mi = 0 := by rw [hmi]; unfold sNg; rw [if_neg g]
      subst e1
      conv => lhs; rw [b_136_0]
      simp (disch := first | with_unfolding_all exact id rfl | with_unfolding_all exact ⟨rfl, by decide, Nat.le_of_ble_eq_true rfl⟩ | with_unfolding_all exact Nat.le_of_ble_eq_true rfl | omega) only [b_136_1, b_136_2, b_136_3, b_136_4, b_136_5, b_136_6, b_136_8, b_136_9, b_136_10, b_136_11, b_136_12, b_136_13, b_136_14, b_136_15, b_136_16, e_goto, e_fall, e_if0, e_if1, e_if2, e_if3, e_if4, e_if5, e_ic0, e_ic1, e_ic2, e_ic3, e_ic4, e_ic5, e_null_n, e_null_r, e_nonn_n, e_nonn_r, e_ret0, e_ret1, e_ret20, e_ret21, e_retb, e_ret3, e_ret4, e_pi, e_pj, e_pf, e_pn, e_iadd, e_isub, e_imul, e_iand, e_ixor, e_ishl, e_ishr, e_iushr, e_ladd, e_lsub, e_lmul, e_idiv, e_irem, e_ldiv, e_lrem, e_ineg, e_lneg, e_lcmp, e_i2l, e_l2f, e_f2i, e_i2b, e_fcg, e_fcl, e_dup, e_dupi, e_dup2, s_il, s_ll, s_fl, s_al, s_inc, e_is, e_ls, e_fs, e_aS, e_gi, e_gb, e_gj, s_gr, s_pfi, s_pfj, s_pfb, s_v1, s_v2, s_v3, s_v4, s_v5, s_v6, s_s1, s_s2, s_s3, s_s4, s_s5, s_s6, m_kI_I, m_kJ_J, m_kF_F, m_kR_R, m_ld0, m_ldS, m_st0, m_stS, m_s1, m_s2, m_kl, Option.bind_some, Option.toList_some, Option.toList_none, List.cons_append, List.nil_append, Nat.zero_add, Nat.reduceAdd, Nat.reduceSub, Nat.zero_sub, Nat.reduceEqDiff, Int.reduceLE, Int.reduceLT, Int.reduceEq, Int.reduceNe, Int.reduceAdd, Int.reduceSub, Int.reduceMul, Int.reduceNeg, Int.reduceToNat, Int.toNat_zero, Int.toNat_one, Int.zero_add, Int.zero_mul, Int.one_mul, ↓reduceIte, not_false_eq_true, not_true_eq_false, m_up_s, m_up_c, m_up_k, ne_eq, and_self, and_true, true_and, and_false, false_and, or_true, or_false, true_or, false_or, a_2, u_2, l_2, a_4, u_4, l_4, a_7, u_7, l_7, a_9, u_9, l_9, a_10, u_10, l_10, a_11, u_11, l_11, a_12, u_12, l_12, a_14, u_14, l_14, a_75, u_75, l_75, a_76, u_76, l_76, a_78, u_78, l_78, a_79, u_79, l_79, a_81, u_81, l_81, a_82, u_82, l_82, a_83, u_83, l_83, a_85, u_85, l_85, a_87, u_87, l_87, a_88, u_88, l_88, a_89, u_89, l_89, a_90, u_90, l_90, a_91, u_91, l_91, a_92, u_92, l_92, r_0_0, r_0_1, r_0_2, r_0_3, r_0_4, r_0_5, r_0_6, r_1_0, r_3_0, r_5_0, r_6_2, r_8_9, r_8_10, r_8_11, r_8_12, r_8_13, r_13_2, r_15_0, r_73_0, r_73_1, r_74_2, r_74_3, r_77_2, r_77_3, r_80_0, r_80_1, r_80_2, r_80_3, r_84_2, r_86_0, r_86_1, r_86_3, r_86_7, r_86_11, r_86_12, w_n1, w_0, w_1, w_2, w_3, w_4, w_5, w_6, w_7, w_8, w_9, w_10, w_11, w_12, w_13, w_14, w_15, w_16, w_17, w_18, w_19, w_20, w_21, w_22, w_23, w_24, w_25, w_26, w_27, w_28, w_29, w_30, w_31, w_32, w_33, w_34, w_35, w_36, w_37, w_38, w_39, w_40, w_41, w_42, w_43, w_44, w_45, w_46, w_47, w_48, w_49, w_50, w_51, w_52, w_53, w_54, w_55, w_56, w_57, w_58, w_59, w_60, w_61, w_62, w_63, w_64, w_65, w_66, w_67, w_68, w_69, w_n1000, w_n1001, w_n1002, w_n1003, w_65536, w_1103, w_377, w_127, w_126, w_128, w_536, w_469, t_0_0, t_0_1, t_0_2, t_0_d, t_1_0, t_1_1, t_1_2, t_1_3, t_1_4, t_1_5, t_1_6, t_1_7, t_1_8, t_1_9, t_1_10, t_1_11, t_1_12, t_1_13, t_1_d, t_2_0, t_2_1, t_2_2, t_2_3, t_2_4, t_2_5, t_2_6, t_2_7, t_2_8, t_2_9, t_2_10, t_2_11, t_2_12, t_2_13, t_2_d, t_3_0, t_3_1, t_3_2, t_3_3, t_3_4, t_3_5, t_3_6, t_3_7, t_3_8, t_3_9, t_3_10, t_3_11, t_3_12, t_3_13, t_3_14, t_3_15, t_3_16, t_3_17, t_3_18, t_3_19, t_3_20, t_3_21, t_3_22, t_3_23, t_3_24, t_3_25, t_3_d, v_0_32, v_0_45, v_0_47, v_0_d, e_tsw, e_lsw, q_le1, q_le0, q_lt1, q_lt0, q_eq1, q_eq0, Int.add_zero, m_ca, Int.reduceNatCast', m_bite, m_b0, m_b1, m_nn, m_tn, m_w_id, m_x_id, nx, g, h5]
  have op : ∀ (r i k q : Int) (E : Nat → Int), 0 ≤ i → 0 ≤ r → i < k → sBt t l a r i k 0 0 q E = sBt t l p r (i + 1) k 0 1 mi (g1 E (4 * r.toNat + i.toNat) 0) := fun r i k q E hi hr hk => by
    by_cases g : sNx t l a = 45
    · have e1 : mi = 1 := by rw [hmi]; unfold sNg; rw [if_pos g]
      have e2 : p = a + 1 := by omega
      rw [e1, e2]
      exact sBt_m hk g
    · have e1 : mi = 0 := by rw [hmi]; unfold sNg; rw [if_neg g]
      have e2 : p = a := by omega
      rw [e1, e2]
      exact sBt_o ⟨hi, hr⟩ hk (he.resolve_right g)
  have X1 : sMX (m_up s 86 5 (p : Int)) l t := sMX_u (by decide) Xs
  have q8 : m_up s 86 5 (p : Int) 86 8 = (R : Int) := by rw [m_up_k (by decide)]; exact h8
  have q6 : m_up s 86 5 (p : Int) 86 6 = -1003 := by rw [m_up_k (by decide)]; exact h6
  have F1 : sFS σ (m_up s 86 5 (p : Int)) := sFS_u (Or.inl rfl) F
  -- what is known behind an entry that is read
  have fin : ∀ (b : Nat) (v : Int), b ≤ l → sRS σ (m_up (m_up (m_up s 86 5 ((sBl t l b : Nat) : Int)) 90 R v) 86 8 ((R : Int) + 1)) (sBl t l b) (R + 1) (g1 V R v) := fun b v hb => by
    refine ⟨sFS_u (Or.inr (Or.inr rfl)) (sFS_v (sFS_u (Or.inl rfl) F)), by rw [m_up_k (by decide), m_up_x (by decide), m_up_s], by rw [m_up_k (by decide), m_up_x (by decide), m_up_k (by decide)]; exact h6, m_up_s, fun k hk => ?_⟩
    rw [m_up_x (by decide)]
    by_cases z : k = R
    · rw [z, m_up_s, g1_s]
    · rw [m_up_k z, m_up_x (by decide), g1_n z]; exact hV k (by omega)
  by_cases d0 : sDg (sNx t l p)
  · have s1 := fun d => d_e7s (d := d) (p := (p : Int)) (mi := mi) (v := 0) X1 hl m_up_s hpl (by omega) (by omega) d0 (by decide)
    rw [m_up_u] at s1
    have z0 : (10 : Int) * 0 + (sNx t l p - 48) = sNx t l p - 48 := by omega
    rw [z0] at s1
    have hp1 : p < l := by
      by_cases z : p < l
      · exact z
      · have := d0.1
        rw [sNx, if_neg z] at this; omega
    have c0 := d0.1
    have c0' := d0.2
    have X2 : sMX (m_up s 86 5 ((p : Int) + 1)) l t := sMX_u (by decide) Xs
    by_cases d1 : sDg (sNx t l (p + 1))
    · have hp2 : p + 1 < l := by
        by_cases z : p + 1 < l
        · exact z
        · have := d1.1
          rw [sNx, if_neg z] at this; omega
      have c1 := d1.1
      have c1' := d1.2
      have s2 := fun d => d_e7s (d := d) (a := p + 1) (p := (p : Int)) (mi := mi) (v := sNx t l p - 48) X2 hl m_up_s (by omega) (by omega) (by omega) d1 (by omega)
      rw [m_up_u] at s2
      have X3 : sMX (m_up s 86 5 (((p + 2 : Nat)) : Int)) l t := sMX_u (by decide) Xs
      have e2 : ((p + 1 : Nat) : Int) + 1 = ((p + 2 : Nat) : Int) := by omega
      rw [e2] at s2
      have r8 : m_up s 86 5 ((p + 2 : Nat) : Int) 86 8 = (R : Int) := by rw [m_up_k (by decide)]; exact h8
      have r6 : m_up s 86 5 ((p + 2 : Nat) : Int) 86 6 = -1003 := by rw [m_up_k (by decide)]; exact h6
      by_cases d2 : sDg (sNx t l (p + 2))
      · have s3 := fun d => d_e7f (d := d) (a := p + 2) (p := (p : Int)) (mi := mi) (v := 10 * (sNx t l p - 48) + (sNx t l (p + 1) - 48)) X3 hl m_up_s (by omega) m01 (by omega) (Or.inl (by omega)) (Or.inr d2) (by omega) r6 r8 hR
        refine ⟨_, (st d).trans ((s1 d).trans ((s2 d).trans (s3 d))), Or.inr ⟨?_, ?_, fun r i k q E hi hr hk => ?_⟩⟩
        · exact sFS_u (Or.inr (Or.inr rfl)) (sFS_v (sFS_u (Or.inl rfl) (sFS_u (Or.inr (Or.inl rfl)) (sFS_u (Or.inl rfl) F))))
        · rw [m_up_k (by decide), m_up_x (by decide), m_up_k (by decide), m_up_s]; omega
        · rw [m_up_k (by decide), m_up_x (by decide), m_up_k (by decide), m_up_s, op r i k q E hi hr hk, sBt_d2 ⟨hi, hr⟩ hpl ⟨rfl, m01, g1_s⟩ d0 d1]
          exact sBt_y d2
      · have s3 := fun d => d_e7g (d := d) (a := p + 2) (p := (p : Int)) (mi := mi) (v := 10 * (sNx t l p - 48) + (sNx t l (p + 1) - 48)) X3 hl m_up_s (by omega) m01 (by omega) (by omega) d2 (by omega) r8 hR
        rw [m_up_u, sBv_w] at s3
        refine ⟨_, (st d).trans ((s1 d).trans ((s2 d).trans (s3 d))), Or.inl ⟨sBl t l (p + 2), sBv mi (sBv mi 0 (sNx t l p - 48)) (sNx t l (p + 1) - 48), mi, (sBl_p (by omega)).1, (sBl_p (by omega)).2.2, fin (p + 2) _ (by omega), fun r i k q E hi hr hk => ?_⟩⟩
        rw [op r i k q E hi hr hk, sBt_d2 ⟨hi, hr⟩ hpl ⟨rfl, m01, g1_s⟩ d0 d1, sBt_g (by omega) d2, g1_g]
    · have s3 := fun d => d_e7g (d := d) (a := p + 1) (p := (p : Int)) (mi := mi) (v := sNx t l p - 48) X2 hl m_up_s (by omega) m01 (by omega) (by omega) d1 (by omega) (by rw [m_up_k (by decide)]; exact h8) hR
      rw [m_up_u, sBv_v] at s3
      refine ⟨_, (st d).trans ((s1 d).trans (s3 d)), Or.inl ⟨sBl t l (p + 1), sBv mi 0 (sNx t l p - 48), mi, (sBl_p (by omega)).1, (sBl_p (by omega)).2.2, fin (p + 1) _ (by omega), fun r i k q E hi hr hk => ?_⟩⟩
      rw [op r i k q E hi hr hk, sBt_d1 ⟨hi, hr⟩ hpl ⟨rfl, m01, g1_s⟩ d0 d1, g1_g]
  · have s3 := fun d => d_e7f (d := d) (a := p) (p := (p : Int)) (mi := mi) (v := 0) X1 hl m_up_s hpl m01 (by omega) (Or.inr ⟨by omega, d0⟩) (Or.inl rfl) (by decide) q6 q8 hR
    refine ⟨_, (st d).trans (s3 d), Or.inr ⟨?_, ?_, fun r i k q E hi hr hk => ?_⟩⟩
    · exact sFS_u (Or.inr (Or.inr rfl)) (sFS_v (sFS_u (Or.inl rfl) (sFS_u (Or.inr (Or.inl rfl)) F1)))
    · rw [m_up_k (by decide), m_up_x (by decide), m_up_k (by decide), m_up_s]; omega
    · rw [m_up_k (by decide), m_up_x (by decide), m_up_k (by decide), m_up_s, op r i k q E hi hr hk]
      exact sBt_x hpl d0
end RF
