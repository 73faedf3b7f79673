/-! a round ends -/
def gE0 (f : Nat → Int) : Nat → Int := g1 (g1 (g1 (g1 (g1 f 42 0) 43 (-1003)) 44 (-1003)) 45 (-1003)) 47 (m_w (f 47 + 1))
def gE (f : Nat → Int) (p : Int) : Nat → Int := g1 (gE0 f) 41 (if 1 < sAl f then sFr f p else -1003)
section EN
variable {d : Nat} {σ : Nat → Nat → Int} {f : Nat → Int} {q : Int} {u : Nat} {h : Nat → Nat → Int}
theorem gE_e {k : Nat} (h : k < 41 ∨ k = 46 ∨ 47 < k) : gE f q k = f k := by
  unfold gE gE0; rw [g1_n (by omega), g1_n (by omega), g1_n (by omega), g1_n (by omega), g1_n (by omega), g1_n (by omega)]
theorem gE_41 : gE f q 41 = (if 1 < sAl f then sFr f q else -1003) := g1_s
theorem gE_42 : gE f q 42 = 0 := by unfold gE gE0; rw [g1_n (by decide), g1_n (by decide), g1_n (by decide), g1_n (by decide), g1_n (by decide), g1_s]
theorem gE_43 : gE f q 43 = -1003 := by unfold gE gE0; rw [g1_n (by decide), g1_n (by decide), g1_n (by decide), g1_n (by decide), g1_s]
theorem gE_44 : gE f q 44 = -1003 := by unfold gE gE0; rw [g1_n (by decide), g1_n (by decide), g1_n (by decide), g1_s]
theorem gE_45 : gE f q 45 = -1003 := by unfold gE gE0; rw [g1_n (by decide), g1_n (by decide), g1_s]
theorem gE_47 : gE f q 47 = m_w (f 47 + 1) := by unfold gE gE0; rw [g1_n (by decide), g1_s]
theorem gE_al : sAl (gE f q) = sAl f := sAl_c (fun p hp => gE_e (by omega))
/-- f: with the new dice, lost and won; g: before -/
theorem W_end {g : Nat → Int} (W : sWF g) (hP : f 40 = g 40) (hd : ∀ p : Nat, p < 5 → 0 ≤ f p ∧ f p ≤ 5 ∧ (g 40 ≤ (p : Int) → f p = 0)) (hm : ∀ k, k = 46 ∨ 49 ≤ k → f k = g k) : sWF (gE f q) := by
  have fv : 1 < sAl f → 0 ≤ sFr f q ∧ sFr f q < f 40 ∧ 0 < f (sFr f q).toNat := fun ha => by
    have g5 : 0 ≤ sFr f q ∧ sFr f q < 5 ∧ 0 < f (sFr f q).toNat := by
      have h0 := sF1_0 (f := f) (by omega)
      unfold sFr
      rcases sF1_p (f := f) (q := q) (r := sF1 f 0 (-1003)) with e | e
      · rw [e]
        rcases sF1_p (f := f) (q := 0) (r := -1003) with e2 | e2
        · exact absurd e2 h0
        · exact e2
      · exact e
    have w := hd (sFr f q).toNat (by omega)
    exact ⟨g5.1, by omega, g5.2.2⟩
  obtain ⟨w1, w2, w3, w4, w5, w6, w7, w8, w9, w10, w11, w12⟩ := W
  unfold sWF
  rw [gE_al, gE_41, gE_42, gE_43, gE_44, gE_45, gE_e (k := 40) (by decide), gE_e (k := 46) (by decide), gE_e (k := 49) (by decide), gE_e (k := 50) (by decide), hP, hm 46 (by decide), hm 49 (by decide), hm 50 (by decide)]
  refine ⟨w1, fun p hp => ?_, Or.inl rfl, w4, fun z => ?_, fun z => if_neg (by omega), fun z => by omega, fun z => by omega, Or.inl rfl, fun _ => ⟨rfl, rfl⟩, w11, fun k hk => ?_⟩
  · rw [gE_e (by omega)]; exact hd p hp
  · rw [if_pos (by omega)]
    have := fv (by omega)
    rw [gE_e (by omega), ← hP]; exact this
  · rw [gE_e (by omega), hm _ (by omega)]; exact w12 k hk
theorem T_end {f' : Nat → Int} {σ' : Nat → Nat → Int} (T : sTR σ 8 f) (W : sWF f) (hP : f' 40 = f 40) (hm : ∀ k, k = 46 ∨ 49 ≤ k → f' k = f k) (h42 : f' 42 = 0) (s2 : σ' 8 2 = 0) (s3 : 2 ≤ sAl f' → σ' 8 3 = f' 41) (h43 : f' 43 = -1003) (s4 : σ' 8 4 = 0) (s7 : σ' 8 7 = f' 47) (s8 : σ' 8 8 = f' 48) (h9 : ∀ p, p < 5 → σ' 9 p = f' p) (h10 : ∀ p, p < 5 → σ' 10 p = f' (5 + p)) (h11 : ∀ p, p < 5 → σ' 11 p = f' (10 + p)) (s0 : σ' 8 0 = σ 8 0) (s1 : σ' 8 1 = σ 8 1) (s13 : σ' 13 = σ 13) (s14 : σ' 14 = σ 14) : sTR σ' 8 f' := by
  obtain ⟨⟨t0, t1, t2⟩, t3, t4, t5, ⟨t6, t7⟩, t8, t9, t10, t11, ⟨t12, t13⟩, t14⟩ := T
  refine ⟨⟨by rw [s0, hP]; exact t0, by rw [s1, hm 46 (by decide)]; exact t1, by rw [s2, h42]⟩, s3, by rw [s4, if_pos h43], fun z => absurd h43 z, ⟨s7, s8⟩, h9, h10, h11, fun z => by omega, ⟨?_, ?_⟩, fun r c hr hc => ?_⟩
  · show σ' 13 0 = _; rw [s13, hm 49 (by decide)]; exact t12
  · show σ' 13 1 = _; rw [s13, hm 50 (by decide)]; exact t13
  · rw [hm 49 (by decide)] at hr
    rw [hm 50 (by decide)] at hc
    show σ' 14 _ = _; rw [s14, hm _ (by omega)]; exact t14 r c hr hc
/-- endRound on any state whose dice are f's -/
theorem c_er (D : ∀ p, p < 5 → σ 9 p = f p) (hq : q < 6) : m_ev (d + 3) 63 [m_R 8, m_I q] (m_G0, σ) = some (none, (m_G0, m_up (m_up (m_up (m_up σ 8 7 (m_w (σ 8 7 + 1))) 8 2 0) 8 4 0) 8 3 (sFr f q))) := by
  have nx := fun d => x_nx (d := d) (σ := m_up (m_up (m_up σ 8 7 (m_w (σ 8 7 + 1))) 8 2 0) 8 4 0) (f := f) (fun p hp => by rw [m_up_x (by decide), m_up_x (by decide), m_up_x (by decide)]; exact D p hp) hq
  rw [i_63]
  simp (disch := first | with_unfolding_all exact id rfl | with_unfolding_all exact ⟨rfl, by decide, Nat.le_of_ble_eq_true rfl⟩ | with_unfolding_all exact Nat.le_of_ble_eq_true rfl | omega) only [b_63_0, e_goto, e_fall, e_if0, e_if1, e_if2, e_if3, e_if4, e_if5, e_ic0, e_ic1, e_ic2, e_ic3, e_ic4, e_ic5, e_null_n, e_null_r, e_nonn_n, e_nonn_r, e_ret0, e_ret1, e_ret20, e_ret21, e_retb, e_ret3, e_ret4, e_pi, e_pj, e_pf, e_pn, e_iadd, e_isub, e_imul, e_iand, e_ixor, e_ishl, e_ishr, e_iushr, e_ladd, e_lsub, e_lmul, e_idiv, e_irem, e_ldiv, e_lrem, e_ineg, e_lneg, e_lcmp, e_i2l, e_l2f, e_f2i, e_i2b, e_fcg, e_fcl, e_dup, e_dupi, e_dup2, s_il, s_ll, s_fl, s_al, s_inc, e_is, e_ls, e_fs, e_aS, e_gi, e_gb, e_gj, s_gr, s_pfi, s_pfj, s_pfb, s_v1, s_v2, s_v3, s_v4, s_v5, s_v6, s_s1, s_s2, s_s3, s_s4, s_s5, s_s6, m_kI_I, m_kJ_J, m_kF_F, m_kR_R, m_ld0, m_ldS, m_st0, m_stS, m_s1, m_s2, m_kl, Option.bind_some, Option.toList_some, Option.toList_none, List.cons_append, List.nil_append, Nat.zero_add, Nat.reduceAdd, Nat.reduceSub, Nat.zero_sub, Nat.reduceEqDiff, Int.reduceLE, Int.reduceLT, Int.reduceEq, Int.reduceNe, Int.reduceAdd, Int.reduceSub, Int.reduceMul, Int.reduceNeg, Int.reduceToNat, Int.toNat_zero, Int.toNat_one, Int.zero_add, Int.zero_mul, Int.one_mul, ↓reduceIte, not_false_eq_true, not_true_eq_false, m_up_s, m_up_c, m_up_k, ne_eq, and_self, and_true, true_and, and_false, false_and, or_true, or_false, true_or, false_or, a_2, u_2, l_2, a_4, u_4, l_4, a_7, u_7, l_7, a_9, u_9, l_9, a_10, u_10, l_10, a_11, u_11, l_11, a_12, u_12, l_12, a_14, u_14, l_14, a_75, u_75, l_75, a_76, u_76, l_76, a_78, u_78, l_78, a_79, u_79, l_79, a_81, u_81, l_81, a_82, u_82, l_82, a_83, u_83, l_83, a_85, u_85, l_85, r_0_0, r_0_1, r_0_2, r_0_3, r_0_4, r_0_5, r_0_6, r_1_0, r_3_0, r_5_0, r_6_2, r_8_9, r_8_10, r_8_11, r_8_12, r_8_13, r_13_2, r_15_0, r_73_0, r_73_1, r_74_2, r_74_3, r_77_2, r_77_3, r_80_0, r_80_1, r_80_2, r_80_3, r_84_2, w_n1, w_0, w_1, w_2, w_3, w_4, w_5, w_6, w_7, w_8, w_9, w_10, w_11, w_12, w_13, w_14, w_15, w_16, w_17, w_18, w_19, w_20, w_21, w_22, w_23, w_24, w_25, w_26, w_27, w_28, w_29, w_30, w_31, w_32, w_33, w_34, w_35, w_36, w_37, w_38, w_39, w_40, w_41, w_42, w_43, w_44, w_45, w_46, w_47, w_48, w_49, w_50, w_51, w_52, w_53, w_54, w_55, w_56, w_57, w_58, w_59, w_60, w_61, w_62, w_63, w_64, w_65, w_66, w_67, w_68, w_69, w_n1000, w_n1001, w_n1002, w_n1003, w_65536, w_1103, w_377, w_127, w_126, w_128, t_0_0, t_0_1, t_0_2, t_0_d, t_1_0, t_1_1, t_1_2, t_1_3, t_1_4, t_1_5, t_1_6, t_1_7, t_1_8, t_1_9, t_1_10, t_1_11, t_1_12, t_1_13, t_1_d, v_0_32, v_0_45, v_0_47, v_0_d, e_tsw, e_lsw, q_le1, q_le0, q_lt1, q_lt0, q_eq1, q_eq0, Int.add_zero, m_ca, Int.reduceNatCast', m_bite, m_b0, m_b1, m_nn, m_tn, m_w_id, m_x_id, nx]
end EN
