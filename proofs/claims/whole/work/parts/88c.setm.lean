/-! setMatrix and undo -/
def gMt (f : Nat → Int) (rows cols : Int) (E : Nat → Int) : Nat → Int := fun k => if k = 49 then rows else if k = 50 then cols else if 51 ≤ k ∧ k < 67 then (if (((k - 51) / 4 : Nat) : Int) < rows ∧ (((k - 51) % 4 : Nat) : Int) < cols then E (k - 51) else 0) else f k
section GM
variable {f E : Nat → Int} {rows cols : Int}
theorem gMt_e {k : Nat} (h : k < 49 ∨ 67 ≤ k) : gMt f rows cols E k = f k := by
  unfold gMt
  rw [if_neg (by omega), if_neg (by omega), if_neg (by omega)]
theorem gMt_49 : gMt f rows cols E 49 = rows := rfl
theorem gMt_50 : gMt f rows cols E 50 = cols := rfl
theorem gMt_m {k : Nat} (hk : k < 16) : gMt f rows cols E (51 + k) = if ((k / 4 : Nat) : Int) < rows ∧ ((k % 4 : Nat) : Int) < cols then E k else 0 := by
  unfold gMt
  rw [if_neg (by omega), if_neg (by omega), if_pos (by omega), show 51 + k - 51 = k by omega]
theorem W_mt (W : sWF f) (hr : 1 ≤ rows ∧ rows ≤ 4) (hc : 1 ≤ cols ∧ cols ≤ 4) (hE : ∀ a c : Nat, (a : Int) < rows → (c : Int) < cols → -99 ≤ E (4 * a + c) ∧ E (4 * a + c) ≤ 99) : sWF (gMt f rows cols E) := by
  have e : ∀ k, (k < 49 ∨ 67 ≤ k) → gMt f rows cols E k = f k := fun k h => gMt_e h
  have ea : sAl (gMt f rows cols E) = sAl f := sAl_c (fun p hp => e p (by omega))
  have wt := fun h => W_t W h
  have wn := W_n W
  have wp := W_p W
  obtain ⟨w1, w2, w3, w4, w5, w6, w7, w8, w9, w10, w11, w12⟩ := W
  unfold sWF
  rw [ea, e 40 (by decide), e 41 (by decide), e 42 (by decide), e 43 (by decide), e 44 (by decide), e 45 (by decide), e 46 (by decide), gMt_49, gMt_50]
  refine ⟨w1, fun p hp => ?_, w3, w4, fun z => ?_, w6, w7, fun z p i hp hi => ?_, ?_, w10, ⟨hr.1, hr.2, hc.1, hc.2⟩, fun k hk => ?_⟩
  · rw [e p (by omega)]; exact w2 p hp
  · have := wt z
    rw [e _ (by omega)]; exact this
  · rw [e p (by omega)] at hi
    have := w2 p hp
    rw [e _ (by omega)]
    exact w8 z p i hp hi
  · rcases wn with h | h
    · exact Or.inl h
    · refine Or.inr ⟨h.1, ⟨h.2.1.1, h.2.1.2.1, ?_⟩, h.2.2⟩
      rw [e _ (by omega)]
      exact h.2.1.2.2
  · rw [gMt_m hk]
    by_cases z : ((k / 4 : Nat) : Int) < rows ∧ ((k % 4 : Nat) : Int) < cols
    · rw [if_pos z]
      have := hE (k / 4) (k % 4) z.1 z.2
      rw [show 4 * (k / 4) + k % 4 = k by omega] at this
      exact this
    · rw [if_neg z]; decide
theorem T_mt {σ σ' : Nat → Nat → Int} (T : sTR σ 8 f) (W : sWF f) (hF : ∀ c, 8 ≤ c → c < 13 → σ' c = σ c) (h0 : σ' 13 0 = rows ∧ σ' 13 1 = cols) (hr : 1 ≤ rows ∧ rows ≤ 4) (hc : 1 ≤ cols ∧ cols ≤ 4) (hE : ∀ a c : Nat, (a : Int) < rows → (c : Int) < cols → σ' 14 (4 * a + c) = E (4 * a + c)) : sTR σ' 8 (gMt f rows cols E) := by
  have e : ∀ k, (k < 49 ∨ 67 ≤ k) → gMt f rows cols E k = f k := fun k h => gMt_e h
  have ea : sAl (gMt f rows cols E) = sAl f := sAl_c (fun p hp => e p (by omega))
  have w2 := fun p hp => W_d W (p := p) hp
  obtain ⟨⟨t0, t1, t2⟩, t3, t4, t5, ⟨t6, t7⟩, t8, t9, t10, t11, ⟨t12, t13⟩, t14⟩ := T
  unfold sTR
  rw [ea, e 40 (by decide), e 41 (by decide), e 42 (by decide), e 43 (by decide), e 44 (by decide), e 45 (by decide), e 46 (by decide), e 47 (by decide), e 48 (by decide), gMt_49, gMt_50, hF 8 (by decide) (by decide), hF (8 + 1) (by decide) (by decide), hF (8 + 2) (by decide) (by decide), hF (8 + 3) (by decide) (by decide), hF (8 + 4) (by decide) (by decide)]
  refine ⟨⟨t0, t1, t2⟩, t3, t4, t5, ⟨t6, t7⟩, fun p hp => ?_, fun p hp => ?_, fun p hp => ?_, fun z p i hp hi => ?_, h0, fun r c hr' hc' => ?_⟩
  · rw [e _ (by omega)]; exact t8 p hp
  · rw [e _ (by omega)]; exact t9 p hp
  · rw [e _ (by omega)]; exact t10 p hp
  · rw [e _ (by omega)] at hi
    have := w2 p hp
    rw [e _ (by omega)]
    exact t11 z p i hp hi
  · have q := hE r c hr' hc'
    have m := gMt_m (f := f) (rows := rows) (cols := cols) (E := E) (k := 4 * r + c) (by omega)
    rw [show 51 + 4 * r + c = 51 + (4 * r + c) by omega, m, if_pos ⟨by omega, by omega⟩]
    exact q
theorem sZf_mt (hz : ∀ k, 67 ≤ k → f k = 0) : sZf (gMt f rows cols E) := by
  intro k h
  rw [gMt_49, gMt_50] at h
  by_cases q : k < 16
  · rw [gMt_m q, if_neg (by omega)]
  · rw [gMt_e (by omega)]
    exact hz _ (by omega)
end GM
section SM
variable {d : Nat} {σ : Nat → Nat → Int} {f g t : Nat → Int} {l u : Nat} {h : Nat → Nat → Int}
theorem sSo_f {s : Nat → Nat → Int} (S : sSo σ g) (hF : ∀ c, 80 ≤ c → c < 86 → s c = σ c) : sSo s g := by
  obtain ⟨hz, q, p, x, hx, v4, v5, v6⟩ := S
  have e80 := hF 80 (by decide) (by decide)
  have e82 := hF 82 (by decide) (by decide)
  have e83 := hF 83 (by decide) (by decide)
  have e84 := hF 84 (by decide) (by decide)
  have e85 := hF 85 (by decide) (by decide)
  exact ⟨hz, by rw [e84]; exact q, fun r c hr hc => by rw [e85]; exact p r c hr hc, x, hx, by rw [e80]; exact v4, by rw [e80]; exact v5, fun i hi => by rw [e82, e83]; exact v6 i hi⟩
theorem sHC_f {s : Nat → Nat → Int} (H : sHC σ u h) (hF : ∀ c, 15 ≤ c → c < 73 → s c = σ c) : sHC s u h := by
  obtain ⟨q1, q2, q3⟩ := H
  have e15 := hF 15 (by decide) (by decide)
  refine ⟨by rw [e15]; exact q1, by rw [e15]; exact q2, fun j hj => ?_⟩
  rw [e15]
  exact sTR_fr (fun c a b => hF c (by omega) (by omega)) (q3 j hj)
theorem c_sm0 (X : sTX σ l t) (hl : l ≤ 60) (ht : ∀ i, i < l → 0 ≤ t i ∧ t i ≤ 127) (hf : ¬ (sFT t l).1 = -1003) : ∃ σ' : Nat → Nat → Int, m_ev (d + 7) 68 [m_R 0] (m_G0, σ) = some (some (m_I (-1001)), (m_G0, σ')) ∧ sF 5 8 σ σ' := by
  obtain ⟨s', k1, k2, k3⟩ := c_mf (d := d) X hl ht
  refine ⟨s', ?_, fun c hc => k2 c (by omega) (by omega) (by omega)⟩
  rw [i_68]
  simp (disch := first | with_unfolding_all exact id rfl | with_unfolding_all exact ⟨rfl, by decide, Nat.le_of_ble_eq_true rfl⟩ | with_unfolding_all exact Nat.le_of_ble_eq_true rfl | omega) only [b_68_0, b_68_1, b_68_2, e_goto, e_fall, e_if0, e_if1, e_if2, e_if3, e_if4, e_if5, e_ic0, e_ic1, e_ic2, e_ic3, e_ic4, e_ic5, e_null_n, e_null_r, e_nonn_n, e_nonn_r, e_ret0, e_ret1, e_ret20, e_ret21, e_retb, e_ret3, e_ret4, e_pi, e_pj, e_pf, e_pn, e_iadd, e_isub, e_imul, e_iand, e_ixor, e_ishl, e_ishr, e_iushr, e_ladd, e_lsub, e_lmul, e_idiv, e_irem, e_ldiv, e_lrem, e_ineg, e_lneg, e_lcmp, e_i2l, e_l2f, e_f2i, e_i2b, e_fcg, e_fcl, e_dup, e_dupi, e_dup2, s_il, s_ll, s_fl, s_al, s_inc, e_is, e_ls, e_fs, e_aS, e_gi, e_gb, e_gj, s_gr, s_pfi, s_pfj, s_pfb, s_v1, s_v2, s_v3, s_v4, s_v5, s_v6, s_s1, s_s2, s_s3, s_s4, s_s5, s_s6, m_kI_I, m_kJ_J, m_kF_F, m_kR_R, m_ld0, m_ldS, m_st0, m_stS, m_s1, m_s2, m_kl, Option.bind_some, Option.toList_some, Option.toList_none, List.cons_append, List.nil_append, Nat.zero_add, Nat.reduceAdd, Nat.reduceSub, Nat.zero_sub, Nat.reduceEqDiff, Int.reduceLE, Int.reduceLT, Int.reduceEq, Int.reduceNe, Int.reduceAdd, Int.reduceSub, Int.reduceMul, Int.reduceNeg, Int.reduceToNat, Int.toNat_zero, Int.toNat_one, Int.zero_add, Int.zero_mul, Int.one_mul, ↓reduceIte, not_false_eq_true, not_true_eq_false, m_up_s, m_up_c, m_up_k, ne_eq, and_self, and_true, true_and, and_false, false_and, or_true, or_false, true_or, false_or, a_2, u_2, l_2, a_4, u_4, l_4, a_7, u_7, l_7, a_9, u_9, l_9, a_10, u_10, l_10, a_11, u_11, l_11, a_12, u_12, l_12, a_14, u_14, l_14, a_75, u_75, l_75, a_76, u_76, l_76, a_78, u_78, l_78, a_79, u_79, l_79, a_81, u_81, l_81, a_82, u_82, l_82, a_83, u_83, l_83, a_85, u_85, l_85, a_87, u_87, l_87, a_88, u_88, l_88, a_89, u_89, l_89, a_90, u_90, l_90, a_91, u_91, l_91, a_92, u_92, l_92, r_0_0, r_0_1, r_0_2, r_0_3, r_0_4, r_0_5, r_0_6, r_1_0, r_3_0, r_5_0, r_6_2, r_8_9, r_8_10, r_8_11, r_8_12, r_8_13, r_13_2, r_15_0, r_73_0, r_73_1, r_74_2, r_74_3, r_77_2, r_77_3, r_80_0, r_80_1, r_80_2, r_80_3, r_84_2, r_86_0, r_86_1, r_86_3, r_86_7, r_86_11, r_86_12, w_n1, w_0, w_1, w_2, w_3, w_4, w_5, w_6, w_7, w_8, w_9, w_10, w_11, w_12, w_13, w_14, w_15, w_16, w_17, w_18, w_19, w_20, w_21, w_22, w_23, w_24, w_25, w_26, w_27, w_28, w_29, w_30, w_31, w_32, w_33, w_34, w_35, w_36, w_37, w_38, w_39, w_40, w_41, w_42, w_43, w_44, w_45, w_46, w_47, w_48, w_49, w_50, w_51, w_52, w_53, w_54, w_55, w_56, w_57, w_58, w_59, w_60, w_61, w_62, w_63, w_64, w_65, w_66, w_67, w_68, w_69, w_n1000, w_n1001, w_n1002, w_n1003, w_65536, w_1103, w_377, w_127, w_126, w_128, w_536, w_469, t_0_0, t_0_1, t_0_2, t_0_d, t_1_0, t_1_1, t_1_2, t_1_3, t_1_4, t_1_5, t_1_6, t_1_7, t_1_8, t_1_9, t_1_10, t_1_11, t_1_12, t_1_13, t_1_d, t_2_0, t_2_1, t_2_2, t_2_3, t_2_4, t_2_5, t_2_6, t_2_7, t_2_8, t_2_9, t_2_10, t_2_11, t_2_12, t_2_13, t_2_d, t_3_0, t_3_1, t_3_2, t_3_3, t_3_4, t_3_5, t_3_6, t_3_7, t_3_8, t_3_9, t_3_10, t_3_11, t_3_12, t_3_13, t_3_14, t_3_15, t_3_16, t_3_17, t_3_18, t_3_19, t_3_20, t_3_21, t_3_22, t_3_23, t_3_24, t_3_25, t_3_d, v_0_32, v_0_45, v_0_47, v_0_d, e_tsw, e_lsw, q_le1, q_le0, q_lt1, q_lt0, q_eq1, q_eq0, Int.add_zero, m_ca, Int.reduceNatCast', m_bite, m_b0, m_b1, m_nn, m_tn, m_w_id, m_x_id, k1, hf]
theorem c_sm (T : sTR σ 8 f) (W : sWF f) (X : sTX σ l t) (hl : l ≤ 60) (ht : ∀ i, i < l → 0 ≤ t i ∧ t i ≤ 127) (H : sHC σ u h) (hu : u ≤ 8) (S : sSo σ g) (hz : ∀ k, 67 ≤ k → f k = 0) (hf : (sFT t l).1 = -1003) (hX : ∀ f' : Nat → Int, sWF f' → sZf f' → ∃ x, sOn (sEa f') (f' 49).toNat (f' 50).toNat 4 1 = some x) : ∃ σ' : Nat → Nat → Int, m_ev (d + 7) 68 [m_R 0] (m_G0, σ) = some (some (m_I ((sFT t l).2.1 * (sFT t l).2.2.1)), (m_G0, σ')) ∧ sF 5 86 σ σ' ∧ sWF (gMt f (sFT t l).2.1 (sFT t l).2.2.1 (sFT t l).2.2.2) ∧ sTR σ' 8 (gMt f (sFT t l).2.1 (sFT t l).2.2.1 (sFT t l).2.2.2) ∧ sHC σ' (gU u) (gH u h f) ∧ sSo σ' (gMt f (sFT t l).2.1 (sFT t l).2.2.1 (sFT t l).2.2.2) ∧ ∀ c, 74 ≤ c → c < 80 → σ' c = σ c := by
  obtain ⟨s1, k1, F1, k3⟩ := c_mf (d := d) X hl ht
  obtain ⟨⟨⟨r1, r2⟩, r3, r4⟩, r5⟩ := k3 hf
  obtain ⟨rows, hrows⟩ : ∃ x, x = (sFT t l).2.1 := ⟨_, rfl⟩
  obtain ⟨cols, hcols⟩ : ∃ x, x = (sFT t l).2.2.1 := ⟨_, rfl⟩
  obtain ⟨E, hE⟩ : ∃ x, x = (sFT t l).2.2.2 := ⟨_, rfl⟩
  rw [← hrows, ← hcols, ← hE] at r5 ⊢
  rw [← hrows] at r1 r3
  rw [← hcols] at r2 r4
  have T1 : sTR s1 8 f := sTR_fr (fun c a b => F1 c (by omega) (by omega) (by omega)) T
  obtain ⟨s2, hc1, hF, hH⟩ := c_rec (d := d + 3) (sHC_f H (fun c a b => F1 c (by omega) (by omega) (by omega))) hu T1 W
  have e6 : s2 6 = s1 6 := hF 6 (by omega)
  have e7 : s2 7 = s1 7 := hF 7 (by omega)
  have cp := fun d => c_cpm (d := d) (σ := s2) (a := 13) (b := 6) (fun _ => rfl) (fun _ => rfl) (fun _ => rfl) (fun _ => rfl) (fun _ => rfl) (fun _ => rfl)
  obtain ⟨s3, hs3⟩ : ∃ s3, s3 = m_cp (m_up (m_up s2 13 0 (s2 6 0)) 13 1 (m_up s2 13 0 (s2 6 0) 6 1)) (6 + 1) (13 + 1) 0 0 16 := ⟨_, rfl⟩
  rw [← hs3] at cp
  have f1 : ∀ c, ¬ c = 13 → ¬ c = 14 → s3 c = s2 c := fun c a b => by
    rw [hs3]
    funext k
    unfold m_cp
    rw [if_neg (fun z => b z.1), m_up_x a, m_up_x a]
  have f2 : s3 13 0 = rows ∧ s3 13 1 = cols := by
    rw [hs3]
    unfold m_cp
    rw [if_neg (fun z => absurd z.1 (by decide)), if_neg (fun z => absurd z.1 (by decide)), m_up_k (by decide), m_up_s, m_up_s, m_up_x (by decide), e6]
    exact ⟨r1, r2⟩
  have f3 : ∀ k, k < 16 → s3 14 k = s1 7 k := fun k hk => by
    rw [hs3]
    unfold m_cp
    rw [if_pos ⟨rfl, by omega, by omega⟩, m_up_x (by decide), m_up_x (by decide), Nat.zero_add, Nat.sub_zero, e7]
  have T2 : sTR s2 8 f := sTR_fr (fun c a b => hF c (by omega)) T1
  have W3 := W_mt (E := E) W r3 r4 (fun a c ha hc => (r5 a c ha hc).2)
  have T3 := T_mt (σ := s2) (σ' := s3) (E := E) T2 W (fun c a b => f1 c (by omega) (by omega)) f2 r3 r4 (fun a c ha hc => by rw [f3 _ (by omega)]; exact (r5 a c ha hc).1)
  have S3 : sSo s3 g := sSo_f S (fun c a b => by rw [f1 c (by omega) (by omega), hF c (by omega), F1 c (by omega) (by omega) (by omega)])
  have Z3 := sZf_mt (f := f) (rows := rows) (cols := cols) (E := E) hz
  obtain ⟨s4, j1, j2, j3⟩ := c_fitm (d := d) T3 W3 Z3 S3 (hX _ W3 Z3)
  have T4 : sTR s4 8 (gMt f rows cols E) := sTR_fr (fun c a b => j2 c (by omega)) T3
  have em := T_mr T4
  have en := T_mc T4
  rw [gMt_49] at em
  rw [gMt_50] at en
  obtain ⟨Y, hY⟩ : ∃ Y, rows * cols = Y := ⟨_, rfl⟩
  have yb := mul_b (x := rows) (y := cols) (p := 4) (q := 4) (by omega) (by omega) (by decide) (by decide)
  rw [hY] at yb ⊢
  have yb2 : -16 ≤ Y ∧ Y ≤ 16 := yb
  refine ⟨s4, ?_, fun c hc => ?_, W3, T4, ?_, j3, fun c a b => ?_⟩
  · rw [i_68]
    simp (disch := first | with_unfolding_all exact id rfl | with_unfolding_all exact ⟨rfl, by decide, Nat.le_of_ble_eq_true rfl⟩ | with_unfolding_all exact Nat.le_of_ble_eq_true rfl | omega) only [b_68_0, b_68_1, b_68_2, e_goto, e_fall, e_if0, e_if1, e_if2, e_if3, e_if4, e_if5, e_ic0, e_ic1, e_ic2, e_ic3, e_ic4, e_ic5, e_null_n, e_null_r, e_nonn_n, e_nonn_r, e_ret0, e_ret1, e_ret20, e_ret21, e_retb, e_ret3, e_ret4, e_pi, e_pj, e_pf, e_pn, e_iadd, e_isub, e_imul, e_iand, e_ixor, e_ishl, e_ishr, e_iushr, e_ladd, e_lsub, e_lmul, e_idiv, e_irem, e_ldiv, e_lrem, e_ineg, e_lneg, e_lcmp, e_i2l, e_l2f, e_f2i, e_i2b, e_fcg, e_fcl, e_dup, e_dupi, e_dup2, s_il, s_ll, s_fl, s_al, s_inc, e_is, e_ls, e_fs, e_aS, e_gi, e_gb, e_gj, s_gr, s_pfi, s_pfj, s_pfb, s_v1, s_v2, s_v3, s_v4, s_v5, s_v6, s_s1, s_s2, s_s3, s_s4, s_s5, s_s6, m_kI_I, m_kJ_J, m_kF_F, m_kR_R, m_ld0, m_ldS, m_st0, m_stS, m_s1, m_s2, m_kl, Option.bind_some, Option.toList_some, Option.toList_none, List.cons_append, List.nil_append, Nat.zero_add, Nat.reduceAdd, Nat.reduceSub, Nat.zero_sub, Nat.reduceEqDiff, Int.reduceLE, Int.reduceLT, Int.reduceEq, Int.reduceNe, Int.reduceAdd, Int.reduceSub, Int.reduceMul, Int.reduceNeg, Int.reduceToNat, Int.toNat_zero, Int.toNat_one, Int.zero_add, Int.zero_mul, Int.one_mul, ↓reduceIte, not_false_eq_true, not_true_eq_false, m_up_s, m_up_c, m_up_k, ne_eq, and_self, and_true, true_and, and_false, false_and, or_true, or_false, true_or, false_or, a_2, u_2, l_2, a_4, u_4, l_4, a_7, u_7, l_7, a_9, u_9, l_9, a_10, u_10, l_10, a_11, u_11, l_11, a_12, u_12, l_12, a_14, u_14, l_14, a_75, u_75, l_75, a_76, u_76, l_76, a_78, u_78, l_78, a_79, u_79, l_79, a_81, u_81, l_81, a_82, u_82, l_82, a_83, u_83, l_83, a_85, u_85, l_85, a_87, u_87, l_87, a_88, u_88, l_88, a_89, u_89, l_89, a_90, u_90, l_90, a_91, u_91, l_91, a_92, u_92, l_92, r_0_0, r_0_1, r_0_2, r_0_3, r_0_4, r_0_5, r_0_6, r_1_0, r_3_0, r_5_0, r_6_2, r_8_9, r_8_10, r_8_11, r_8_12, r_8_13, r_13_2, r_15_0, r_73_0, r_73_1, r_74_2, r_74_3, r_77_2, r_77_3, r_80_0, r_80_1, r_80_2, r_80_3, r_84_2, r_86_0, r_86_1, r_86_3, r_86_7, r_86_11, r_86_12, w_n1, w_0, w_1, w_2, w_3, w_4, w_5, w_6, w_7, w_8, w_9, w_10, w_11, w_12, w_13, w_14, w_15, w_16, w_17, w_18, w_19, w_20, w_21, w_22, w_23, w_24, w_25, w_26, w_27, w_28, w_29, w_30, w_31, w_32, w_33, w_34, w_35, w_36, w_37, w_38, w_39, w_40, w_41, w_42, w_43, w_44, w_45, w_46, w_47, w_48, w_49, w_50, w_51, w_52, w_53, w_54, w_55, w_56, w_57, w_58, w_59, w_60, w_61, w_62, w_63, w_64, w_65, w_66, w_67, w_68, w_69, w_n1000, w_n1001, w_n1002, w_n1003, w_65536, w_1103, w_377, w_127, w_126, w_128, w_536, w_469, t_0_0, t_0_1, t_0_2, t_0_d, t_1_0, t_1_1, t_1_2, t_1_3, t_1_4, t_1_5, t_1_6, t_1_7, t_1_8, t_1_9, t_1_10, t_1_11, t_1_12, t_1_13, t_1_d, t_2_0, t_2_1, t_2_2, t_2_3, t_2_4, t_2_5, t_2_6, t_2_7, t_2_8, t_2_9, t_2_10, t_2_11, t_2_12, t_2_13, t_2_d, t_3_0, t_3_1, t_3_2, t_3_3, t_3_4, t_3_5, t_3_6, t_3_7, t_3_8, t_3_9, t_3_10, t_3_11, t_3_12, t_3_13, t_3_14, t_3_15, t_3_16, t_3_17, t_3_18, t_3_19, t_3_20, t_3_21, t_3_22, t_3_23, t_3_24, t_3_25, t_3_d, v_0_32, v_0_45, v_0_47, v_0_d, e_tsw, e_lsw, q_le1, q_le0, q_lt1, q_lt0, q_eq1, q_eq0, Int.add_zero, m_ca, Int.reduceNatCast', m_bite, m_b0, m_b1, m_nn, m_tn, m_w_id, m_x_id, k1, hf, hc1, cp, j1, em, en, hY]
  · rw [j2 c (by omega), f1 c (by omega) (by omega), hF c (by omega), F1 c (by omega) (by omega) (by omega)]
  · exact sHC_f hH (fun c a b => by rw [j2 c (by omega), f1 c (by omega) (by omega)])
  · rw [j2 c (by omega), f1 c (by omega) (by omega), hF c (by omega), F1 c (by omega) (by omega) (by omega)]
theorem c_un0 (H : sHC σ u h) (h0 : u = 0) : m_ev (d + 8) 84 [m_R 0] (m_G0, σ) = some (some (m_I (-1001)), (m_G0, σ)) := by
  have e := H.1
  rw [h0] at e
  rw [i_84]
  simp (disch := first | with_unfolding_all exact id rfl | with_unfolding_all exact ⟨rfl, by decide, Nat.le_of_ble_eq_true rfl⟩ | with_unfolding_all exact Nat.le_of_ble_eq_true rfl | omega) only [b_84_0, b_84_1, b_84_2, e_goto, e_fall, e_if0, e_if1, e_if2, e_if3, e_if4, e_if5, e_ic0, e_ic1, e_ic2, e_ic3, e_ic4, e_ic5, e_null_n, e_null_r, e_nonn_n, e_nonn_r, e_ret0, e_ret1, e_ret20, e_ret21, e_retb, e_ret3, e_ret4, e_pi, e_pj, e_pf, e_pn, e_iadd, e_isub, e_imul, e_iand, e_ixor, e_ishl, e_ishr, e_iushr, e_ladd, e_lsub, e_lmul, e_idiv, e_irem, e_ldiv, e_lrem, e_ineg, e_lneg, e_lcmp, e_i2l, e_l2f, e_f2i, e_i2b, e_fcg, e_fcl, e_dup, e_dupi, e_dup2, s_il, s_ll, s_fl, s_al, s_inc, e_is, e_ls, e_fs, e_aS, e_gi, e_gb, e_gj, s_gr, s_pfi, s_pfj, s_pfb, s_v1, s_v2, s_v3, s_v4, s_v5, s_v6, s_s1, s_s2, s_s3, s_s4, s_s5, s_s6, m_kI_I, m_kJ_J, m_kF_F, m_kR_R, m_ld0, m_ldS, m_st0, m_stS, m_s1, m_s2, m_kl, Option.bind_some, Option.toList_some, Option.toList_none, List.cons_append, List.nil_append, Nat.zero_add, Nat.reduceAdd, Nat.reduceSub, Nat.zero_sub, Nat.reduceEqDiff, Int.reduceLE, Int.reduceLT, Int.reduceEq, Int.reduceNe, Int.reduceAdd, Int.reduceSub, Int.reduceMul, Int.reduceNeg, Int.reduceToNat, Int.toNat_zero, Int.toNat_one, Int.zero_add, Int.zero_mul, Int.one_mul, ↓reduceIte, not_false_eq_true, not_true_eq_false, m_up_s, m_up_c, m_up_k, ne_eq, and_self, and_true, true_and, and_false, false_and, or_true, or_false, true_or, false_or, a_2, u_2, l_2, a_4, u_4, l_4, a_7, u_7, l_7, a_9, u_9, l_9, a_10, u_10, l_10, a_11, u_11, l_11, a_12, u_12, l_12, a_14, u_14, l_14, a_75, u_75, l_75, a_76, u_76, l_76, a_78, u_78, l_78, a_79, u_79, l_79, a_81, u_81, l_81, a_82, u_82, l_82, a_83, u_83, l_83, a_85, u_85, l_85, a_87, u_87, l_87, a_88, u_88, l_88, a_89, u_89, l_89, a_90, u_90, l_90, a_91, u_91, l_91, a_92, u_92, l_92, r_0_0, r_0_1, r_0_2, r_0_3, r_0_4, r_0_5, r_0_6, r_1_0, r_3_0, r_5_0, r_6_2, r_8_9, r_8_10, r_8_11, r_8_12, r_8_13, r_13_2, r_15_0, r_73_0, r_73_1, r_74_2, r_74_3, r_77_2, r_77_3, r_80_0, r_80_1, r_80_2, r_80_3, r_84_2, r_86_0, r_86_1, r_86_3, r_86_7, r_86_11, r_86_12, w_n1, w_0, w_1, w_2, w_3, w_4, w_5, w_6, w_7, w_8, w_9, w_10, w_11, w_12, w_13, w_14, w_15, w_16, w_17, w_18, w_19, w_20, w_21, w_22, w_23, w_24, w_25, w_26, w_27, w_28, w_29, w_30, w_31, w_32, w_33, w_34, w_35, w_36, w_37, w_38, w_39, w_40, w_41, w_42, w_43, w_44, w_45, w_46, w_47, w_48, w_49, w_50, w_51, w_52, w_53, w_54, w_55, w_56, w_57, w_58, w_59, w_60, w_61, w_62, w_63, w_64, w_65, w_66, w_67, w_68, w_69, w_n1000, w_n1001, w_n1002, w_n1003, w_65536, w_1103, w_377, w_127, w_126, w_128, w_536, w_469, t_0_0, t_0_1, t_0_2, t_0_d, t_1_0, t_1_1, t_1_2, t_1_3, t_1_4, t_1_5, t_1_6, t_1_7, t_1_8, t_1_9, t_1_10, t_1_11, t_1_12, t_1_13, t_1_d, t_2_0, t_2_1, t_2_2, t_2_3, t_2_4, t_2_5, t_2_6, t_2_7, t_2_8, t_2_9, t_2_10, t_2_11, t_2_12, t_2_13, t_2_d, t_3_0, t_3_1, t_3_2, t_3_3, t_3_4, t_3_5, t_3_6, t_3_7, t_3_8, t_3_9, t_3_10, t_3_11, t_3_12, t_3_13, t_3_14, t_3_15, t_3_16, t_3_17, t_3_18, t_3_19, t_3_20, t_3_21, t_3_22, t_3_23, t_3_24, t_3_25, t_3_d, v_0_32, v_0_45, v_0_47, v_0_d, e_tsw, e_lsw, q_le1, q_le0, q_lt1, q_lt0, q_eq1, q_eq0, Int.add_zero, m_ca, Int.reduceNatCast', m_bite, m_b0, m_b1, m_nn, m_tn, m_w_id, m_x_id, e, Int.natCast_zero]
theorem c_und (H : sHC σ u h) (hu : u ≤ 8) (h0 : 0 < u) (W : sWF (h (u - 1))) (hz : sZf (h (u - 1))) (S : sSo σ g) (hX : ∃ x, sOn (sEa (h (u - 1))) (h (u - 1) 49).toNat (h (u - 1) 50).toNat 4 1 = some x) : ∃ σ' : Nat → Nat → Int, m_ev (d + 8) 84 [m_R 0] (m_G0, σ) = some (some (m_I (u - 1 : Nat)), (m_G0, σ')) ∧ sF 8 86 σ σ' ∧ sTR σ' 8 (h (u - 1)) ∧ sHC σ' (u - 1) h ∧ sSo σ' (h (u - 1)) ∧ ∀ c, 74 ≤ c → c < 80 → σ' c = σ c := by
  obtain ⟨s1, k1, F1, H1, T1⟩ := c_res (d := d + 4) H hu h0 W
  obtain ⟨s2, j1, j2, j3⟩ := c_fitm (d := d + 1) T1 W hz (sSo_f S (fun c a b => F1 c (by omega))) hX
  have H2 := sHC_f H1 (s := s2) (fun c a b => j2 c (by omega))
  have e0 := H.1
  have e2 := H2.1
  have hu2 : ¬ (u : Int) = 0 := by omega
  refine ⟨s2, ?_, fun c hc => by rw [j2 c (by omega), F1 c (by omega)], sTR_fr (fun c a b => j2 c (by omega)) T1, H2, j3, fun c a b => by rw [j2 c (by omega), F1 c (by omega)]⟩
  rw [i_84]
  obtain ⟨U, hU⟩ : ∃ U : Int, U = (u : Int) := ⟨_, rfl⟩
  rw [← hU] at e0 hu2
  simp (disch := first | with_unfolding_all exact id rfl | with_unfolding_all exact ⟨rfl, by decide, Nat.le_of_ble_eq_true rfl⟩ | with_unfolding_all exact Nat.le_of_ble_eq_true rfl | omega) only [b_84_0, b_84_1, b_84_2, e_goto, e_fall, e_if0, e_if1, e_if2, e_if3, e_if4, e_if5, e_ic0, e_ic1, e_ic2, e_ic3, e_ic4, e_ic5, e_null_n, e_null_r, e_nonn_n, e_nonn_r, e_ret0, e_ret1, e_ret20, e_ret21, e_retb, e_ret3, e_ret4, e_pi, e_pj, e_pf, e_pn, e_iadd, e_isub, e_imul, e_iand, e_ixor, e_ishl, e_ishr, e_iushr, e_ladd, e_lsub, e_lmul, e_idiv, e_irem, e_ldiv, e_lrem, e_ineg, e_lneg, e_lcmp, e_i2l, e_l2f, e_f2i, e_i2b, e_fcg, e_fcl, e_dup, e_dupi, e_dup2, s_il, s_ll, s_fl, s_al, s_inc, e_is, e_ls, e_fs, e_aS, e_gi, e_gb, e_gj, s_gr, s_pfi, s_pfj, s_pfb, s_v1, s_v2, s_v3, s_v4, s_v5, s_v6, s_s1, s_s2, s_s3, s_s4, s_s5, s_s6, m_kI_I, m_kJ_J, m_kF_F, m_kR_R, m_ld0, m_ldS, m_st0, m_stS, m_s1, m_s2, m_kl, Option.bind_some, Option.toList_some, Option.toList_none, List.cons_append, List.nil_append, Nat.zero_add, Nat.reduceAdd, Nat.reduceSub, Nat.zero_sub, Nat.reduceEqDiff, Int.reduceLE, Int.reduceLT, Int.reduceEq, Int.reduceNe, Int.reduceAdd, Int.reduceSub, Int.reduceMul, Int.reduceNeg, Int.reduceToNat, Int.toNat_zero, Int.toNat_one, Int.zero_add, Int.zero_mul, Int.one_mul, ↓reduceIte, not_false_eq_true, not_true_eq_false, m_up_s, m_up_c, m_up_k, ne_eq, and_self, and_true, true_and, and_false, false_and, or_true, or_false, true_or, false_or, a_2, u_2, l_2, a_4, u_4, l_4, a_7, u_7, l_7, a_9, u_9, l_9, a_10, u_10, l_10, a_11, u_11, l_11, a_12, u_12, l_12, a_14, u_14, l_14, a_75, u_75, l_75, a_76, u_76, l_76, a_78, u_78, l_78, a_79, u_79, l_79, a_81, u_81, l_81, a_82, u_82, l_82, a_83, u_83, l_83, a_85, u_85, l_85, a_87, u_87, l_87, a_88, u_88, l_88, a_89, u_89, l_89, a_90, u_90, l_90, a_91, u_91, l_91, a_92, u_92, l_92, r_0_0, r_0_1, r_0_2, r_0_3, r_0_4, r_0_5, r_0_6, r_1_0, r_3_0, r_5_0, r_6_2, r_8_9, r_8_10, r_8_11, r_8_12, r_8_13, r_13_2, r_15_0, r_73_0, r_73_1, r_74_2, r_74_3, r_77_2, r_77_3, r_80_0, r_80_1, r_80_2, r_80_3, r_84_2, r_86_0, r_86_1, r_86_3, r_86_7, r_86_11, r_86_12, w_n1, w_0, w_1, w_2, w_3, w_4, w_5, w_6, w_7, w_8, w_9, w_10, w_11, w_12, w_13, w_14, w_15, w_16, w_17, w_18, w_19, w_20, w_21, w_22, w_23, w_24, w_25, w_26, w_27, w_28, w_29, w_30, w_31, w_32, w_33, w_34, w_35, w_36, w_37, w_38, w_39, w_40, w_41, w_42, w_43, w_44, w_45, w_46, w_47, w_48, w_49, w_50, w_51, w_52, w_53, w_54, w_55, w_56, w_57, w_58, w_59, w_60, w_61, w_62, w_63, w_64, w_65, w_66, w_67, w_68, w_69, w_n1000, w_n1001, w_n1002, w_n1003, w_65536, w_1103, w_377, w_127, w_126, w_128, w_536, w_469, t_0_0, t_0_1, t_0_2, t_0_d, t_1_0, t_1_1, t_1_2, t_1_3, t_1_4, t_1_5, t_1_6, t_1_7, t_1_8, t_1_9, t_1_10, t_1_11, t_1_12, t_1_13, t_1_d, t_2_0, t_2_1, t_2_2, t_2_3, t_2_4, t_2_5, t_2_6, t_2_7, t_2_8, t_2_9, t_2_10, t_2_11, t_2_12, t_2_13, t_2_d, t_3_0, t_3_1, t_3_2, t_3_3, t_3_4, t_3_5, t_3_6, t_3_7, t_3_8, t_3_9, t_3_10, t_3_11, t_3_12, t_3_13, t_3_14, t_3_15, t_3_16, t_3_17, t_3_18, t_3_19, t_3_20, t_3_21, t_3_22, t_3_23, t_3_24, t_3_25, t_3_d, v_0_32, v_0_45, v_0_47, v_0_d, e_tsw, e_lsw, q_le1, q_le0, q_lt1, q_lt0, q_eq1, q_eq0, Int.add_zero, m_ca, Int.reduceNatCast', m_bite, m_b0, m_b1, m_nn, m_tn, m_w_id, m_x_id, e0, hu2, k1, j1, e2]
end SM
