/-! the law's start -/
section J15
variable {L : Nat} {xs : Nat → Int}
def f0 : Nat → Int := fun k => if k = 0 ∨ k = 1 then 5 else if k = 40 then 2 else if k = 43 ∨ k = 44 ∨ k = 45 then -1003 else if k = 46 ∨ k = 49 ∨ k = 50 then 1 else 0
theorem f0_al : sAl f0 = 2 := by decide +kernel
theorem f0_z {k : Nat} (h : 51 ≤ k) : f0 k = 0 := by
  unfold f0
  rw [if_neg (by omega), if_neg (by omega), if_neg (by omega), if_neg (by omega)]
theorem f0_W : sWF f0 := by
  have a : ∀ p : Nat, p < 5 → 0 ≤ f0 p ∧ f0 p ≤ 5 ∧ (f0 40 ≤ (p : Int) → f0 p = 0) := by decide +kernel
  refine ⟨by decide +kernel, a, Or.inl (by decide +kernel), Or.inr (by decide +kernel), fun _ => by decide +kernel, fun h => absurd h (by rw [f0_al]; decide), fun h => absurd h (by decide +kernel), fun h => absurd h (by decide +kernel), Or.inl (by decide +kernel), fun _ => by decide +kernel, by decide +kernel, fun k _ => by rw [f0_z (by omega)]; decide⟩
theorem f0_Q : sRq f0 := ⟨f0_W, fun k _ => f0_z (by omega), fun k hk => f0_z (by omega), by rw [show f0 48 = 0 by decide +kernel]; exact m_in0, by rw [f0_al]; decide⟩
theorem f0_T : sTR m_M2.2 8 f0 := by
  have a1 : ∀ p : Nat, p < 5 → ((m_P0.any (fun q => q.1 == 8 + 1 && q.2 == p)) && decide (m_v0 (8 + 1) p = f0 p)) = true := by decide +kernel
  have a2 : ∀ p : Nat, p < 5 → ((m_P0.any (fun q => q.1 == 8 + 2 && q.2 == p)) && decide (m_v0 (8 + 2) p = f0 (5 + p))) = true := by decide +kernel
  have a3 : ∀ p : Nat, p < 5 → ((m_P0.any (fun q => q.1 == 8 + 3 && q.2 == p)) && decide (m_v0 (8 + 3) p = f0 (10 + p))) = true := by decide +kernel
  have z42 : f0 42 = 0 := by decide +kernel
  have z43 : f0 43 = -1003 := by decide +kernel
  have z49 : f0 49 = 1 := by decide +kernel
  have z50 : f0 50 = 1 := by decide +kernel
  refine ⟨⟨m_v0_e (by decide +kernel), m_v0_e (by decide +kernel), m_v0_e (by decide +kernel)⟩, fun _ => m_v0_e (by decide +kernel), ?_, fun h => absurd z43 h, ⟨m_v0_e (by decide +kernel), m_v0_e (by decide +kernel)⟩, fun p hp => m_v0_e (a1 p hp), fun p hp => m_v0_e (a2 p hp), fun p hp => m_v0_e (a3 p hp), fun h => absurd h (by rw [z42]; decide), ⟨m_v0_e (by decide +kernel), m_v0_e (by decide +kernel)⟩, fun r c hr hc => ?_⟩
  · rw [if_pos z43]; exact m_v0_e (by decide +kernel)
  · rw [z49] at hr
    rw [z50] at hc
    have r0 : r = 0 := by omega
    have c0 : c = 0 := by omega
    subst r0 c0
    simp only [Nat.mul_zero, Nat.add_zero]
    exact m_v0_e (by decide +kernel)
theorem e_n64 {X : Option (Nat × (Nat → Int))} {f : m_C} {y : Nat} {is : List m_P} {ls r : List m_V} {μ : m_M} : m_e X f y ((55, 1, 0, 0) :: is) ls (m_I 64 :: r) μ = m_e X f y is ls (m_R μ.1.length :: r) (μ.1 ++ [((1, 64), [])], m_zr μ.2 μ.1.length) := e_step (q := (ls, m_R μ.1.length :: r, (μ.1 ++ [((1, 64), [])], m_zr μ.2 μ.1.length))) (Nat.le_of_ble_eq_true rfl) rfl
def j_r0 : List m_P := [(17, 2, 0, 0), (10, 0, 0, 46), (10, 0, 0, 1), (63, 0, 0, 0), (17, 2, 0, 0), (10, 0, 0, 2), (7, 126, 2, -1), (17, 1, 0, 0), (7, 54, 1, 9), (10, 0, 0, -1001), (2, 1, 8, 0), (8, 1, 0, 0)]
theorem j_new (L : Nat) (xs : Nat → Int) : m_e (some (L, xs)) (m_evX (some (L, xs)) 9) 197 (m_blk 197 0) (m_en (m_ml 197) [m_S]) [] ([], fun _ _ => 0) = m_e (some (L, xs)) (m_evX (some (L, xs)) 9) 197 j_r0 [m_S, m_R 0, m_R 86, m_U, m_U, m_U, m_U, m_U, m_U, m_U] [] (m_G0, m_M2.2) := by
  have k1 := X9 (L := L) (xs := xs) (m_go_ev _ _ _ _ _ m_go_M1)
  have c1 : ∀ is ls, m_e (some (L, xs)) (m_evX (some (L, xs)) 9) 197 ((7, 0, 1, -2) :: is) ls [m_R 0, m_R 0] m_I0 = m_e (some (L, xs)) (m_evX (some (L, xs)) 9) 197 is ls [m_R 0] m_M1 := fun is ls => e_call (as := [m_R 0]) (r := [m_R 0]) rfl rfl (by decide) rfl k1
  have en : m_en (m_ml 197) [m_S] = [m_S, m_U, m_U, m_U, m_U, m_U, m_U, m_U, m_U, m_U] := rfl
  have i0 : (([] : List m_G) ++ [((0, 9), List.replicate (7 : Int).toNat none)], m_zr (fun _ _ => (0 : Int)) ([] : List m_G).length) = m_I0 := rfl
  have i2 : (m_G0, m_M2.2) = m_M2 := by
    rw [← m_M2_G]
  have i1 : (m_M1.1 ++ [((1, 64), [])], m_zr m_M1.2 86) = m_M2 := rfl
  rw [en, i2, b_197_0]
  rw [e_new]
  show m_e _ _ _ _ _ _ (([] : List m_G) ++ [((0, 9), List.replicate (7 : Int).toNat none)], m_zr (fun _ _ => (0 : Int)) ([] : List m_G).length) = _
  rw [i0]
  show m_e _ _ _ ((50, 0, 0, 0) :: _) _ (m_O (some 0) :: []) m_I0 = _
  rw [e_dup]
  show m_e _ _ _ _ _ [m_R 0, m_R 0] m_I0 = _
  rw [c1, e_aS, e_pi, e_n64, m_M1_len, i1, e_aS]
  rfl
theorem j_go (L : Nat) (xs : Nat → Int) : ∃ σ' : Nat → Nat → Int, m_e (some (L, xs)) (m_evX (some (L, xs)) 9) 197 (m_blk 197 0) (m_en (m_ml 197) [m_S]) [] ([], fun _ _ => 0) = some (some (m_I 1), (m_G0, σ')) := by
  obtain ⟨s0, es0⟩ : ∃ s0, s0 = m_up m_M2.2 86 46 1 := ⟨_, rfl⟩
  obtain ⟨s1, b1, b2, b3⟩ := j_bg (d := 8) (σ := s0) (P := 2) (by decide)
  have ec : ∀ c, ¬ c = 86 → s1 c = m_M2.2 c := fun c hc => by rw [b2 c hc, es0, m_up_x hc]
  have e46 : s0 86 46 = 1 := by rw [es0, m_up_s]
  have R : jR (s1 86) f0 := by
    rw [b3]
    refine ⟨fun k hk => ?_, fun k a b => ?_, fun h => absurd h (by decide +kernel)⟩
    · unfold gNw f0
      (repeat' split) <;> first | rfl | (exfalso; omega)
    · by_cases g : k = 46
      · rw [g, gNw_e (by omega), e46]
        decide +kernel
      · unfold gNw f0
        (repeat' split) <;> first | rfl | (exfalso; omega)
  have T : sTR s1 8 f0 := sTR_fr (fun c a b => ec c (by omega)) f0_T
  have e15 : m_M2.2 15 1 = 0 := m_v0_e (by decide +kernel)
  have H : sHC s1 0 (fun _ _ => 0) := sHC_f (σ := m_M2.2) ⟨m_v0_e (by decide +kernel), by rw [e15]; decide, fun j hj => absurd hj (by omega)⟩ (fun c a b => ec c (by omega))
  have X : sTX s1 0 (fun _ => 0) := sTX_e (σ := m_M2.2) ⟨m_v0_e (by decide +kernel), fun i hi => absurd hi (by omega)⟩ (ec 1 (by decide)) (ec 2 (by decide))
  have V : jV s1 f0 0 (fun _ _ => 0) 0 (fun _ => 0) 2 := ⟨f0_Q, T, ⟨H, by decide⟩, ⟨X, by decide, fun i hi => absurd hi (by omega)⟩, R, by decide +kernel⟩
  have W := f0_W
  have z43 : f0 43 = -1003 := by decide +kernel
  have z42 : f0 42 = 0 := by decide +kernel
  have b1 := X9 (L := L) (xs := xs) b1
  have c1 := X9 (L := L) (xs := xs) (c_doubt1 (d := 4) T W z43)
  have c2 := X9 (L := L) (xs := xs) (c_exact1 (d := 4) T W z43)
  have c3 := X9 (L := L) (xs := xs) (c_claim1 (d := 4) (n := 1) (a := 1) T W (by decide) (fun h => absurd h.1 (by rw [z42]; decide)))
  have c4 := X9 (L := L) (xs := xs) (c_un0 (d := 1) H rfl)
  have c5 := X9 (L := L) (xs := xs) (c_new0 (d := 5) (σ := s1) (P := 1) (by decide))
  have c6 := X9 (L := L) (xs := xs) (c_new0 (d := 5) (σ := s1) (P := 6) (by decide))
  have c7 := X9 (L := L) (xs := xs) (c_coun (d := 5) (p := -1) (a := 1) T W)
  rw [show sCo f0 (-1) 1 = 0 by decide +kernel] at c7
  have c8 := X9 (L := L) (xs := xs) (j_told (d := 4) V)
  obtain ⟨x, hx⟩ : ∃ x, x = jCe L xs 0 := ⟨_, rfl⟩
  have ce := j_cell (L := L) (xs := xs) (σ := s1) (k := 0) (by decide)
  rw [← hx] at ce
  have lb := jLo_b (v := x) (n := 4) (by decide)
  obtain ⟨z, hz⟩ : ∃ z, z = jLo x 4 := ⟨_, rfl⟩
  have lo := X9 (L := L) (xs := xs) (j_low (d := 8) (σ := s1) (v := x) (n := 4) (by decide))
  rw [← hz] at lb lo
  obtain ⟨s2, d1, d2, d3⟩ := j_bg (d := 8) (σ := s1) (P := 2 + z) (by omega)
  have d1 := X9 (L := L) (xs := xs) d1
  have T2 : sTR s2 8 f0 := sTR_fr (fun c a b => d2 c (by omega)) T
  obtain ⟨s3, d4, F3, T3, H3⟩ := c_new (d := 5) (P := 2 + z) T2 W (sHC_f H (fun c a b => d2 c (by omega))) (by decide) (by omega)
  have d4 := X9 (L := L) (xs := xs) d4
  rw [show f0 40 = 2 by decide +kernel] at d4
  have J : jE s3 (2 + z) := by
    refine ⟨gNw f0 (2 + z), _, _, 0, fun _ => 0, (sRq_new f0_Q (by omega)).1, T3, ⟨H3, by unfold gU; split <;> omega⟩, ⟨sTX_e X (by rw [F3 1 (by omega), d2 1 (by decide)]) (by rw [F3 2 (by omega), d2 2 (by decide)]), by decide, fun i hi => absurd hi (by omega)⟩, ?_, gNw_40⟩
    rw [F3 86 (by omega), d3]
    exact R_new R
  obtain ⟨s', k⟩ := j_loop (L := L) (xs := xs) (x := x) 50 0 s3 m_U m_U m_U m_U (by decide) (Or.inl rfl) J
  refine ⟨s', ?_⟩
  rw [j_new]
  refine Eq.trans ?_ k
  rw [es0] at b1
  unfold j_r0
  simp (disch := first | with_unfolding_all exact id rfl | with_unfolding_all exact ⟨rfl, by decide, Nat.le_of_ble_eq_true rfl⟩ | with_unfolding_all exact Nat.le_of_ble_eq_true rfl | omega) only [b_197_1, b_197_2, b_197_3, b_197_4, b_197_5, b_197_6, b_197_7, b_197_9, b_197_11, e_goto, e_fall, e_if0, e_if1, e_if2, e_if3, e_if4, e_if5, e_ic0, e_ic1, e_ic2, e_ic3, e_ic4, e_ic5, e_null_n, e_null_r, e_nonn_n, e_nonn_r, e_ret0, e_ret1, e_ret20, e_ret21, e_retb, e_ret3, e_ret4, e_pi, e_pj, e_pf, e_pn, e_iadd, e_isub, e_imul, e_iand, e_ixor, e_ishl, e_ishr, e_iushr, e_ladd, e_lsub, e_lmul, e_idiv, e_irem, e_ldiv, e_lrem, e_ineg, e_lneg, e_lcmp, e_i2l, e_l2f, e_f2i, e_i2b, e_fcg, e_fcl, e_dup, e_dupi, e_dup2, s_il, s_ll, s_fl, s_al, s_inc, e_is, e_ls, e_fs, e_aS, e_gi, e_gb, e_gj, s_gr, s_pfi, s_pfj, s_pfb, s_v1, s_v2, s_v3, s_v4, s_v5, s_v6, s_s1, s_s2, s_s3, s_s4, s_s5, s_s6, m_kI_I, m_kJ_J, m_kF_F, m_kR_R, m_ld0, m_ldS, m_st0, m_stS, m_s1, m_s2, m_kl, Option.bind_some, Option.toList_some, Option.toList_none, List.cons_append, List.nil_append, Nat.zero_add, Nat.reduceAdd, Nat.reduceSub, Nat.zero_sub, Nat.reduceEqDiff, Int.reduceLE, Int.reduceLT, Int.reduceEq, Int.reduceNe, Int.reduceAdd, Int.reduceSub, Int.reduceMul, Int.reduceNeg, Int.reduceToNat, Int.toNat_zero, Int.toNat_one, Int.zero_add, Int.zero_mul, Int.one_mul, ↓reduceIte, not_false_eq_true, not_true_eq_false, m_up_s, m_up_c, m_up_k, ne_eq, and_self, and_true, true_and, and_false, false_and, or_true, or_false, true_or, false_or, a_2, u_2, l_2, a_4, u_4, l_4, a_7, u_7, l_7, a_9, u_9, l_9, a_10, u_10, l_10, a_11, u_11, l_11, a_12, u_12, l_12, a_14, u_14, l_14, a_75, u_75, l_75, a_76, u_76, l_76, a_78, u_78, l_78, a_79, u_79, l_79, a_81, u_81, l_81, a_82, u_82, l_82, a_83, u_83, l_83, a_85, u_85, l_85, a_86, u_86, l_86, r_0_0, r_0_1, r_0_2, r_0_3, r_0_4, r_0_5, r_0_6, r_1_0, r_3_0, r_5_0, r_6_2, r_8_9, r_8_10, r_8_11, r_8_12, r_8_13, r_13_2, r_15_0, r_73_0, r_73_1, r_74_2, r_74_3, r_77_2, r_77_3, r_80_0, r_80_1, r_80_2, r_80_3, r_84_2, w_n1, w_0, w_1, w_2, w_3, w_4, w_5, w_6, w_7, w_8, w_9, w_10, w_11, w_12, w_13, w_14, w_15, w_16, w_17, w_18, w_19, w_20, w_21, w_22, w_23, w_24, w_25, w_26, w_27, w_28, w_29, w_30, w_31, w_32, w_33, w_34, w_35, w_36, w_37, w_38, w_39, w_40, w_41, w_42, w_43, w_44, w_45, w_46, w_47, w_48, w_49, w_50, w_51, w_52, w_53, w_54, w_55, w_56, w_57, w_58, w_59, w_60, w_61, w_62, w_63, w_64, w_65, w_66, w_67, w_68, w_69, w_n1000, w_n1001, w_n1002, w_n1003, w_65536, w_1103, w_377, w_127, w_126, w_128, w_65535, w_2147483647, w_795577677, t_0_0, t_0_1, t_0_2, t_0_d, t_1_0, t_1_1, t_1_2, t_1_3, t_1_4, t_1_5, t_1_6, t_1_7, t_1_8, t_1_9, t_1_10, t_1_11, t_1_12, t_1_13, t_1_d, v_0_32, v_0_45, v_0_47, v_0_d, e_tsw, e_lsw, q_le1, q_le0, q_lt1, q_lt0, q_eq1, q_eq0, Int.add_zero, m_ca, Int.reduceNatCast', m_bite, m_b0, m_b1, m_nn, m_tn, m_w_id, m_x_id, m_kR_S, b1, c1, c2, c3, c4, c5, c6, c7, c8, ce, lo, d1, d4]
end J15
