/-! shares of a part, by cofactors -/
def sSm (g : Nat → Int) : Nat → Int
  | 0 => 0
  | n + 1 => sSm g n + g n
def sCf (a : Nat → Nat → Int) (R C r c : Nat) : Int := if (sCn R r + sCn C c) % 2 = 0 then sMi a (R - 2 ^ r) (C - 2 ^ c) else -sMi a (R - 2 ^ r) (C - 2 ^ c)
def sXc (a : Nat → Nat → Int) (R C r c : Nat) : Int := if sBi R r = 1 ∧ sBi C c = 1 then sCf a R C r c else 0
def sRh (a : Nat → Nat → Int) (R C r : Nat) : Int := sSm (fun c => sXc a R C r c) 4
def sKa (a : Nat → Nat → Int) (R C c : Nat) : Int := sSm (fun r => sXc a R C r c) 4
def sDn (a : Nat → Nat → Int) (R C : Nat) : Int := sSm (fun r => sRh a R C r) 4
def sNe (D z : Int) : Int := if D < 0 then -z else z
def sQI (x : Nat → Nat → Int) (r c : Nat) (ρ κ : Nat → Int) (D : Int) : Prop := (∀ r', r' < 4 → ρ r' = if r' < r then sSm (x r') 4 else if r' = r then sSm (x r) c else 0) ∧ (∀ c', c' < 4 → κ c' = sSm (fun i => x i c') (if c' < c then r + 1 else r)) ∧ D = sSm (fun i => sSm (x i) 4) r + sSm (x r) c
section QI
variable {x : Nat → Nat → Int} {r c : Nat} {ρ κ : Nat → Int} {D B : Int}
theorem sSm_b {g : Nat → Int} {K : Int} (h : ∀ i, i < 4 → -K ≤ g i ∧ g i ≤ K) : ∀ n : Nat, n ≤ 4 → -((n : Int) * K) ≤ sSm g n ∧ sSm g n ≤ (n : Int) * K
  | 0, _ => by
    show -(((0 : Nat) : Int) * K) ≤ 0 ∧ 0 ≤ ((0 : Nat) : Int) * K
    rw [Int.natCast_zero, Int.zero_mul]
    decide
  | n + 1, hn => by
    have i := sSm_b h n (by omega)
    have j := h n (by omega)
    have e : ((n + 1 : Nat) : Int) * K = (n : Int) * K + K := by
      show ((n : Int) + 1) * K = _
      rw [Int.add_mul, Int.one_mul]
    rw [e]
    show _ ≤ sSm g n + g n ∧ sSm g n + g n ≤ _
    generalize (n : Int) * K = y at i
    omega
theorem sSm_4 {g : Nat → Int} {K : Int} (hK : 0 ≤ K) (h : ∀ i, i < 4 → -K ≤ g i ∧ g i ≤ K) {n : Nat} (hn : n ≤ 4) : -(4 * K) ≤ sSm g n ∧ sSm g n ≤ 4 * K := by
  have i := sSm_b h n hn
  have g : n = 0 ∨ n = 1 ∨ n = 2 ∨ n = 3 ∨ n = 4 := by omega
  rcases g with rfl | rfl | rfl | rfl | rfl <;> omega
theorem sQI_s (hr : r < 4) (hc : c < 4) (I : sQI x r c ρ κ D) : sQI x r (c + 1) (g1 ρ r (ρ r + x r c)) (g1 κ c (κ c + x r c)) (D + x r c) := by
  obtain ⟨h1, h2, h3⟩ := I
  have e : sSm (x r) (c + 1) = sSm (x r) c + x r c := rfl
  refine ⟨fun r' hr' => ?_, fun c' hc' => ?_, ?_⟩
  · by_cases z : r' = r
    · rw [z, g1_s, h1 r hr, if_neg (by omega), if_pos rfl, if_neg (by omega), if_pos rfl, e]
    · rw [g1_n z, h1 r' hr']
      by_cases y : r' < r
      · rw [if_pos y, if_pos y]
      · rw [if_neg y, if_neg y, if_neg z, if_neg z]
  · by_cases z : c' = c
    · rw [z, g1_s, h2 c hc, if_neg (by omega), if_pos (by omega)]
      rfl
    · rw [g1_n z, h2 c' hc']
      by_cases y : c' < c
      · rw [if_pos y, if_pos (by omega)]
      · rw [if_neg y, if_neg (by omega)]
  · rw [h3, e, Int.add_assoc]
theorem sQI_0 (hr : r < 4) (hc : c < 4) (z0 : x r c = 0) (I : sQI x r c ρ κ D) : sQI x r (c + 1) ρ κ D := by
  have k := sQI_s hr hc I
  rw [z0, Int.add_zero, Int.add_zero, Int.add_zero] at k
  have e1 : g1 ρ r (ρ r) = ρ := by
    funext i
    unfold g1
    split
    next h => rw [h]
    next => rfl
  have e2 : g1 κ c (κ c) = κ := by
    funext i
    unfold g1
    split
    next h => rw [h]
    next => rfl
  rw [e1, e2] at k
  exact k
theorem sQI_r (I : sQI x r 4 ρ κ D) : sQI x (r + 1) 0 ρ κ D := by
  obtain ⟨h1, h2, h3⟩ := I
  refine ⟨fun r' hr' => ?_, fun c' hc' => ?_, ?_⟩
  · rw [h1 r' hr']
    by_cases y : r' < r
    · rw [if_pos y, if_pos (by omega)]
    · rw [if_neg y]
      by_cases z : r' = r
      · rw [if_pos z, if_pos (by omega), z]
      · rw [if_neg z, if_neg (by omega)]
        by_cases w : r' = r + 1
        · rw [if_pos w]
          rfl
        · rw [if_neg w]
  · rw [h2 c' hc', if_pos hc', if_neg (by omega)]
  · rw [h3]
    show _ = sSm (fun i => sSm (x i) 4) r + sSm (x r) 4 + 0
    rw [Int.add_zero]
theorem sQI_i (h1 : ∀ i, i < 4 → ρ i = 0) (h2 : ∀ i, i < 4 → κ i = 0) : sQI x 0 0 ρ κ 0 := by
  refine ⟨fun r' hr' => ?_, fun c' hc' => ?_, rfl⟩
  · rw [h1 r' hr', if_neg (by omega)]
    split
    · rfl
    · rfl
  · rw [h2 c' hc', if_neg (by omega)]
    rfl
theorem sQI_b (hB : 0 ≤ B) (hx : ∀ i j, i < 4 → j < 4 → -B ≤ x i j ∧ x i j ≤ B) (hr : r < 4) (hc : c < 4) (I : sQI x r c ρ κ D) : (-(4 * B) ≤ ρ r ∧ ρ r ≤ 4 * B) ∧ (-(4 * B) ≤ κ c ∧ κ c ≤ 4 * B) ∧ (-(20 * B) ≤ D ∧ D ≤ 20 * B) := by
  obtain ⟨h1, h2, h3⟩ := I
  refine ⟨?_, ?_, ?_⟩
  · rw [h1 r hr, if_neg (by omega), if_pos rfl]
    exact sSm_4 hB (fun i hi => hx r i hr hi) (by omega)
  · rw [h2 c hc, if_neg (by omega)]
    exact sSm_4 hB (fun i hi => hx i c hi hc) (by omega)
  · have a1 := sSm_4 hB (fun i hi => hx r i hr hi) (n := c) (by omega)
    have a2 := sSm_4 (g := fun i => sSm (x i) 4) (K := 4 * B) (by omega) (fun i hi => sSm_4 hB (fun j hj => hx i j hi hj) (Nat.le_refl 4)) (n := r) (by omega)
    rw [h3]
    omega
theorem sXc_b {a : Nat → Nat → Int} (ha : ∀ r c, r < 4 → c < 4 → -99 ≤ a r c ∧ a r c ≤ 99) {R C : Nat} (hR : R < 16) : ∀ i j, i < 4 → j < 4 → -62099136 ≤ sXc a R C i j ∧ sXc a R C i j ≤ 62099136 := fun i j hi hj => by
  unfold sXc
  by_cases z : sBi R i = 1 ∧ sBi C j = 1
  · rw [if_pos z]
    have s1 := bt_sub R hR i hi z.1
    have b4 := bt_4 R hR
    have h := sMf_b ha (sPc (R - 2 ^ i)) (R - 2 ^ i) (C - 2 ^ j)
    have k := K3 (n := sPc (R - 2 ^ i)) (by omega)
    unfold sCf sMi
    generalize sMf a (sPc (R - 2 ^ i)) (R - 2 ^ i) (C - 2 ^ j) = y at h
    split <;> omega
  · rw [if_neg z]
    decide
end QI
section CF
variable {d : Nat} {σ : Nat → Nat → Int} {f : Nat → Int} {R C : Nat}
theorem c_cof (W : sWF f) (hT : sTm σ f 16 0) (hR : R < 16 ∧ R < 2 ^ (f 49).toNat) (hC : C < 16 ∧ C < 2 ^ (f 50).toNat) (hp : sPc R = sPc C) {r c : Nat} (hr : r < 4 ∧ sBi R r = 1) (hc : c < 4 ∧ sBi C c = 1) : m_ev (d + 2) 79 [m_R 80, m_I (R : Int), m_I (C : Int), m_I (r : Int), m_I (c : Int)] (m_G0, σ) = some (some (m_J (sCf (sEa f) R C r c)), (m_G0, σ)) := by
  have x1 := bt_shl r (by omega)
  have x2 := bt_xor R hR.1 r hr.1 hr.2
  have x3 := bt_shl c (by omega)
  have x4 := bt_xor C hC.1 c hc.1 hc.2
  have l1 := bt_low R hR.1 r hr.1
  have l2 := bt_low C hC.1 c hc.1
  have m1 : R % 2 ^ r < 16 := Nat.lt_of_le_of_lt (Nat.mod_le _ _) hR.1
  have m2 : C % 2 ^ c < 16 := Nat.lt_of_le_of_lt (Nat.mod_le _ _) hC.1
  have b1 := fun d => c_bc (d := d) (σ := σ) m1
  have b2 := fun d => c_bc (d := d) (σ := σ) m2
  rw [bt_cn R hR.1 r hr.1] at b1
  rw [bt_cn C hC.1 c hc.1] at b2
  have s1 := bt_sub R hR.1 r hr.1 hr.2
  have s2 := bt_sub C hC.1 c hc.1 hc.2
  have mo := fun d => c_mof (d := d) (σ := σ) (R := R - 2 ^ r) (C := C - 2 ^ c) (Nat.lt_of_le_of_lt (Nat.sub_le _ _) hR.1) (Nat.lt_of_le_of_lt (Nat.sub_le _ _) hC.1)
  rw [hT (R - 2 ^ r) (C - 2 ^ c) (Nat.lt_of_le_of_lt (Nat.sub_le _ _) hR.2) (Nat.lt_of_le_of_lt (Nat.sub_le _ _) hC.2) (by omega) (Or.inl (Nat.lt_of_le_of_lt (Nat.sub_le _ _) hR.1))] at mo
  have b4 := bt_4 R hR.1
  have h := sMf_b (sEa_b W) (sPc (R - 2 ^ r)) (R - 2 ^ r) (C - 2 ^ c)
  have k := K3 (n := sPc (R - 2 ^ r)) (by omega)
  have hmi : sMi (sEa f) (R - 2 ^ r) (C - 2 ^ c) = sMf (sEa f) (sPc (R - 2 ^ r)) (R - 2 ^ r) (C - 2 ^ c) := rfl
  rw [← hmi] at h
  unfold sCf
  obtain ⟨D, hD⟩ : ∃ D, D = sMi (sEa f) (R - 2 ^ r) (C - 2 ^ c) := ⟨_, rfl⟩
  rw [← hD] at mo h ⊢
  have db : -62099136 ≤ D ∧ D ≤ 62099136 := by omega
  have tm : Int.tmod (((sCn R r : Nat) : Int) + ((sCn C c : Nat) : Int)) 2 = (((sCn R r + sCn C c) % 2 : Nat) : Int) := rfl
  have n1 : sCn R r ≤ 4 ∧ sCn C c ≤ 4 := by
    constructor
    · rw [← bt_cn R hR.1 r hr.1]; exact bt_4 _ m1
    · rw [← bt_cn C hC.1 c hc.1]; exact bt_4 _ m2
  obtain ⟨P1, hP1⟩ : ∃ P1 : Int, P1 = ((2 ^ r : Nat) : Int) := ⟨_, rfl⟩
  obtain ⟨P2, hP2⟩ : ∃ P2 : Int, P2 = ((2 ^ c : Nat) : Int) := ⟨_, rfl⟩
  have pb1 : 0 ≤ P1 ∧ P1 ≤ 8 := by
    have : 2 ^ r ≤ 2 ^ 3 := Nat.pow_le_pow_right (by decide) (by omega)
    omega
  have pb2 : 0 ≤ P2 ∧ P2 ≤ 8 := by
    have : 2 ^ c ≤ 2 ^ 3 := Nat.pow_le_pow_right (by decide) (by omega)
    omega
  rw [← hP1] at x1 x2 l1
  rw [← hP2] at x3 x4 l2
  obtain ⟨R2, hR2⟩ : ∃ R2 : Int, R2 = ((R - 2 ^ r : Nat) : Int) := ⟨_, rfl⟩
  obtain ⟨C2, hC2⟩ : ∃ C2 : Int, C2 = ((C - 2 ^ c : Nat) : Int) := ⟨_, rfl⟩
  rw [← hR2] at x2 mo
  rw [← hC2] at x4 mo
  obtain ⟨u, hu⟩ : ∃ u : Int, u = ((sCn R r : Nat) : Int) := ⟨_, rfl⟩
  obtain ⟨v, hv⟩ : ∃ v : Int, v = ((sCn C c : Nat) : Int) := ⟨_, rfl⟩
  have huv : 0 ≤ u ∧ u ≤ 4 ∧ 0 ≤ v ∧ v ≤ 4 := by omega
  rw [← hu] at b1 tm
  rw [← hv] at b2 tm
  obtain ⟨y, hy⟩ : ∃ y : Int, y = m_and (R : Int) (P1 - 1) := ⟨_, rfl⟩
  obtain ⟨z, hz⟩ : ∃ z : Int, z = m_and (C : Int) (P2 - 1) := ⟨_, rfl⟩
  rw [← l1, ← hy] at b1
  rw [← l2, ← hz] at b2
  rw [i_79]
  by_cases g : (sCn R r + sCn C c) % 2 = 0
  · rw [if_pos g]
    rw [g] at tm
    simp (disch := first | with_unfolding_all exact id rfl | with_unfolding_all exact ⟨rfl, by decide, Nat.le_of_ble_eq_true rfl⟩ | with_unfolding_all exact Nat.le_of_ble_eq_true rfl | omega) only [b_79_0, b_79_1, b_79_2, b_79_3, e_goto, e_fall, e_if0, e_if1, e_if2, e_if3, e_if4, e_if5, e_ic0, e_ic1, e_ic2, e_ic3, e_ic4, e_ic5, e_null_n, e_null_r, e_nonn_n, e_nonn_r, e_ret0, e_ret1, e_ret20, e_ret21, e_retb, e_ret3, e_ret4, e_pi, e_pj, e_pf, e_pn, e_iadd, e_isub, e_imul, e_iand, e_ixor, e_ishl, e_ishr, e_iushr, e_ladd, e_lsub, e_lmul, e_idiv, e_irem, e_ldiv, e_lrem, e_ineg, e_lneg, e_lcmp, e_i2l, e_l2f, e_f2i, e_i2b, e_fcg, e_fcl, e_dup, e_dupi, e_dup2, s_il, s_ll, s_fl, s_al, s_inc, e_is, e_ls, e_fs, e_aS, e_gi, e_gb, e_gj, s_gr, s_pfi, s_pfj, s_pfb, s_v1, s_v2, s_v3, s_v4, s_v5, s_v6, s_s1, s_s2, s_s3, s_s4, s_s5, s_s6, m_kI_I, m_kJ_J, m_kF_F, m_kR_R, m_ld0, m_ldS, m_st0, m_stS, m_s1, m_s2, m_kl, Option.bind_some, Option.toList_some, Option.toList_none, List.cons_append, List.nil_append, Nat.zero_add, Nat.reduceAdd, Nat.reduceSub, Nat.zero_sub, Nat.reduceEqDiff, Int.reduceLE, Int.reduceLT, Int.reduceEq, Int.reduceNe, Int.reduceAdd, Int.reduceSub, Int.reduceMul, Int.reduceNeg, Int.reduceToNat, Int.toNat_zero, Int.toNat_one, Int.zero_add, Int.zero_mul, Int.one_mul, ↓reduceIte, not_false_eq_true, not_true_eq_false, m_up_s, m_up_c, m_up_k, ne_eq, and_self, and_true, true_and, and_false, false_and, or_true, or_false, true_or, false_or, a_2, u_2, l_2, a_4, u_4, l_4, a_7, u_7, l_7, a_9, u_9, l_9, a_10, u_10, l_10, a_11, u_11, l_11, a_12, u_12, l_12, a_14, u_14, l_14, a_75, u_75, l_75, a_76, u_76, l_76, a_78, u_78, l_78, a_79, u_79, l_79, a_81, u_81, l_81, a_82, u_82, l_82, a_83, u_83, l_83, a_85, u_85, l_85, a_87, u_87, l_87, a_88, u_88, l_88, a_89, u_89, l_89, a_90, u_90, l_90, a_91, u_91, l_91, a_92, u_92, l_92, r_0_0, r_0_1, r_0_2, r_0_3, r_0_4, r_0_5, r_0_6, r_1_0, r_3_0, r_5_0, r_6_2, r_8_9, r_8_10, r_8_11, r_8_12, r_8_13, r_13_2, r_15_0, r_73_0, r_73_1, r_74_2, r_74_3, r_77_2, r_77_3, r_80_0, r_80_1, r_80_2, r_80_3, r_84_2, r_86_0, r_86_1, r_86_3, r_86_7, r_86_11, r_86_12, w_n1, w_0, w_1, w_2, w_3, w_4, w_5, w_6, w_7, w_8, w_9, w_10, w_11, w_12, w_13, w_14, w_15, w_16, w_17, w_18, w_19, w_20, w_21, w_22, w_23, w_24, w_25, w_26, w_27, w_28, w_29, w_30, w_31, w_32, w_33, w_34, w_35, w_36, w_37, w_38, w_39, w_40, w_41, w_42, w_43, w_44, w_45, w_46, w_47, w_48, w_49, w_50, w_51, w_52, w_53, w_54, w_55, w_56, w_57, w_58, w_59, w_60, w_61, w_62, w_63, w_64, w_65, w_66, w_67, w_68, w_69, w_n1000, w_n1001, w_n1002, w_n1003, w_65536, w_1103, w_377, w_127, w_126, w_128, w_536, w_469, t_0_0, t_0_1, t_0_2, t_0_d, t_1_0, t_1_1, t_1_2, t_1_3, t_1_4, t_1_5, t_1_6, t_1_7, t_1_8, t_1_9, t_1_10, t_1_11, t_1_12, t_1_13, t_1_d, t_2_0, t_2_1, t_2_2, t_2_3, t_2_4, t_2_5, t_2_6, t_2_7, t_2_8, t_2_9, t_2_10, t_2_11, t_2_12, t_2_13, t_2_d, t_3_0, t_3_1, t_3_2, t_3_3, t_3_4, t_3_5, t_3_6, t_3_7, t_3_8, t_3_9, t_3_10, t_3_11, t_3_12, t_3_13, t_3_14, t_3_15, t_3_16, t_3_17, t_3_18, t_3_19, t_3_20, t_3_21, t_3_22, t_3_23, t_3_24, t_3_25, t_3_d, v_0_32, v_0_45, v_0_47, v_0_d, e_tsw, e_lsw, q_le1, q_le0, q_lt1, q_lt0, q_eq1, q_eq0, Int.add_zero, m_ca, Int.reduceNatCast', m_bite, m_b0, m_b1, m_nn, m_tn, m_w_id, m_x_id, x1, x2, x3, x4, hy.symm, hz.symm, b1, b2, mo, tm, Int.natCast_zero]
  · rw [if_neg g]
    have g1 : (sCn R r + sCn C c) % 2 = 1 := by omega
    rw [g1] at tm
    simp (disch := first | with_unfolding_all exact id rfl | with_unfolding_all exact ⟨rfl, by decide, Nat.le_of_ble_eq_true rfl⟩ | with_unfolding_all exact Nat.le_of_ble_eq_true rfl | omega) only [b_79_0, b_79_1, b_79_2, b_79_3, e_goto, e_fall, e_if0, e_if1, e_if2, e_if3, e_if4, e_if5, e_ic0, e_ic1, e_ic2, e_ic3, e_ic4, e_ic5, e_null_n, e_null_r, e_nonn_n, e_nonn_r, e_ret0, e_ret1, e_ret20, e_ret21, e_retb, e_ret3, e_ret4, e_pi, e_pj, e_pf, e_pn, e_iadd, e_isub, e_imul, e_iand, e_ixor, e_ishl, e_ishr, e_iushr, e_ladd, e_lsub, e_lmul, e_idiv, e_irem, e_ldiv, e_lrem, e_ineg, e_lneg, e_lcmp, e_i2l, e_l2f, e_f2i, e_i2b, e_fcg, e_fcl, e_dup, e_dupi, e_dup2, s_il, s_ll, s_fl, s_al, s_inc, e_is, e_ls, e_fs, e_aS, e_gi, e_gb, e_gj, s_gr, s_pfi, s_pfj, s_pfb, s_v1, s_v2, s_v3, s_v4, s_v5, s_v6, s_s1, s_s2, s_s3, s_s4, s_s5, s_s6, m_kI_I, m_kJ_J, m_kF_F, m_kR_R, m_ld0, m_ldS, m_st0, m_stS, m_s1, m_s2, m_kl, Option.bind_some, Option.toList_some, Option.toList_none, List.cons_append, List.nil_append, Nat.zero_add, Nat.reduceAdd, Nat.reduceSub, Nat.zero_sub, Nat.reduceEqDiff, Int.reduceLE, Int.reduceLT, Int.reduceEq, Int.reduceNe, Int.reduceAdd, Int.reduceSub, Int.reduceMul, Int.reduceNeg, Int.reduceToNat, Int.toNat_zero, Int.toNat_one, Int.zero_add, Int.zero_mul, Int.one_mul, ↓reduceIte, not_false_eq_true, not_true_eq_false, m_up_s, m_up_c, m_up_k, ne_eq, and_self, and_true, true_and, and_false, false_and, or_true, or_false, true_or, false_or, a_2, u_2, l_2, a_4, u_4, l_4, a_7, u_7, l_7, a_9, u_9, l_9, a_10, u_10, l_10, a_11, u_11, l_11, a_12, u_12, l_12, a_14, u_14, l_14, a_75, u_75, l_75, a_76, u_76, l_76, a_78, u_78, l_78, a_79, u_79, l_79, a_81, u_81, l_81, a_82, u_82, l_82, a_83, u_83, l_83, a_85, u_85, l_85, a_87, u_87, l_87, a_88, u_88, l_88, a_89, u_89, l_89, a_90, u_90, l_90, a_91, u_91, l_91, a_92, u_92, l_92, r_0_0, r_0_1, r_0_2, r_0_3, r_0_4, r_0_5, r_0_6, r_1_0, r_3_0, r_5_0, r_6_2, r_8_9, r_8_10, r_8_11, r_8_12, r_8_13, r_13_2, r_15_0, r_73_0, r_73_1, r_74_2, r_74_3, r_77_2, r_77_3, r_80_0, r_80_1, r_80_2, r_80_3, r_84_2, r_86_0, r_86_1, r_86_3, r_86_7, r_86_11, r_86_12, w_n1, w_0, w_1, w_2, w_3, w_4, w_5, w_6, w_7, w_8, w_9, w_10, w_11, w_12, w_13, w_14, w_15, w_16, w_17, w_18, w_19, w_20, w_21, w_22, w_23, w_24, w_25, w_26, w_27, w_28, w_29, w_30, w_31, w_32, w_33, w_34, w_35, w_36, w_37, w_38, w_39, w_40, w_41, w_42, w_43, w_44, w_45, w_46, w_47, w_48, w_49, w_50, w_51, w_52, w_53, w_54, w_55, w_56, w_57, w_58, w_59, w_60, w_61, w_62, w_63, w_64, w_65, w_66, w_67, w_68, w_69, w_n1000, w_n1001, w_n1002, w_n1003, w_65536, w_1103, w_377, w_127, w_126, w_128, w_536, w_469, t_0_0, t_0_1, t_0_2, t_0_d, t_1_0, t_1_1, t_1_2, t_1_3, t_1_4, t_1_5, t_1_6, t_1_7, t_1_8, t_1_9, t_1_10, t_1_11, t_1_12, t_1_13, t_1_d, t_2_0, t_2_1, t_2_2, t_2_3, t_2_4, t_2_5, t_2_6, t_2_7, t_2_8, t_2_9, t_2_10, t_2_11, t_2_12, t_2_13, t_2_d, t_3_0, t_3_1, t_3_2, t_3_3, t_3_4, t_3_5, t_3_6, t_3_7, t_3_8, t_3_9, t_3_10, t_3_11, t_3_12, t_3_13, t_3_14, t_3_15, t_3_16, t_3_17, t_3_18, t_3_19, t_3_20, t_3_21, t_3_22, t_3_23, t_3_24, t_3_25, t_3_d, v_0_32, v_0_45, v_0_47, v_0_d, e_tsw, e_lsw, q_le1, q_le0, q_lt1, q_lt0, q_eq1, q_eq0, Int.add_zero, m_ca, Int.reduceNatCast', m_bite, m_b0, m_b1, m_nn, m_tn, m_w_id, m_x_id, x1, x2, x3, x4, hy.symm, hz.symm, b1, b2, mo, tm, Int.natCast_one]
end CF
