/-! masks; low -/
theorem m_and_31 (x : Int) : m_and x 2147483647 = x % 2147483648 := by
  have e : m_and x 2147483647 = (BitVec.ofInt 32 x &&& BitVec.ofInt 32 2147483647).toInt := rfl
  have en : (BitVec.ofInt 32 x &&& BitVec.ofInt 32 2147483647).toNat = (x % 4294967296).toNat % 2147483648 := by
    rw [BitVec.toNat_and, BitVec.toNat_ofInt, show (BitVec.ofInt 32 2147483647).toNat = 2 ^ 31 - 1 from by decide, Nat.and_two_pow_sub_one_eq_mod]
    rfl
  rw [e, BitVec.toInt_eq_toNat_cond, en]
  split <;> omega
theorem m_and_16 (x : Int) : m_and x 65535 = x % 65536 := by
  have e : m_and x 65535 = (BitVec.ofInt 32 x &&& BitVec.ofInt 32 65535).toInt := rfl
  have en : (BitVec.ofInt 32 x &&& BitVec.ofInt 32 65535).toNat = (x % 4294967296).toNat % 65536 := by
    rw [BitVec.toNat_and, BitVec.toNat_ofInt, show (BitVec.ofInt 32 65535).toNat = 2 ^ 16 - 1 from by decide, Nat.and_two_pow_sub_one_eq_mod]
    rfl
  rw [e, BitVec.toInt_eq_toNat_cond, en]
  split <;> omega
theorem m_and_1 (x : Int) : m_and x 1 = x % 2 := by
  have e : m_and x 1 = (BitVec.ofInt 32 x &&& BitVec.ofInt 32 1).toInt := rfl
  have en : (BitVec.ofInt 32 x &&& BitVec.ofInt 32 1).toNat = (x % 4294967296).toNat % 2 := by
    rw [BitVec.toNat_and, BitVec.toNat_ofInt, show (BitVec.ofInt 32 1).toNat = 2 ^ 1 - 1 from by decide, Nat.and_two_pow_sub_one_eq_mod]
    rfl
  rw [e, BitVec.toInt_eq_toNat_cond, en]
  split <;> omega
/-- low -/
def jLo (v n : Int) : Int := v % 2147483648 % n
theorem jLo_b {v n : Int} (h : 0 < n) : 0 ≤ jLo v n ∧ jLo v n < n := ⟨Int.emod_nonneg _ (by omega), Int.emod_lt_of_pos _ h⟩
section LO
variable {d : Nat} {σ : Nat → Nat → Int} {v n : Int}
theorem j_low (h : 0 < n) : m_ev (d + 1) 125 [m_I v, m_I n] (m_G0, σ) = some (some (m_I (jLo v n)), (m_G0, σ)) := by
  have e : Int.tmod (v % 2147483648) n = jLo v n := Int.tmod_eq_emod_of_nonneg (by omega)
  rw [i_125]
  simp (disch := first | with_unfolding_all exact id rfl | with_unfolding_all exact ⟨rfl, by decide, Nat.le_of_ble_eq_true rfl⟩ | with_unfolding_all exact Nat.le_of_ble_eq_true rfl | omega) only [b_125_0, e_goto, e_fall, e_if0, e_if1, e_if2, e_if3, e_if4, e_if5, e_ic0, e_ic1, e_ic2, e_ic3, e_ic4, e_ic5, e_null_n, e_null_r, e_nonn_n, e_nonn_r, e_ret0, e_ret1, e_ret20, e_ret21, e_retb, e_ret3, e_ret4, e_pi, e_pj, e_pf, e_pn, e_iadd, e_isub, e_imul, e_iand, e_ixor, e_ishl, e_ishr, e_iushr, e_ladd, e_lsub, e_lmul, e_idiv, e_irem, e_ldiv, e_lrem, e_ineg, e_lneg, e_lcmp, e_i2l, e_l2f, e_f2i, e_i2b, e_fcg, e_fcl, e_dup, e_dupi, e_dup2, s_il, s_ll, s_fl, s_al, s_inc, e_is, e_ls, e_fs, e_aS, e_gi, e_gb, e_gj, s_gr, s_pfi, s_pfj, s_pfb, s_v1, s_v2, s_v3, s_v4, s_v5, s_v6, s_s1, s_s2, s_s3, s_s4, s_s5, s_s6, m_kI_I, m_kJ_J, m_kF_F, m_kR_R, m_ld0, m_ldS, m_st0, m_stS, m_s1, m_s2, m_kl, Option.bind_some, Option.toList_some, Option.toList_none, List.cons_append, List.nil_append, Nat.zero_add, Nat.reduceAdd, Nat.reduceSub, Nat.zero_sub, Nat.reduceEqDiff, Int.reduceLE, Int.reduceLT, Int.reduceEq, Int.reduceNe, Int.reduceAdd, Int.reduceSub, Int.reduceMul, Int.reduceNeg, Int.reduceToNat, Int.toNat_zero, Int.toNat_one, Int.zero_add, Int.zero_mul, Int.one_mul, ↓reduceIte, not_false_eq_true, not_true_eq_false, m_up_s, m_up_c, m_up_k, ne_eq, and_self, and_true, true_and, and_false, false_and, or_true, or_false, true_or, false_or, a_2, u_2, l_2, a_4, u_4, l_4, a_7, u_7, l_7, a_9, u_9, l_9, a_10, u_10, l_10, a_11, u_11, l_11, a_12, u_12, l_12, a_14, u_14, l_14, a_75, u_75, l_75, a_76, u_76, l_76, a_78, u_78, l_78, a_79, u_79, l_79, a_81, u_81, l_81, a_82, u_82, l_82, a_83, u_83, l_83, a_85, u_85, l_85, a_86, u_86, l_86, r_0_0, r_0_1, r_0_2, r_0_3, r_0_4, r_0_5, r_0_6, r_1_0, r_3_0, r_5_0, r_6_2, r_8_9, r_8_10, r_8_11, r_8_12, r_8_13, r_13_2, r_15_0, r_73_0, r_73_1, r_74_2, r_74_3, r_77_2, r_77_3, r_80_0, r_80_1, r_80_2, r_80_3, r_84_2, w_n1, w_0, w_1, w_2, w_3, w_4, w_5, w_6, w_7, w_8, w_9, w_10, w_11, w_12, w_13, w_14, w_15, w_16, w_17, w_18, w_19, w_20, w_21, w_22, w_23, w_24, w_25, w_26, w_27, w_28, w_29, w_30, w_31, w_32, w_33, w_34, w_35, w_36, w_37, w_38, w_39, w_40, w_41, w_42, w_43, w_44, w_45, w_46, w_47, w_48, w_49, w_50, w_51, w_52, w_53, w_54, w_55, w_56, w_57, w_58, w_59, w_60, w_61, w_62, w_63, w_64, w_65, w_66, w_67, w_68, w_69, w_n1000, w_n1001, w_n1002, w_n1003, w_65536, w_1103, w_377, w_127, w_126, w_128, w_65535, w_2147483647, w_795577677, t_0_0, t_0_1, t_0_2, t_0_d, t_1_0, t_1_1, t_1_2, t_1_3, t_1_4, t_1_5, t_1_6, t_1_7, t_1_8, t_1_9, t_1_10, t_1_11, t_1_12, t_1_13, t_1_d, v_0_32, v_0_45, v_0_47, v_0_d, e_tsw, e_lsw, q_le1, q_le0, q_lt1, q_lt0, q_eq1, q_eq0, Int.add_zero, m_ca, Int.reduceNatCast', m_bite, m_b0, m_b1, m_nn, m_tn, m_w_id, m_x_id, m_and_31, e]
end LO
/-! dice filled in by the law -/
def jFa (A B f V : Nat → Int) (p i : Nat) : Prop := (∀ k, ¬ (15 ≤ k ∧ k < 40) → B k = A k) ∧ ∀ q j : Nat, q < 5 → (j : Int) < f q → (q < p ∨ q = p ∧ j < i) → B (15 + 5 * q + j) = V (gOf f q + j)
section FL
variable {A B f V : Nat → Int} {p i : Nat}
theorem jOf_le (hb : ∀ p, p < 5 → 0 ≤ f p ∧ f p ≤ 5) {q : Nat} : ∀ (n : Nat), gOf f q + 0 ≤ gOf f (q + n)
  | 0 => Nat.le_refl _
  | n + 1 => Nat.le_trans (jOf_le hb n) (Nat.le_add_right _ _)
theorem jOf_lt (hb : ∀ p, p < 5 → 0 ≤ f p ∧ f p ≤ 5) {q j p : Nat} (hq : q < p) (hj : (j : Int) < f q) : gOf f q + j < gOf f p := by
  have h := jOf_le hb (f := f) (q := q + 1) (p - (q + 1))
  rw [show q + 1 + (p - (q + 1)) = p by omega] at h
  have e : gOf f (q + 1) = gOf f q + (f q).toNat := rfl
  omega
theorem jFa_0 : jFa A A f V 0 0 := ⟨fun _ _ => rfl, fun q j _ _ h => by omega⟩
theorem jFa_s (F : jFa A B f V p i) (hb : ∀ p, p < 5 → 0 ≤ f p ∧ f p ≤ 5) (hp : p < 5) (hi : (i : Int) < f p) {z : Int} (hz : z = V (gOf f p + i)) : jFa A (g1 B (15 + 5 * p + i) z) f V p (i + 1) := by
  have wp := hb p hp
  refine ⟨fun k hk => by rw [g1_n (by omega)]; exact F.1 k hk, fun q j hq hj h => ?_⟩
  have wq := hb q hq
  by_cases e : q = p ∧ j = i
  · rw [e.1, e.2, g1_s]; exact hz
  · rw [g1_n (by omega)]; exact F.2 q j hq hj (by omega)
theorem jFa_V (F : jFa A B f V p i) (hb : ∀ p, p < 5 → 0 ≤ f p ∧ f p ≤ 5) (hp : p < 5) (hi : (i : Int) < f p) {z : Int} : jFa A (g1 B (15 + 5 * p + i) z) f (g1 V (gOf f p + i) z) p (i + 1) := by
  have wp := hb p hp
  refine ⟨fun k hk => by rw [g1_n (by omega)]; exact F.1 k hk, fun q j hq hj h => ?_⟩
  have wq := hb q hq
  by_cases e : q = p ∧ j = i
  · rw [e.1, e.2, g1_s, g1_s]
  · have g : ¬ gOf f q + j = gOf f p + i := by
      by_cases e2 : q = p
      · rw [e2]; omega
      · have := jOf_lt hb (q := q) (j := j) (p := p) (by omega) hj
        omega
    rw [g1_n (by omega), g1_n g]; exact F.2 q j hq hj (by omega)
theorem jFa_p (F : jFa A B f V p i) (hi : f p ≤ (i : Int)) : jFa A B f V (p + 1) 0 := by
  refine ⟨F.1, fun q j hq hj h => ?_⟩
  by_cases e : q = p
  · subst e
    exact F.2 q j hq hj (Or.inr ⟨rfl, by omega⟩)
  · exact F.2 q j hq hj (Or.inl (by omega))
theorem R_dl {B' : Nat → Int} (R : jR A f) (hb : ∀ p, p < 5 → 0 ≤ f p ∧ f p ≤ 5) {P : Nat} (hz : ∀ q, q < 5 → P ≤ q → f q ≤ 0) (F : jFa A B f V P 0) (hB : B' = g1 B 42 1) : jR B' (gDl f V) := by
  subst hB
  refine ⟨fun k hk => by rw [g1_n (by omega), gDl_e (by omega) (by omega), F.1 k (by omega)]; exact R.1 k hk, fun k b c => ?_, fun h p i hp hi => ?_⟩
  · by_cases g : k = 42
    · rw [g, g1_s, gDl_42]
    · rw [g1_n g, gDl_e g (by omega), F.1 k (by omega)]; exact R.2.1 k b c
  · have wp := hb p hp
    rw [gDl_e (by omega) (by omega)] at hi
    have z : p < P := by
      apply Classical.byContradiction
      intro c
      have := hz p hp (by omega)
      omega
    rw [g1_n (by omega), gDl_f hp (by omega) hi]
    exact F.2 p i hp hi (Or.inl z)
end FL
