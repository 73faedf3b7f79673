/-! the class reads a matrix: the text -/
def sBv (q e v : Int) : Int := if q = 1 then 10 * e - v else 10 * e + v
def sB (t : Nat → Int) (l : Nat) : Nat → Int → Int → Int → Int → Int → Int → (Nat → Int) → Int × Int × Int × (Nat → Int)
  | 0, r, i, k, _, b, _, E => (if b = 0 ∧ sRC r i k then -1003 else (l : Int), r + 1, i, E)
  | n + 1, r, i, k, g, b, q, E => if 48 ≤ t (l - (n + 1)) ∧ t (l - (n + 1)) ≤ 57 then
      (if g = 2 ∨ (g = 0 ∧ b = 0 ∧ k ≤ i) then (((l - (n + 1) : Nat) : Int), r, i, E)
      else if g = 0 ∧ b = 0 then sB t l n r (i + 1) k 1 0 0 (g1 E (4 * r.toNat + i.toNat) (t (l - (n + 1)) - 48))
      else sB t l n r i k (g + 1) 0 q (g1 E (4 * r.toNat + i.toNat - 1) (sBv q (E (4 * r.toNat + i.toNat - 1)) (t (l - (n + 1)) - 48))))
    else if b = 1 then (((l - (n + 1) : Nat) : Int), r, i, E)
    else if t (l - (n + 1)) = 32 then sB t l n r i k 0 0 q E
    else if t (l - (n + 1)) = 45 then (if k ≤ i then (((l - (n + 1) : Nat) : Int), r, i, E) else sB t l n r (i + 1) k 0 1 1 (g1 E (4 * r.toNat + i.toNat) 0))
    else if t (l - (n + 1)) = 47 then (if sRC r i k ∧ r + 1 < 4 then sB t l n (r + 1) 0 i 0 0 q E else (((l - (n + 1) : Nat) : Int), r, i, E))
    else (((l - (n + 1) : Nat) : Int), r, i, E)
/-- what has been written of the matrix -/
abbrev sWr (r i k : Int) (a c : Nat) : Prop := ((a : Int) < r ∧ (c : Int) < k) ∨ ((a : Int) = r ∧ (c : Int) < i)
def sBE (r i k g b q : Int) (E : Nat → Int) : Prop := (q = 0 ∨ q = 1) ∧ (b = 1 → E (4 * r.toNat + i.toNat - 1) = 0) ∧ (g = 1 → -9 ≤ E (4 * r.toNat + i.toNat - 1) ∧ E (4 * r.toNat + i.toNat - 1) ≤ 9) ∧ ∀ a c : Nat, sWr r i k a c → -99 ≤ E (4 * a + c) ∧ E (4 * a + c) ≤ 99
def sAg (r i k : Int) (E E' : Nat → Int) : Prop := ∀ a c : Nat, sWr r i k a c → E (4 * a + c) = E' (4 * a + c)
section MD
variable {r i k g b q v : Int} {E E' : Nat → Int}
/-- a cell is written, the next one or the present one again -/
theorem sAg_1 (R : sBR r i k g b) (h : ¬ k ≤ i) (A : sAg r i k E E') : sAg r (i + 1) k (g1 E (4 * r.toNat + i.toNat) v) (g1 E' (4 * r.toNat + i.toNat) v) := by
  intro a c w
  obtain ⟨r1, r2, r3, r4, r5, r6⟩ := R
  by_cases z : 4 * a + c = 4 * r.toNat + i.toNat
  · rw [z, g1_s, g1_s]
  · rw [g1_n z, g1_n z]
    refine A a c ?_
    rcases w with w | w
    · exact Or.inl w
    · exact Or.inr (by omega)
theorem sAg_2 (R : sBR r i k g b) (h : 1 ≤ i) (A : sAg r i k E E') : sAg r i k (g1 E (4 * r.toNat + i.toNat - 1) v) (g1 E' (4 * r.toNat + i.toNat - 1) v) := by
  intro a c w
  by_cases z : 4 * a + c = 4 * r.toNat + i.toNat - 1
  · rw [z, g1_s, g1_s]
  · rw [g1_n z, g1_n z]
    exact A a c w
theorem sAg_3 (R : sBR r i k g b) (A : sAg r i k E E') : sAg (r + 1) 0 i E E' := by
  intro a c w
  obtain ⟨r1, r2, r3, r4, r5, r6⟩ := R
  refine A a c ?_
  rcases w with w | w
  · by_cases z : (a : Int) < r
    · exact Or.inl (by omega)
    · exact Or.inr (by omega)
  · exact absurd w.2 (by omega)
theorem sAg_p (R : sBR r i k g b) (h : 1 ≤ i) (A : sAg r i k E E') : E (4 * r.toNat + i.toNat - 1) = E' (4 * r.toNat + i.toNat - 1) := by
  obtain ⟨r1, r2, r3, r4, r5, r6⟩ := R
  have := A r.toNat (i.toNat - 1) (Or.inr (by omega))
  rw [show 4 * r.toNat + (i.toNat - 1) = 4 * r.toNat + i.toNat - 1 by omega] at this
  exact this
theorem sBE_1 (R : sBR r i k g b) (h : ¬ k ≤ i) (B : sBE r i k g b q E) {g' b' q' : Int} (hq : q' = 0 ∨ q' = 1) (hb : b' = 1 → v = 0) (hv : -9 ≤ v ∧ v ≤ 9) : sBE r (i + 1) k g' b' q' (g1 E (4 * r.toNat + i.toNat) v) := by
  obtain ⟨r1, r2, r3, r4, r5, r6⟩ := R
  have e : 4 * r.toNat + (i + 1).toNat - 1 = 4 * r.toNat + i.toNat := by omega
  refine ⟨hq, fun z => ?_, fun _ => ?_, fun a c w => ?_⟩
  · rw [e, g1_s]; exact hb z
  · rw [e, g1_s]; exact hv
  · by_cases z : 4 * a + c = 4 * r.toNat + i.toNat
    · rw [z, g1_s]; omega
    · rw [g1_n z]
      refine B.2.2.2 a c ?_
      rcases w with w | w
      · exact Or.inl w
      · exact Or.inr (by omega)
theorem sBE_2 (R : sBR r i k g b) (h : 1 ≤ i) (B : sBE r i k g b q E) {g' : Int} (hg : g' = 1 → -9 ≤ v ∧ v ≤ 9) (hv : -99 ≤ v ∧ v ≤ 99) : sBE r i k g' 0 q (g1 E (4 * r.toNat + i.toNat - 1) v) := by
  refine ⟨B.1, fun z => absurd z (by decide), fun z => ?_, fun a c w => ?_⟩
  · rw [g1_s]; exact hg z
  · by_cases z : 4 * a + c = 4 * r.toNat + i.toNat - 1
    · rw [z, g1_s]; exact hv
    · rw [g1_n z]; exact B.2.2.2 a c w
theorem sBE_3 (R : sBR r i k g b) (B : sBE r i k g b q E) : sBE (r + 1) 0 i 0 0 q E := by
  obtain ⟨r1, r2, r3, r4, r5, r6⟩ := R
  refine ⟨B.1, fun z => absurd z (by decide), fun z => absurd z (by decide), fun a c w => B.2.2.2 a c ?_⟩
  rcases w with w | w
  · by_cases z : (a : Int) < r
    · exact Or.inl (by omega)
    · exact Or.inr (by omega)
  · exact absurd w.2 (by omega)
theorem sBE_0 (B : sBE r i k g b q E) : sBE r i k 0 0 q E := ⟨B.1, fun z => absurd z (by decide), fun z => absurd z (by decide), B.2.2.2⟩
end MD
section ME
variable {d : Nat} {σ : Nat → Nat → Int} {l : Nat} {t : Nat → Int}
/-- what is known when the class has read a matrix -/
def sBF (σ s' : Nat → Nat → Int) (z : Int × Int × Int × (Nat → Int)) : Prop := (∀ x, ¬ x = 5 → ¬ x = 6 → ¬ x = 7 → s' x = σ x) ∧ (z.1 = -1003 → ((s' 6 0 = z.2.1 ∧ s' 6 1 = z.2.2.1) ∧ (1 ≤ z.2.1 ∧ z.2.1 ≤ 4) ∧ 1 ≤ z.2.2.1 ∧ z.2.2.1 ≤ 4) ∧ ∀ a c : Nat, (a : Int) < z.2.1 → (c : Int) < z.2.2.1 → s' 7 (4 * a + c) = z.2.2.2 (4 * a + c) ∧ -99 ≤ z.2.2.2 (4 * a + c) ∧ z.2.2.2 (4 * a + c) ≤ 99)
theorem c_ml (X : sTX σ l t) (hl : l ≤ 60) (ht : ∀ i, i < l → 0 ≤ t i ∧ t i ≤ 127) : ∀ (n : Nat), n ≤ l → ∀ (r i k g b q : Int) (E : Nat → Int) (s : Nat → Nat → Int), sBR r i k g b → sBE r i k g b q E → (∀ x, ¬ x = 5 → ¬ x = 6 → ¬ x = 7 → s x = σ x) → sBM s r i k g b → (b = 1 ∨ 1 ≤ g → s 5 6 = q) → sAg r i k (s 7) E → ∃ s' : Nat → Nat → Int, m_e none (m_ev (d + 5)) 15 (m_blk 15 1) [m_R 5, m_R 1, m_I ((l - n : Nat) : Int)] [] (m_G0, s) = some (some (m_I (sB t l n r i k g b q E).1), (m_G0, s')) ∧ sBF σ s' (sB t l n r i k g b q E)
  | 0, hn, r, i, k, g, b, q, E, s, R, B, hF, M, h6, A => by
    have e1 : s 1 1 = (l : Int) := by rw [hF 1 (by decide) (by decide) (by decide)]; exact X.1
    have c := fun d => c_rc (d := d) M
    obtain ⟨m1, m2, m3, m4, m5⟩ := M
    have R0 := R
    obtain ⟨r1, r2, r3, r4, r5, r6⟩ := R
    have e : sB t l 0 r i k g b q E = (if b = 0 ∧ sRC r i k then -1003 else (l : Int), r + 1, i, E) := rfl
    rw [e]
    by_cases hb : b = 0
    · by_cases hr : sRC r i k
      · rw [if_pos ⟨hb, hr⟩]
        rw [if_pos hr] at c
        refine ⟨m_up (m_up s 6 0 (r + 1)) 6 1 i, ?_, fun x a b c => by rw [m_up_x b, m_up_x b]; exact hF x a b c, fun _ => ⟨⟨⟨by rw [m_up_k (by decide), m_up_s], m_up_s⟩, by show 1 ≤ r + 1 ∧ r + 1 ≤ 4; omega, by show 1 ≤ i ∧ i ≤ 4; omega⟩, fun a c ha hc => ?_⟩⟩
        · rw [b_15_1]
          simp (disch := first | with_unfolding_all exact id rfl | with_unfolding_all exact ⟨rfl, by decide, Nat.le_of_ble_eq_true rfl⟩ | with_unfolding_all exact Nat.le_of_ble_eq_true rfl | omega) only [b_15_0, b_15_2, b_15_3, b_15_4, b_15_5, b_15_6, b_15_7, b_15_8, e_goto, e_fall, e_if0, e_if1, e_if2, e_if3, e_if4, e_if5, e_ic0, e_ic1, e_ic2, e_ic3, e_ic4, e_ic5, e_null_n, e_null_r, e_nonn_n, e_nonn_r, e_ret0, e_ret1, e_ret20, e_ret21, e_retb, e_ret3, e_ret4, e_pi, e_pj, e_pf, e_pn, e_iadd, e_isub, e_imul, e_iand, e_ixor, e_ishl, e_ishr, e_iushr, e_ladd, e_lsub, e_lmul, e_idiv, e_irem, e_ldiv, e_lrem, e_ineg, e_lneg, e_lcmp, e_i2l, e_l2f, e_f2i, e_i2b, e_fcg, e_fcl, e_dup, e_dupi, e_dup2, s_il, s_ll, s_fl, s_al, s_inc, e_is, e_ls, e_fs, e_aS, e_gi, e_gb, e_gj, s_gr, s_pfi, s_pfj, s_pfb, s_v1, s_v2, s_v3, s_v4, s_v5, s_v6, s_s1, s_s2, s_s3, s_s4, s_s5, s_s6, m_kI_I, m_kJ_J, m_kF_F, m_kR_R, m_ld0, m_ldS, m_st0, m_stS, m_s1, m_s2, m_kl, Option.bind_some, Option.toList_some, Option.toList_none, List.cons_append, List.nil_append, Nat.zero_add, Nat.reduceAdd, Nat.reduceSub, Nat.zero_sub, Nat.reduceEqDiff, Int.reduceLE, Int.reduceLT, Int.reduceEq, Int.reduceNe, Int.reduceAdd, Int.reduceSub, Int.reduceMul, Int.reduceNeg, Int.reduceToNat, Int.toNat_zero, Int.toNat_one, Int.zero_add, Int.zero_mul, Int.one_mul, ↓reduceIte, not_false_eq_true, not_true_eq_false, m_up_s, m_up_c, m_up_k, ne_eq, and_self, and_true, true_and, and_false, false_and, or_true, or_false, true_or, false_or, a_2, u_2, l_2, a_4, u_4, l_4, a_7, u_7, l_7, a_9, u_9, l_9, a_10, u_10, l_10, a_11, u_11, l_11, a_12, u_12, l_12, a_14, u_14, l_14, a_75, u_75, l_75, a_76, u_76, l_76, a_78, u_78, l_78, a_79, u_79, l_79, a_81, u_81, l_81, a_82, u_82, l_82, a_83, u_83, l_83, a_85, u_85, l_85, a_87, u_87, l_87, a_88, u_88, l_88, a_89, u_89, l_89, a_90, u_90, l_90, a_91, u_91, l_91, a_92, u_92, l_92, r_0_0, r_0_1, r_0_2, r_0_3, r_0_4, r_0_5, r_0_6, r_1_0, r_3_0, r_5_0, r_6_2, r_8_9, r_8_10, r_8_11, r_8_12, r_8_13, r_13_2, r_15_0, r_73_0, r_73_1, r_74_2, r_74_3, r_77_2, r_77_3, r_80_0, r_80_1, r_80_2, r_80_3, r_84_2, r_86_0, r_86_1, r_86_3, r_86_7, r_86_11, r_86_12, w_n1, w_0, w_1, w_2, w_3, w_4, w_5, w_6, w_7, w_8, w_9, w_10, w_11, w_12, w_13, w_14, w_15, w_16, w_17, w_18, w_19, w_20, w_21, w_22, w_23, w_24, w_25, w_26, w_27, w_28, w_29, w_30, w_31, w_32, w_33, w_34, w_35, w_36, w_37, w_38, w_39, w_40, w_41, w_42, w_43, w_44, w_45, w_46, w_47, w_48, w_49, w_50, w_51, w_52, w_53, w_54, w_55, w_56, w_57, w_58, w_59, w_60, w_61, w_62, w_63, w_64, w_65, w_66, w_67, w_68, w_69, w_n1000, w_n1001, w_n1002, w_n1003, w_65536, w_1103, w_377, w_127, w_126, w_128, w_536, w_469, t_0_0, t_0_1, t_0_2, t_0_d, t_1_0, t_1_1, t_1_2, t_1_3, t_1_4, t_1_5, t_1_6, t_1_7, t_1_8, t_1_9, t_1_10, t_1_11, t_1_12, t_1_13, t_1_d, t_2_0, t_2_1, t_2_2, t_2_3, t_2_4, t_2_5, t_2_6, t_2_7, t_2_8, t_2_9, t_2_10, t_2_11, t_2_12, t_2_13, t_2_d, t_3_0, t_3_1, t_3_2, t_3_3, t_3_4, t_3_5, t_3_6, t_3_7, t_3_8, t_3_9, t_3_10, t_3_11, t_3_12, t_3_13, t_3_14, t_3_15, t_3_16, t_3_17, t_3_18, t_3_19, t_3_20, t_3_21, t_3_22, t_3_23, t_3_24, t_3_25, t_3_d, v_0_32, v_0_45, v_0_47, v_0_d, e_tsw, e_lsw, q_le1, q_le0, q_lt1, q_lt0, q_eq1, q_eq0, Int.add_zero, m_ca, Int.reduceNatCast', m_bite, m_b0, m_b1, m_nn, m_tn, m_w_id, m_x_id, e1, m1, m2, m5, c, hb, Nat.sub_zero]
        · have ha2 : (a : Int) < r + 1 := ha
          have hc2 : (c : Int) < i := hc
          have w : sWr r i k a c := by
            by_cases z : (a : Int) < r
            · exact Or.inl (by omega)
            · exact Or.inr (by omega)
          exact ⟨by rw [m_up_x (by decide), m_up_x (by decide)]; exact A a c w, B.2.2.2 a c w⟩
      · rw [if_neg (fun z => hr z.2)]
        rw [if_neg hr] at c
        refine ⟨s, ?_, hF, fun z => absurd z (by show ¬ (l : Int) = -1003; omega)⟩
        rw [b_15_1]
        simp (disch := first | with_unfolding_all exact id rfl | with_unfolding_all exact ⟨rfl, by decide, Nat.le_of_ble_eq_true rfl⟩ | with_unfolding_all exact Nat.le_of_ble_eq_true rfl | omega) only [b_15_0, b_15_2, b_15_3, b_15_4, b_15_5, b_15_6, b_15_7, b_15_8, e_goto, e_fall, e_if0, e_if1, e_if2, e_if3, e_if4, e_if5, e_ic0, e_ic1, e_ic2, e_ic3, e_ic4, e_ic5, e_null_n, e_null_r, e_nonn_n, e_nonn_r, e_ret0, e_ret1, e_ret20, e_ret21, e_retb, e_ret3, e_ret4, e_pi, e_pj, e_pf, e_pn, e_iadd, e_isub, e_imul, e_iand, e_ixor, e_ishl, e_ishr, e_iushr, e_ladd, e_lsub, e_lmul, e_idiv, e_irem, e_ldiv, e_lrem, e_ineg, e_lneg, e_lcmp, e_i2l, e_l2f, e_f2i, e_i2b, e_fcg, e_fcl, e_dup, e_dupi, e_dup2, s_il, s_ll, s_fl, s_al, s_inc, e_is, e_ls, e_fs, e_aS, e_gi, e_gb, e_gj, s_gr, s_pfi, s_pfj, s_pfb, s_v1, s_v2, s_v3, s_v4, s_v5, s_v6, s_s1, s_s2, s_s3, s_s4, s_s5, s_s6, m_kI_I, m_kJ_J, m_kF_F, m_kR_R, m_ld0, m_ldS, m_st0, m_stS, m_s1, m_s2, m_kl, Option.bind_some, Option.toList_some, Option.toList_none, List.cons_append, List.nil_append, Nat.zero_add, Nat.reduceAdd, Nat.reduceSub, Nat.zero_sub, Nat.reduceEqDiff, Int.reduceLE, Int.reduceLT, Int.reduceEq, Int.reduceNe, Int.reduceAdd, Int.reduceSub, Int.reduceMul, Int.reduceNeg, Int.reduceToNat, Int.toNat_zero, Int.toNat_one, Int.zero_add, Int.zero_mul, Int.one_mul, ↓reduceIte, not_false_eq_true, not_true_eq_false, m_up_s, m_up_c, m_up_k, ne_eq, and_self, and_true, true_and, and_false, false_and, or_true, or_false, true_or, false_or, a_2, u_2, l_2, a_4, u_4, l_4, a_7, u_7, l_7, a_9, u_9, l_9, a_10, u_10, l_10, a_11, u_11, l_11, a_12, u_12, l_12, a_14, u_14, l_14, a_75, u_75, l_75, a_76, u_76, l_76, a_78, u_78, l_78, a_79, u_79, l_79, a_81, u_81, l_81, a_82, u_82, l_82, a_83, u_83, l_83, a_85, u_85, l_85, a_87, u_87, l_87, a_88, u_88, l_88, a_89, u_89, l_89, a_90, u_90, l_90, a_91, u_91, l_91, a_92, u_92, l_92, r_0_0, r_0_1, r_0_2, r_0_3, r_0_4, r_0_5, r_0_6, r_1_0, r_3_0, r_5_0, r_6_2, r_8_9, r_8_10, r_8_11, r_8_12, r_8_13, r_13_2, r_15_0, r_73_0, r_73_1, r_74_2, r_74_3, r_77_2, r_77_3, r_80_0, r_80_1, r_80_2, r_80_3, r_84_2, r_86_0, r_86_1, r_86_3, r_86_7, r_86_11, r_86_12, w_n1, w_0, w_1, w_2, w_3, w_4, w_5, w_6, w_7, w_8, w_9, w_10, w_11, w_12, w_13, w_14, w_15, w_16, w_17, w_18, w_19, w_20, w_21, w_22, w_23, w_24, w_25, w_26, w_27, w_28, w_29, w_30, w_31, w_32, w_33, w_34, w_35, w_36, w_37, w_38, w_39, w_40, w_41, w_42, w_43, w_44, w_45, w_46, w_47, w_48, w_49, w_50, w_51, w_52, w_53, w_54, w_55, w_56, w_57, w_58, w_59, w_60, w_61, w_62, w_63, w_64, w_65, w_66, w_67, w_68, w_69, w_n1000, w_n1001, w_n1002, w_n1003, w_65536, w_1103, w_377, w_127, w_126, w_128, w_536, w_469, t_0_0, t_0_1, t_0_2, t_0_d, t_1_0, t_1_1, t_1_2, t_1_3, t_1_4, t_1_5, t_1_6, t_1_7, t_1_8, t_1_9, t_1_10, t_1_11, t_1_12, t_1_13, t_1_d, t_2_0, t_2_1, t_2_2, t_2_3, t_2_4, t_2_5, t_2_6, t_2_7, t_2_8, t_2_9, t_2_10, t_2_11, t_2_12, t_2_13, t_2_d, t_3_0, t_3_1, t_3_2, t_3_3, t_3_4, t_3_5, t_3_6, t_3_7, t_3_8, t_3_9, t_3_10, t_3_11, t_3_12, t_3_13, t_3_14, t_3_15, t_3_16, t_3_17, t_3_18, t_3_19, t_3_20, t_3_21, t_3_22, t_3_23, t_3_24, t_3_25, t_3_d, v_0_32, v_0_45, v_0_47, v_0_d, e_tsw, e_lsw, q_le1, q_le0, q_lt1, q_lt0, q_eq1, q_eq0, Int.add_zero, m_ca, Int.reduceNatCast', m_bite, m_b0, m_b1, m_nn, m_tn, m_w_id, m_x_id, e1, m1, m2, m5, c, hb, Nat.sub_zero]
    · rw [if_neg (fun z => hb z.1)]
      refine ⟨s, ?_, hF, fun z => absurd z (by show ¬ (l : Int) = -1003; omega)⟩
      rw [b_15_1]
      simp (disch := first | with_unfolding_all exact id rfl | with_unfolding_all exact ⟨rfl, by decide, Nat.le_of_ble_eq_true rfl⟩ | with_unfolding_all exact Nat.le_of_ble_eq_true rfl | omega) only [b_15_0, b_15_2, b_15_3, b_15_4, b_15_5, b_15_6, b_15_7, b_15_8, e_goto, e_fall, e_if0, e_if1, e_if2, e_if3, e_if4, e_if5, e_ic0, e_ic1, e_ic2, e_ic3, e_ic4, e_ic5, e_null_n, e_null_r, e_nonn_n, e_nonn_r, e_ret0, e_ret1, e_ret20, e_ret21, e_retb, e_ret3, e_ret4, e_pi, e_pj, e_pf, e_pn, e_iadd, e_isub, e_imul, e_iand, e_ixor, e_ishl, e_ishr, e_iushr, e_ladd, e_lsub, e_lmul, e_idiv, e_irem, e_ldiv, e_lrem, e_ineg, e_lneg, e_lcmp, e_i2l, e_l2f, e_f2i, e_i2b, e_fcg, e_fcl, e_dup, e_dupi, e_dup2, s_il, s_ll, s_fl, s_al, s_inc, e_is, e_ls, e_fs, e_aS, e_gi, e_gb, e_gj, s_gr, s_pfi, s_pfj, s_pfb, s_v1, s_v2, s_v3, s_v4, s_v5, s_v6, s_s1, s_s2, s_s3, s_s4, s_s5, s_s6, m_kI_I, m_kJ_J, m_kF_F, m_kR_R, m_ld0, m_ldS, m_st0, m_stS, m_s1, m_s2, m_kl, Option.bind_some, Option.toList_some, Option.toList_none, List.cons_append, List.nil_append, Nat.zero_add, Nat.reduceAdd, Nat.reduceSub, Nat.zero_sub, Nat.reduceEqDiff, Int.reduceLE, Int.reduceLT, Int.reduceEq, Int.reduceNe, Int.reduceAdd, Int.reduceSub, Int.reduceMul, Int.reduceNeg, Int.reduceToNat, Int.toNat_zero, Int.toNat_one, Int.zero_add, Int.zero_mul, Int.one_mul, ↓reduceIte, not_false_eq_true, not_true_eq_false, m_up_s, m_up_c, m_up_k, ne_eq, and_self, and_true, true_and, and_false, false_and, or_true, or_false, true_or, false_or, a_2, u_2, l_2, a_4, u_4, l_4, a_7, u_7, l_7, a_9, u_9, l_9, a_10, u_10, l_10, a_11, u_11, l_11, a_12, u_12, l_12, a_14, u_14, l_14, a_75, u_75, l_75, a_76, u_76, l_76, a_78, u_78, l_78, a_79, u_79, l_79, a_81, u_81, l_81, a_82, u_82, l_82, a_83, u_83, l_83, a_85, u_85, l_85, a_87, u_87, l_87, a_88, u_88, l_88, a_89, u_89, l_89, a_90, u_90, l_90, a_91, u_91, l_91, a_92, u_92, l_92, r_0_0, r_0_1, r_0_2, r_0_3, r_0_4, r_0_5, r_0_6, r_1_0, r_3_0, r_5_0, r_6_2, r_8_9, r_8_10, r_8_11, r_8_12, r_8_13, r_13_2, r_15_0, r_73_0, r_73_1, r_74_2, r_74_3, r_77_2, r_77_3, r_80_0, r_80_1, r_80_2, r_80_3, r_84_2, r_86_0, r_86_1, r_86_3, r_86_7, r_86_11, r_86_12, w_n1, w_0, w_1, w_2, w_3, w_4, w_5, w_6, w_7, w_8, w_9, w_10, w_11, w_12, w_13, w_14, w_15, w_16, w_17, w_18, w_19, w_20, w_21, w_22, w_23, w_24, w_25, w_26, w_27, w_28, w_29, w_30, w_31, w_32, w_33, w_34, w_35, w_36, w_37, w_38, w_39, w_40, w_41, w_42, w_43, w_44, w_45, w_46, w_47, w_48, w_49, w_50, w_51, w_52, w_53, w_54, w_55, w_56, w_57, w_58, w_59, w_60, w_61, w_62, w_63, w_64, w_65, w_66, w_67, w_68, w_69, w_n1000, w_n1001, w_n1002, w_n1003, w_65536, w_1103, w_377, w_127, w_126, w_128, w_536, w_469, t_0_0, t_0_1, t_0_2, t_0_d, t_1_0, t_1_1, t_1_2, t_1_3, t_1_4, t_1_5, t_1_6, t_1_7, t_1_8, t_1_9, t_1_10, t_1_11, t_1_12, t_1_13, t_1_d, t_2_0, t_2_1, t_2_2, t_2_3, t_2_4, t_2_5, t_2_6, t_2_7, t_2_8, t_2_9, t_2_10, t_2_11, t_2_12, t_2_13, t_2_d, t_3_0, t_3_1, t_3_2, t_3_3, t_3_4, t_3_5, t_3_6, t_3_7, t_3_8, t_3_9, t_3_10, t_3_11, t_3_12, t_3_13, t_3_14, t_3_15, t_3_16, t_3_17, t_3_18, t_3_19, t_3_20, t_3_21, t_3_22, t_3_23, t_3_24, t_3_25, t_3_d, v_0_32, v_0_45, v_0_47, v_0_d, e_tsw, e_lsw, q_le1, q_le0, q_lt1, q_lt0, q_eq1, q_eq0, Int.add_zero, m_ca, Int.reduceNatCast', m_bite, m_b0, m_b1, m_nn, m_tn, m_w_id, m_x_id, e1, m1, m2, m5, hb, Nat.sub_zero]
  | n + 1, hn, r, i, k, g, b, q, E, s, R, B, hF, M, h6, A => by
    have Xs : sTX s l t := ⟨by rw [hF 1 (by decide) (by decide) (by decide)]; exact X.1, fun i hi => by rw [hF 2 (by decide) (by decide) (by decide)]; exact X.2 i hi⟩
    have e1 := Xs.1
    obtain ⟨j, hj⟩ : ∃ j, j = l - (n + 1) := ⟨_, rfl⟩
    have hj1 : l - n = j + 1 := by omega
    have a := fun d => c_tat (d := d) (i := j) Xs hl (by omega)
    have hx := ht j (by omega)
    have ih := c_ml X hl ht n (by omega)
    rw [hj1] at ih
    have R0 := R
    obtain ⟨r1, r2, r3, r4, r5, r6⟩ := R
    have M0 := M
    obtain ⟨m1, m2, m3, m4, m5⟩ := M
    have e : sB t l (n + 1) r i k g b q E = if 48 ≤ t (l - (n + 1)) ∧ t (l - (n + 1)) ≤ 57 then
      (if g = 2 ∨ (g = 0 ∧ b = 0 ∧ k ≤ i) then (((l - (n + 1) : Nat) : Int), r, i, E)
      else if g = 0 ∧ b = 0 then sB t l n r (i + 1) k 1 0 0 (g1 E (4 * r.toNat + i.toNat) (t (l - (n + 1)) - 48))
      else sB t l n r i k (g + 1) 0 q (g1 E (4 * r.toNat + i.toNat - 1) (sBv q (E (4 * r.toNat + i.toNat - 1)) (t (l - (n + 1)) - 48))))
    else if b = 1 then (((l - (n + 1) : Nat) : Int), r, i, E)
    else if t (l - (n + 1)) = 32 then sB t l n r i k 0 0 q E
    else if t (l - (n + 1)) = 45 then (if k ≤ i then (((l - (n + 1) : Nat) : Int), r, i, E) else sB t l n r (i + 1) k 0 1 1 (g1 E (4 * r.toNat + i.toNat) 0))
    else if t (l - (n + 1)) = 47 then (if sRC r i k ∧ r + 1 < 4 then sB t l n (r + 1) 0 i 0 0 q E else (((l - (n + 1) : Nat) : Int), r, i, E))
    else (((l - (n + 1) : Nat) : Int), r, i, E) := rfl
    rw [e, ← hj]
    have bad : ∀ s' : Nat → Nat → Int, (∀ x, ¬ x = 5 → ¬ x = 6 → ¬ x = 7 → s' x = s x) → (∀ d, m_ev (d + 5) 17 [m_R 5, m_I (t j)] (m_G0, s) = some (some (m_I 0), (m_G0, s'))) → ∃ s'' : Nat → Nat → Int, m_e none (m_ev (d + 5)) 15 (m_blk 15 1) [m_R 5, m_R 1, m_I (j : Int)] [] (m_G0, s) = some (some (m_I ((j : Nat) : Int)), (m_G0, s'')) ∧ sBF σ s'' (((j : Nat) : Int), r, i, E) := fun s' hs tk => by
      refine ⟨s', ?_, fun x a b c => by rw [hs x a b c]; exact hF x a b c, fun z => absurd z (by show ¬ (j : Int) = -1003; omega)⟩
      rw [b_15_1]
      simp (disch := first | with_unfolding_all exact id rfl | with_unfolding_all exact ⟨rfl, by decide, Nat.le_of_ble_eq_true rfl⟩ | with_unfolding_all exact Nat.le_of_ble_eq_true rfl | omega) only [b_15_0, b_15_2, b_15_3, b_15_4, b_15_5, b_15_6, b_15_7, b_15_8, e_goto, e_fall, e_if0, e_if1, e_if2, e_if3, e_if4, e_if5, e_ic0, e_ic1, e_ic2, e_ic3, e_ic4, e_ic5, e_null_n, e_null_r, e_nonn_n, e_nonn_r, e_ret0, e_ret1, e_ret20, e_ret21, e_retb, e_ret3, e_ret4, e_pi, e_pj, e_pf, e_pn, e_iadd, e_isub, e_imul, e_iand, e_ixor, e_ishl, e_ishr, e_iushr, e_ladd, e_lsub, e_lmul, e_idiv, e_irem, e_ldiv, e_lrem, e_ineg, e_lneg, e_lcmp, e_i2l, e_l2f, e_f2i, e_i2b, e_fcg, e_fcl, e_dup, e_dupi, e_dup2, s_il, s_ll, s_fl, s_al, s_inc, e_is, e_ls, e_fs, e_aS, e_gi, e_gb, e_gj, s_gr, s_pfi, s_pfj, s_pfb, s_v1, s_v2, s_v3, s_v4, s_v5, s_v6, s_s1, s_s2, s_s3, s_s4, s_s5, s_s6, m_kI_I, m_kJ_J, m_kF_F, m_kR_R, m_ld0, m_ldS, m_st0, m_stS, m_s1, m_s2, m_kl, Option.bind_some, Option.toList_some, Option.toList_none, List.cons_append, List.nil_append, Nat.zero_add, Nat.reduceAdd, Nat.reduceSub, Nat.zero_sub, Nat.reduceEqDiff, Int.reduceLE, Int.reduceLT, Int.reduceEq, Int.reduceNe, Int.reduceAdd, Int.reduceSub, Int.reduceMul, Int.reduceNeg, Int.reduceToNat, Int.toNat_zero, Int.toNat_one, Int.zero_add, Int.zero_mul, Int.one_mul, ↓reduceIte, not_false_eq_true, not_true_eq_false, m_up_s, m_up_c, m_up_k, ne_eq, and_self, and_true, true_and, and_false, false_and, or_true, or_false, true_or, false_or, a_2, u_2, l_2, a_4, u_4, l_4, a_7, u_7, l_7, a_9, u_9, l_9, a_10, u_10, l_10, a_11, u_11, l_11, a_12, u_12, l_12, a_14, u_14, l_14, a_75, u_75, l_75, a_76, u_76, l_76, a_78, u_78, l_78, a_79, u_79, l_79, a_81, u_81, l_81, a_82, u_82, l_82, a_83, u_83, l_83, a_85, u_85, l_85, a_87, u_87, l_87, a_88, u_88, l_88, a_89, u_89, l_89, a_90, u_90, l_90, a_91, u_91, l_91, a_92, u_92, l_92, r_0_0, r_0_1, r_0_2, r_0_3, r_0_4, r_0_5, r_0_6, r_1_0, r_3_0, r_5_0, r_6_2, r_8_9, r_8_10, r_8_11, r_8_12, r_8_13, r_13_2, r_15_0, r_73_0, r_73_1, r_74_2, r_74_3, r_77_2, r_77_3, r_80_0, r_80_1, r_80_2, r_80_3, r_84_2, r_86_0, r_86_1, r_86_3, r_86_7, r_86_11, r_86_12, w_n1, w_0, w_1, w_2, w_3, w_4, w_5, w_6, w_7, w_8, w_9, w_10, w_11, w_12, w_13, w_14, w_15, w_16, w_17, w_18, w_19, w_20, w_21, w_22, w_23, w_24, w_25, w_26, w_27, w_28, w_29, w_30, w_31, w_32, w_33, w_34, w_35, w_36, w_37, w_38, w_39, w_40, w_41, w_42, w_43, w_44, w_45, w_46, w_47, w_48, w_49, w_50, w_51, w_52, w_53, w_54, w_55, w_56, w_57, w_58, w_59, w_60, w_61, w_62, w_63, w_64, w_65, w_66, w_67, w_68, w_69, w_n1000, w_n1001, w_n1002, w_n1003, w_65536, w_1103, w_377, w_127, w_126, w_128, w_536, w_469, t_0_0, t_0_1, t_0_2, t_0_d, t_1_0, t_1_1, t_1_2, t_1_3, t_1_4, t_1_5, t_1_6, t_1_7, t_1_8, t_1_9, t_1_10, t_1_11, t_1_12, t_1_13, t_1_d, t_2_0, t_2_1, t_2_2, t_2_3, t_2_4, t_2_5, t_2_6, t_2_7, t_2_8, t_2_9, t_2_10, t_2_11, t_2_12, t_2_13, t_2_d, t_3_0, t_3_1, t_3_2, t_3_3, t_3_4, t_3_5, t_3_6, t_3_7, t_3_8, t_3_9, t_3_10, t_3_11, t_3_12, t_3_13, t_3_14, t_3_15, t_3_16, t_3_17, t_3_18, t_3_19, t_3_20, t_3_21, t_3_22, t_3_23, t_3_24, t_3_25, t_3_d, v_0_32, v_0_45, v_0_47, v_0_d, e_tsw, e_lsw, q_le1, q_le0, q_lt1, q_lt0, q_eq1, q_eq0, Int.add_zero, m_ca, Int.reduceNatCast', m_bite, m_b0, m_b1, m_nn, m_tn, m_w_id, m_x_id, e1, a, tk]
    by_cases y1 : 48 ≤ t j ∧ t j ≤ 57
    · rw [if_pos y1]
      by_cases y2 : g = 2 ∨ (g = 0 ∧ b = 0 ∧ k ≤ i)
      · rw [if_pos y2]
        exact bad s (fun _ _ _ _ => rfl) (fun d => c_tkd y1 (Or.inl rfl) (fun d => k_dig0 (d := d) M0 R0 y2))
      rw [if_neg y2]
      by_cases y3 : g = 0 ∧ b = 0
      · rw [if_pos y3]
        obtain ⟨rfl, rfl⟩ := y3
        have tk := fun d => c_tkd (d := d) y1 (Or.inr rfl) (fun d => k_dig1 (d := d) (v := t j - 48) M0 R0 (by omega) (by omega))
        obtain ⟨s', k1, k2⟩ := ih r (i + 1) k 1 0 0 (g1 E (4 * r.toNat + i.toNat) (t j - 48)) (m_up (m_up (m_up (m_up (m_up (m_up s 7 (4 * r.toNat + i.toNat) 0) 5 2 (i + 1)) 5 6 0) 7 (4 * r.toNat + i.toNat) (t j - 48)) 5 5 0) 5 4 1) ⟨r1, by omega, by omega, by omega, by omega, by omega⟩ (sBE_1 R0 (by omega) B (Or.inl rfl) (fun z => absurd z (by decide)) (by omega)) (fun x a b c => by rw [m_up_x a, m_up_x a, m_up_x c, m_up_x a, m_up_x a, m_up_x c]; exact hF x a b c) ⟨by rw [m_up_k (by decide), m_up_k (by decide), m_up_x (by decide), m_up_k (by decide), m_up_k (by decide), m_up_x (by decide)]; exact m1, by rw [m_up_k (by decide), m_up_k (by decide), m_up_x (by decide), m_up_k (by decide), m_up_s], by rw [m_up_k (by decide), m_up_k (by decide), m_up_x (by decide), m_up_k (by decide), m_up_k (by decide), m_up_x (by decide)]; exact m3, m_up_s, by rw [m_up_k (by decide), m_up_s]⟩ (fun _ => by rw [m_up_k (by decide), m_up_k (by decide), m_up_x (by decide), m_up_s]) (by
          rw [m_up_x (by decide), m_up_x (by decide), m_up_g, m_up_x (by decide), m_up_x (by decide), m_up_g]
          have h2 : g1 (g1 (s 7) (4 * r.toNat + i.toNat) 0) (4 * r.toNat + i.toNat) (t j - 48) = g1 (s 7) (4 * r.toNat + i.toNat) (t j - 48) := by
            funext c
            unfold g1
            split <;> rfl
          rw [h2]
          exact sAg_1 R0 (by omega) A)
        refine ⟨s', ?_, k2⟩
        refine Eq.trans ?_ k1
        conv => lhs; rw [b_15_1]
        simp (disch := first | with_unfolding_all exact id rfl | with_unfolding_all exact ⟨rfl, by decide, Nat.le_of_ble_eq_true rfl⟩ | with_unfolding_all exact Nat.le_of_ble_eq_true rfl | omega) only [b_15_0, b_15_2, b_15_3, b_15_4, b_15_5, b_15_6, b_15_7, b_15_8, e_goto, e_fall, e_if0, e_if1, e_if2, e_if3, e_if4, e_if5, e_ic0, e_ic1, e_ic2, e_ic3, e_ic4, e_ic5, e_null_n, e_null_r, e_nonn_n, e_nonn_r, e_ret0, e_ret1, e_ret20, e_ret21, e_retb, e_ret3, e_ret4, e_pi, e_pj, e_pf, e_pn, e_iadd, e_isub, e_imul, e_iand, e_ixor, e_ishl, e_ishr, e_iushr, e_ladd, e_lsub, e_lmul, e_idiv, e_irem, e_ldiv, e_lrem, e_ineg, e_lneg, e_lcmp, e_i2l, e_l2f, e_f2i, e_i2b, e_fcg, e_fcl, e_dup, e_dupi, e_dup2, s_il, s_ll, s_fl, s_al, s_inc, e_is, e_ls, e_fs, e_aS, e_gi, e_gb, e_gj, s_gr, s_pfi, s_pfj, s_pfb, s_v1, s_v2, s_v3, s_v4, s_v5, s_v6, s_s1, s_s2, s_s3, s_s4, s_s5, s_s6, m_kI_I, m_kJ_J, m_kF_F, m_kR_R, m_ld0, m_ldS, m_st0, m_stS, m_s1, m_s2, m_kl, Option.bind_some, Option.toList_some, Option.toList_none, List.cons_append, List.nil_append, Nat.zero_add, Nat.reduceAdd, Nat.reduceSub, Nat.zero_sub, Nat.reduceEqDiff, Int.reduceLE, Int.reduceLT, Int.reduceEq, Int.reduceNe, Int.reduceAdd, Int.reduceSub, Int.reduceMul, Int.reduceNeg, Int.reduceToNat, Int.toNat_zero, Int.toNat_one, Int.zero_add, Int.zero_mul, Int.one_mul, ↓reduceIte, not_false_eq_true, not_true_eq_false, m_up_s, m_up_c, m_up_k, ne_eq, and_self, and_true, true_and, and_false, false_and, or_true, or_false, true_or, false_or, a_2, u_2, l_2, a_4, u_4, l_4, a_7, u_7, l_7, a_9, u_9, l_9, a_10, u_10, l_10, a_11, u_11, l_11, a_12, u_12, l_12, a_14, u_14, l_14, a_75, u_75, l_75, a_76, u_76, l_76, a_78, u_78, l_78, a_79, u_79, l_79, a_81, u_81, l_81, a_82, u_82, l_82, a_83, u_83, l_83, a_85, u_85, l_85, a_87, u_87, l_87, a_88, u_88, l_88, a_89, u_89, l_89, a_90, u_90, l_90, a_91, u_91, l_91, a_92, u_92, l_92, r_0_0, r_0_1, r_0_2, r_0_3, r_0_4, r_0_5, r_0_6, r_1_0, r_3_0, r_5_0, r_6_2, r_8_9, r_8_10, r_8_11, r_8_12, r_8_13, r_13_2, r_15_0, r_73_0, r_73_1, r_74_2, r_74_3, r_77_2, r_77_3, r_80_0, r_80_1, r_80_2, r_80_3, r_84_2, r_86_0, r_86_1, r_86_3, r_86_7, r_86_11, r_86_12, w_n1, w_0, w_1, w_2, w_3, w_4, w_5, w_6, w_7, w_8, w_9, w_10, w_11, w_12, w_13, w_14, w_15, w_16, w_17, w_18, w_19, w_20, w_21, w_22, w_23, w_24, w_25, w_26, w_27, w_28, w_29, w_30, w_31, w_32, w_33, w_34, w_35, w_36, w_37, w_38, w_39, w_40, w_41, w_42, w_43, w_44, w_45, w_46, w_47, w_48, w_49, w_50, w_51, w_52, w_53, w_54, w_55, w_56, w_57, w_58, w_59, w_60, w_61, w_62, w_63, w_64, w_65, w_66, w_67, w_68, w_69, w_n1000, w_n1001, w_n1002, w_n1003, w_65536, w_1103, w_377, w_127, w_126, w_128, w_536, w_469, t_0_0, t_0_1, t_0_2, t_0_d, t_1_0, t_1_1, t_1_2, t_1_3, t_1_4, t_1_5, t_1_6, t_1_7, t_1_8, t_1_9, t_1_10, t_1_11, t_1_12, t_1_13, t_1_d, t_2_0, t_2_1, t_2_2, t_2_3, t_2_4, t_2_5, t_2_6, t_2_7, t_2_8, t_2_9, t_2_10, t_2_11, t_2_12, t_2_13, t_2_d, t_3_0, t_3_1, t_3_2, t_3_3, t_3_4, t_3_5, t_3_6, t_3_7, t_3_8, t_3_9, t_3_10, t_3_11, t_3_12, t_3_13, t_3_14, t_3_15, t_3_16, t_3_17, t_3_18, t_3_19, t_3_20, t_3_21, t_3_22, t_3_23, t_3_24, t_3_25, t_3_d, v_0_32, v_0_45, v_0_47, v_0_d, e_tsw, e_lsw, q_le1, q_le0, q_lt1, q_lt0, q_eq1, q_eq0, Int.add_zero, m_ca, Int.reduceNatCast', m_bite, m_b0, m_b1, m_nn, m_tn, m_w_id, m_x_id, e1, a, tk, m_cs]
      · rw [if_neg y3]
        have hq := h6 (by omega)
        have hp := sAg_p R0 (by omega) A
        have hb := B.2.1
        have hg := B.2.2.1
        have hqq := B.1
        have tk := fun d => c_tkd (d := d) y1 (Or.inr rfl) (fun d => k_dig2 (d := d) (v := t j - 48) M0 R0 hq B.1 (by omega) (by omega) (by rw [hp]; omega))
        rw [hp] at tk
        have ev : (if q = 1 then 10 * E (4 * r.toNat + i.toNat - 1) - (t j - 48) else 10 * E (4 * r.toNat + i.toNat - 1) + (t j - 48)) = sBv q (E (4 * r.toNat + i.toNat - 1)) (t j - 48) := rfl
        rw [ev] at tk
        have bv : (-99 ≤ sBv q (E (4 * r.toNat + i.toNat - 1)) (t j - 48) ∧ sBv q (E (4 * r.toNat + i.toNat - 1)) (t j - 48) ≤ 99) ∧ (g + 1 = 1 → -9 ≤ sBv q (E (4 * r.toNat + i.toNat - 1)) (t j - 48) ∧ sBv q (E (4 * r.toNat + i.toNat - 1)) (t j - 48) ≤ 9) := by
          unfold sBv
          split <;> omega
        obtain ⟨y, hy⟩ : ∃ y, y = sBv q (E (4 * r.toNat + i.toNat - 1)) (t j - 48) := ⟨_, rfl⟩
        rw [← hy] at tk bv ⊢
        obtain ⟨s', k1, k2⟩ := ih r i k (g + 1) 0 q (g1 E (4 * r.toNat + i.toNat - 1) y) (m_up (m_up (m_up s 7 (4 * r.toNat + i.toNat - 1) y) 5 5 0) 5 4 (g + 1)) ⟨r1, by omega, by omega, by omega, by omega, by omega⟩ (sBE_2 R0 (by omega) B bv.2 bv.1) (fun x a b c => by rw [m_up_x a, m_up_x a, m_up_x c]; exact hF x a b c) ⟨by rw [m_up_k (by decide), m_up_k (by decide), m_up_x (by decide)]; exact m1, by rw [m_up_k (by decide), m_up_k (by decide), m_up_x (by decide)]; exact m2, by rw [m_up_k (by decide), m_up_k (by decide), m_up_x (by decide)]; exact m3, m_up_s, by rw [m_up_k (by decide), m_up_s]⟩ (fun _ => by rw [m_up_k (by decide), m_up_k (by decide), m_up_x (by decide)]; exact hq) (by
          rw [m_up_x (by decide), m_up_x (by decide), m_up_g]
          exact sAg_2 R0 (by omega) A)
        refine ⟨s', ?_, k2⟩
        refine Eq.trans ?_ k1
        conv => lhs; rw [b_15_1]
        simp (disch := first | with_unfolding_all exact id rfl | with_unfolding_all exact ⟨rfl, by decide, Nat.le_of_ble_eq_true rfl⟩ | with_unfolding_all exact Nat.le_of_ble_eq_true rfl | omega) only [b_15_0, b_15_2, b_15_3, b_15_4, b_15_5, b_15_6, b_15_7, b_15_8, e_goto, e_fall, e_if0, e_if1, e_if2, e_if3, e_if4, e_if5, e_ic0, e_ic1, e_ic2, e_ic3, e_ic4, e_ic5, e_null_n, e_null_r, e_nonn_n, e_nonn_r, e_ret0, e_ret1, e_ret20, e_ret21, e_retb, e_ret3, e_ret4, e_pi, e_pj, e_pf, e_pn, e_iadd, e_isub, e_imul, e_iand, e_ixor, e_ishl, e_ishr, e_iushr, e_ladd, e_lsub, e_lmul, e_idiv, e_irem, e_ldiv, e_lrem, e_ineg, e_lneg, e_lcmp, e_i2l, e_l2f, e_f2i, e_i2b, e_fcg, e_fcl, e_dup, e_dupi, e_dup2, s_il, s_ll, s_fl, s_al, s_inc, e_is, e_ls, e_fs, e_aS, e_gi, e_gb, e_gj, s_gr, s_pfi, s_pfj, s_pfb, s_v1, s_v2, s_v3, s_v4, s_v5, s_v6, s_s1, s_s2, s_s3, s_s4, s_s5, s_s6, m_kI_I, m_kJ_J, m_kF_F, m_kR_R, m_ld0, m_ldS, m_st0, m_stS, m_s1, m_s2, m_kl, Option.bind_some, Option.toList_some, Option.toList_none, List.cons_append, List.nil_append, Nat.zero_add, Nat.reduceAdd, Nat.reduceSub, Nat.zero_sub, Nat.reduceEqDiff, Int.reduceLE, Int.reduceLT, Int.reduceEq, Int.reduceNe, Int.reduceAdd, Int.reduceSub, Int.reduceMul, Int.reduceNeg, Int.reduceToNat, Int.toNat_zero, Int.toNat_one, Int.zero_add, Int.zero_mul, Int.one_mul, ↓reduceIte, not_false_eq_true, not_true_eq_false, m_up_s, m_up_c, m_up_k, ne_eq, and_self, and_true, true_and, and_false, false_and, or_true, or_false, true_or, false_or, a_2, u_2, l_2, a_4, u_4, l_4, a_7, u_7, l_7, a_9, u_9, l_9, a_10, u_10, l_10, a_11, u_11, l_11, a_12, u_12, l_12, a_14, u_14, l_14, a_75, u_75, l_75, a_76, u_76, l_76, a_78, u_78, l_78, a_79, u_79, l_79, a_81, u_81, l_81, a_82, u_82, l_82, a_83, u_83, l_83, a_85, u_85, l_85, a_87, u_87, l_87, a_88, u_88, l_88, a_89, u_89, l_89, a_90, u_90, l_90, a_91, u_91, l_91, a_92, u_92, l_92, r_0_0, r_0_1, r_0_2, r_0_3, r_0_4, r_0_5, r_0_6, r_1_0, r_3_0, r_5_0, r_6_2, r_8_9, r_8_10, r_8_11, r_8_12, r_8_13, r_13_2, r_15_0, r_73_0, r_73_1, r_74_2, r_74_3, r_77_2, r_77_3, r_80_0, r_80_1, r_80_2, r_80_3, r_84_2, r_86_0, r_86_1, r_86_3, r_86_7, r_86_11, r_86_12, w_n1, w_0, w_1, w_2, w_3, w_4, w_5, w_6, w_7, w_8, w_9, w_10, w_11, w_12, w_13, w_14, w_15, w_16, w_17, w_18, w_19, w_20, w_21, w_22, w_23, w_24, w_25, w_26, w_27, w_28, w_29, w_30, w_31, w_32, w_33, w_34, w_35, w_36, w_37, w_38, w_39, w_40, w_41, w_42, w_43, w_44, w_45, w_46, w_47, w_48, w_49, w_50, w_51, w_52, w_53, w_54, w_55, w_56, w_57, w_58, w_59, w_60, w_61, w_62, w_63, w_64, w_65, w_66, w_67, w_68, w_69, w_n1000, w_n1001, w_n1002, w_n1003, w_65536, w_1103, w_377, w_127, w_126, w_128, w_536, w_469, t_0_0, t_0_1, t_0_2, t_0_d, t_1_0, t_1_1, t_1_2, t_1_3, t_1_4, t_1_5, t_1_6, t_1_7, t_1_8, t_1_9, t_1_10, t_1_11, t_1_12, t_1_13, t_1_d, t_2_0, t_2_1, t_2_2, t_2_3, t_2_4, t_2_5, t_2_6, t_2_7, t_2_8, t_2_9, t_2_10, t_2_11, t_2_12, t_2_13, t_2_d, t_3_0, t_3_1, t_3_2, t_3_3, t_3_4, t_3_5, t_3_6, t_3_7, t_3_8, t_3_9, t_3_10, t_3_11, t_3_12, t_3_13, t_3_14, t_3_15, t_3_16, t_3_17, t_3_18, t_3_19, t_3_20, t_3_21, t_3_22, t_3_23, t_3_24, t_3_25, t_3_d, v_0_32, v_0_45, v_0_47, v_0_d, e_tsw, e_lsw, q_le1, q_le0, q_lt1, q_lt0, q_eq1, q_eq0, Int.add_zero, m_ca, Int.reduceNatCast', m_bite, m_b0, m_b1, m_nn, m_tn, m_w_id, m_x_id, e1, a, tk, m_cs]
    rw [if_neg y1]
    by_cases y2 : b = 1
    · rw [if_pos y2]
      exact bad s (fun _ _ _ _ => rfl) (fun d => c_tkm y1 (by rw [m5]; exact y2))
    rw [if_neg y2]
    have b0 : b = 0 := by omega
    subst b0
    by_cases y3 : t j = 32
    · rw [if_pos y3]
      have tk := fun d => c_tkb (d := d) (σ := s) m5
      rw [← y3] at tk
      obtain ⟨s', k1, k2⟩ := ih r i k 0 0 q E (m_up s 5 4 0) (sBR_0 R0) (sBE_0 B) (fun x a b c => by rw [m_up_x a]; exact hF x a b c) (sBM_0 M0) (fun z => absurd z (by omega)) (by rw [m_up_x (by decide)]; exact A)
      refine ⟨s', ?_, k2⟩
      refine Eq.trans ?_ k1
      conv => lhs; rw [b_15_1]
      simp (disch := first | with_unfolding_all exact id rfl | with_unfolding_all exact ⟨rfl, by decide, Nat.le_of_ble_eq_true rfl⟩ | with_unfolding_all exact Nat.le_of_ble_eq_true rfl | omega) only [b_15_0, b_15_2, b_15_3, b_15_4, b_15_5, b_15_6, b_15_7, b_15_8, e_goto, e_fall, e_if0, e_if1, e_if2, e_if3, e_if4, e_if5, e_ic0, e_ic1, e_ic2, e_ic3, e_ic4, e_ic5, e_null_n, e_null_r, e_nonn_n, e_nonn_r, e_ret0, e_ret1, e_ret20, e_ret21, e_retb, e_ret3, e_ret4, e_pi, e_pj, e_pf, e_pn, e_iadd, e_isub, e_imul, e_iand, e_ixor, e_ishl, e_ishr, e_iushr, e_ladd, e_lsub, e_lmul, e_idiv, e_irem, e_ldiv, e_lrem, e_ineg, e_lneg, e_lcmp, e_i2l, e_l2f, e_f2i, e_i2b, e_fcg, e_fcl, e_dup, e_dupi, e_dup2, s_il, s_ll, s_fl, s_al, s_inc, e_is, e_ls, e_fs, e_aS, e_gi, e_gb, e_gj, s_gr, s_pfi, s_pfj, s_pfb, s_v1, s_v2, s_v3, s_v4, s_v5, s_v6, s_s1, s_s2, s_s3, s_s4, s_s5, s_s6, m_kI_I, m_kJ_J, m_kF_F, m_kR_R, m_ld0, m_ldS, m_st0, m_stS, m_s1, m_s2, m_kl, Option.bind_some, Option.toList_some, Option.toList_none, List.cons_append, List.nil_append, Nat.zero_add, Nat.reduceAdd, Nat.reduceSub, Nat.zero_sub, Nat.reduceEqDiff, Int.reduceLE, Int.reduceLT, Int.reduceEq, Int.reduceNe, Int.reduceAdd, Int.reduceSub, Int.reduceMul, Int.reduceNeg, Int.reduceToNat, Int.toNat_zero, Int.toNat_one, Int.zero_add, Int.zero_mul, Int.one_mul, ↓reduceIte, not_false_eq_true, not_true_eq_false, m_up_s, m_up_c, m_up_k, ne_eq, and_self, and_true, true_and, and_false, false_and, or_true, or_false, true_or, false_or, a_2, u_2, l_2, a_4, u_4, l_4, a_7, u_7, l_7, a_9, u_9, l_9, a_10, u_10, l_10, a_11, u_11, l_11, a_12, u_12, l_12, a_14, u_14, l_14, a_75, u_75, l_75, a_76, u_76, l_76, a_78, u_78, l_78, a_79, u_79, l_79, a_81, u_81, l_81, a_82, u_82, l_82, a_83, u_83, l_83, a_85, u_85, l_85, a_87, u_87, l_87, a_88, u_88, l_88, a_89, u_89, l_89, a_90, u_90, l_90, a_91, u_91, l_91, a_92, u_92, l_92, r_0_0, r_0_1, r_0_2, r_0_3, r_0_4, r_0_5, r_0_6, r_1_0, r_3_0, r_5_0, r_6_2, r_8_9, r_8_10, r_8_11, r_8_12, r_8_13, r_13_2, r_15_0, r_73_0, r_73_1, r_74_2, r_74_3, r_77_2, r_77_3, r_80_0, r_80_1, r_80_2, r_80_3, r_84_2, r_86_0, r_86_1, r_86_3, r_86_7, r_86_11, r_86_12, w_n1, w_0, w_1, w_2, w_3, w_4, w_5, w_6, w_7, w_8, w_9, w_10, w_11, w_12, w_13, w_14, w_15, w_16, w_17, w_18, w_19, w_20, w_21, w_22, w_23, w_24, w_25, w_26, w_27, w_28, w_29, w_30, w_31, w_32, w_33, w_34, w_35, w_36, w_37, w_38, w_39, w_40, w_41, w_42, w_43, w_44, w_45, w_46, w_47, w_48, w_49, w_50, w_51, w_52, w_53, w_54, w_55, w_56, w_57, w_58, w_59, w_60, w_61, w_62, w_63, w_64, w_65, w_66, w_67, w_68, w_69, w_n1000, w_n1001, w_n1002, w_n1003, w_65536, w_1103, w_377, w_127, w_126, w_128, w_536, w_469, t_0_0, t_0_1, t_0_2, t_0_d, t_1_0, t_1_1, t_1_2, t_1_3, t_1_4, t_1_5, t_1_6, t_1_7, t_1_8, t_1_9, t_1_10, t_1_11, t_1_12, t_1_13, t_1_d, t_2_0, t_2_1, t_2_2, t_2_3, t_2_4, t_2_5, t_2_6, t_2_7, t_2_8, t_2_9, t_2_10, t_2_11, t_2_12, t_2_13, t_2_d, t_3_0, t_3_1, t_3_2, t_3_3, t_3_4, t_3_5, t_3_6, t_3_7, t_3_8, t_3_9, t_3_10, t_3_11, t_3_12, t_3_13, t_3_14, t_3_15, t_3_16, t_3_17, t_3_18, t_3_19, t_3_20, t_3_21, t_3_22, t_3_23, t_3_24, t_3_25, t_3_d, v_0_32, v_0_45, v_0_47, v_0_d, e_tsw, e_lsw, q_le1, q_le0, q_lt1, q_lt0, q_eq1, q_eq0, Int.add_zero, m_ca, Int.reduceNatCast', m_bite, m_b0, m_b1, m_nn, m_tn, m_w_id, m_x_id, e1, a, tk, m_cs]
    rw [if_neg y3]
    by_cases y4 : t j = 45
    · rw [if_pos y4]
      have tk := fun d => c_tkn (d := d) (σ := s) M0 R0
      rw [← y4] at tk
      by_cases y5 : k ≤ i
      · rw [if_pos y5] at tk ⊢
        exact bad _ (fun x a b c => by rw [m_up_x a, m_up_x a]) tk
      · rw [if_neg y5] at tk ⊢
        obtain ⟨s', k1, k2⟩ := ih r (i + 1) k 0 1 1 (g1 E (4 * r.toNat + i.toNat) 0) (m_up (m_up (m_up (m_up (m_up s 5 4 0) 7 (4 * r.toNat + i.toNat) 0) 5 2 (i + 1)) 5 6 1) 5 5 1) ⟨r1, by omega, by omega, by omega, by omega, by omega⟩ (sBE_1 R0 (by omega) B (Or.inr rfl) (fun _ => rfl) (by decide)) (fun x a b c => by rw [m_up_x a, m_up_x a, m_up_x a, m_up_x c, m_up_x a]; exact hF x a b c) ⟨by rw [m_up_k (by decide), m_up_k (by decide), m_up_k (by decide), m_up_x (by decide), m_up_k (by decide)]; exact m1, by rw [m_up_k (by decide), m_up_k (by decide), m_up_s], by rw [m_up_k (by decide), m_up_k (by decide), m_up_k (by decide), m_up_x (by decide), m_up_k (by decide)]; exact m3, by rw [m_up_k (by decide), m_up_k (by decide), m_up_k (by decide), m_up_x (by decide), m_up_s], m_up_s⟩ (fun _ => by rw [m_up_k (by decide), m_up_s]) (by
          rw [m_up_x (by decide), m_up_x (by decide), m_up_x (by decide), m_up_g, m_up_x (by decide)]
          exact sAg_1 R0 (by omega) A)
        refine ⟨s', ?_, k2⟩
        refine Eq.trans ?_ k1
        conv => lhs; rw [b_15_1]
        simp (disch := first | with_unfolding_all exact id rfl | with_unfolding_all exact ⟨rfl, by decide, Nat.le_of_ble_eq_true rfl⟩ | with_unfolding_all exact Nat.le_of_ble_eq_true rfl | omega) only [b_15_0, b_15_2, b_15_3, b_15_4, b_15_5, b_15_6, b_15_7, b_15_8, e_goto, e_fall, e_if0, e_if1, e_if2, e_if3, e_if4, e_if5, e_ic0, e_ic1, e_ic2, e_ic3, e_ic4, e_ic5, e_null_n, e_null_r, e_nonn_n, e_nonn_r, e_ret0, e_ret1, e_ret20, e_ret21, e_retb, e_ret3, e_ret4, e_pi, e_pj, e_pf, e_pn, e_iadd, e_isub, e_imul, e_iand, e_ixor, e_ishl, e_ishr, e_iushr, e_ladd, e_lsub, e_lmul, e_idiv, e_irem, e_ldiv, e_lrem, e_ineg, e_lneg, e_lcmp, e_i2l, e_l2f, e_f2i, e_i2b, e_fcg, e_fcl, e_dup, e_dupi, e_dup2, s_il, s_ll, s_fl, s_al, s_inc, e_is, e_ls, e_fs, e_aS, e_gi, e_gb, e_gj, s_gr, s_pfi, s_pfj, s_pfb, s_v1, s_v2, s_v3, s_v4, s_v5, s_v6, s_s1, s_s2, s_s3, s_s4, s_s5, s_s6, m_kI_I, m_kJ_J, m_kF_F, m_kR_R, m_ld0, m_ldS, m_st0, m_stS, m_s1, m_s2, m_kl, Option.bind_some, Option.toList_some, Option.toList_none, List.cons_append, List.nil_append, Nat.zero_add, Nat.reduceAdd, Nat.reduceSub, Nat.zero_sub, Nat.reduceEqDiff, Int.reduceLE, Int.reduceLT, Int.reduceEq, Int.reduceNe, Int.reduceAdd, Int.reduceSub, Int.reduceMul, Int.reduceNeg, Int.reduceToNat, Int.toNat_zero, Int.toNat_one, Int.zero_add, Int.zero_mul, Int.one_mul, ↓reduceIte, not_false_eq_true, not_true_eq_false, m_up_s, m_up_c, m_up_k, ne_eq, and_self, and_true, true_and, and_false, false_and, or_true, or_false, true_or, false_or, a_2, u_2, l_2, a_4, u_4, l_4, a_7, u_7, l_7, a_9, u_9, l_9, a_10, u_10, l_10, a_11, u_11, l_11, a_12, u_12, l_12, a_14, u_14, l_14, a_75, u_75, l_75, a_76, u_76, l_76, a_78, u_78, l_78, a_79, u_79, l_79, a_81, u_81, l_81, a_82, u_82, l_82, a_83, u_83, l_83, a_85, u_85, l_85, a_87, u_87, l_87, a_88, u_88, l_88, a_89, u_89, l_89, a_90, u_90, l_90, a_91, u_91, l_91, a_92, u_92, l_92, r_0_0, r_0_1, r_0_2, r_0_3, r_0_4, r_0_5, r_0_6, r_1_0, r_3_0, r_5_0, r_6_2, r_8_9, r_8_10, r_8_11, r_8_12, r_8_13, r_13_2, r_15_0, r_73_0, r_73_1, r_74_2, r_74_3, r_77_2, r_77_3, r_80_0, r_80_1, r_80_2, r_80_3, r_84_2, r_86_0, r_86_1, r_86_3, r_86_7, r_86_11, r_86_12, w_n1, w_0, w_1, w_2, w_3, w_4, w_5, w_6, w_7, w_8, w_9, w_10, w_11, w_12, w_13, w_14, w_15, w_16, w_17, w_18, w_19, w_20, w_21, w_22, w_23, w_24, w_25, w_26, w_27, w_28, w_29, w_30, w_31, w_32, w_33, w_34, w_35, w_36, w_37, w_38, w_39, w_40, w_41, w_42, w_43, w_44, w_45, w_46, w_47, w_48, w_49, w_50, w_51, w_52, w_53, w_54, w_55, w_56, w_57, w_58, w_59, w_60, w_61, w_62, w_63, w_64, w_65, w_66, w_67, w_68, w_69, w_n1000, w_n1001, w_n1002, w_n1003, w_65536, w_1103, w_377, w_127, w_126, w_128, w_536, w_469, t_0_0, t_0_1, t_0_2, t_0_d, t_1_0, t_1_1, t_1_2, t_1_3, t_1_4, t_1_5, t_1_6, t_1_7, t_1_8, t_1_9, t_1_10, t_1_11, t_1_12, t_1_13, t_1_d, t_2_0, t_2_1, t_2_2, t_2_3, t_2_4, t_2_5, t_2_6, t_2_7, t_2_8, t_2_9, t_2_10, t_2_11, t_2_12, t_2_13, t_2_d, t_3_0, t_3_1, t_3_2, t_3_3, t_3_4, t_3_5, t_3_6, t_3_7, t_3_8, t_3_9, t_3_10, t_3_11, t_3_12, t_3_13, t_3_14, t_3_15, t_3_16, t_3_17, t_3_18, t_3_19, t_3_20, t_3_21, t_3_22, t_3_23, t_3_24, t_3_25, t_3_d, v_0_32, v_0_45, v_0_47, v_0_d, e_tsw, e_lsw, q_le1, q_le0, q_lt1, q_lt0, q_eq1, q_eq0, Int.add_zero, m_ca, Int.reduceNatCast', m_bite, m_b0, m_b1, m_nn, m_tn, m_w_id, m_x_id, e1, a, tk, m_cs]
    rw [if_neg y4]
    by_cases y5 : t j = 47
    · rw [if_pos y5]
      have tk := fun d => c_tks (d := d) (σ := s) M0 R0
      rw [← y5] at tk
      by_cases y6 : sRC r i k ∧ r + 1 < 4
      · rw [if_pos y6] at tk ⊢
        obtain ⟨s', k1, k2⟩ := ih (r + 1) 0 i 0 0 q E (m_up (m_up (m_up (m_up s 5 4 0) 5 3 i) 5 1 (r + 1)) 5 2 0) ⟨by omega, by omega, by omega, by omega, by omega, by omega⟩ (sBE_3 R0 B) (fun x a b c => by rw [m_up_x a, m_up_x a, m_up_x a, m_up_x a]; exact hF x a b c) ⟨by rw [m_up_k (by decide), m_up_s], m_up_s, by rw [m_up_k (by decide), m_up_k (by decide), m_up_s], by rw [m_up_k (by decide), m_up_k (by decide), m_up_k (by decide), m_up_s], by rw [m_up_k (by decide), m_up_k (by decide), m_up_k (by decide), m_up_k (by decide)]; exact m5⟩ (fun z => absurd z (by omega)) (by
          rw [m_up_x (by decide), m_up_x (by decide), m_up_x (by decide), m_up_x (by decide)]
          exact sAg_3 R0 A)
        refine ⟨s', ?_, k2⟩
        refine Eq.trans ?_ k1
        conv => lhs; rw [b_15_1]
        simp (disch := first | with_unfolding_all exact id rfl | with_unfolding_all exact ⟨rfl, by decide, Nat.le_of_ble_eq_true rfl⟩ | with_unfolding_all exact Nat.le_of_ble_eq_true rfl | omega) only [b_15_0, b_15_2, b_15_3, b_15_4, b_15_5, b_15_6, b_15_7, b_15_8, e_goto, e_fall, e_if0, e_if1, e_if2, e_if3, e_if4, e_if5, e_ic0, e_ic1, e_ic2, e_ic3, e_ic4, e_ic5, e_null_n, e_null_r, e_nonn_n, e_nonn_r, e_ret0, e_ret1, e_ret20, e_ret21, e_retb, e_ret3, e_ret4, e_pi, e_pj, e_pf, e_pn, e_iadd, e_isub, e_imul, e_iand, e_ixor, e_ishl, e_ishr, e_iushr, e_ladd, e_lsub, e_lmul, e_idiv, e_irem, e_ldiv, e_lrem, e_ineg, e_lneg, e_lcmp, e_i2l, e_l2f, e_f2i, e_i2b, e_fcg, e_fcl, e_dup, e_dupi, e_dup2, s_il, s_ll, s_fl, s_al, s_inc, e_is, e_ls, e_fs, e_aS, e_gi, e_gb, e_gj, s_gr, s_pfi, s_pfj, s_pfb, s_v1, s_v2, s_v3, s_v4, s_v5, s_v6, s_s1, s_s2, s_s3, s_s4, s_s5, s_s6, m_kI_I, m_kJ_J, m_kF_F, m_kR_R, m_ld0, m_ldS, m_st0, m_stS, m_s1, m_s2, m_kl, Option.bind_some, Option.toList_some, Option.toList_none, List.cons_append, List.nil_append, Nat.zero_add, Nat.reduceAdd, Nat.reduceSub, Nat.zero_sub, Nat.reduceEqDiff, Int.reduceLE, Int.reduceLT, Int.reduceEq, Int.reduceNe, Int.reduceAdd, Int.reduceSub, Int.reduceMul, Int.reduceNeg, Int.reduceToNat, Int.toNat_zero, Int.toNat_one, Int.zero_add, Int.zero_mul, Int.one_mul, ↓reduceIte, not_false_eq_true, not_true_eq_false, m_up_s, m_up_c, m_up_k, ne_eq, and_self, and_true, true_and, and_false, false_and, or_true, or_false, true_or, false_or, a_2, u_2, l_2, a_4, u_4, l_4, a_7, u_7, l_7, a_9, u_9, l_9, a_10, u_10, l_10, a_11, u_11, l_11, a_12, u_12, l_12, a_14, u_14, l_14, a_75, u_75, l_75, a_76, u_76, l_76, a_78, u_78, l_78, a_79, u_79, l_79, a_81, u_81, l_81, a_82, u_82, l_82, a_83, u_83, l_83, a_85, u_85, l_85, a_87, u_87, l_87, a_88, u_88, l_88, a_89, u_89, l_89, a_90, u_90, l_90, a_91, u_91, l_91, a_92, u_92, l_92, r_0_0, r_0_1, r_0_2, r_0_3, r_0_4, r_0_5, r_0_6, r_1_0, r_3_0, r_5_0, r_6_2, r_8_9, r_8_10, r_8_11, r_8_12, r_8_13, r_13_2, r_15_0, r_73_0, r_73_1, r_74_2, r_74_3, r_77_2, r_77_3, r_80_0, r_80_1, r_80_2, r_80_3, r_84_2, r_86_0, r_86_1, r_86_3, r_86_7, r_86_11, r_86_12, w_n1, w_0, w_1, w_2, w_3, w_4, w_5, w_6, w_7, w_8, w_9, w_10, w_11, w_12, w_13, w_14, w_15, w_16, w_17, w_18, w_19, w_20, w_21, w_22, w_23, w_24, w_25, w_26, w_27, w_28, w_29, w_30, w_31, w_32, w_33, w_34, w_35, w_36, w_37, w_38, w_39, w_40, w_41, w_42, w_43, w_44, w_45, w_46, w_47, w_48, w_49, w_50, w_51, w_52, w_53, w_54, w_55, w_56, w_57, w_58, w_59, w_60, w_61, w_62, w_63, w_64, w_65, w_66, w_67, w_68, w_69, w_n1000, w_n1001, w_n1002, w_n1003, w_65536, w_1103, w_377, w_127, w_126, w_128, w_536, w_469, t_0_0, t_0_1, t_0_2, t_0_d, t_1_0, t_1_1, t_1_2, t_1_3, t_1_4, t_1_5, t_1_6, t_1_7, t_1_8, t_1_9, t_1_10, t_1_11, t_1_12, t_1_13, t_1_d, t_2_0, t_2_1, t_2_2, t_2_3, t_2_4, t_2_5, t_2_6, t_2_7, t_2_8, t_2_9, t_2_10, t_2_11, t_2_12, t_2_13, t_2_d, t_3_0, t_3_1, t_3_2, t_3_3, t_3_4, t_3_5, t_3_6, t_3_7, t_3_8, t_3_9, t_3_10, t_3_11, t_3_12, t_3_13, t_3_14, t_3_15, t_3_16, t_3_17, t_3_18, t_3_19, t_3_20, t_3_21, t_3_22, t_3_23, t_3_24, t_3_25, t_3_d, v_0_32, v_0_45, v_0_47, v_0_d, e_tsw, e_lsw, q_le1, q_le0, q_lt1, q_lt0, q_eq1, q_eq0, Int.add_zero, m_ca, Int.reduceNatCast', m_bite, m_b0, m_b1, m_nn, m_tn, m_w_id, m_x_id, e1, a, tk, m_cs]
      · rw [if_neg y6] at tk ⊢
        exact bad _ (fun x a b c => by rw [m_up_x a]) tk
    · rw [if_neg y5]
      exact bad _ (fun x a b c => by rw [m_up_x a]) (fun d => c_tko y1 y3 y4 y5 m5)
end ME
