/-! what else of the class is wanted -/
theorem m_it_cong {S : Type} {f g : Nat → S → S} : ∀ (n p : Nat) (s : S), (∀ k s, p ≤ k → k < p + n → f k s = g k s) → m_it f p n s = m_it g p n s
  | 0, _, _, _ => rfl
  | n + 1, p, s, h => by
    unfold m_it
    rw [h p s (Nat.le_refl _) (by omega)]
    exact m_it_cong n (p + 1) (g p s) (fun k s h1 h2 => h k s (by omega) (by omega))
section MO
variable {d : Nat} {σ : Nat → Nat → Int} {p n face : Int}
theorem sUn_0 {f : Nat → Int} {p : Nat} (h : f p = 0) : sUn f p face = 0 := by
  unfold sUn
  rw [h]
  simp [m_it]
end MO
theorem m_all1 {P : Nat → Prop} {b : Nat → Int → Int} (hb1 : ∀ k, P k → b k 1 = 1) : ∀ (n k : Nat), (∀ j, k ≤ j → j < k + n → P j) → m_it b k n 1 = 1
  | 0, _, _ => rfl
  | n + 1, k, h => by
    unfold m_it
    rw [hb1 k (h k (Nat.le_refl _) (by omega))]
    exact m_all1 hb1 n (k + 1) (fun j a c => h j (by omega) (by omega))
section MA
variable {d : Nat} {σ : Nat → Nat → Int} {f : Nat → Int} {r c : Int}
end MA
theorem m_up_g {σ : Nat → Nat → Int} {c k : Nat} {z : Int} : m_up σ c k z c = g1 (σ c) k z := by
  funext k'; unfold m_up g1; by_cases h : k' = k
  · rw [if_pos ⟨rfl, h⟩, if_pos h]
  · rw [if_neg (fun q => h q.2), if_neg h]
section PA
variable {d : Nat} {σ : Nat → Nat → Int} {f : Nat → Int} {x i : Int} {u : Nat} {h : Nat → Nat → Int}
end PA
section RB
variable {d : Nat} {σ s : Nat → Nat → Int} {f V : Nat → Int} {c j : Int} {l a : Nat} {t : Nat → Int}
end RB
section RC
variable {d : Nat} {σ : Nat → Nat → Int} {f : Nat → Int} {l q : Nat} {t : Nat → Int}
end RC
section RP
variable {d : Nat} {σ : Nat → Nat → Int} {f : Nat → Int} {l q : Nat} {t : Nat → Int} {c : Int}
theorem sF1_is {p : Nat} (hp : p < 5) (h : 0 < f p) (hc : c ≤ p) (hz : ∀ q : Nat, q < 5 → c ≤ q → q < p → f q ≤ 0) {r : Int} : sF1 f c r = (p : Int) := by
  have z0 := hz 0 (by decide)
  have z1 := hz 1 (by decide)
  have z2 := hz 2 (by decide)
  have z3 := hz 3 (by decide)
  have z4 := hz 4 (by decide)
  have g : p = 0 ∨ p = 1 ∨ p = 2 ∨ p = 3 ∨ p = 4 := by omega
  unfold sF1
  rcases g with rfl | rfl | rfl | rfl | rfl <;> (repeat' split) <;> omega
theorem sF1_no (hz : ∀ q : Nat, q < 5 → c ≤ q → f q ≤ 0) {r : Int} : sF1 f c r = r := by
  have z0 := hz 0 (by decide)
  have z1 := hz 1 (by decide)
  have z2 := hz 2 (by decide)
  have z3 := hz 3 (by decide)
  have z4 := hz 4 (by decide)
  unfold sF1
  repeat' split
  all_goals omega
end RP
def sZf (f : Nat → Int) : Prop := ∀ k : Nat, (16 ≤ k ∨ f 49 ≤ ((k / 4 : Nat) : Int) ∨ f 50 ≤ ((k % 4 : Nat) : Int)) → f (51 + k) = 0
section FT
variable {d : Nat} {σ s : Nat → Nat → Int} {f g : Nat → Int} {R C sz : Nat} {a : Nat → Nat → Int} {m n : Nat}
end FT
section GM
variable {f E : Nat → Int} {rows cols : Int}
end GM
section SM
variable {d : Nat} {σ : Nat → Nat → Int} {f g t : Nat → Int} {l u : Nat} {h : Nat → Nat → Int}
theorem sHC_f {s : Nat → Nat → Int} (H : sHC σ u h) (hF : ∀ c, 15 ≤ c → c < 73 → s c = σ c) : sHC s u h := by
  obtain ⟨q1, q2, q3⟩ := H
  have e15 := hF 15 (by decide) (by decide)
  refine ⟨by rw [e15]; exact q1, by rw [e15]; exact q2, fun j hj => ?_⟩
  rw [e15]
  exact sTR_fr (fun c a b => hF c (by omega) (by omega)) (q3 j hj)
theorem c_un0 (H : sHC σ u h) (h0 : u = 0) : m_ev (d + 8) 84 [m_R 0] (m_G0, σ) = some (some (m_I (-1001)), (m_G0, σ)) := by
  have e := H.1
  rw [h0] at e
  rw [i_84]
  simp (disch := first | with_unfolding_all exact id rfl | with_unfolding_all exact ⟨rfl, by decide, Nat.le_of_ble_eq_true rfl⟩ | with_unfolding_all exact Nat.le_of_ble_eq_true rfl | omega) only [b_84_0, b_84_1, b_84_2, e_goto, e_fall, e_if0, e_if1, e_if2, e_if3, e_if4, e_if5, e_ic0, e_ic1, e_ic2, e_ic3, e_ic4, e_ic5, e_null_n, e_null_r, e_nonn_n, e_nonn_r, e_ret0, e_ret1, e_ret20, e_ret21, e_retb, e_ret3, e_ret4, e_pi, e_pj, e_pf, e_pn, e_iadd, e_isub, e_imul, e_iand, e_ixor, e_ishl, e_ishr, e_iushr, e_ladd, e_lsub, e_lmul, e_idiv, e_irem, e_ldiv, e_lrem, e_ineg, e_lneg, e_lcmp, e_i2l, e_l2f, e_f2i, e_i2b, e_fcg, e_fcl, e_dup, e_dupi, e_dup2, s_il, s_ll, s_fl, s_al, s_inc, e_is, e_ls, e_fs, e_aS, e_gi, e_gb, e_gj, s_gr, s_pfi, s_pfj, s_pfb, s_v1, s_v2, s_v3, s_v4, s_v5, s_v6, s_s1, s_s2, s_s3, s_s4, s_s5, s_s6, m_kI_I, m_kJ_J, m_kF_F, m_kR_R, m_ld0, m_ldS, m_st0, m_stS, m_s1, m_s2, m_kl, Option.bind_some, Option.toList_some, Option.toList_none, List.cons_append, List.nil_append, Nat.zero_add, Nat.reduceAdd, Nat.reduceSub, Nat.zero_sub, Nat.reduceEqDiff, Int.reduceLE, Int.reduceLT, Int.reduceEq, Int.reduceNe, Int.reduceAdd, Int.reduceSub, Int.reduceMul, Int.reduceNeg, Int.reduceToNat, Int.toNat_zero, Int.toNat_one, Int.zero_add, Int.zero_mul, Int.one_mul, ↓reduceIte, not_false_eq_true, not_true_eq_false, m_up_s, m_up_c, m_up_k, ne_eq, and_self, and_true, true_and, and_false, false_and, or_true, or_false, true_or, false_or, a_2, u_2, l_2, a_4, u_4, l_4, a_7, u_7, l_7, a_9, u_9, l_9, a_10, u_10, l_10, a_11, u_11, l_11, a_12, u_12, l_12, a_14, u_14, l_14, a_75, u_75, l_75, a_76, u_76, l_76, a_78, u_78, l_78, a_79, u_79, l_79, a_81, u_81, l_81, a_82, u_82, l_82, a_83, u_83, l_83, a_85, u_85, l_85, r_0_0, r_0_1, r_0_2, r_0_3, r_0_4, r_0_5, r_0_6, r_1_0, r_3_0, r_5_0, r_6_2, r_8_9, r_8_10, r_8_11, r_8_12, r_8_13, r_13_2, r_15_0, r_73_0, r_73_1, r_74_2, r_74_3, r_77_2, r_77_3, r_80_0, r_80_1, r_80_2, r_80_3, r_84_2, w_n1, w_0, w_1, w_2, w_3, w_4, w_5, w_6, w_7, w_8, w_9, w_10, w_11, w_12, w_13, w_14, w_15, w_16, w_17, w_18, w_19, w_20, w_21, w_22, w_23, w_24, w_25, w_26, w_27, w_28, w_29, w_30, w_31, w_32, w_33, w_34, w_35, w_36, w_37, w_38, w_39, w_40, w_41, w_42, w_43, w_44, w_45, w_46, w_47, w_48, w_49, w_50, w_51, w_52, w_53, w_54, w_55, w_56, w_57, w_58, w_59, w_60, w_61, w_62, w_63, w_64, w_65, w_66, w_67, w_68, w_69, w_n1000, w_n1001, w_n1002, w_n1003, w_65536, w_1103, w_377, w_127, w_126, w_128, t_0_0, t_0_1, t_0_2, t_0_d, t_1_0, t_1_1, t_1_2, t_1_3, t_1_4, t_1_5, t_1_6, t_1_7, t_1_8, t_1_9, t_1_10, t_1_11, t_1_12, t_1_13, t_1_d, v_0_32, v_0_45, v_0_47, v_0_d, e_tsw, e_lsw, q_le1, q_le0, q_lt1, q_lt0, q_eq1, q_eq0, Int.add_zero, m_ca, Int.reduceNatCast', m_bite, m_b0, m_b1, m_nn, m_tn, m_w_id, m_x_id, e, Int.natCast_zero]
end SM
section IV
variable {d : Nat} {σ s : Nat → Nat → Int} {f g t : Nat → Int} {l u : Nat} {h : Nat → Nat → Int}
def sRq (f : Nat → Int) : Prop := sWF f ∧ sZf f ∧ (∀ k, 67 ≤ k → f k = 0) ∧ m_in (f 48) ∧ 1 ≤ sAl f
end IV
section LP
variable {d : Nat} {σ σ1 s : Nat → Nat → Int} {f f' g t t' : Nat → Int} {l u l' u' : Nat} {h h' : Nat → Nat → Int}
theorem sTX_e (X : sTX σ l t) (h1 : s 1 = σ 1) (h2 : s 2 = σ 2) : sTX s l t := ⟨by rw [h1]; exact X.1, fun i hi => by rw [h2]; exact X.2 i hi⟩
theorem sZf_g (O : sZf f) (hm : ∀ k, 49 ≤ k → f' k = f k) : sZf f' := by
  intro k z
  rw [hm (51 + k) (by omega)]
  rw [hm 49 (by decide), hm 50 (by decide)] at z
  exact O k z
theorem sAl_1 {p : Nat} (hp : p < 5) (h0 : 0 < f p) : 1 ≤ sAl f := by
  have g : p = 0 ∨ p = 1 ∨ p = 2 ∨ p = 3 ∨ p = 4 := by omega
  unfold sAl
  rcases g with rfl | rfl | rfl | rfl | rfl <;> rw [if_pos h0] <;> repeat' split <;> omega
theorem sAl_x {p : Nat} (ha : 2 ≤ sAl f) : ∃ q, q < 5 ∧ ¬ q = p ∧ 0 < f q := by
  apply Classical.byContradiction
  intro h
  have k : ∀ q, q < 5 → ¬ q = p → ¬ 0 < f q := fun q a b c => h ⟨q, a, b, c⟩
  have k0 := k 0 (by decide)
  have k1 := k 1 (by decide)
  have k2 := k 2 (by decide)
  have k3 := k 3 (by decide)
  have k4 := k 4 (by decide)
  unfold sAl at ha
  by_cases h0 : 0 < f 0
  · rw [if_pos h0, if_neg (fun c => k1 (by omega) c), if_neg (fun c => k2 (by omega) c), if_neg (fun c => k3 (by omega) c), if_neg (fun c => k4 (by omega) c)] at ha
    omega
  · rw [if_neg h0] at ha
    by_cases h1 : 0 < f 1
    · rw [if_pos h1, if_neg (fun c => k2 (by omega) c), if_neg (fun c => k3 (by omega) c), if_neg (fun c => k4 (by omega) c)] at ha
      omega
    · rw [if_neg h1] at ha
      by_cases h2 : 0 < f 2
      · rw [if_pos h2, if_neg (fun c => k3 (by omega) c), if_neg (fun c => k4 (by omega) c)] at ha
        omega
      · rw [if_neg h2] at ha
        repeat' split at ha
        all_goals omega
theorem sAl_2 {p : Nat} (ha : 2 ≤ sAl f) (he : ∀ q, q < 5 → ¬ q = p → f' q = f q) : 1 ≤ sAl f' := by
  obtain ⟨q, a, b, c⟩ := sAl_x (p := p) ha
  exact sAl_1 a (by rw [he q a b]; exact c)
theorem sRq_m (R : sRq f) (W' : sWF f') (hm : ∀ k, 49 ≤ k → f' k = f k) (h48 : m_in (f' 48)) (ha : 1 ≤ sAl f') : sRq f' := ⟨W', sZf_g R.2.1 hm, fun k hk => by rw [hm k (by omega)]; exact R.2.2.1 k hk, h48, ha⟩
theorem sRq_new {P : Int} (R : sRq f) (hP : 2 ≤ P ∧ P ≤ 5) : sRq (gNw f P) ∧ ∀ k, 49 ≤ k → gNw f P k = f k := by
  have hm : ∀ k, 49 ≤ k → gNw f P k = f k := fun k hk => by
    unfold gNw
    rw [if_neg (by omega)]
  refine ⟨sRq_m R (W_new R.1 hP) hm ?_ (sAl_1 (p := 0) (by decide) ?_), hm⟩
  · unfold gNw
    rw [if_pos (by decide), if_neg (by decide), if_neg (by decide), if_neg (by omega)]
    exact m_in0
  · unfold gNw
    rw [if_pos (by decide), if_neg (by decide), if_neg (by decide), if_pos (by omega)]
    decide
theorem sRq_wild {w : Int} (R : sRq f) (hw : w = 0 ∨ w = 1) : sRq (g1 f 46 w) ∧ ∀ k, 49 ≤ k → g1 f 46 w k = f k := by
  have hm : ∀ k, 49 ≤ k → g1 f 46 w k = f k := fun k hk => g1_n (by omega)
  refine ⟨sRq_m R (W_wild R.1 hw) hm ?_ ?_, hm⟩
  · rw [g1_n (by decide)]; exact R.2.2.2.1
  · rw [sAl_c (fun p hp => g1_n (by omega))]; exact R.2.2.2.2
theorem sRq_deal {v : Nat → Int} (R : sRq f) (hc : f 42 = 0 ∧ 2 ≤ sAl f) (hv : ∀ n : Nat, (n : Int) < sDc f → 1 ≤ v n ∧ v n ≤ 6) : sRq (gDl f v) ∧ ∀ k, 49 ≤ k → gDl f v k = f k := by
  have hm : ∀ k, 49 ≤ k → gDl f v k = f k := fun k hk => gDl_e (by omega) (by omega)
  have wn := W_n R.1
  refine ⟨sRq_m R (W_deal R.1 hc.2 hv (by omega)) hm ?_ ?_, hm⟩
  · rw [gDl_e (by decide) (by decide)]; exact R.2.2.2.1
  · rw [sAl_c (fun p hp => gDl_e (by omega) (by omega))]; exact R.2.2.2.2
theorem gCl_x {n a : Int} {k : Nat} (hk : k < 41 ∨ k = 42 ∨ 45 < k) : gCl f n a k = f k := by
  unfold gCl
  rw [g1_n (by omega), g1_n (by omega), g1_n (by omega), g1_n (by omega)]
theorem sRq_claim {n a : Int} (R : sRq f) (hd : f 42 = 1) (hn : 1 ≤ n ∧ n ≤ 25) (hf : 1 ≤ a ∧ a ≤ 6) : sRq (gCl f n a) ∧ ∀ k, 49 ≤ k → gCl f n a k = f k := by
  have hm : ∀ k, 49 ≤ k → gCl f n a k = f k := fun k hk => gCl_x (by omega)
  refine ⟨sRq_m R (W_claim R.1 hd hn hf) hm ?_ ?_, hm⟩
  · rw [gCl_x (by omega)]; exact R.2.2.2.1
  · rw [sAl_c (fun p hp => gCl_x (by omega))]; exact R.2.2.2.2
theorem sRq_doubt (R : sRq f) (hn : ¬ f 43 = -1003) : sRq (gDb f) ∧ ∀ k, 49 ≤ k → gDb f k = f k := by
  have v := sLs_v R.1 hn
  have wp := W_p R.1
  have wn := W_n R.1
  have al := W_al R.1 (by omega)
  have hm : ∀ k, 49 ≤ k → gDb f k = f k := fun k hk => by
    unfold gDb
    rw [gE_e (by omega), gL_e (by omega) (by omega), g1_n (by omega)]
  refine ⟨sRq_m R (W_doubt R.1 hn) hm ?_ ?_, hm⟩
  · unfold gDb
    rw [gE_e (by omega), gL_e (by omega) (by omega), g1_s]
    split
    · exact R.2.2.2.1
    · exact m_inw _
  · unfold gDb
    rw [gE_al]
    exact sAl_2 (p := (sLs f).toNat) al (fun q hq h => by rw [gL_e h (by omega), g1_n (by omega)])
theorem gX0_x {k : Nat} (h1 : ¬ k = (f 41).toNat) (h2 : k < 5 ∨ 40 ≤ k) (h3 : (f 41).toNat < 5) : gX0 f k = f k := by
  unfold gX0
  split
  · unfold gWn
    rw [g1_n (by omega), g1_n h1]
  · rw [gL_e h1 (by omega)]
theorem sRq_exact (R : sRq f) (hn : ¬ f 43 = -1003) : sRq (gEx f) ∧ ∀ k, 49 ≤ k → gEx f k = f k := by
  have wp := W_p R.1
  have wn := W_n R.1
  have al := W_al R.1 (by omega)
  have v := W_t R.1 al
  have hm : ∀ k, 49 ≤ k → gEx f k = f k := fun k hk => by
    unfold gEx
    rw [gE_e (by omega), gX0_x (by omega) (by omega) (by omega)]
  refine ⟨sRq_m R (W_exact R.1 hn) hm ?_ ?_, hm⟩
  · unfold gEx
    rw [gE_e (by omega), gX0_x (by omega) (by omega) (by omega)]
    exact R.2.2.2.1
  · unfold gEx
    rw [gE_al]
    exact sAl_2 (p := (f 41).toNat) al (fun q hq h => gX0_x h (by omega) (by omega))
end LP
section ST
theorem m_v0_of {c k : Nat} (h : (m_P0.any (fun q => q.1 == c && q.2 == k)) = true) : m_M2.2 c k = m_v0 c k := by
  obtain ⟨q, hq, h2⟩ := List.any_eq_true.mp h
  have h3 := of_decide_eq_true (List.all_eq_true.mp m_M2_v q hq)
  simp only [Bool.and_eq_true, beq_iff_eq] at h2
  rw [h2.1, h2.2] at h3
  exact h3
theorem m_M1_q : ((m_go 3000 9 0 [m_R 0] m_I0).all (fun q => q.1.isNone)) = true := by decide +kernel
theorem m_go_M1 : m_go 3000 9 0 [m_R 0] m_I0 = some (none, m_M1) := by
  obtain ⟨⟨r, μ⟩, h⟩ := Option.isSome_iff_exists.mp m_M1_some
  have e : m_M1 = μ := by
    unfold m_M1
    rw [h]
  have q := m_M1_q
  rw [h] at q
  have r0 : r = none := Option.isNone_iff_eq_none.mp q
  rw [h, e, r0]
theorem e_new {X : Option (Nat × (Nat → Int))} {f : m_C} {y a b : Nat} {z : Int} {is : List m_P} {ls st : List m_V} {μ : m_M} : m_e X f y ((57, a, b, z) :: is) ls st μ = m_e X f y is ls (m_R μ.1.length :: st) (μ.1 ++ [((0, a), List.replicate z.toNat none)], m_zr μ.2 μ.1.length) := e_step (q := (ls, m_R μ.1.length :: st, (μ.1 ++ [((0, a), List.replicate z.toNat none)], m_zr μ.2 μ.1.length))) (Nat.le_of_ble_eq_true rfl) rfl
theorem m_v0_e {c k : Nat} {z : Int} (h : ((m_P0.any (fun q => q.1 == c && q.2 == k)) && decide (m_v0 c k = z)) = true) : m_M2.2 c k = z := by
  rw [Bool.and_eq_true] at h
  rw [m_v0_of h.1]
  exact of_decide_eq_true h.2
end ST
