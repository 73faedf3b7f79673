/-! the law's loop -/
section LL
variable {σ : Nat → Nat → Int} {f t xs : Nat → Int} {l u L : Nat} {h : Nat → Nat → Int} {i : Int}
theorem sNs_e {K : Nat} (V : sIv σ f h t u l) (e : m_e (some (L, xs)) (m_ev 9) 197 (m_blk 197 K) [m_S, m_R 0, m_R 86, m_I i] [] (m_G0, σ) = m_e (some (L, xs)) (m_ev 9) 197 (m_blk 197 85) [m_S, m_R 0, m_R 86, m_I i] [] (m_G0, σ)) : sNs L xs i σ K := ⟨σ, f, h, t, u, l, e, V⟩
theorem sNs_s {K : Nat} (e : ∃ s' : Nat → Nat → Int, m_e (some (L, xs)) (m_ev 9) 197 (m_blk 197 K) [m_S, m_R 0, m_R 86, m_I i] [] (m_G0, σ) = m_e (some (L, xs)) (m_ev 9) 197 (m_blk 197 85) [m_S, m_R 0, m_R 86, m_I i] [] (m_G0, s') ∧ sIv s' f h t u l) : sNs L xs i σ K := by
  obtain ⟨s', a, b⟩ := e
  exact ⟨s', f, h, t, u, l, a, b⟩
theorem w_case (hX : ∀ f' : Nat → Int, sWF f' → sZf f' → ∃ x, sOn (sEa f') (f' 49).toNat (f' 50).toNat 4 1 = some x) (V : sIv σ f h t u l) (hi : 0 ≤ i ∧ i + 4 < (L : Int) ∧ (L : Int) ≤ 2560) (x : Int) : sNs L xs i σ (m_tsb (m_tsl 3) x) := by
  by_cases hx : 0 ≤ x ∧ x < 26
  · have g : x = 0 ∨ x = 1 ∨ x = 2 ∨ x = 3 ∨ x = 4 ∨ x = 5 ∨ x = 6 ∨ x = 7 ∨ x = 8 ∨ x = 9 ∨ x = 10 ∨ x = 11 ∨ x = 12 ∨ x = 13 ∨ x = 14 ∨ x = 15 ∨ x = 16 ∨ x = 17 ∨ x = 18 ∨ x = 19 ∨ x = 20 ∨ x = 21 ∨ x = 22 ∨ x = 23 ∨ x = 24 ∨ x = 25 := by omega
    rcases g with rfl | rfl | rfl | rfl | rfl | rfl | rfl | rfl | rfl | rfl | rfl | rfl | rfl | rfl | rfl | rfl | rfl | rfl | rfl | rfl | rfl | rfl | rfl | rfl | rfl | rfl
    · rw [t_3_0]; exact w_typ V hi
    · rw [t_3_1]; exact w_cle V hi
    · rw [t_3_2]; exact w_fau V hi
    · rw [t_3_3]; exact w_new V hi
    · rw [t_3_4]; exact w_wil V hi
    · rw [t_3_5]; exact w_dea V hi
    · rw [t_3_6]; exact w_rol V hi
    · rw [t_3_7]; exact w_cla V hi
    · rw [t_3_8]; exact w_dou V hi
    · rw [t_3_9]; exact w_exa V hi
    · rw [t_3_10]; exact w_sma hX V hi
    · rw [t_3_11]; exact w_und hX V hi
    · rw [t_3_12]; exact sNs_e V (w_pla V hi)
    · rw [t_3_13]; exact sNs_e V (w_die V hi)
    · rw [t_3_14]; exact sNs_e V (w_cou V hi)
    · rw [t_3_15]; exact sNs_e V (w_ran V hi)
    · rw [t_3_16]; exact sNs_s (w_cha V hi)
    · rw [t_3_17]; exact sNs_s (w_bit V hi)
    · rw [t_3_18]; exact sNs_s (w_bcl V hi)
    · rw [t_3_19]; exact sNs_s (w_adv V hi (sIv_B V))
    · rw [t_3_20]; exact sNs_e V (w_ent V hi)
    · rw [t_3_21]; exact sNs_s (w_val V hi)
    · rw [t_3_22]; exact sNs_s (w_sha V hi)
    · rw [t_3_23]; exact sNs_e V (w_sad V hi)
    · rw [t_3_24]; exact sNs_e V (w_cnt V hi)
    · rw [t_3_25]; exact w_dig hX V hi
  · rw [t_3_d (by omega)]
    exact sNs_e V rfl
theorem w_one (hX : ∀ f' : Nat → Int, sWF f' → sZf f' → ∃ x, sOn (sEa f') (f' 49).toNat (f' 50).toNat 4 1 = some x) (V : sIv σ f h t u l) (hi : 0 ≤ i ∧ i + 4 < (L : Int) ∧ (L : Int) ≤ 2560) : ∃ (s' : Nat → Nat → Int) (f' : Nat → Int) (h' : Nat → Nat → Int) (t' : Nat → Int) (u' l' : Nat), m_e (some (L, xs)) (m_ev 9) 197 (m_blk 197 1) [m_S, m_R 0, m_R 86, m_I i] [] (m_G0, σ) = m_e (some (L, xs)) (m_ev 9) 197 (m_blk 197 1) [m_S, m_R 0, m_R 86, m_I (i + 5)] [] (m_G0, s') ∧ sIv s' f' h' t' u' l' := by
  obtain ⟨s', f', h', t', u', l', a, b⟩ := w_case hX (xs := xs) V hi (m_and (xs i.toNat) 31)
  refine ⟨s', f', h', t', u', l', ?_, b⟩
  have xl : ∀ {is : List m_P} {ls r : List m_V} {μ : m_M}, m_e (some (L, xs)) (m_ev 9) 197 ((58, 0, 0, 0) :: is) ls (m_S :: r) μ = m_e (some (L, xs)) (m_ev 9) 197 is ls (m_I (L : Int) :: r) μ := fun {_ _ _ _} => e_xl rfl
  have w5 : m_w ((L : Int) - 5) = (L : Int) - 5 := by unfold m_w; omega
  have wi : m_w (i + 5) = i + 5 := by unfold m_w; omega
  have c1 : ¬ ((L : Int) - 5 < i) := by omega
  have g1 : m_e (some (L, xs)) (m_ev 9) 197 (m_blk 197 1) [m_S, m_R 0, m_R 86, m_I i] [] (m_G0, σ) = m_e (some (L, xs)) (m_ev 9) 197 (m_blk 197 (m_tsb (m_tsl 3) (m_and (xs i.toNat) 31))) [m_S, m_R 0, m_R 86, m_I i] [] (m_G0, σ) := by
    conv => lhs; rw [b_197_1]
    rw [e_il (x := i) rfl, e_as rfl, xl, e_pi, e_isub, w5, e_ic4, if_neg c1, e_fall, b_197_2, e_as rfl, e_il (x := i) rfl, x_ld hi.1 (by omega), e_pi, e_iand, e_tsw]
  refine g1.trans (a.trans ?_)
  conv => lhs; rw [b_197_85]
  rw [e_inc (x := i) rfl, wi, e_goto]
  rfl
theorem w_end (hi : (L : Int) ≤ i + 4) (hL : (L : Int) ≤ 2560) : m_e (some (L, xs)) (m_ev 9) 197 (m_blk 197 1) [m_S, m_R 0, m_R 86, m_I i] [] (m_G0, σ) = some (some (m_I 1), (m_G0, σ)) := by
  have xl : ∀ {is : List m_P} {ls r : List m_V} {μ : m_M}, m_e (some (L, xs)) (m_ev 9) 197 ((58, 0, 0, 0) :: is) ls (m_S :: r) μ = m_e (some (L, xs)) (m_ev 9) 197 is ls (m_I (L : Int) :: r) μ := fun {_ _ _ _} => e_xl rfl
  have w5 : m_w ((L : Int) - 5) = (L : Int) - 5 := by unfold m_w; omega
  have c1 : (L : Int) - 5 < i := by omega
  rw [b_197_1, e_il (x := i) rfl, e_as rfl, xl, e_pi, e_isub, w5, e_ic4, if_pos c1, b_197_86, e_pi, e_ret21]
theorem w_loop (hX : ∀ f' : Nat → Int, sWF f' → sZf f' → ∃ x, sOn (sEa f') (f' 49).toNat (f' 50).toNat 4 1 = some x) (hL : (L : Int) ≤ 2560) : ∀ (n : Nat) (i : Int) (σ : Nat → Nat → Int) (f : Nat → Int) (h : Nat → Nat → Int) (t : Nat → Int) (u l : Nat), (L : Int) ≤ i + 4 + n → 0 ≤ i → sIv σ f h t u l → ∃ s' : Nat → Nat → Int, m_e (some (L, xs)) (m_ev 9) 197 (m_blk 197 1) [m_S, m_R 0, m_R 86, m_I i] [] (m_G0, σ) = some (some (m_I 1), (m_G0, s'))
  | 0, i, σ, f, h, t, u, l, hn, h0, V => ⟨σ, w_end (by omega) hL⟩
  | n + 1, i, σ, f, h, t, u, l, hn, h0, V => by
    by_cases g : (L : Int) ≤ i + 4
    · exact ⟨σ, w_end g hL⟩
    · obtain ⟨s1, f1, h1, t1, u1, l1, a, b⟩ := w_one (xs := xs) hX V ⟨h0, by omega, hL⟩
      obtain ⟨s', k⟩ := w_loop hX hL n (i + 5) s1 f1 h1 t1 u1 l1 (by omega) (by omega) b
      exact ⟨s', a.trans k⟩
theorem w_law (hX : ∀ f' : Nat → Int, sWF f' → sZf f' → ∃ x, sOn (sEa f') (f' 49).toNat (f' 50).toNat 4 1 = some x) (L : Nat) (xs : Nat → Int) (hL : L ≤ 2560) : ∃ μ' : m_M, m_e (some (L, xs)) (m_ev 9) 197 (m_blk 197 0) (m_en (m_ml 197) [m_S]) [] ([], fun _ _ => 0) = some (some (m_I 1), μ') ∧ μ'.1.length ≤ 600000 ∧ m_sz μ'.1 ≤ 7302250 := by
  obtain ⟨s', k⟩ := w_loop (L := L) (xs := xs) hX (by omega) L 0 _ _ _ _ _ _ (by omega) (by decide) w_init
  refine ⟨(m_G0, s'), (w_start L xs).trans k, ?_, ?_⟩
  · show m_G0.length ≤ 600000
    decide +kernel
  · show m_sz m_G0 ≤ 7302250
    decide +kernel
end LL
