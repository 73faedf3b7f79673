/-! the law's start: both objects made, the invariant holds -/
section ST
theorem m_v0_of {c k : Nat} (h : (m_P0.any (fun q => q.1 == c && q.2 == k)) = true) : m_M2.2 c k = m_v0 c k := by
  obtain ⟨q, hq, h2⟩ := List.any_eq_true.mp h
  have h3 := of_decide_eq_true (List.all_eq_true.mp m_M2_v q hq)
  simp only [Bool.and_eq_true, beq_iff_eq] at h2
  rw [h2.1, h2.2] at h3
  exact h3
theorem m_P87 : ∀ k : Nat, k < 67 → (m_P0.any (fun q => q.1 == 87 && q.2 == k)) = true := by decide +kernel
theorem m_f0 {k : Nat} (h : k < 67) : m_M2.2 87 k = m_v0 87 k := m_v0_of (m_P87 k h)
theorem m_M1_q : ((m_go 3000 9 0 [m_R 0] m_I0).all (fun q => q.1.isNone)) = true := by decide +kernel
theorem m_M2_q : ((m_go 3000 9 121 [m_R 86] m_I1).all (fun q => q.1.isNone)) = true := by decide +kernel
theorem m_go_M1 : m_go 3000 9 0 [m_R 0] m_I0 = some (none, m_M1) := by
  obtain ⟨⟨r, μ⟩, h⟩ := Option.isSome_iff_exists.mp m_M1_some
  have e : m_M1 = μ := by
    unfold m_M1
    rw [h]
  have q := m_M1_q
  rw [h] at q
  have r0 : r = none := Option.isNone_iff_eq_none.mp q
  rw [h, e, r0]
theorem m_go_M2 : m_go 3000 9 121 [m_R 86] m_I1 = some (none, m_M2) := by
  obtain ⟨⟨r, μ⟩, h⟩ := Option.isSome_iff_exists.mp m_M2_some
  have e : m_M2 = μ := by
    unfold m_M2
    rw [h]
  have q := m_M2_q
  rw [h] at q
  have r0 : r = none := Option.isNone_iff_eq_none.mp q
  rw [h, e, r0]
theorem m_go_tl {n d y : Nat} {as : List m_V} {μ μ' : m_M} {r : Option m_V} (h : m_go n d y as μ = some (r, μ')) (t : m_tl μ) : m_tl μ' := m_ev_tl _ _ _ _ _ (m_go_ev _ _ _ _ _ h) t
theorem m_tl_M2 : m_tl m_M2 := by
  have t0 : m_tl m_I0 := fun c k _ _ => by
    show m_zr (fun _ _ => 0) 0 c k = 0
    unfold m_zr
    split <;> rfl
  have t1 : m_tl m_M1 := m_go_tl m_go_M1 t0
  have t2 : m_tl m_I1 := by
    have k := m_tp_zr m_M1 ((0, 10), [none, none, none, none, none, none, none, none, none, none, none, none, none, none, none, none]) t1
    rw [m_M1_len] at k
    exact k
  exact m_go_tl m_go_M2 t2
theorem m_f0_t {k : Nat} (h : 67 ≤ k) : m_M2.2 87 k = 0 := by
  have e : m_gk m_M2 87 = (1, 67) := by
    unfold m_gk m_g
    rw [m_M2_G]
    rfl
  exact m_tl_M2 87 k (by rw [e]) (by rw [e]; exact h)
theorem e_new {X : Option (Nat × (Nat → Int))} {f : m_C} {y a b : Nat} {z : Int} {is : List m_P} {ls st : List m_V} {μ : m_M} : m_e X f y ((57, a, b, z) :: is) ls st μ = m_e X f y is ls (m_R μ.1.length :: st) (μ.1 ++ [((0, a), List.replicate z.toNat none)], m_zr μ.2 μ.1.length) := e_step (q := (ls, m_R μ.1.length :: st, (μ.1 ++ [((0, a), List.replicate z.toNat none)], m_zr μ.2 μ.1.length))) (Nat.le_of_ble_eq_true rfl) rfl
theorem w_start (L : Nat) (xs : Nat → Int) : m_e (some (L, xs)) (m_ev 9) 197 (m_blk 197 0) (m_en (m_ml 197) [m_S]) [] ([], fun _ _ => 0) = m_e (some (L, xs)) (m_ev 9) 197 (m_blk 197 1) [m_S, m_R 0, m_R 86, m_I 0] [] (m_G0, m_M2.2) := by
  have k1 := m_go_ev _ _ _ _ _ m_go_M1
  have k2 := m_go_ev _ _ _ _ _ m_go_M2
  have c1 : ∀ is ls, m_e (some (L, xs)) (m_ev 9) 197 ((7, 0, 1, -2) :: is) ls [m_R 0, m_R 0] m_I0 = m_e (some (L, xs)) (m_ev 9) 197 is ls [m_R 0] m_M1 := fun is ls => e_call (as := [m_R 0]) (r := [m_R 0]) rfl rfl (by decide) rfl k1
  have c2 : ∀ is ls, m_e (some (L, xs)) (m_ev 9) 197 ((7, 121, 1, -2) :: is) ls [m_R 86, m_R 86] m_I1 = m_e (some (L, xs)) (m_ev 9) 197 is ls [m_R 86] m_M2 := fun is ls => e_call (as := [m_R 86]) (r := [m_R 86]) rfl rfl (by decide) rfl k2
  have en : m_en (m_ml 197) [m_S] = [m_S, m_U, m_U, m_U] := rfl
  have i0 : (([] : List m_G) ++ [((0, 9), List.replicate (7 : Int).toNat none)], m_zr (fun _ _ => (0 : Int)) ([] : List m_G).length) = m_I0 := rfl
  have i1 : (m_M1.1 ++ [((0, 10), List.replicate (16 : Int).toNat none)], m_zr m_M1.2 86) = m_I1 := rfl
  have i2 : (m_G0, m_M2.2) = m_M2 := by
    rw [← m_M2_G]
  rw [en, i2, b_197_0]
  rw [e_new]
  show m_e _ _ _ _ _ _ (([] : List m_G) ++ [((0, 9), List.replicate (7 : Int).toNat none)], m_zr (fun _ _ => (0 : Int)) ([] : List m_G).length) = _
  rw [i0]
  show m_e _ _ _ ((50, 0, 0, 0) :: _) _ (m_O (some 0) :: []) m_I0 = _
  rw [e_dup]
  show m_e _ _ _ _ _ [m_R 0, m_R 0] m_I0 = _
  rw [c1, e_aS, e_new, m_M1_len, i1]
  show m_e _ _ _ ((50, 0, 0, 0) :: _) _ (m_O (some 86) :: []) m_I1 = _
  rw [e_dup]
  show m_e _ _ _ _ _ [m_R 86, m_R 86] m_I1 = _
  rw [c2, e_aS, e_pi, e_is, e_fall]
  rfl
theorem m_fz : ∀ k : Nat, m_M2.2 87 (51 + k) = 0 := fun k => by
  by_cases h : 51 + k < 67
  · rw [m_f0 h]
    have a : ∀ k : Nat, k < 16 → m_v0 87 (51 + k) = 0 := by decide +kernel
    exact a k (by omega)
  · exact m_f0_t (by omega)
theorem m_fA : sAl (m_M2.2 87) = 2 := by
  unfold sAl
  rw [m_f0 (by decide), m_f0 (by decide), m_f0 (by decide), m_f0 (by decide), m_f0 (by decide)]
  decide +kernel
theorem m_fW : sWF (m_M2.2 87) := by
  have e : ∀ k, k < 67 → m_M2.2 87 k = m_v0 87 k := fun k h => m_f0 h
  have z42 : m_M2.2 87 42 = 0 := (e 42 (by decide)).trans (by decide +kernel)
  have z43 : m_M2.2 87 43 = -1003 := (e 43 (by decide)).trans (by decide +kernel)
  have z44 : m_M2.2 87 44 = -1003 := (e 44 (by decide)).trans (by decide +kernel)
  have z45 : m_M2.2 87 45 = -1003 := (e 45 (by decide)).trans (by decide +kernel)
  have z40 : m_M2.2 87 40 = 2 := (e 40 (by decide)).trans (by decide +kernel)
  have z41 : m_M2.2 87 41 = 0 := (e 41 (by decide)).trans (by decide +kernel)
  have z46 : m_M2.2 87 46 = 1 := (e 46 (by decide)).trans (by decide +kernel)
  have z49 : m_M2.2 87 49 = 1 := (e 49 (by decide)).trans (by decide +kernel)
  have z50 : m_M2.2 87 50 = 1 := (e 50 (by decide)).trans (by decide +kernel)
  have z0 : m_M2.2 87 0 = 5 := (e 0 (by decide)).trans (by decide +kernel)
  have a : ∀ p : Nat, p < 5 → 0 ≤ m_v0 87 p ∧ m_v0 87 p ≤ 5 ∧ ((2 : Int) ≤ (p : Int) → m_v0 87 p = 0) := by decide +kernel
  refine ⟨by rw [z40]; decide, fun p hp => by rw [z40, e p (by omega)]; exact a p hp, Or.inl z42, Or.inr z46, fun _ => ?_, fun h => absurd h (by rw [m_fA]; decide), fun h => absurd h (by rw [z42]; decide), fun h => absurd h (by rw [z42]; decide), Or.inl z43, fun _ => ⟨z44, z45⟩, by rw [z49, z50]; decide, fun k _ => by rw [m_fz k]; decide⟩
  rw [z41, z40]
  refine ⟨by decide, by decide, ?_⟩
  rw [show (0 : Int).toNat = 0 from rfl, z0]
  decide
theorem m_fR : sRq (m_M2.2 87) := ⟨m_fW, fun k _ => m_fz k, fun k hk => m_f0_t hk, by rw [m_f0 (by decide), show m_v0 87 48 = 0 by decide +kernel]; exact m_in0, by rw [m_fA]; decide⟩
theorem sEa_0 : sEa (m_M2.2 87) = fun _ _ => 0 := by
  funext r c
  unfold sEa
  rw [show 51 + 4 * r + c = 51 + (4 * r + c) by omega]
  exact m_fz _
theorem m_v0_e {c k : Nat} {z : Int} (h : ((m_P0.any (fun q => q.1 == c && q.2 == k)) && decide (m_v0 c k = z)) = true) : m_M2.2 c k = z := by
  rw [Bool.and_eq_true] at h
  rw [m_v0_of h.1]
  exact of_decide_eq_true h.2
theorem m_T0 : sTR m_M2.2 8 (m_M2.2 87) := by
  have e : ∀ k, k < 67 → m_M2.2 87 k = m_v0 87 k := fun k h => m_f0 h
  have z42 : m_M2.2 87 42 = 0 := (e 42 (by decide)).trans (by decide +kernel)
  have z43 : m_M2.2 87 43 = -1003 := (e 43 (by decide)).trans (by decide +kernel)
  have z49 : m_M2.2 87 49 = 1 := (e 49 (by decide)).trans (by decide +kernel)
  have z50 : m_M2.2 87 50 = 1 := (e 50 (by decide)).trans (by decide +kernel)
  have a1 : ∀ p : Nat, p < 5 → ((m_P0.any (fun q => q.1 == 8 + 1 && q.2 == p)) && decide (m_v0 (8 + 1) p = m_v0 87 p)) = true := by decide +kernel
  have a2 : ∀ p : Nat, p < 5 → ((m_P0.any (fun q => q.1 == 8 + 2 && q.2 == p)) && decide (m_v0 (8 + 2) p = m_v0 87 (5 + p))) = true := by decide +kernel
  have a3 : ∀ p : Nat, p < 5 → ((m_P0.any (fun q => q.1 == 8 + 3 && q.2 == p)) && decide (m_v0 (8 + 3) p = m_v0 87 (10 + p))) = true := by decide +kernel
  refine ⟨⟨?_, ?_, ?_⟩, fun _ => ?_, ?_, fun h => absurd z43 h, ⟨?_, ?_⟩, fun p hp => ?_, fun p hp => ?_, fun p hp => ?_, fun h => absurd h (by rw [z42]; decide), ⟨?_, ?_⟩, fun r c hr hc => ?_⟩
  · rw [e 40 (by decide)]; exact m_v0_e (by decide +kernel)
  · rw [e 46 (by decide)]; exact m_v0_e (by decide +kernel)
  · rw [e 42 (by decide)]; exact m_v0_e (by decide +kernel)
  · rw [e 41 (by decide)]; exact m_v0_e (by decide +kernel)
  · rw [if_pos z43]; exact m_v0_e (by decide +kernel)
  · rw [e 47 (by decide)]; exact m_v0_e (by decide +kernel)
  · rw [e 48 (by decide)]; exact m_v0_e (by decide +kernel)
  · rw [e p (by omega)]; exact m_v0_e (a1 p hp)
  · rw [e (5 + p) (by omega)]; exact m_v0_e (a2 p hp)
  · rw [e (10 + p) (by omega)]; exact m_v0_e (a3 p hp)
  · rw [z49]; exact m_v0_e (by decide +kernel)
  · rw [z50]; exact m_v0_e (by decide +kernel)
  · rw [z49] at hr
    rw [z50] at hc
    have r0 : r = 0 := by omega
    have c0 : c = 0 := by omega
    subst r0 c0
    have h1 : m_M2.2 14 0 = 0 := m_v0_e (by decide +kernel)
    have h2 : m_M2.2 87 51 = 0 := (m_f0 (by decide)).trans (by decide +kernel)
    simp only [Nat.mul_zero, Nat.add_zero]
    rw [h1, h2]
theorem m_S0 : sSX m_M2.2 := by
  refine ⟨0, 0, ⟨by decide, m_v0_e (by decide +kernel), m_v0_e (by decide +kernel), fun i hi => ?_, fun i hi => ?_⟩, ⟨by decide, m_v0_e (by decide +kernel), m_v0_e (by decide +kernel), fun i hi => ?_, fun i hi => ?_⟩⟩
  · have : i = 0 := by omega
    subst this
    exact m_v0_e (by decide +kernel)
  · have : i = 0 ∨ i = 1 := by omega
    rcases this with rfl | rfl
    · exact m_v0_e (by decide +kernel)
    · exact m_v0_e (by decide +kernel)
  · have : i = 0 := by omega
    subst this
    exact m_v0_e (by decide +kernel)
  · have : i = 0 ∨ i = 1 := by omega
    rcases this with rfl | rfl
    · exact m_v0_e (by decide +kernel)
    · exact m_v0_e (by decide +kernel)
theorem m_O0 : sSo m_M2.2 (m_M2.2 87) := by
  have e : ∀ k, k < 67 → m_M2.2 87 k = m_v0 87 k := fun k h => m_f0 h
  have z49 : m_M2.2 87 49 = 1 := (e 49 (by decide)).trans (by decide +kernel)
  have z50 : m_M2.2 87 50 = 1 := (e 50 (by decide)).trans (by decide +kernel)
  refine ⟨fun k _ => m_fz k, ⟨?_, ?_⟩, fun r c hr hc => ?_, (1, 1), ?_, ?_⟩
  · rw [z49]; exact m_v0_e (by decide +kernel)
  · rw [z50]; exact m_v0_e (by decide +kernel)
  · rw [z49] at hr
    rw [z50] at hc
    have r0 : r = 0 := by omega
    have c0 : c = 0 := by omega
    subst r0 c0
    have h1 : m_M2.2 85 0 = 0 := m_v0_e (by decide +kernel)
    have h2 : m_M2.2 87 51 = 0 := (m_f0 (by decide)).trans (by decide +kernel)
    simp only [Nat.mul_zero, Nat.add_zero]
    rw [h1, h2]
  · rw [sEa_0, z49, z50]
    decide +kernel
  · rw [sEa_0]
    have a1 : ∀ i : Nat, i < 4 → ((m_P0.any (fun q => q.1 == 82 && q.2 == i)) && decide (m_v0 82 i = sNe (sDn (fun _ _ => 0) 1 1) (sRh (fun _ _ => 0) 1 1 i))) = true := by decide +kernel
    have a2 : ∀ i : Nat, i < 4 → ((m_P0.any (fun q => q.1 == 83 && q.2 == i)) && decide (m_v0 83 i = sNe (sDn (fun _ _ => 0) 1 1) (sKa (fun _ _ => 0) 1 1 i))) = true := by decide +kernel
    refine ⟨m_v0_e (by decide +kernel), m_v0_e (by decide +kernel), fun i hi => ⟨m_v0_e (a1 i hi), m_v0_e (a2 i hi)⟩⟩
theorem w_init : sIv m_M2.2 (m_M2.2 87) (fun _ _ => 0) (fun _ => 0) 0 0 := by
  have e15 : m_M2.2 15 1 = 0 := m_v0_e (by decide +kernel)
  refine ⟨m_fR, m_T0, rfl, ⟨⟨m_v0_e (by decide +kernel), by rw [e15]; decide, fun j hj => absurd hj (by omega)⟩, ⟨m_v0_e (by decide +kernel), fun j k hj => absurd hj (by omega)⟩, by decide, fun j hj => absurd hj (by omega)⟩, ⟨⟨m_v0_e (by decide +kernel), fun i hi => absurd hi (by omega)⟩, ⟨m_v0_e (by decide +kernel), fun i hi => absurd hi (by omega)⟩, by decide, fun i hi => absurd hi (by omega)⟩, m_S0, m_O0⟩
end ST
