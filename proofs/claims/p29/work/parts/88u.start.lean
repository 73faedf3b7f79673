/-! the law's start: both objects made, the invariant holds -/
section ST
theorem m_v0_of {c k : Nat} (h : (m_P0.any (fun q => q.1 == c && q.2 == k)) = true) : m_M2.2 c k = m_v0 c k := by
  obtain ⟨q, hq, h2⟩ := List.any_eq_true.mp h
  have h3 := of_decide_eq_true (List.all_eq_true.mp m_M2_v q hq)
  simp only [Bool.and_eq_true, beq_iff_eq] at h2
  rw [h2.1, h2.2] at h3
  exact h3
theorem m_M1_q : ((m_go 3000 9 0 [m_R 0] m_I0).all (fun q => q.1.isNone)) = true := by decide +kernel
theorem m_go_M1 : m_go 3000 9 0 [m_R 0] m_I0 = some (none, m_M1) := by
  obtain ⟨⟨r, μ⟩, h⟩ := Option.isSome_iff_exists.mp m_M1_some
  have e : m_M1 = μ := by
    unfold m_M1
    rw [h]
  have q := m_M1_q
  rw [h] at q
  have r0 : r = none := Option.isNone_iff_eq_none.mp q
  rw [h, e, r0]
theorem e_new {X : Option (Nat × (Nat → Int))} {f : m_C} {y a b : Nat} {z : Int} {is : List m_P} {ls st : List m_V} {μ : m_M} : m_e X f y ((57, a, b, z) :: is) ls st μ = m_e X f y is ls (m_R μ.1.length :: st) (μ.1 ++ [((0, a), List.replicate z.toNat none)], m_zr μ.2 μ.1.length) := e_step (q := (ls, m_R μ.1.length :: st, (μ.1 ++ [((0, a), List.replicate z.toNat none)], m_zr μ.2 μ.1.length))) (Nat.le_of_ble_eq_true rfl) rfl
theorem m_v0_e {c k : Nat} {z : Int} (h : ((m_P0.any (fun q => q.1 == c && q.2 == k)) && decide (m_v0 c k = z)) = true) : m_M2.2 c k = z := by
  rw [Bool.and_eq_true] at h
  rw [m_v0_of h.1]
  exact of_decide_eq_true h.2
end ST
