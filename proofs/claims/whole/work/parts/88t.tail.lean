/-! behind an int array's end stands 0 -/
def m_tl (μ : m_M) : Prop := ∀ c k : Nat, (m_gk μ c).1 = 1 → (m_gk μ c).2 ≤ k → μ.2 c k = 0
def m_tp (μ μ' : m_M) : Prop := m_tl μ → m_tl μ'
theorem m_tp_rf (μ : m_M) : m_tp μ μ := fun h => h
theorem m_tp_tr {μ μ' μ'' : m_M} (h : m_tp μ μ') (h' : m_tp μ' μ'') : m_tp μ μ'' := fun x => h' (h x)
theorem m_gk_sr (G : List m_G) (σ σ' : Nat → Nat → Int) (c k : Nat) (o : Option Nat) (c' : Nat) : m_gk (m_sr G c k o, σ) c' = m_gk (G, σ') c' := by
  unfold m_gk m_sr
  by_cases h : c' = c
  · subst h
    by_cases h2 : c' < G.length
    · rw [m_g_set_self h2]
      rfl
    · rw [List.set_eq_of_length_le (by omega)]
      rfl
  · rw [m_g_set h]
    rfl
theorem m_gk_ap {G : List m_G} {σ σ' : Nat → Nat → Int} {g : m_G} {c : Nat} (h : ¬ c = G.length) (h1 : (m_gk (G ++ [g], σ) c).1 = 1) : m_gk (G, σ') c = m_gk (G ++ [g], σ) c := by
  by_cases h2 : c < G.length
  · unfold m_gk
    rw [m_g_app h2]
    rfl
  · exfalso
    have e : m_gk (G ++ [g], σ) c = (9, 0) := by
      unfold m_gk m_g
      rw [List.getD_eq_getElem?_getD, List.getElem?_eq_none (by rw [List.length_append]; simp only [List.length_cons, List.length_nil]; omega)]
      rfl
    rw [e] at h1
    exact absurd (show (9 : Nat) = 1 from h1) (by decide)
theorem m_tp_sr (μ : m_M) (c k : Nat) (o : Option Nat) : m_tp μ (m_sr μ.1 c k o, μ.2) := by
  intro T c' k' h1 h2
  rw [m_gk_sr μ.1 μ.2 μ.2] at h1 h2
  exact T c' k' h1 h2
theorem m_tp_zr (μ : m_M) (g : m_G) : m_tp μ (μ.1 ++ [g], m_zr μ.2 μ.1.length) := by
  intro T c k h1 h2
  show m_zr μ.2 μ.1.length c k = 0
  unfold m_zr
  by_cases h : c = μ.1.length
  · rw [if_pos h]
  · rw [if_neg h]
    have e : m_gk μ c = _ := m_gk_ap (σ' := μ.2) h h1
    rw [← e] at h1 h2
    exact T c k h1 h2
theorem m_tp_ap (μ : m_M) (g : m_G) (hg : ¬ g.1.1 = 1) : m_tp μ (μ.1 ++ [g], μ.2) := by
  intro T c k h1 h2
  by_cases h : c = μ.1.length
  · exfalso
    subst h
    unfold m_gk at h1
    rw [m_g_app_self] at h1
    exact hg h1
  · have e : m_gk μ c = _ := m_gk_ap (σ' := μ.2) h h1
    rw [← e] at h1 h2
    exact T c k h1 h2
theorem m_tp_up {μ : m_M} {c k : Nat} {z : Int} (h : (m_gk μ c).1 = 1 → k < (m_gk μ c).2) : m_tp μ (μ.1, m_up μ.2 c k z) := by
  intro T c' k' h1 h2
  have g1 : (m_gk μ c').1 = 1 := h1
  have g2 : (m_gk μ c').2 ≤ k' := h2
  show m_up μ.2 c k z c' k' = 0
  unfold m_up
  by_cases e : c' = c ∧ k' = k
  · exfalso
    obtain ⟨rfl, rfl⟩ := e
    have := h g1
    omega
  · rw [if_neg e]
    exact T c' k' g1 g2
theorem m_tp_cp {μ : m_M} {c d sp dp n : Nat} (h : dp + n ≤ (m_gk μ d).2) : m_tp μ (μ.1, m_cp μ.2 c d sp dp n) := by
  intro T c' k' h1 h2
  have g1 : (m_gk μ c').1 = 1 := h1
  have g2 : (m_gk μ c').2 ≤ k' := h2
  show m_cp μ.2 c d sp dp n c' k' = 0
  unfold m_cp
  rw [if_neg (fun z => by
    obtain ⟨rfl, z2, z3⟩ := z
    omega)]
  exact T c' k' g1 g2
theorem m_mk_tl {X : Option (Nat × (Nat → Int))} {op a f : Nat} {z : Int} {st st' : List m_V} {μ μ' : m_M} (h : m_mk X op a f z st μ = some (st', μ')) : m_tp μ μ' := by
  unfold m_mk at h
  split at h
  all_goals
    repeat' split at h
    all_goals first
      | (cases h; done)
      | (cases h; first
          | exact m_tp_rf _
          | exact m_tp_sr _ _ _ _
          | exact m_tp_zr _ _
          | exact m_tp_ap _ _ (by show ¬ (4 : Nat) = 1; decide)
          | (rename_i hc; exact m_tp_up (fun h1 => by rw [hc.1] at h1; exact absurd (show (0 : Nat) = 1 from h1) (by decide)))
          | (rename_i hc; exact m_tp_up (fun h1 => by omega))
          | (rename_i hc; exact m_tp_cp (by omega)))
theorem m_stp_tl {X : Option (Nat × (Nat → Int))} {i : m_P} {ls st : List m_V} {μ : m_M} {q : List m_V × List m_V × m_M} (h : m_stp X i ls st μ = some q) : m_tp μ q.2.2 := by
  unfold m_stp at h
  split at h
  · obtain ⟨⟨w1, w2⟩, h1, rfl⟩ := Option.map_eq_some_iff.mp h
    exact m_mk_tl h1
  · split at h
    · obtain ⟨w, -, rfl⟩ := Option.map_eq_some_iff.mp h
      exact m_tp_rf _
    · obtain ⟨w, -, rfl⟩ := Option.map_eq_some_iff.mp h
      exact m_tp_rf _
theorem m_cal_tl {f : m_C} (hf : ∀ y as μ q, f y as μ = some q → m_tp μ q.2) {y n : Nat} {z : Int} {st : List m_V} {μ : m_M} {q : List m_V × m_M} (h : m_cal f y n z st μ = some q) : m_tp μ q.2 := by
  unfold m_cal at h
  split at h
  · obtain ⟨w, h1, rfl⟩ := Option.map_eq_some_iff.mp h
    exact hf _ _ _ _ h1
  · cases h
theorem m_run_tl {X : Option (Nat × (Nat → Int))} {f : m_C} (hf : ∀ y as μ q, f y as μ = some q → m_tp μ q.2) {y : Nat} : ∀ (n : Nat) (is : List m_P) (ls st : List m_V) (μ : m_M) (q : Option m_V × m_M), m_run X f y n is ls st μ = some q → m_tp μ q.2
  | 0, _, _, _, _, _, h => by cases h
  | _ + 1, [], _, _, _, _, h => by cases h
  | n + 1, i :: is, ls, st, μ, q, h => by
    unfold m_run at h
    split at h
    · exact m_run_tl hf n _ _ _ _ _ h
    · split at h
      · split at h <;> exact m_run_tl hf n _ _ _ _ _ h
      · cases h
    · split at h
      · split at h <;> exact m_run_tl hf n _ _ _ _ _ h
      · cases h
    · split at h
      · exact m_run_tl hf n _ _ _ _ _ h
      · exact m_run_tl hf n _ _ _ _ _ h
      · cases h
    · split at h
      · exact m_run_tl hf n _ _ _ _ _ h
      · exact m_run_tl hf n _ _ _ _ _ h
      · cases h
    · split at h
      · exact m_run_tl hf n _ _ _ _ _ h
      · cases h
    · rw [m_ret_same h]; exact m_tp_rf _
    · split at h
      next w hw => exact m_tp_tr (m_cal_tl hf hw) (m_run_tl hf n _ _ _ _ _ h)
      next => cases h
    · exact m_run_tl hf n _ _ _ _ _ h
    · split at h
      · exact m_run_tl hf n _ _ _ _ _ h
      · cases h
    · split at h
      next w hw => exact m_tp_tr (m_stp_tl hw) (m_run_tl hf n _ _ _ _ _ h)
      next => cases h
theorem m_ev_tl : ∀ (d y : Nat) (as : List m_V) (μ : m_M) (q : Option m_V × m_M), m_ev d y as μ = some q → m_tp μ q.2
  | 0, _, _, _, _, h => by cases h
  | d + 1, y, as, μ, q, h => by
    unfold m_ev at h
    split at h
    next hc =>
      obtain ⟨n, hn⟩ := m_lim_ex h
      exact m_run_tl (m_ev_tl d) n _ _ _ _ _ hn
    next => cases h
