/-! one step of the pure machine is one step of the machine: fields, arrays, new cells -/
theorem m_cl_at : ∀ a, a < 10 → vwCl[a]? = some (m_cn a, m_T a, m_fn a) := lt_s (lt_s (lt_s (lt_s (lt_s (lt_s (lt_s (lt_s (lt_s (lt_s lt_0 rfl) rfl) rfl) rfl) rfl) rfl) rfl) rfl) rfl) rfl
theorem m_cl_in : ∀ a, a < 10 → ∀ w ∈ u_ws (m_cn a) (m_T a) (m_fn a), w ∈ lw_tbl.filter goodWord := lt_s (lt_s (lt_s (lt_s (lt_s (lt_s (lt_s (lt_s (lt_s (lt_s lt_0 m_inX0) m_inX1) m_inX2) m_inX3) m_inX4) m_inX5) m_inX6) m_inX7) m_inX8) m_inX9
theorem m_cl_ty : ∀ a, a < 10 → ∀ k, k < m_fn a → parseFieldDescriptor (m_T a k).2.2.1 = some (m_ty a k) := lt_s (lt_s (lt_s (lt_s (lt_s (lt_s (lt_s (lt_s (lt_s (lt_s lt_0 tyX0_ok) tyX1_ok) tyX2_ok) tyX3_ok) tyX4_ok) tyX5_ok) tyX6_ok) tyX7_ok) tyX8_ok) tyX9_ok
theorem m_cl_nm : ∀ a, a < 10 → ∀ i, i < m_fn a → ∀ j, j < m_fn a → i ≠ j → (m_T a i).2.1 ≠ (m_T a j).2.1 := lt_s (lt_s (lt_s (lt_s (lt_s (lt_s (lt_s (lt_s (lt_s (lt_s lt_0 nmX0) nmX1) nmX2) nmX3) nmX4) nmX5) nmX6) nmX7) nmX8) nmX9
def m_isR (t : FieldType) : Bool := match t with
  | .object _ => true
  | .array _ => true
  | _ => false
def m_tyq (a k : Nat) : Bool := match (m_FC.getD a []).getD k 9 with
  | 0 => decide (m_ty a k = .int)
  | 1 => decide (m_ty a k = .boolean)
  | 2 => decide (m_ty a k = .long)
  | 3 => m_isR (m_ty a k)
  | _ => false
theorem m_tyq_ok : (List.range 10).all (fun a => (List.range (m_fn a)).all (fun k => m_tyq a k)) = true := by decide +kernel
theorem m_tyq_at {a k : Nat} (ha : a < 10) (hk : k < m_fn a) : m_tyq a k = true := List.all_eq_true.mp (List.all_eq_true.mp m_tyq_ok a (List.mem_range.mpr ha)) k (List.mem_range.mpr hk)
theorem m_fits_rf {t : FieldType} (h : m_isR t = true) (o : Option Nat) : narrow t (va_rf o) = va_rf o ∧ fits t (va_rf o) = true := by
  cases t <;> first | (cases h; done) | (cases o <;> exact ⟨rfl, rfl⟩)
theorem m_T_1 : ∀ a, a < 10 → ∀ k, k < m_fn a → (m_T a k).1 = m_cn a := by decide +kernel
theorem m_tk_obj {μ : m_M} {c a k : Nat} (h : m_gk μ c = (0, a)) : m_tk μ.1 c k = (m_FC.getD a []).getD k 9 := by
  have h2 : (μ.1.getD c ((9, 0), [])).1 = (0, a) := h
  unfold m_tk
  rw [h2]
  rfl
theorem m_tk_1 {μ : m_M} {c k : Nat} (h : (m_gk μ c).1 = 1) : m_tk μ.1 c k = 0 := by
  have h2 : (μ.1.getD c ((9, 0), [])).1.1 = 1 := h
  unfold m_tk
  rw [h2]
  rfl
theorem m_tk_2 {μ : m_M} {c k : Nat} (h : (m_gk μ c).1 = 2) : m_tk μ.1 c k = 2 := by
  have h2 : (μ.1.getD c ((9, 0), [])).1.1 = 2 := h
  unfold m_tk
  rw [h2]
  rfl
theorem m_tk_3 {μ : m_M} {c k : Nat} (h : (m_gk μ c).1 = 3) : m_tk μ.1 c k = 0 := by
  have h2 : (μ.1.getD c ((9, 0), [])).1.1 = 3 := h
  unfold m_tk
  rw [h2]
  rfl
theorem m_ce_0 {tc : Nat → ClassId} {ads : Nat → Nat} {σ : Nat → Nat → Int} {c a : Nat} {g : m_G} (h : g.1 = (0, a)) : m_ce tc ads σ c g = .inr (a, m_fs ads σ g.2 c 0 (m_FC.getD a [])) := by
  unfold m_ce; rw [h]; rfl
theorem m_ce_1 {tc : Nat → ClassId} {ads : Nat → Nat} {σ : Nat → Nat → Int} {c : Nat} {g : m_G} (h : g.1.1 = 1) : m_ce tc ads σ c g = .inl (tc 0, g.1.2, .inl (fun j => Int32.ofInt (σ c j))) := by
  unfold m_ce; rw [h]; rfl
theorem m_ce_2 {tc : Nat → ClassId} {ads : Nat → Nat} {σ : Nat → Nat → Int} {c : Nat} {g : m_G} (h : g.1.1 = 2) : m_ce tc ads σ c g = .inl (tc 1, g.1.2, .inr (.inl (fun j => Int64.ofInt (σ c j)))) := by
  unfold m_ce; rw [h]; rfl
theorem m_ce_3 {tc : Nat → ClassId} {ads : Nat → Nat} {σ : Nat → Nat → Int} {c : Nat} {g : m_G} (h : g.1.1 = 3) : m_ce tc ads σ c g = .inl (tc 2, g.1.2, .inl (fun j => Int32.ofInt (σ c j))) := by
  unfold m_ce; rw [h]; rfl
theorem m_ce_4 {tc : Nat → ClassId} {ads : Nat → Nat} {σ : Nat → Nat → Int} {c : Nat} {g : m_G} (h : g.1.1 = 4) : m_ce tc ads σ c g = .inl (tc 3, g.1.2, .inr (.inr (.inr (.inr (fun j => ((g.2[j]?).join).map ads))))) := by
  unfold m_ce; rw [h]; rfl
theorem m_fs_up {ads : Nat → Nat} {σ σ' : Nat → Nat → Int} {refs refs' : List (Option Nat)} {c f t : Nat} {ts : List Nat} {v : Value} (ht : ts[f]? = some t) (hv : m_fval ads σ' refs' c f t = v) (hne : ∀ j t, j ≠ f → m_fval ads σ' refs' c j t = m_fval ads σ refs c j t) : m_fs ads σ' refs' c 0 ts = (m_fs ads σ refs c 0 ts).set f v := by
  apply List.ext_getElem?
  intro j
  rw [m_fs_get, Nat.zero_add]
  by_cases e : f = j
  · subst e
    have hl : f < (m_fs ads σ refs c 0 ts).length := by rw [m_fs_len]; exact (List.getElem?_eq_some_iff.mp ht).1
    rw [List.getElem?_set_self hl, ht]
    simp [hv]
  · rw [List.getElem?_set_ne e, m_fs_get, Nat.zero_add]
    cases ts[j]? with
    | none => rfl
    | some t' => simp [hne j t' (fun q => e q.symm)]
theorem m_re_fv {ads : Nat → Nat} {b c k t : Nat} {μ : m_M} : m_re ads b (m_fv μ c k (t : Int)) = m_fval ads μ.2 (m_g μ c).2 c k t := by
  unfold m_fv m_fval
  by_cases h2 : t = 2
  · subst h2; rfl
  · rw [if_neg (by omega)]
    by_cases h3 : t = 3
    · subst h3; rfl
    · rw [if_neg (by omega)]
      split
      · exact absurd rfl h2
      · exact absurd rfl h3
      · rfl
theorem m_mok_up {μ : m_M} {c k : Nat} {z : Int} (h : m_mok μ) (h1 : m_tk μ.1 c k ≤ 1 → m_in z) (h2 : m_tk μ.1 c k = 2 → m_il z) : m_mok (μ.1, m_up μ.2 c k z) := by
  obtain ⟨a1, a2, a3, a4⟩ := h
  refine ⟨fun c' k' hk => ?_, fun c' k' hk => ?_, a3, a4⟩
  · show m_in (m_up μ.2 c k z c' k')
    unfold m_up
    split
    next q => obtain ⟨rfl, rfl⟩ := q; exact h1 hk
    next => exact a1 c' k' hk
  · show m_il (m_up μ.2 c k z c' k')
    unfold m_up
    split
    next q => obtain ⟨rfl, rfl⟩ := q; exact h2 hk
    next => exact a2 c' k' hk
theorem m_cats {ads : Nat → Nat} {b : Nat} : ∀ (r : List m_V) (n : Nat), r.length ≤ n → ((r.map (m_re ads b)).map fun v => v.category).sum ≤ 2 * n
  | [], _, _ => by simp
  | v :: r, 0, h => absurd h (by simp)
  | v :: r, n + 1, h => by
    have h1 := m_cats (ads := ads) (b := b) r n (by simpa using h)
    have h2 := lv_cat (m_re ads b v)
    simp only [List.map_cons, List.sum_cons]
    omega
theorem m_g_set {G : List m_G} {σ : Nat → Nat → Int} {c c' : Nat} {g : m_G} (h : c' ≠ c) : m_g (G.set c g, σ) c' = m_g (G, σ) c' := by
  unfold m_g
  simp only [List.getD_eq_getElem?_getD]
  rw [List.getElem?_set_ne (Ne.symm h)]
theorem m_g_set_self {G : List m_G} {σ : Nat → Nat → Int} {c : Nat} {g : m_G} (h : c < G.length) : m_g (G.set c g, σ) c = g := by
  unfold m_g
  simp only [List.getD_eq_getElem?_getD]
  rw [List.getElem?_set_self h]
  rfl
theorem m_g_app {G : List m_G} {σ : Nat → Nat → Int} {c : Nat} {g : m_G} (h : c < G.length) : m_g (G ++ [g], σ) c = m_g (G, σ) c := by
  unfold m_g
  simp only [List.getD_eq_getElem?_getD]
  rw [List.getElem?_append_left h]
theorem m_g_app_self {G : List m_G} {σ : Nat → Nat → Int} {g : m_G} : m_g (G ++ [g], σ) G.length = g := by
  unfold m_g
  simp only [List.getD_eq_getElem?_getD]
  rw [List.getElem?_append_right (Nat.le_refl _)]
  simp
theorem m_g_out {G : List m_G} {σ : Nat → Nat → Int} {c : Nat} (h : G.length ≤ c) : m_g (G, σ) c = ((9, 0), []) := by
  unfold m_g
  simp only [List.getD_eq_getElem?_getD]
  rw [List.getElem?_eq_none h]
  rfl
theorem m_sz_set : ∀ (G : List m_G) (c : Nat) (g : m_G), g.1 = (G.getD c ((9, 0), [])).1 → m_sz (G.set c g) = m_sz G
  | [], _, _, _ => rfl
  | a :: r, 0, g, h => by
    have h : g.1 = a.1 := h
    simp only [List.set_cons_zero, m_sz, h]
  | a :: r, c + 1, g, h => by
    have h : g.1 = (r.getD c ((9, 0), [])).1 := h
    simp only [List.set_cons_succ, m_sz, m_sz_set r c g h]
/-- a cell's references changed at one place -/
theorem m_mok_sr {μ : m_M} {c k : Nat} {o : Option Nat} (h : m_mok μ) (hc : c < μ.1.length) (ho : ∀ j, o = some j → j < μ.1.length) : m_mok (m_sr μ.1 c k o, μ.2) := by
  obtain ⟨a1, a2, a3, a4⟩ := h
  have hk : ∀ c', m_gk (m_sr μ.1 c k o, μ.2) c' = m_gk μ c' := by
    intro c'
    unfold m_gk m_sr
    by_cases e : c' = c
    · subst e; rw [m_g_set_self hc]; rfl
    · rw [m_g_set e]
  have ht : ∀ c' k', m_tk (m_sr μ.1 c k o) c' k' = m_tk μ.1 c' k' := by
    intro c' k'
    have := hk c'
    unfold m_gk m_g at this
    unfold m_tk
    rw [this]
  refine ⟨fun c' k' q => a1 c' k' (by rw [← ht]; exact q), fun c' k' q => a2 c' k' (by rw [← ht]; exact q), fun c' k' j q => ?_, fun c' => by rw [hk]; exact a4 c'⟩
  have hl : (m_sr μ.1 c k o, μ.2).1.length = μ.1.length := by simp [m_sr]
  rw [hl]
  unfold m_gr m_sr at q
  by_cases e : c' = c
  · subst e
    rw [m_g_set_self hc] at q
    by_cases e2 : k = k'
    · subst e2
      simp only [List.getElem?_set, if_true] at q
      split at q
      · exact ho j q
      · cases q
    · rw [List.getElem?_set_ne e2] at q
      exact a3 c' k' j q
  · rw [m_g_set e] at q
    exact a3 c' k' j q
