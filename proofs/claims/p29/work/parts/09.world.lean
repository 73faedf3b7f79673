/-! the pure machine's memory as cells of the heap -/
def m_fval (ads : Nat → Nat) (σ : Nat → Nat → Int) (refs : List (Option Nat)) (c k t : Nat) : Value := match t with
  | 2 => .long (Int64.ofInt (σ c k))
  | 3 => va_rf (((refs[k]?).join).map ads)
  | _ => .int (Int32.ofInt (σ c k))
def m_fs (ads : Nat → Nat) (σ : Nat → Nat → Int) (refs : List (Option Nat)) (c : Nat) : Nat → List Nat → List Value
  | _, [] => []
  | k, t :: ts => m_fval ads σ refs c k t :: m_fs ads σ refs c (k + 1) ts
def m_ce (tc : Nat → ClassId) (ads : Nat → Nat) (σ : Nat → Nat → Int) (c : Nat) (g : m_G) : va_E := match g.1.1 with
  | 0 => .inr (g.1.2, m_fs ads σ g.2 c 0 (m_FC.getD g.1.2 []))
  | 1 => .inl (tc 0, g.1.2, .inl (fun j => Int32.ofInt (σ c j)))
  | 2 => .inl (tc 1, g.1.2, .inr (.inl (fun j => Int64.ofInt (σ c j))))
  | 3 => .inl (tc 2, g.1.2, .inl (fun j => Int32.ofInt (σ c j)))
  | _ => .inl (tc 3, g.1.2, .inr (.inr (.inr (.inr (fun j => ((g.2[j]?).join).map ads)))))
def m_ws (tc : Nat → ClassId) (ads : Nat → Nat) (μ : m_M) : va_W := (List.range μ.1.length).map (fun c => (ads c, m_ce tc ads μ.2 c (m_g μ c)))
abbrev m_tys (tc : Nat → ClassId) : List (ClassId × FieldType) := [(tc 0, .int), (tc 1, .long), (tc 2, .byte), (tc 3, .object RX7)]
theorem m_fs_get (ads : Nat → Nat) (σ : Nat → Nat → Int) (refs : List (Option Nat)) (c : Nat) : ∀ (ts : List Nat) (k j : Nat), (m_fs ads σ refs c k ts)[j]? = (ts[j]?).map (fun t => m_fval ads σ refs c (k + j) t)
  | [], _, _ => by simp [m_fs]
  | t :: ts, k, 0 => by simp [m_fs]
  | t :: ts, k, j + 1 => by
    simp only [m_fs, List.getElem?_cons_succ]
    rw [m_fs_get ads σ refs c ts (k + 1) j, show k + 1 + j = k + (j + 1) by omega]
theorem m_fs_len (ads : Nat → Nat) (σ : Nat → Nat → Int) (refs : List (Option Nat)) (c : Nat) : ∀ (ts : List Nat) (k : Nat), (m_fs ads σ refs c k ts).length = ts.length
  | [], _ => rfl
  | _ :: ts, k => by simp [m_fs, m_fs_len ads σ refs c ts (k + 1)]
theorem m_ws_get {tc : Nat → ClassId} {ads : Nat → Nat} {μ : m_M} {c : Nat} (h : c < μ.1.length) : (m_ws tc ads μ)[c]? = some (ads c, m_ce tc ads μ.2 c (m_g μ c)) := by
  simp [m_ws, h]
theorem m_ws_len {tc : Nat → ClassId} {ads : Nat → Nat} {μ : m_M} : (m_ws tc ads μ).length = μ.1.length := by simp [m_ws]
theorem m_ws_set {tc : Nat → ClassId} {ads : Nat → Nat} {μ μ' : m_M} {c : Nat} {X : va_E} (hl : μ'.1.length = μ.1.length) (hc : c < μ.1.length) (hne : ∀ c', c' ≠ c → m_ce tc ads μ'.2 c' (m_g μ' c') = m_ce tc ads μ.2 c' (m_g μ c')) (he : m_ce tc ads μ'.2 c (m_g μ' c) = X) : (m_ws tc ads μ).set c (ads c, X) = m_ws tc ads μ' := by
  apply List.ext_getElem?
  intro i
  by_cases hi : i < μ.1.length
  · rw [m_ws_get (by rw [hl]; exact hi)]
    by_cases e : c = i
    · subst e
      rw [List.getElem?_set_self (by rw [m_ws_len]; exact hi), he]
    · rw [List.getElem?_set_ne e, m_ws_get hi, hne i (fun q => e q.symm)]
  · rw [List.getElem?_eq_none (by rw [List.length_set, m_ws_len]; omega), List.getElem?_eq_none (by rw [m_ws_len]; omega)]
theorem m_ws_push {tc : Nat → ClassId} {ads ads' : Nat → Nat} {μ μ' : m_M} {q : Nat} {X : va_E} (hl : μ'.1.length = μ.1.length + 1) (hq : ads' μ.1.length = q) (ha : ∀ c, c < μ.1.length → ads' c = ads c) (hne : ∀ c, c < μ.1.length → m_ce tc ads' μ'.2 c (m_g μ' c) = m_ce tc ads μ.2 c (m_g μ c)) (he : m_ce tc ads' μ'.2 μ.1.length (m_g μ' μ.1.length) = X) : m_ws tc ads μ ++ [(q, X)] = m_ws tc ads' μ' := by
  apply List.ext_getElem?
  intro i
  by_cases hi : i < μ.1.length
  · rw [m_ws_get (by omega), List.getElem?_append_left (by rw [m_ws_len]; exact hi), m_ws_get hi, hne i hi, ha i hi]
  · by_cases e : i = μ.1.length
    · subst e
      rw [m_ws_get (by omega), List.getElem?_append_right (by rw [m_ws_len]; omega), m_ws_len, Nat.sub_self, List.getElem?_cons_zero, he, hq]
    · rw [List.getElem?_eq_none (by rw [List.length_append, m_ws_len]; simp; omega), List.getElem?_eq_none (by rw [m_ws_len]; omega)]
/-- the kind of a place: 0 and 1 ints, 2 longs -/
def m_tk (G : List m_G) (c k : Nat) : Nat := match (G.getD c ((9, 0), [])).1.1 with
  | 0 => (m_FC.getD (G.getD c ((9, 0), [])).1.2 []).getD k 9
  | 1 => 0
  | 2 => 2
  | 3 => 0
  | _ => 9
def m_mok (μ : m_M) : Prop := (∀ c k, m_tk μ.1 c k ≤ 1 → m_in (μ.2 c k)) ∧ (∀ c k, m_tk μ.1 c k = 2 → m_il (μ.2 c k)) ∧ (∀ c k j, m_gr μ c k = some j → j < μ.1.length) ∧ ∀ c, (m_gk μ c).2 ≤ 4096
theorem m_lt_of {μ : m_M} {c : Nat} (h : ¬ (m_gk μ c).1 = 9) : c < μ.1.length := by
  refine Nat.not_le.mp fun q => h ?_
  rw [m_gk, m_g, List.getD_eq_getElem?_getD, List.getElem?_eq_none q]
  rfl
theorem m_ce_up {tc : Nat → ClassId} {ads : Nat → Nat} {σ : Nat → Nat → Int} {c c' k : Nat} {z : Int} {g : m_G} (h : c' ≠ c) : m_ce tc ads (m_up σ c k z) c' g = m_ce tc ads σ c' g := by
  have e : ∀ j, m_up σ c k z c' j = σ c' j := fun j => by unfold m_up; rw [if_neg (fun q => h q.1)]
  have e2 : ∀ (ts : List Nat) (i : Nat), m_fs ads (m_up σ c k z) g.2 c' i ts = m_fs ads σ g.2 c' i ts := by
    intro ts
    induction ts with
    | nil => intro i; rfl
    | cons t ts ih =>
      intro i
      simp only [m_fs, ih]
      congr 1
      unfold m_fval
      split <;> simp [e]
  unfold m_ce
  split <;> simp only [e, e2]
theorem m_ce_zr {tc : Nat → ClassId} {ads : Nat → Nat} {σ : Nat → Nat → Int} {c c' : Nat} {g : m_G} (h : c' ≠ c) : m_ce tc ads (m_zr σ c) c' g = m_ce tc ads σ c' g := by
  have e : ∀ j, m_zr σ c c' j = σ c' j := fun j => by unfold m_zr; rw [if_neg h]
  have e2 : ∀ (ts : List Nat) (i : Nat), m_fs ads (m_zr σ c) g.2 c' i ts = m_fs ads σ g.2 c' i ts := by
    intro ts
    induction ts with
    | nil => intro i; rfl
    | cons t ts ih =>
      intro i
      simp only [m_fs, ih]
      congr 1
      unfold m_fval
      split <;> simp [e]
  unfold m_ce
  split <;> simp only [e, e2]
theorem m_ce_cp {tc : Nat → ClassId} {ads : Nat → Nat} {σ : Nat → Nat → Int} {cs c c' sp dp n : Nat} {g : m_G} (h : c' ≠ c) : m_ce tc ads (m_cp σ cs c sp dp n) c' g = m_ce tc ads σ c' g := by
  have e : ∀ j, m_cp σ cs c sp dp n c' j = σ c' j := fun j => by unfold m_cp; rw [if_neg (fun q => h q.1)]
  have e2 : ∀ (ts : List Nat) (i : Nat), m_fs ads (m_cp σ cs c sp dp n) g.2 c' i ts = m_fs ads σ g.2 c' i ts := by
    intro ts
    induction ts with
    | nil => intro i; rfl
    | cons t ts ih =>
      intro i
      simp only [m_fs, ih]
      congr 1
      unfold m_fval
      split <;> simp [e]
  unfold m_ce
  split <;> simp only [e, e2]
/-- references below n look the same at addresses that agree below n -/
theorem m_map_eq {ads ads' : Nat → Nat} {n : Nat} (ha : ∀ c, c < n → ads' c = ads c) {o : Option Nat} (h : ∀ j, o = some j → j < n) : o.map ads' = o.map ads := by
  cases o with
  | none => rfl
  | some j => simp [ha j (h j rfl)]
theorem m_ce_ads {tc : Nat → ClassId} {ads ads' : Nat → Nat} {σ : Nat → Nat → Int} {c n : Nat} {g : m_G} (ha : ∀ c, c < n → ads' c = ads c) (h : ∀ (k j : Nat), (g.2[k]?).join = some j → j < n) : m_ce tc ads' σ c g = m_ce tc ads σ c g := by
  have e : ∀ k, ((g.2[k]?).join).map ads' = ((g.2[k]?).join).map ads := fun k => m_map_eq ha (h k)
  have e2 : ∀ (ts : List Nat) (i : Nat), m_fs ads' σ g.2 c i ts = m_fs ads σ g.2 c i ts := by
    intro ts
    induction ts with
    | nil => intro i; rfl
    | cons t ts ih =>
      intro i
      simp only [m_fs, ih]
      congr 1
      unfold m_fval
      split <;> simp [e]
  unfold m_ce
  split <;> simp only [e, e2]
theorem m_re_ads {ads ads' : Nat → Nat} {b n : Nat} (ha : ∀ c, c < n → ads' c = ads c) {v : m_V} (h : m_okw n v) : m_re ads' b v = m_re ads b v := by
  rcases v with z | z | z | o | u
  · rfl
  · rfl
  · rfl
  · show va_rf (o.map ads') = va_rf (o.map ads)
    rw [m_map_eq ha h]
  · cases u <;> rfl
theorem m_okw_mono {n n' : Nat} (h : n ≤ n') {v : m_V} (hv : m_okw n v) : m_okw n' v := by
  rcases v with z | z | z | o | u
  · exact hv
  · exact hv
  · exact hv
  · exact fun k hk => Nat.lt_of_lt_of_le (hv k hk) h
  · exact hv
def m_sz : List m_G → Nat
  | [] => 0
  | g :: r => (if g.1.1 = 0 then m_fn g.1.2 else g.1.2) + m_sz r
theorem m_sz_app (G : List m_G) (g : m_G) : m_sz (G ++ [g]) = m_sz G + (if g.1.1 = 0 then m_fn g.1.2 else g.1.2) := by
  induction G with
  | nil => simp [m_sz]
  | cons a r ih => simp only [List.cons_append, m_sz, ih]; omega
