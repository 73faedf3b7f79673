/-! runs: control, calls; what a run comes to is what the machine comes to -/
theorem m_MP_ok5 : (List.range 197).all (fun y => !decide ((m_nm y).name = "<init>") || decide (m_rt y = none)) = true := by decide +kernel
theorem m_MP_ok6 : (List.range 197).all (fun y => decide ((m_nm y).cls ≠ "java/lang/invoke/MethodHandle") && (decide ((m_nm y).cls ≠ "java/lang/invoke/VarHandle") && goodWord (.code (m_nm y) (m_by y) (m_ml y) (m_rt y)))) = true := by decide +kernel
theorem m_rng {p : Nat → Bool} {n : Nat} (h : (List.range n).all p = true) {y : Nat} (hy : y < n) : p y = true := List.all_eq_true.mp h y (List.mem_range.mpr hy)
def m_wd (y : Nat) : List Cond := .code (m_nm y) (m_by y) (m_ml y) (m_rt y) :: lw_tbl.filter goodWord
theorem m_wd_in {y : Nat} (hy : y < 197) : ∀ w ∈ m_wd y, w ∈ lw_tbl.filter goodWord := by
  intro w hw
  rcases List.mem_cons.mp hw with rfl | hw
  · have h1 := m_cwa y hy
    have h2 := m_rng m_MP_ok6 hy
    simp only [Bool.and_eq_true] at h2
    exact List.mem_filter.mpr ⟨List.mem_of_getElem? h1, h2.2.2⟩
  · exact hw
theorem m_wd_good {y : Nat} (hy : y < 197) : ∀ w ∈ m_wd y, w ∈ lw_tbl.filter goodWord ∧ ((w.onTables && w.keeps) = true ∨ ∃ ty, w = .arrayClass ty) :=
  fun w hw => ⟨m_wd_in hy w hw, good_of_word (List.mem_filter.mp (m_wd_in hy w hw)).2⟩
def m_rm (d k z : Nat) : Room := { frames := d, cells := k, slots := z, locals := 35 * d }
def m_KN (dC : Nat → ClassId) (dI : Nat → Nat → Nat) (tc : Nat → ClassId) (U : State) : Prop :=
  va_K (dC, dI) vwCl (m_tys tc) U ∧ (∀ q ∈ m_ML, q.2.1 = 3 ∨ q.2.1 = 4 → va_Nw (.methodLinkNest (m_cn q.1.1) q.1.2 (m_nm q.2.2.1) RX9) U) ∧ va_AO RX7 U
/-- what a method may suppose and what it comes to -/
def m_Pre (dC : Nat → ClassId) (dI : Nat → Nat → Nat) (tc : Nat → ClassId) (A : Nat → Prop) (X : Option (Nat × (Nat → Int))) (b : Nat) (ads : Nat → Nat) (μ : m_M) (U : State) : Prop :=
  va_P (dC, dI) vwCl (m_ws tc ads μ) U.heap ∧ va_D A (m_ws tc ads μ) ∧ m_KN dC dI tc U ∧ (∀ q, U.heap.size ≤ q → A q) ∧ (∀ x, X = some x → va_X b x.1 (fun j => Int32.ofInt (x.2 j)) U U.heap ∧ b < U.heap.size ∧ ¬ A b ∧ (∀ j, m_in (x.2 j)) ∧ x.1 ≤ 2560)
def m_Qc (dC : Nat → ClassId) (dI : Nat → Nat → Nat) (tc : Nat → ClassId) (A : Nat → Prop) (b : Nat) (ads : Nat → Nat) (μ : m_M) (r : Option m_V) (μ' : m_M) : Array Value → State → Outcome → State → Prop := fun _ st o t =>
  (∃ ads' : Nat → Nat, (∀ c, c < μ.1.length → ads' c = ads c) ∧ o = .returned (r.map (m_re ads' b)) ∧ va_P (dC, dI) vwCl (m_ws tc ads' μ') t.heap ∧ va_D A (m_ws tc ads' μ') ∧ m_mok μ' ∧ ∀ v, r = some v → m_okw μ'.1.length v) ∧ va_F A st t
def m_grow (μ μ' : m_M) : Prop := μ.1.length ≤ μ'.1.length ∧ m_sz μ.1 ≤ m_sz μ'.1
def m_Con (l : Launch) (dC : Nat → ClassId) (dI : Nat → Nat → Nat) (tc : Nat → ClassId) (A : Nat → Prop) (X : Option (Nat × (Nat → Int))) (b d : Nat) (f : m_C) : Prop :=
  ∀ (y : Nat) (as : List m_V) (μ : m_M) (r : Option m_V) (μ' : m_M), y < 197 → f y as μ = some (r, μ') → m_grow μ μ' ∧ ∀ ads : Nat → Nat, m_mok μ → (∀ v ∈ as, m_okw μ.1.length v) →
    Met l (m_nm y) (m_wd y) (m_rm d (μ'.1.length - μ.1.length) (m_sz μ'.1 - m_sz μ.1)) (va_Pc (as.map (m_re ads b)) (m_Pre dC dI tc A X b ads μ)) (m_Qc dC dI tc A b ads μ r μ') (μ'.1.length - μ.1.length) (m_sz μ'.1 - m_sz μ.1) A
/-! memory only grows -/
theorem m_grow_rf (μ : m_M) : m_grow μ μ := ⟨Nat.le_refl _, Nat.le_refl _⟩
theorem m_grow_tr {μ μ' μ'' : m_M} (h : m_grow μ μ') (h' : m_grow μ' μ'') : m_grow μ μ'' := ⟨Nat.le_trans h.1 h'.1, Nat.le_trans h.2 h'.2⟩
theorem m_grow_sr (μ : m_M) (c k : Nat) (o : Option Nat) : m_grow μ (m_sr μ.1 c k o, μ.2) := by
  refine ⟨by simp [m_sr], Nat.le_of_eq ?_⟩
  exact (m_sz_set μ.1 c ((μ.1.getD c ((9, 0), [])).1, (μ.1.getD c ((9, 0), [])).2.set k o) rfl).symm
theorem m_grow_app (μ : m_M) (g : m_G) (σ : Nat → Nat → Int) : m_grow μ (μ.1 ++ [g], σ) := by
  refine ⟨by simp, ?_⟩
  show _ ≤ m_sz (μ.1 ++ [g])
  rw [m_sz_app]
  omega
theorem m_mk_grow {X : Option (Nat × (Nat → Int))} {op a f : Nat} {z : Int} {st st' : List m_V} {μ μ' : m_M} (h : m_mk X op a f z st μ = some (st', μ')) : m_grow μ μ' := by
  unfold m_mk at h
  split at h
  all_goals
    repeat' split at h
    all_goals first | (cases h; done) | (cases h; first | exact m_grow_rf _ | exact m_grow_sr _ _ _ _ | exact m_grow_app _ _ _)
theorem m_stp_grow {X : Option (Nat × (Nat → Int))} {i : m_P} {ls st : List m_V} {μ : m_M} {q : List m_V × List m_V × m_M} (h : m_stp X i ls st μ = some q) : m_grow μ q.2.2 := by
  unfold m_stp at h
  split at h
  · obtain ⟨⟨w1, w2⟩, h1, rfl⟩ := Option.map_eq_some_iff.mp h
    exact m_mk_grow h1
  · split at h
    · obtain ⟨w, -, rfl⟩ := Option.map_eq_some_iff.mp h
      exact m_grow_rf _
    · obtain ⟨w, -, rfl⟩ := Option.map_eq_some_iff.mp h
      exact m_grow_rf _
theorem m_ret_same {k : Nat} {st : List m_V} {μ : m_M} {q : Option m_V × m_M} (h : m_ret k st μ = some q) : q.2 = μ := by
  unfold m_ret at h
  split at h <;> (try split at h) <;> first | (cases h; rfl) | cases h
theorem m_cal_grow {f : m_C} (hf : ∀ y as μ q, f y as μ = some q → m_grow μ q.2) {y n : Nat} {z : Int} {st : List m_V} {μ : m_M} {q : List m_V × m_M} (h : m_cal f y n z st μ = some q) : m_grow μ q.2 := by
  unfold m_cal at h
  split at h
  · obtain ⟨w, h1, rfl⟩ := Option.map_eq_some_iff.mp h
    exact hf _ _ _ _ h1
  · cases h
theorem m_run_grow {X : Option (Nat × (Nat → Int))} {f : m_C} (hf : ∀ y as μ q, f y as μ = some q → m_grow μ q.2) {y : Nat} : ∀ (n : Nat) (is : List m_P) (ls st : List m_V) (μ : m_M) (q : Option m_V × m_M), m_run X f y n is ls st μ = some q → m_grow μ q.2
  | 0, _, _, _, _, _, h => by cases h
  | _ + 1, [], _, _, _, _, h => by cases h
  | n + 1, i :: is, ls, st, μ, q, h => by
    unfold m_run at h
    split at h
    · exact m_run_grow hf n _ _ _ _ _ h
    · split at h
      · split at h <;> exact m_run_grow hf n _ _ _ _ _ h
      · cases h
    · split at h
      · split at h <;> exact m_run_grow hf n _ _ _ _ _ h
      · cases h
    · split at h
      · exact m_run_grow hf n _ _ _ _ _ h
      · exact m_run_grow hf n _ _ _ _ _ h
      · cases h
    · split at h
      · exact m_run_grow hf n _ _ _ _ _ h
      · exact m_run_grow hf n _ _ _ _ _ h
      · cases h
    · split at h
      · exact m_run_grow hf n _ _ _ _ _ h
      · cases h
    · rw [m_ret_same h]; exact m_grow_rf _
    · split at h
      next w hw => exact m_grow_tr (m_cal_grow hf hw) (m_run_grow hf n _ _ _ _ _ h)
      next => cases h
    · exact m_run_grow hf n _ _ _ _ _ h
    · split at h
      · exact m_run_grow hf n _ _ _ _ _ h
      · cases h
    · split at h
      next w hw => exact m_grow_tr (m_stp_grow hw) (m_run_grow hf n _ _ _ _ _ h)
      next => cases h
