/-! what a run comes to, as a value; a method's contract -/
noncomputable def m_lim {α : Type} (f : Nat → Option α) : Option α := @dite _ (∃ n, (f n).isSome = true) (Classical.propDecidable _) (fun h => f (Classical.choose h)) (fun _ => none)
def m_mono {α : Type} (f : Nat → Option α) : Prop := ∀ n a, f n = some a → f (n + 1) = some a
theorem m_mono_le {α : Type} {f : Nat → Option α} (h : m_mono f) {n k : Nat} {a : α} (hn : f n = some a) (hk : n ≤ k) : f k = some a := by
  induction hk with
  | refl => exact hn
  | step _ ih => exact h _ _ ih
theorem m_lim_of {α : Type} {f : Nat → Option α} (h : m_mono f) {n : Nat} {a : α} (hn : f n = some a) : m_lim f = some a := by
  have hex : ∃ n, (f n).isSome = true := ⟨n, by rw [hn]; rfl⟩
  unfold m_lim
  rw [dif_pos hex]
  have hc := Classical.choose_spec hex
  obtain ⟨a', ha'⟩ := Option.isSome_iff_exists.mp hc
  rcases Nat.le_total n (Classical.choose hex) with q | q
  · exact m_mono_le h hn q
  · rw [ha', ← m_mono_le h ha' q]; exact hn
theorem m_lim_ex {α : Type} {f : Nat → Option α} {a : α} (h : m_lim f = some a) : ∃ n, f n = some a := by
  unfold m_lim at h
  split at h
  next hex => exact ⟨_, h⟩
  next => cases h
theorem m_lim_eq {α : Type} {f g : Nat → Option α} (hf : m_mono f) (hg : m_mono g) (h : ∀ n, f (n + 1) = g n) : m_lim f = m_lim g := by
  cases hg2 : m_lim g with
  | some a =>
    obtain ⟨n, hn⟩ := m_lim_ex hg2
    exact m_lim_of hf ((h n).trans hn)
  | none =>
    cases hf2 : m_lim f with
    | none => rfl
    | some a =>
      obtain ⟨n, hn⟩ := m_lim_ex hf2
      have h2 : g n = some a := (h n).symm.trans (hf n a hn)
      rw [m_lim_of hg h2] at hg2
      cases hg2
theorem m_run_mono {X : Option (Nat × (Nat → Int))} {f : m_C} {y : Nat} : ∀ (n : Nat) (is : List m_P) (ls st : List m_V) (μ : m_M) (q : Option m_V × m_M), m_run X f y n is ls st μ = some q → m_run X f y (n + 1) is ls st μ = some q
  | 0, _, _, _, _, _, h => by cases h
  | _ + 1, [], _, _, _, _, h => by cases h
  | n + 1, i :: is, ls, st, μ, q, h => by
    have ih := @m_run_mono X f y n
    unfold m_run at h ⊢
    split at h
    · exact ih _ _ _ _ _ h
    · split at h
      · split at h
        next hc => rw [if_pos hc]; exact ih _ _ _ _ _ h
        next hc => rw [if_neg hc]; exact ih _ _ _ _ _ h
      · cases h
    · split at h
      · split at h
        next hc => rw [if_pos hc]; exact ih _ _ _ _ _ h
        next hc => rw [if_neg hc]; exact ih _ _ _ _ _ h
      · cases h
    · split at h
      · exact ih _ _ _ _ _ h
      · exact ih _ _ _ _ _ h
      · cases h
    · split at h
      · exact ih _ _ _ _ _ h
      · exact ih _ _ _ _ _ h
      · cases h
    · split at h
      · exact ih _ _ _ _ _ h
      · cases h
    · exact h
    · split at h
      next w hw => exact ih _ _ _ _ _ h
      next => cases h
    · exact ih _ _ _ _ _ h
    · split at h
      · exact ih _ _ _ _ _ h
      · cases h
    · split at h
      next w hw => exact ih _ _ _ _ _ h
      next => cases h
/-- from a state within a method -/
noncomputable def m_e (X : Option (Nat × (Nat → Int))) (f : m_C) (y : Nat) (is : List m_P) (ls st : List m_V) (μ : m_M) : Option (Option m_V × m_M) := m_lim (fun n => m_run X f y n is ls st μ)
/-- a method's answer, with calls d deep -/
noncomputable def m_ev : Nat → m_C
  | 0, _, _, _ => none
  | d + 1, y, as, μ => if m_as as ≤ m_ml y then m_e none (m_ev d) y (m_blk y 0) (m_en (m_ml y) as) [] μ else none
theorem m_e_mono (X : Option (Nat × (Nat → Int))) (f : m_C) (y : Nat) (is : List m_P) (ls st : List m_V) (μ : m_M) : m_mono (fun n => m_run X f y n is ls st μ) := fun n q h => m_run_mono n is ls st μ q h
/-! a program's run gives the value -/
theorem m_run_le {X : Option (Nat × (Nat → Int))} {f g : m_C} (hfg : ∀ y as μ q, f y as μ = some q → g y as μ = some q) {y : Nat} : ∀ (n : Nat) (is : List m_P) (ls st : List m_V) (μ : m_M) (q : Option m_V × m_M), m_run X f y n is ls st μ = some q → m_run X g y n is ls st μ = some q
  | 0, _, _, _, _, _, h => by cases h
  | _ + 1, [], _, _, _, _, h => by cases h
  | n + 1, i :: is, ls, st, μ, q, h => by
    have ih := m_run_le (X := X) hfg (y := y) n
    unfold m_run at h ⊢
    split at h
    · exact ih _ _ _ _ _ h
    · split at h
      · split at h
        next hc => rw [if_pos hc]; exact ih _ _ _ _ _ h
        next hc => rw [if_neg hc]; exact ih _ _ _ _ _ h
      · cases h
    · split at h
      · split at h
        next hc => rw [if_pos hc]; exact ih _ _ _ _ _ h
        next hc => rw [if_neg hc]; exact ih _ _ _ _ _ h
      · cases h
    · split at h
      · exact ih _ _ _ _ _ h
      · exact ih _ _ _ _ _ h
      · cases h
    · split at h
      · exact ih _ _ _ _ _ h
      · exact ih _ _ _ _ _ h
      · cases h
    · split at h
      · exact ih _ _ _ _ _ h
      · cases h
    · exact h
    · split at h
      next w hw =>
        have hw2 : m_cal g i.2.1 i.2.2.1 i.2.2.2 st μ = some w := by
          unfold m_cal at hw ⊢
          split at hw
          next hc =>
            rw [if_pos hc]
            obtain ⟨u, hu, rfl⟩ := Option.map_eq_some_iff.mp hw
            rw [hfg _ _ _ _ hu]
            rfl
          next => cases hw
        rw [hw2]
        exact ih _ _ _ _ _ h
      next => cases h
    · exact ih _ _ _ _ _ h
    · split at h
      · exact ih _ _ _ _ _ h
      · cases h
    · split at h
      next w hw => exact ih _ _ _ _ _ h
      next => cases h
theorem m_go_ev {n : Nat} : ∀ (d y : Nat) (as : List m_V) (μ : m_M) (q : Option m_V × m_M), m_go n d y as μ = some q → m_ev d y as μ = some q
  | 0, _, _, _, _, h => by cases h
  | d + 1, y, as, μ, q, h => by
    unfold m_go at h
    unfold m_ev
    split at h
    next hc =>
      rw [if_pos hc]
      exact m_lim_of (m_e_mono _ _ _ _ _ _ _) (m_run_le (m_go_ev d) n _ _ _ _ _ h)
    next => cases h
/-- deeper calls change nothing -/
theorem m_ev_le : ∀ (d y : Nat) (as : List m_V) (μ : m_M) (q : Option m_V × m_M), m_ev d y as μ = some q → m_ev (d + 1) y as μ = some q
  | 0, _, _, _, _, h => by cases h
  | d + 1, y, as, μ, q, h => by
    unfold m_ev at h ⊢
    split at h
    next hc =>
      rw [if_pos hc]
      obtain ⟨n, hn⟩ := m_lim_ex h
      exact m_lim_of (m_e_mono _ _ _ _ _ _ _) (m_run_le (m_ev_le d) n _ _ _ _ _ hn)
    next => cases h
theorem m_ev_up {d k y : Nat} {as : List m_V} {μ : m_M} {q : Option m_V × m_M} (h : m_ev d y as μ = some q) (hk : d ≤ k) : m_ev k y as μ = some q := by
  induction hk with
  | refl => exact h
  | step _ ih => exact m_ev_le _ _ _ _ _ ih
theorem m_ev_grow : ∀ (d y : Nat) (as : List m_V) (μ : m_M) (q : Option m_V × m_M), m_ev d y as μ = some q → m_grow μ q.2
  | 0, _, _, _, _, h => by cases h
  | d + 1, y, as, μ, q, h => by
    unfold m_ev at h
    split at h
    next hc =>
      obtain ⟨n, hn⟩ := m_lim_ex h
      exact m_run_grow (m_ev_grow d) n _ _ _ _ _ hn
    next => cases h
/-! the locals with which a method begins -/
theorem m_en_len : ∀ (as : List m_V) (n : Nat), m_as as ≤ n → (m_en n as).length = n
  | [], n, _ => by cases n <;> simp [m_en]
  | v :: r, 0, h => by
    rcases v with z | z | z | o | u <;> (simp only [m_as] at h; omega)
  | v :: r, n + 1, h => by
    rcases v with z | z | z | o | u
    · simp only [m_as] at h
      simp [m_en, m_en_len r n (by omega)]
    · simp only [m_as] at h
      obtain ⟨n, rfl⟩ : ∃ k, n = k + 1 := ⟨n - 1, by omega⟩
      simp [m_en, m_en_len r n (by omega)]
    · simp only [m_as] at h
      simp [m_en, m_en_len r n (by omega)]
    · simp only [m_as] at h
      simp [m_en, m_en_len r n (by omega)]
    · simp only [m_as] at h
      simp [m_en, m_en_len r n (by omega)]
theorem m_sl_cons (v : Value) (vs : List Value) : (lg_sl (v :: vs)).length = (if v.category = 2 then 2 else 1) + (lg_sl vs).length := by
  unfold lg_sl
  rw [List.flatMap_cons, List.length_append]
  congr 1
  split <;> rfl
theorem m_sl_len {ads : Nat → Nat} {b : Nat} : ∀ (as : List m_V), (lg_sl (as.map (m_re ads b))).length = m_as as
  | [] => rfl
  | v :: r => by
    have h := m_sl_len (ads := ads) (b := b) r
    rw [List.map_cons, m_sl_cons, h]
    rcases v with z | z | z | o | u
    · rw [if_neg (by rw [m_cat _ rfl]; decide)]; simp only [m_as]; omega
    · rw [if_pos (show (m_re ads b (Sum.inr (Sum.inl z))).category = 2 from rfl)]; simp only [m_as]; omega
    · rw [if_neg (by rw [m_cat _ rfl]; decide)]; simp only [m_as]; omega
    · rw [if_neg (by rw [m_cat _ rfl]; decide)]; simp only [m_as]; omega
    · rw [if_neg (by rw [m_cat _ rfl]; decide)]; simp only [m_as]; omega
theorem m_en_in {ads : Nat → Nat} {b : Nat} : ∀ (as : List m_V) (n k j : Nat), m_as as ≤ n → ¬ m_ld (m_en n as) j = m_U → (k + j, m_re ads b (m_ld (m_en n as) j)) ∈ lv_args k (as.map (m_re ads b))
  | [], n, k, j, _, h => by
    have e : m_en n [] = List.replicate n m_U := by cases n <;> rfl
    rw [e, m_ld_rep] at h
    exact absurd rfl h
  | v :: r, 0, k, j, h, _ => by
    rcases v with z | z | z | o | u <;> (simp only [m_as] at h; omega)
  | v :: r, n + 1, k, j, h, hj => by
    by_cases hlg : m_lg v = true
    · rcases v with z | z | z | o | u
      · cases hlg
      · simp only [m_as] at h
        obtain ⟨n, rfl⟩ : ∃ k, n = k + 1 := ⟨n - 1, by omega⟩
        have e : lv_args k ((Sum.inr (Sum.inl z) :: r).map (m_re ads b)) = (k, m_re ads b (Sum.inr (Sum.inl z))) :: lv_args (k + 2) (r.map (m_re ads b)) := rfl
        rw [e]
        match j, hj with
        | 0, _ => exact List.mem_cons_self
        | 1, hj => exact absurd rfl hj
        | j + 2, hj =>
          have h2 := m_en_in (ads := ads) (b := b) r n (k + 2) j (by omega) hj
          rw [show k + 2 + j = k + (j + 2) by omega] at h2
          exact List.mem_cons_of_mem _ h2
      · cases hlg
      · cases hlg
      · cases hlg
    · have hlg : m_lg v = false := by cases q : m_lg v <;> simp_all
      have ec := m_cat (ads := ads) (b := b) v hlg
      have e : lv_args k ((v :: r).map (m_re ads b)) = (k, m_re ads b v) :: lv_args (k + 1) (r.map (m_re ads b)) := by
        show (k, m_re ads b v) :: lv_args (if (m_re ads b v).category = 2 then k + 2 else k + 1) (r.map (m_re ads b)) = _
        rw [if_neg (by rw [ec]; decide)]
      have e2 : m_en (n + 1) (v :: r) = v :: m_en n r := by
        rcases v with z | z | z | o | u
        · rfl
        · cases hlg
        · rfl
        · rfl
        · rfl
      have e3 : m_as r ≤ n := by
        rcases v with z | z | z | o | u
        · simp only [m_as] at h; omega
        · cases hlg
        · simp only [m_as] at h; omega
        · simp only [m_as] at h; omega
        · simp only [m_as] at h; omega
      rw [e2] at hj ⊢
      rw [e]
      match j, hj with
      | 0, _ => exact List.mem_cons_self
      | j + 1, hj =>
        have h2 := m_en_in (ads := ads) (b := b) r n (k + 1) j e3 hj
        rw [show k + 1 + j = k + (j + 1) by omega] at h2
        exact List.mem_cons_of_mem _ h2
theorem m_en_ok {N : Nat} : ∀ (as : List m_V) (n : Nat), (∀ v ∈ as, m_okw N v) → ∀ j, m_okw N (m_ld (m_en n as) j)
  | [], n, _, j => by
    have e : m_en n [] = List.replicate n m_U := by cases n <;> rfl
    rw [e, m_ld_rep]
    exact trivial
  | v :: r, 0, _, j => by
    rcases v with z | z | z | o | u <;> exact trivial
  | v :: r, n + 1, h, j => by
    have h1 := h v List.mem_cons_self
    have h2 := fun j => m_en_ok r n (fun u hu => h u (List.mem_cons_of_mem _ hu)) j
    have h3 := fun j => m_en_ok r (n - 1) (fun u hu => h u (List.mem_cons_of_mem _ hu)) j
    rcases v with z | z | z | o | u
    · cases j with
      | zero => exact h1
      | succ j => exact h2 j
    · match j with
      | 0 => exact h1
      | 1 => exact trivial
      | j + 2 => exact h3 j
    · cases j with
      | zero => exact h1
      | succ j => exact h2 j
    · cases j with
      | zero => exact h1
      | succ j => exact h2 j
    · cases j with
      | zero => exact h1
      | succ j => exact h2 j
theorem m_en_lh {ads : Nat → Nat} {b n : Nat} {as : List m_V} (h : m_as as ≤ n) : m_lh ads b n (m_en n as) (lg_sl (as.map (m_re ads b)) ++ List.replicate (n - (lg_sl (as.map (m_re ads b))).length) Slot.unset).toArray := by
  have hl := lv_entry (as.map (m_re ads b)) (n := n) (by rw [m_sl_len]; exact h)
  refine ⟨m_en_len as n h, hl.1, hl.2.1, fun i hi => ?_⟩
  have h2 := m_en_in (ads := ads) (b := b) as n 0 i h hi
  rw [Nat.zero_add] at h2
  exact hl.2.2 _ h2
/-- the same, the script standing in every call -/
noncomputable def m_evX (X : Option (Nat × (Nat → Int))) : Nat → m_C
  | 0, _, _, _ => none
  | d + 1, y, as, μ => if m_as as ≤ m_ml y then m_e X (m_evX X d) y (m_blk y 0) (m_en (m_ml y) as) [] μ else none
theorem m_evX_grow (X : Option (Nat × (Nat → Int))) : ∀ (d y : Nat) (as : List m_V) (μ : m_M) (q : Option m_V × m_M), m_evX X d y as μ = some q → m_grow μ q.2
  | 0, _, _, _, _, h => by cases h
  | d + 1, y, as, μ, q, h => by
    unfold m_evX at h
    split at h
    next has =>
      obtain ⟨n, hn⟩ := m_lim_ex h
      exact m_run_grow (m_evX_grow X d) n _ _ _ _ _ hn
    next => cases h
theorem m_mk_X {X : Option (Nat × (Nat → Int))} {op a b : Nat} {z : Int} {st : List m_V} {μ : m_M} {q : List m_V × m_M} (h : m_mk none op a b z st μ = some q) : m_mk X op a b z st μ = some q := by
  unfold m_mk at h ⊢
  split at h
  all_goals first | exact h | skip
  · split at h
    · exact h
    · cases h
    · cases h
  · split at h
    · exact h
    · cases h
    · cases h
theorem m_stp_X {X : Option (Nat × (Nat → Int))} {i : m_P} {ls st : List m_V} {μ : m_M} {q : List m_V × List m_V × m_M} (h : m_stp none i ls st μ = some q) : m_stp X i ls st μ = some q := by
  unfold m_stp at h ⊢
  split at h
  next h53 =>
    rw [if_pos h53]
    obtain ⟨w, h1, rfl⟩ := Option.map_eq_some_iff.mp h
    rw [m_mk_X h1]
    rfl
  next h53 => rw [if_neg h53]; exact h
theorem m_run_X {X : Option (Nat × (Nat → Int))} {f g : m_C} (hfg : ∀ y as μ q, f y as μ = some q → g y as μ = some q) {y : Nat} : ∀ (n : Nat) (is : List m_P) (ls st : List m_V) (μ : m_M) (q : Option m_V × m_M), m_run none f y n is ls st μ = some q → m_run X g y n is ls st μ = some q
  | 0, _, _, _, _, _, h => by cases h
  | _ + 1, [], _, _, _, _, h => by cases h
  | n + 1, i :: is, ls, st, μ, q, h => by
    have ih := m_run_X (X := X) hfg (y := y) n
    unfold m_run at h ⊢
    split at h
    · exact ih _ _ _ _ _ h
    · split at h
      · split at h
        next hc => rw [if_pos hc]; exact ih _ _ _ _ _ h
        next hc => rw [if_neg hc]; exact ih _ _ _ _ _ h
      · cases h
    · split at h
      · split at h
        next hc => rw [if_pos hc]; exact ih _ _ _ _ _ h
        next hc => rw [if_neg hc]; exact ih _ _ _ _ _ h
      · cases h
    · split at h
      · exact ih _ _ _ _ _ h
      · exact ih _ _ _ _ _ h
      · cases h
    · split at h
      · exact ih _ _ _ _ _ h
      · exact ih _ _ _ _ _ h
      · cases h
    · split at h
      · exact ih _ _ _ _ _ h
      · cases h
    · exact h
    · split at h
      next w hw =>
        have hw2 : m_cal g i.2.1 i.2.2.1 i.2.2.2 st μ = some w := by
          unfold m_cal at hw ⊢
          split at hw
          next hc =>
            rw [if_pos hc]
            obtain ⟨u, hu, rfl⟩ := Option.map_eq_some_iff.mp hw
            rw [hfg _ _ _ _ hu]
            rfl
          next => cases hw
        rw [hw2]
        exact ih _ _ _ _ _ h
      next => cases h
    · exact ih _ _ _ _ _ h
    · split at h
      · exact ih _ _ _ _ _ h
      · cases h
    · split at h
      next w hw => rw [m_stp_X hw]; exact ih _ _ _ _ _ h
      next => cases h
theorem m_ev_X (X : Option (Nat × (Nat → Int))) : ∀ (d y : Nat) (as : List m_V) (μ : m_M) (q : Option m_V × m_M), m_ev d y as μ = some q → m_evX X d y as μ = some q
  | 0, _, _, _, _, h => by cases h
  | d + 1, y, as, μ, q, h => by
    unfold m_ev at h
    unfold m_evX
    split at h
    next has =>
      rw [if_pos has]
      obtain ⟨n, hn⟩ := m_lim_ex h
      exact m_lim_of (m_e_mono _ _ _ _ _ _ _) (m_run_X (m_ev_X X d) n _ _ _ _ _ hn)
    next => cases h
set_option maxHeartbeats 4000000 in
/-- every method's contract, out of what the pure machine answers -/
theorem m_con (l : Launch) (dC : Nat → ClassId) (dI : Nat → Nat → Nat) (tc : Nat → ClassId) (A : Nat → Prop) (X : Option (Nat × (Nat → Int))) (b : Nat) : ∀ d, m_Con l dC dI tc A X b d (m_evX X d)
  | 0 => fun _ _ _ _ _ _ h => by cases h
  | d + 1 => by
    intro y as μ rv μ' hy h
    have hg := m_evX_grow _ _ _ _ _ _ h
    refine ⟨hg, fun ads hM hok => ?_⟩
    unfold m_evX at h
    split at h
    next has =>
      obtain ⟨n, hn⟩ := m_lim_ex h
      have h4 := m_rng m_MP_ok4 hy
      simp only [Bool.and_eq_true, decide_eq_true_eq] at h4
      refine va_MetF (cc := m_by y) (maxL := m_ml y) (ret := m_rt y) h4.1 rfl ?_
      intro p e s m args below meth c s₁ B hml hv
      obtain ⟨rfl, hP, hD, hKN, hA, hXX⟩ := hv
      have hts0 := atoms_spec (ws := m_wd y) B.pre
      have hts : ∀ w ∈ lw_tbl.filter goodWord, w.before (as.map (m_re ads b)).toArray s = true := fun w hw => hts0 w (List.mem_cons_of_mem _ hw)
      have hown : s.vm.findClass (m_cn (m_own y)) = some m.cls := by rw [← m_clsn hy]; exact findClass_of_methodNamed B.named
      have hlocks := B.notSynchronized
      have hr := B.returns
      have hx := B.exec
      have hb := B.bytes
      have hF : m_Fx p (headSpec (m_wd y) (m_rm (d + 1) (μ'.1.length - μ.1.length) (m_sz μ'.1 - m_sz μ.1))).room s m (as.map (m_re ads b)).toArray meth c dC dI tc A X b y :=
        ⟨hx, hb, hml, hown, hts, hKN.1, hKN.2.1, hKN.2.2, hA, (name_of_methodNamed B.named B.method).1, hXX, by show 1 ≤ d + 1; omega, by show 35 ≤ 35 * (d + 1); omega⟩
      have key := m_run_ok (l := l) (e := e) (below := below) (Q := MQ below (m_Qc dC dI tc A b ads μ rv μ') (as.map (m_re ads b)).toArray s (μ'.1.length - μ.1.length) (m_sz μ'.1 - m_sz μ.1) A) (n0 := μ.1.length) (z0 := m_sz μ.1) (ads0 := ads) (d := d) (f := m_evX X d) (rv := rv) (μ' := μ') hF (m_con l dC dI tc A X b d) (by show d + 1 ≤ d + 1; omega) (by show 35 * d + 35 ≤ 35 * (d + 1); omega) (by omega) (m_evX_grow X d) (Nat.le_refl _) (Nat.le_refl _) ?_ n _ (m_stt y 0) _ _ _ (m_blk_chk (by omega) 0) hn
      · have k := key ads s.heap [] _ (fun _ _ => rfl) (Nat.le_refl _) (Nat.le_refl _) hP hD va_S.rf hM (m_en_lh has) (m_en_ok as _ hok) (fun v hv => by cases hv)
        rw [m_stt_0 (by omega), Nat.sub_self, Nat.sub_self] at k
        rw [lg_entry_eq]
        exact k
      · intro pcR k plsR stR ins hd hk hret
        intro ads' H' locs' ls' hads' hn0 hz0 hP' hD' hS' hM' hl' hokl' hok'
        have hQ : ∀ (o : Option m_V), rv = o → (∀ v, o = some v → m_okw μ'.1.length v) → ∀ t : State, t.heap = H' → s.WarmedH t.vm → m_Qc dC dI tc A b ads μ rv μ' (as.map (m_re ads b)).toArray s (.returned (o.map (m_re ads' b))) t := by
          intro o ho hov t ht hW
          subst ho
          exact ⟨⟨ads', hads', rfl, by rw [ht]; exact hP', hD', hM', hov⟩, hS'.F ht⟩
        unfold m_okr at hk
        unfold m_ret at hret
        split at hret
        · simp only [Bool.and_eq_true, decide_eq_true_eq] at hk
          cases hret
          obtain ⟨rfl, hrt⟩ := hk
          exact W.vret hx hb (by rw [hr]; exact hrt) (fun t ht hW => hQ none rfl (fun v hv => by cases hv) t ht hW) hS'.2.2 hd
        next x =>
          simp only [Bool.and_eq_true, decide_eq_true_eq] at hk
          cases hret
          obtain ⟨rfl, hrt⟩ := hk
          exact W.iret hx hb (by rw [hr]; exact hrt) (fun t ht hW => hQ (some (m_I x)) rfl (fun v hv => by cases hv; exact hok' _ List.mem_cons_self) t ht hW) hS'.2.2 hd
        next x =>
          simp only [Bool.and_eq_true, decide_eq_true_eq] at hk
          split at hret
          next h01 =>
            cases hret
            obtain ⟨rfl, hrt⟩ := hk
            exact W.zret hx hb (ty := .boolean) (by rw [hr]; exact hrt) (m_narrow_b h01).1 (fun t ht hW => hQ (some (m_I x)) rfl (fun v hv => by cases hv; exact hok' _ List.mem_cons_self) t ht hW) hS'.2.2 hd
          next => cases hret
        next x =>
          simp only [Bool.and_eq_true, decide_eq_true_eq] at hk
          cases hret
          obtain ⟨rfl, hrt⟩ := hk
          exact W.lret hx hb (by rw [hr]; exact hrt) (fun t ht hW => hQ (some (m_J x)) rfl (fun v hv => by cases hv; exact hok' _ List.mem_cons_self) t ht hW) hS'.2.2 hd
        next o =>
          simp only [Bool.and_eq_true, decide_eq_true_eq] at hk
          cases hret
          obtain ⟨rfl, hrt⟩ := hk
          have hrt2 : ∃ nm, m_rt y = some (.object nm) := by
            unfold m_isO at hrt
            split at hrt
            next nm hq => exact ⟨nm, hq⟩
            next => cases hrt
          obtain ⟨nm, hnm⟩ := hrt2
          refine W.aret hx hb (rt := .object nm) (by rw [hr]; exact hnm) (Or.inl ⟨nm, rfl⟩) ?_ (fun t ht hW => hQ (some (m_O o)) rfl (fun v hv => by cases hv; exact hok' _ List.mem_cons_self) t ht hW) hS'.2.2 hd
          rcases m_rf_or (ads := ads') (b := b) o with ⟨-, e1⟩ | ⟨k, -, e1⟩
          · exact Or.inl e1
          · exact Or.inr ⟨_, e1⟩
        next => cases hret
    next => cases h
