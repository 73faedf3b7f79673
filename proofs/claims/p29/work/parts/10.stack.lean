/-! one step of the pure machine is one step of the machine: what works on the stack alone, and on locals -/
/-- what is the same all along a frame's walk -/
def m_Fx (p : Program) (R : Room) (s : State) (m : MethodId) (args : Array Value) (meth : Method) (c : Code) (dC : Nat → ClassId) (dI : Nat → Nat → Nat) (tc : Nat → ClassId) (A : Nat → Prop) (X : Option (Nat × (Nat → Int))) (b y : Nat) : Prop :=
  p.tables.exec = Jvm.exec ∧ c.code = m_by y ∧ c.maxLocals = m_ml y ∧ s.vm.findClass (m_cn (m_own y)) = some m.cls ∧ (∀ w ∈ lw_tbl.filter goodWord, w.before args s = true) ∧ va_K (dC, dI) vwCl (m_tys tc) s ∧
  (∀ q ∈ m_ML, q.2.1 = 3 ∨ q.2.1 = 4 → va_Nw (.methodLinkNest (m_cn q.1.1) q.1.2 (m_nm q.2.2.1) RX9) s) ∧ va_AO RX7 s ∧ (∀ q, s.heap.size ≤ q → A q) ∧ meth.name = (m_nm y).name ∧
  (∀ x, X = some x → va_X b x.1 (fun j => Int32.ofInt (x.2 j)) s s.heap ∧ b < s.heap.size ∧ ¬ A b ∧ (∀ j, m_in (x.2 j)) ∧ x.1 ≤ 2560) ∧ 1 ≤ R.frames ∧ 35 ≤ R.locals
/-- from the pure machine's state at pc, in any heap that holds it, the goal is reached; n0 and z0: cells and slots at the frame's beginning, ads0: the addresses then -/
def m_W (p : Program) (l : Launch) (e : Env) (R : Room) (s : State) (m : MethodId) (args : Array Value) (below : List Frame) (meth : Method) (c : Code) (Q : State → Prop) (dC : Nat → ClassId) (dI : Nat → Nat → Nat) (tc : Nat → ClassId) (A : Nat → Prop) (b nL n0 z0 : Nat) (ads0 : Nat → Nat) (pc : Nat) (pls st : List m_V) (μ : m_M) : Prop :=
  ∀ (ads : Nat → Nat) (H : Heap) (locs : List Loc) (ls : Array Slot), (∀ k, k < n0 → ads k = ads0 k) → n0 ≤ μ.1.length → z0 ≤ m_sz μ.1 → va_P (dC, dI) vwCl (m_ws tc ads μ) H → va_D A (m_ws tc ads μ) → va_S A s.heap H locs → m_mok μ →
    m_lh ads b nL pls ls → (∀ i, m_okw μ.1.length (m_ld pls i)) → (∀ v ∈ st, m_okw μ.1.length v) →
    W p l e R s m args below meth c H locs (μ.1.length - n0) (m_sz μ.1 - z0) Q (F0 m pc ls (st.map (m_re ads b)))
section MS
variable {p : Program} {l : Launch} {e : Env} {R : Room} {s : State} {m : MethodId} {args : Array Value} {below : List Frame} {meth : Method} {c : Code} {Q : State → Prop}
variable {H : Heap} {locs : List Loc} {cells slots : Nat} {ls : Array Slot}
variable {dC : Nat → ClassId} {dI : Nat → Nat → Nat} {tc : Nat → ClassId} {A : Nat → Prop} {X : Option (Nat × (Nat → Int))} {b y : Nat}
theorem m_ldcwf {cc : ByteArray} {pc : Nat} {rest : List Value} (hexec : p.tables.exec = Jvm.exec) (hb : c.code = cc) {own : String} {index : Nat} {v : UInt32} (hown : s.vm.findClass own = some m.cls) (hconst : (Jvm.Cond.constantFloat own index v).before args s = true) (hdg : decode cc pc = .ok (.ldc_w index, 3)) (k : W p l e R s m args below meth c H locs cells slots Q (F0 m (pc + 3) ls (.float v :: rest))) : W p l e R s m args below meth c H locs cells slots Q (F0 m pc ls rest) := by
  intro T hT X
  obtain ⟨t, a, b1⟩ := k T hT X
  refine ⟨t, ?_, b1⟩
  obtain ⟨k, cf, hk, hcf, hcp⟩ := Cond.constantFloat_spec hown hconst
  obtain ⟨k', hk', he⟩ := X.warmed.alike.2.2 _ _ hk
  subst hb
  jvm_step X.here [hexec, hdg, ldc_w.wp_float (s := T) (f := F0 m pc ls rest) X.here.top hk' (by rw [he]; exact hcf) hcp]
  exact a
theorem m_ii_inv {f : Int → Int → Int} {st st' : List m_V} (h : m_ii f st = some st') : ∃ x y r, st = m_I y :: m_I x :: r ∧ st' = m_I (f x y) :: r := by
  unfold m_ii at h
  split at h
  next y x r => cases h; exact ⟨x, y, r, rfl, rfl⟩
  next => cases h
theorem m_id_inv {f : Int → Int → Int} {st st' : List m_V} (h : m_id f st = some st') : ∃ x y r, st = m_I y :: m_I x :: r ∧ st' = m_I (f x y) :: r ∧ ¬ y = 0 := by
  unfold m_id at h
  split at h
  next y x r =>
    split at h
    next => cases h
    next hn => cases h; exact ⟨x, y, r, rfl, rfl, hn⟩
  next => cases h
theorem m_jj_inv {f : Int → Int → Int} {st st' : List m_V} (h : m_jj f st = some st') : ∃ x y r, st = m_J y :: m_J x :: r ∧ st' = m_J (f x y) :: r := by
  unfold m_jj at h
  split at h
  next y x r => cases h; exact ⟨x, y, r, rfl, rfl⟩
  next => cases h
theorem m_jd_inv {f : Int → Int → Int} {st st' : List m_V} (h : m_jd f st = some st') : ∃ x y r, st = m_J y :: m_J x :: r ∧ st' = m_J (f x y) :: r ∧ ¬ y = 0 := by
  unfold m_jd at h
  split at h
  next y x r =>
    split at h
    next => cases h
    next hn => cases h; exact ⟨x, y, r, rfl, rfl, hn⟩
  next => cases h
theorem m_ff_inv {f : UInt32 → UInt32 → UInt32} {st st' : List m_V} (h : m_ff f st = some st') : ∃ x y r, st = m_F y :: m_F x :: r ∧ st' = m_F (f x y) :: r ∧ vf_n32 (f x y) := by
  unfold m_ff at h
  split at h
  next y x r =>
    split at h
    next hn => cases h; exact ⟨x, y, r, rfl, rfl, hn⟩
    next => cases h
  next => cases h
theorem m_two {n : Nat} {v w : m_V} {r : List m_V} (h : ∀ u ∈ v :: w :: r, m_okw n u) : m_okw n v ∧ m_okw n w ∧ ∀ u ∈ r, m_okw n u :=
  ⟨h v List.mem_cons_self, h w (List.mem_cons_of_mem _ List.mem_cons_self), fun u hu => h u (List.mem_cons_of_mem _ (List.mem_cons_of_mem _ hu))⟩
theorem m_one {n : Nat} {v : m_V} {r : List m_V} (h : ∀ u ∈ v :: r, m_okw n u) : m_okw n v ∧ ∀ u ∈ r, m_okw n u :=
  ⟨h v List.mem_cons_self, fun u hu => h u (List.mem_cons_of_mem _ hu)⟩
theorem m_put {n : Nat} {v : m_V} {r : List m_V} (hv : m_okw n v) (h : ∀ u ∈ r, m_okw n u) : ∀ u ∈ v :: r, m_okw n u := by
  intro u hu
  rcases List.mem_cons.mp hu with rfl | hu
  · exact hv
  · exact h u hu
theorem m_ok_s1 {n i : Nat} {pls : List m_V} {v : m_V} (h : ∀ j, m_okw n (m_ld pls j)) (hv : m_okw n v) : ∀ j, m_okw n (m_ld (m_s1 pls i v) j) := by
  intro j
  rw [m_s1, m_ld_st]
  split
  · exact hv
  · rw [m_ld_kl]
    split
    · exact trivial
    · exact h j
theorem m_ok_s2 {n i : Nat} {pls : List m_V} {v : m_V} (h : ∀ j, m_okw n (m_ld pls j)) (hv : m_okw n v) : ∀ j, m_okw n (m_ld (m_s2 pls i v) j) := by
  intro j
  rw [m_s2, m_ld_st]
  split
  · exact trivial
  · rw [m_ld_st]
    split
    · exact hv
    · rw [m_ld_kl]
      split
      · exact trivial
      · exact h j
set_option maxHeartbeats 4000000 in
/-- an instruction that works on the stack alone -/
theorem m_sk_ok {ads : Nat → Nat} {n pc op a len : Nat} {z : Int} {r : Instr} {st st' : List m_V} (hF : m_Fx p R s m args meth c dC dI tc A X b y) (hr : m_oks (m_own y) r len op a z = true) (hd : decode (m_by y) pc = .ok (r, len)) (h : m_sk op a z st = some st') (hok : ∀ v ∈ st, m_okw n v) :
    (∀ v ∈ st', m_okw n v) ∧ (W p l e R s m args below meth c H locs cells slots Q (F0 m (pc + len) ls (st'.map (m_re ads b))) → W p l e R s m args below meth c H locs cells slots Q (F0 m pc ls (st.map (m_re ads b)))) := by
  obtain ⟨hx, hb, hml, hown, hts, hK, hN, hO, hA, hin, hX, hfr, hlo⟩ := hF
  unfold m_sk at h
  split at h
  · -- a small number
    cases h
    simp only [m_oks, Bool.and_eq_true, decide_eq_true_eq] at hr
    obtain ⟨h1, h2, hr⟩ := hr
    refine ⟨m_put (show m_in z from ⟨h1, h2⟩) hok, fun k => ?_⟩
    unfold m_oki at hr
    split at hr
    · simp only [Bool.and_eq_true, decide_eq_true_eq] at hr
      obtain ⟨rfl, rfl⟩ := hr
      exact lv_iconst hx hb hd rfl k
    · simp only [Bool.and_eq_true, decide_eq_true_eq] at hr
      obtain ⟨e, rfl⟩ := hr
      exact lv_bipush hx hb hd e k
    · simp only [Bool.and_eq_true, decide_eq_true_eq] at hr
      obtain ⟨e, rfl⟩ := hr
      exact lv_sipush hx hb hd e k
    · simp only [Bool.and_eq_true, decide_eq_true_eq, Option.map_eq_some_iff] at hr
      obtain ⟨⟨q, e, rfl⟩, rfl⟩ := hr
      exact lv_ldc hx hb hown (hts _ (m_wok_in (List.all_eq_true.mp m_CI_ok _ (m_lk2_in e)))) hd k
    · simp only [Bool.and_eq_true, decide_eq_true_eq, Option.map_eq_some_iff] at hr
      obtain ⟨⟨q, e, rfl⟩, rfl⟩ := hr
      exact lv_ldcw hx hb hown (hts _ (m_wok_in (List.all_eq_true.mp m_CI_ok _ (m_lk2_in e)))) hd k
    · cases hr
  · cases h
    simp only [m_oks, Bool.and_eq_true, decide_eq_true_eq] at hr
    obtain ⟨h1, h2, hr⟩ := hr
    refine ⟨m_put (show m_il z from ⟨h1, h2⟩) hok, fun k => ?_⟩
    unfold m_okj at hr
    split at hr
    · simp only [Bool.and_eq_true, decide_eq_true_eq] at hr
      obtain ⟨e, rfl⟩ := hr
      exact lv_lconst hx hb hd e k
    · simp only [Bool.and_eq_true, decide_eq_true_eq, Option.map_eq_some_iff] at hr
      obtain ⟨⟨q, e, rfl⟩, rfl⟩ := hr
      exact lv_ldc2 hx hb hown (hts _ (m_wok_in (List.all_eq_true.mp m_CJ_ok _ (m_lk2_in e)))) hd k
    · cases hr
  · cases h
    simp only [m_oks] at hr
    refine ⟨m_put trivial hok, fun k => ?_⟩
    have k : W p l e R s m args below meth c H locs cells slots Q (F0 m (pc + len) ls (.float (UInt32.ofNat a) :: st.map (m_re ads b))) := k
    unfold m_okf at hr
    split at hr
    · simp only [Bool.and_eq_true, Bool.or_eq_true, decide_eq_true_eq] at hr
      obtain ⟨⟨rfl, e⟩ | ⟨rfl, e⟩ | ⟨rfl, e⟩, rfl⟩ := hr
      · rw [e] at k; exact lv_fconst0 hx hb hd k
      · rw [e] at k; exact lv_fconst1 hx hb hd k
      · rw [e] at k; exact lv_fconst2 hx hb hd k
    · simp only [Bool.and_eq_true, decide_eq_true_eq, Option.map_eq_some_iff] at hr
      obtain ⟨⟨q, e, rfl⟩, rfl⟩ := hr
      exact lv_ldcf hx hb hown (hts _ (m_wok_in (List.all_eq_true.mp m_CF_ok _ (m_lk2_in e)))) hd k
    · simp only [Bool.and_eq_true, decide_eq_true_eq, Option.map_eq_some_iff] at hr
      obtain ⟨⟨q, e, rfl⟩, rfl⟩ := hr
      exact m_ldcwf hx hb hown (hts _ (m_wok_in (List.all_eq_true.mp m_CF_ok _ (m_lk2_in e)))) hd k
    · cases hr
  · cases h
    simp only [m_oks, Bool.and_eq_true, decide_eq_true_eq] at hr
    obtain ⟨rfl, rfl⟩ := hr
    exact ⟨m_put (fun k hk => by cases hk) hok, fun k => lv_null hx hb hd k⟩
  · simp only [m_oks, Bool.and_eq_true, decide_eq_true_eq] at hr
    obtain ⟨rfl, rfl⟩ := hr
    obtain ⟨x, w, r, rfl, rfl⟩ := m_ii_inv h
    obtain ⟨hw, hx2, hr2⟩ := m_two hok
    refine ⟨m_put (m_inw _) hr2, fun k => ?_⟩
    exact lv_iadd hx hb hd (by rw [← m_add hx2 hw]; exact k)
  · simp only [m_oks, Bool.and_eq_true, decide_eq_true_eq] at hr
    obtain ⟨rfl, rfl⟩ := hr
    obtain ⟨x, w, r, rfl, rfl⟩ := m_ii_inv h
    obtain ⟨hw, hx2, hr2⟩ := m_two hok
    refine ⟨m_put (m_inw _) hr2, fun k => ?_⟩
    exact lv_isub hx hb hd (by rw [← m_sub hx2 hw]; exact k)
  · simp only [m_oks, Bool.and_eq_true, decide_eq_true_eq] at hr
    obtain ⟨rfl, rfl⟩ := hr
    obtain ⟨x, w, r, rfl, rfl⟩ := m_ii_inv h
    obtain ⟨hw, hx2, hr2⟩ := m_two hok
    refine ⟨m_put (m_inw _) hr2, fun k => ?_⟩
    exact lv_imul hx hb hd (by rw [← m_mul hx2 hw]; exact k)
  · simp only [m_oks, Bool.and_eq_true, decide_eq_true_eq] at hr
    obtain ⟨rfl, rfl⟩ := hr
    obtain ⟨x, w, r, rfl, rfl, hne⟩ := m_id_inv h
    obtain ⟨hw, hx2, hr2⟩ := m_two hok
    refine ⟨m_put (m_inw _) hr2, fun k => ?_⟩
    exact lv_idiv hx hb hd (m_ne0 hw hne) (by rw [← m_div hx2 hw]; exact k)
  · simp only [m_oks, Bool.and_eq_true, decide_eq_true_eq] at hr
    obtain ⟨rfl, rfl⟩ := hr
    obtain ⟨x, w, r, rfl, rfl, hne⟩ := m_id_inv h
    obtain ⟨hw, hx2, hr2⟩ := m_two hok
    refine ⟨m_put (m_rem hx2 hw).1 hr2, fun k => ?_⟩
    exact lv_irem hx hb hd (m_ne0 hw hne) (by rw [← (m_rem hx2 hw).2]; exact k)
  · simp only [m_oks, Bool.and_eq_true, decide_eq_true_eq] at hr
    obtain ⟨rfl, rfl⟩ := hr
    split at h
    next x r =>
      cases h
      obtain ⟨hw, hr2⟩ := m_one hok
      exact ⟨m_put (m_inw _) hr2, fun k => lv_ineg hx hb hd (by rw [← m_neg hw]; exact k)⟩
    next => cases h
  · simp only [m_oks, Bool.and_eq_true, decide_eq_true_eq] at hr
    obtain ⟨rfl, rfl⟩ := hr
    obtain ⟨x, w, r, rfl, rfl⟩ := m_ii_inv h
    obtain ⟨hw, hx2, hr2⟩ := m_two hok
    refine ⟨m_put (m_inI _) hr2, fun k => ?_⟩
    exact lv_iand hx hb hd (by have k : W p l e R s m args below meth c H locs cells slots Q (F0 m (pc + 1) ls (.int (Int32.ofInt (Int32.toInt _)) :: r.map (m_re ads b))) := k; rw [Int32.ofInt_toInt] at k; exact k)
  · simp only [m_oks, Bool.and_eq_true, decide_eq_true_eq] at hr
    obtain ⟨rfl, rfl⟩ := hr
    obtain ⟨x, w, r, rfl, rfl⟩ := m_ii_inv h
    obtain ⟨hw, hx2, hr2⟩ := m_two hok
    refine ⟨m_put (m_inI _) hr2, fun k => ?_⟩
    exact lv_ixor hx hb hd (by have k : W p l e R s m args below meth c H locs cells slots Q (F0 m (pc + 1) ls (.int (Int32.ofInt (Int32.toInt _)) :: r.map (m_re ads b))) := k; rw [Int32.ofInt_toInt] at k; exact k)
  · simp only [m_oks, Bool.and_eq_true, decide_eq_true_eq] at hr
    obtain ⟨rfl, rfl⟩ := hr
    obtain ⟨x, w, r, rfl, rfl⟩ := m_ii_inv h
    obtain ⟨hw, hx2, hr2⟩ := m_two hok
    refine ⟨m_put (m_inI _) hr2, fun k => ?_⟩
    exact lv_ishl hx hb hd (by have k : W p l e R s m args below meth c H locs cells slots Q (F0 m (pc + 1) ls (.int (Int32.ofInt (Int32.toInt _)) :: r.map (m_re ads b))) := k; rw [Int32.ofInt_toInt] at k; exact k)
  · simp only [m_oks, Bool.and_eq_true, decide_eq_true_eq] at hr
    obtain ⟨rfl, rfl⟩ := hr
    obtain ⟨x, w, r, rfl, rfl⟩ := m_ii_inv h
    obtain ⟨hw, hx2, hr2⟩ := m_two hok
    refine ⟨m_put (m_inI _) hr2, fun k => ?_⟩
    exact lv_ishr hx hb hd (by have k : W p l e R s m args below meth c H locs cells slots Q (F0 m (pc + 1) ls (.int (Int32.ofInt (Int32.toInt _)) :: r.map (m_re ads b))) := k; rw [Int32.ofInt_toInt] at k; exact k)
  · simp only [m_oks, Bool.and_eq_true, decide_eq_true_eq] at hr
    obtain ⟨rfl, rfl⟩ := hr
    obtain ⟨x, w, r, rfl, rfl⟩ := m_ii_inv h
    obtain ⟨hw, hx2, hr2⟩ := m_two hok
    refine ⟨m_put (m_inI _) hr2, fun k => ?_⟩
    exact lv_iushr hx hb hd rfl (by have k : W p l e R s m args below meth c H locs cells slots Q (F0 m (pc + 1) ls (.int (Int32.ofInt (Int32.toInt _)) :: r.map (m_re ads b))) := k; rw [Int32.ofInt_toInt] at k; exact k)
  · simp only [m_oks, Bool.and_eq_true, decide_eq_true_eq] at hr
    obtain ⟨rfl, rfl⟩ := hr
    obtain ⟨x, w, r, rfl, rfl⟩ := m_jj_inv h
    obtain ⟨hw, hx2, hr2⟩ := m_two hok
    refine ⟨m_put (m_ilx _) hr2, fun k => ?_⟩
    exact lv_ladd hx hb hd (by rw [← m_addL hx2 hw]; exact k)
  · simp only [m_oks, Bool.and_eq_true, decide_eq_true_eq] at hr
    obtain ⟨rfl, rfl⟩ := hr
    obtain ⟨x, w, r, rfl, rfl⟩ := m_jj_inv h
    obtain ⟨hw, hx2, hr2⟩ := m_two hok
    refine ⟨m_put (m_ilx _) hr2, fun k => ?_⟩
    exact lv_lsub hx hb hd (by rw [← m_subL hx2 hw]; exact k)
  · simp only [m_oks, Bool.and_eq_true, decide_eq_true_eq] at hr
    obtain ⟨rfl, rfl⟩ := hr
    obtain ⟨x, w, r, rfl, rfl⟩ := m_jj_inv h
    obtain ⟨hw, hx2, hr2⟩ := m_two hok
    refine ⟨m_put (m_ilx _) hr2, fun k => ?_⟩
    exact lv_lmul hx hb hd (by rw [← m_mulL hx2 hw]; exact k)
  · simp only [m_oks, Bool.and_eq_true, decide_eq_true_eq] at hr
    obtain ⟨rfl, rfl⟩ := hr
    obtain ⟨x, w, r, rfl, rfl, hne⟩ := m_jd_inv h
    obtain ⟨hw, hx2, hr2⟩ := m_two hok
    refine ⟨m_put (m_ilx _) hr2, fun k => ?_⟩
    exact lv_ldiv hx hb hd (m_ne0L hw hne) (by rw [← m_divL hx2 hw]; exact k)
  · simp only [m_oks, Bool.and_eq_true, decide_eq_true_eq] at hr
    obtain ⟨rfl, rfl⟩ := hr
    obtain ⟨x, w, r, rfl, rfl, hne⟩ := m_jd_inv h
    obtain ⟨hw, hx2, hr2⟩ := m_two hok
    refine ⟨m_put (m_remL hx2 hw).1 hr2, fun k => ?_⟩
    exact lv_lrem hx hb hd (m_ne0L hw hne) (by rw [← (m_remL hx2 hw).2]; exact k)
  · simp only [m_oks, Bool.and_eq_true, decide_eq_true_eq] at hr
    obtain ⟨rfl, rfl⟩ := hr
    split at h
    next x r =>
      cases h
      obtain ⟨hw, hr2⟩ := m_one hok
      exact ⟨m_put (m_ilx _) hr2, fun k => lv_lneg hx hb hd (by rw [← m_negL hw]; exact k)⟩
    next => cases h
  · simp only [m_oks, Bool.and_eq_true, decide_eq_true_eq] at hr
    obtain ⟨rfl, rfl⟩ := hr
    split at h
    next w x r =>
      cases h
      obtain ⟨hw, hx2, hr2⟩ := m_two hok
      exact ⟨m_put (m_cmp_in _ _) hr2, fun k => W.lcmp hx hb hd (by rw [← m_cmpL hx2 hw]; exact k)⟩
    next => cases h
  · simp only [m_oks, Bool.and_eq_true, decide_eq_true_eq] at hr
    obtain ⟨rfl, rfl⟩ := hr
    split at h
    next x r =>
      cases h
      obtain ⟨hw, hr2⟩ := m_one hok
      exact ⟨m_put (show m_il _ from ⟨by have := hw.1; omega, by have := hw.2; omega⟩) hr2, fun k => lv_i2l hx hb hd (m_i2l hw) k⟩
    next => cases h
  · simp only [m_oks, Bool.and_eq_true, decide_eq_true_eq] at hr
    obtain ⟨rfl, rfl⟩ := hr
    split at h
    next x r =>
      cases h
      obtain ⟨hw, hr2⟩ := m_one hok
      exact ⟨m_put (show True from trivial) hr2, fun k => lv_l2f hx hb hd k⟩
    next => cases h
  · simp only [m_oks, Bool.and_eq_true, decide_eq_true_eq] at hr
    obtain ⟨rfl, rfl⟩ := hr
    split at h
    next x r =>
      cases h
      obtain ⟨hw, hr2⟩ := m_one hok
      exact ⟨m_put (m_inI _) hr2, fun k => lv_f2i hx hb hd (by have k : W p l e R s m args below meth c H locs cells slots Q (F0 m (pc + 1) ls (.int (Int32.ofInt (Int32.toInt _)) :: r.map (m_re ads b))) := k; rw [Int32.ofInt_toInt] at k; exact k)⟩
    next => cases h
  · simp only [m_oks, Bool.and_eq_true, decide_eq_true_eq] at hr
    obtain ⟨rfl, rfl⟩ := hr
    split at h
    next x r =>
      cases h
      obtain ⟨hw, hr2⟩ := m_one hok
      exact ⟨m_put (m_in_b _) hr2, fun k => lv_i2b hx hb hd (m_i2b hw) k⟩
    next => cases h
  · simp only [m_oks, Bool.and_eq_true, decide_eq_true_eq] at hr
    obtain ⟨rfl, rfl⟩ := hr
    obtain ⟨x, w, r, rfl, rfl, hne⟩ := m_ff_inv h
    obtain ⟨hw, hx2, hr2⟩ := m_two hok
    exact ⟨m_put trivial hr2, fun k => lv_fmul hx hb hd hne k⟩
  · simp only [m_oks, Bool.and_eq_true, decide_eq_true_eq] at hr
    obtain ⟨rfl, rfl⟩ := hr
    obtain ⟨x, w, r, rfl, rfl, hne⟩ := m_ff_inv h
    obtain ⟨hw, hx2, hr2⟩ := m_two hok
    exact ⟨m_put trivial hr2, fun k => lv_fsub hx hb hd hne k⟩
  · simp only [m_oks, Bool.and_eq_true, decide_eq_true_eq] at hr
    obtain ⟨rfl, rfl⟩ := hr
    obtain ⟨x, w, r, rfl, rfl, hne⟩ := m_ff_inv h
    obtain ⟨hw, hx2, hr2⟩ := m_two hok
    exact ⟨m_put trivial hr2, fun k => lv_fdiv hx hb hd hne k⟩
  · simp only [m_oks, Bool.and_eq_true, decide_eq_true_eq] at hr
    obtain ⟨rfl, rfl⟩ := hr
    split at h
    next w x r =>
      cases h
      obtain ⟨hw, hx2, hr2⟩ := m_two hok
      exact ⟨m_put (m_inI _) hr2, fun k => lv_fcmp hx hb hd (by have k : W p l e R s m args below meth c H locs cells slots Q (F0 m (pc + 1) ls (.int (Int32.ofInt (Int32.toInt _)) :: r.map (m_re ads b))) := k; rw [Int32.ofInt_toInt] at k; exact k)⟩
    next => cases h
  · simp only [m_oks, Bool.and_eq_true, decide_eq_true_eq] at hr
    obtain ⟨rfl, rfl⟩ := hr
    split at h
    next w x r =>
      cases h
      obtain ⟨hw, hx2, hr2⟩ := m_two hok
      exact ⟨m_put (m_inI _) hr2, fun k => lv_fcmp hx hb hd (by have k : W p l e R s m args below meth c H locs cells slots Q (F0 m (pc + 1) ls (.int (Int32.ofInt (Int32.toInt _)) :: r.map (m_re ads b))) := k; rw [Int32.ofInt_toInt] at k; exact k)⟩
    next => cases h
  · simp only [m_oks, Bool.and_eq_true, decide_eq_true_eq] at hr
    obtain ⟨rfl, rfl⟩ := hr
    split at h
    next o r =>
      cases h
      obtain ⟨hw, hr2⟩ := m_one hok
      exact ⟨m_put hw hok, fun k => lv_dup hx hb hd (m_cat _ rfl) k⟩
    next x r =>
      cases h
      obtain ⟨hw, hr2⟩ := m_one hok
      exact ⟨m_put hw hok, fun k => lv_dup hx hb hd (m_cat _ rfl) k⟩
    next => cases h
  · simp only [m_oks, Bool.and_eq_true, decide_eq_true_eq] at hr
    obtain ⟨rfl, rfl⟩ := hr
    split at h
    next x o r =>
      cases h
      obtain ⟨hw, hx2, hr2⟩ := m_two hok
      exact ⟨m_put hw (m_put hx2 hok), fun k => lv_dup2_11 hx hb hd (m_cat _ rfl) (m_cat _ rfl) k⟩
    next => cases h
  · cases h
set_option maxHeartbeats 4000000 in
/-- an instruction that works on locals and the stack -/
theorem m_lk_ok {ads : Nat → Nat} {n pc op a len : Nat} {z : Int} {r : Instr} {pls pls' st st' : List m_V} (hF : m_Fx p R s m args meth c dC dI tc A X b y) (hr : m_okl (m_ml y) r len op a z = true) (hd : decode (m_by y) pc = .ok (r, len)) (h : m_lk op a z pls st = some (pls', st')) (hl : m_lh ads b (m_ml y) pls ls) (hokl : ∀ i, m_okw n (m_ld pls i)) (hok : ∀ v ∈ st, m_okw n v) :
    (∀ i, m_okw n (m_ld pls' i)) ∧ (∀ v ∈ st', m_okw n v) ∧ ((∀ ls', m_lh ads b (m_ml y) pls' ls' → W p l e R s m args below meth c H locs cells slots Q (F0 m (pc + len) ls' (st'.map (m_re ads b)))) → W p l e R s m args below meth c H locs cells slots Q (F0 m pc ls (st.map (m_re ads b)))) := by
  obtain ⟨hx, hb, hml, hown, hts, hK, hN, hO, hA, hin, hX, hfr, hlo⟩ := hF
  unfold m_lk at h
  split at h
  · simp only [m_okl] at hr
    split at h
    next x e0 =>
      cases h
      have hv := hl.2.2.2 a (by rw [e0]; exact fun q => by cases q)
      have ho := hokl a
      rw [e0] at hv ho
      refine ⟨hokl, m_put ho hok, fun k => ?_⟩
      rcases m_ldn_or hr with ⟨rfl, rfl⟩ | ⟨i, hi, rfl, rfl⟩
      · exact lv_iload hx hb hd hv (k ls hl)
      · exact lv_iload_n hx hb hd hi hv (k ls hl)
    next => cases h
  · simp only [m_okl] at hr
    split at h
    next x e0 =>
      cases h
      have hv := hl.2.2.2 a (by rw [e0]; exact fun q => by cases q)
      have ho := hokl a
      rw [e0] at hv ho
      refine ⟨hokl, m_put ho hok, fun k => ?_⟩
      rcases m_ldn_or hr with ⟨rfl, rfl⟩ | ⟨i, hi, rfl, rfl⟩
      · exact lv_lload hx hb hd hv (k ls hl)
      · exact lv_lload_n hx hb hd hi hv (k ls hl)
    next => cases h
  · simp only [m_okl] at hr
    split at h
    next x e0 =>
      cases h
      have hv := hl.2.2.2 a (by rw [e0]; exact fun q => by cases q)
      have ho := hokl a
      rw [e0] at hv ho
      refine ⟨hokl, m_put ho hok, fun k => ?_⟩
      rcases m_ldn_or hr with ⟨rfl, rfl⟩ | ⟨i, hi, rfl, rfl⟩
      · exact lv_fload hx hb hd hv (k ls hl)
      · exact lv_fload_n hx hb hd hi hv (k ls hl)
    next => cases h
  · simp only [m_okl] at hr
    split at h
    next x e0 =>
      cases h
      have hv := hl.2.2.2 a (by rw [e0]; exact fun q => by cases q)
      have ho := hokl a
      rw [e0] at hv ho
      refine ⟨hokl, m_put ho hok, fun k => ?_⟩
      rcases m_ldn_or hr with ⟨rfl, rfl⟩ | ⟨i, hi, rfl, rfl⟩
      · exact lv_aload hx hb hd hv (k ls hl)
      · exact lv_aload_n hx hb hd hi hv (k ls hl)
    next e0 =>
      cases h
      have hv := hl.2.2.2 a (by rw [e0]; exact fun q => by cases q)
      have ho := hokl a
      rw [e0] at hv ho
      refine ⟨hokl, m_put ho hok, fun k => ?_⟩
      rcases m_ldn_or hr with ⟨rfl, rfl⟩ | ⟨i, hi, rfl, rfl⟩
      · exact lv_aload hx hb hd hv (k ls hl)
      · exact lv_aload_n hx hb hd hi hv (k ls hl)
    next => cases h
  · simp only [m_okl, Bool.and_eq_true, decide_eq_true_eq] at hr
    obtain ⟨ha, hr⟩ := hr
    split at h
    next x r0 =>
      cases h
      obtain ⟨hw, hr2⟩ := m_one hok
      refine ⟨m_ok_s1 hokl hw, hr2, fun k => ?_⟩
      rcases m_ldn_or hr with ⟨rfl, rfl⟩ | ⟨i, hi, rfl, rfl⟩
      · exact lv_istore hx hb hd (m_lh_has hl) ha rfl (fun ls' h' => k ls' (m_lh_s1 hl.1 h'))
      · exact lv_istore_n hx hb hd hi (m_lh_has hl) ha rfl (fun ls' h' => k ls' (m_lh_s1 hl.1 h'))
    next => cases h
  · simp only [m_okl, Bool.and_eq_true, decide_eq_true_eq] at hr
    obtain ⟨ha, hr⟩ := hr
    split at h
    next x r0 =>
      cases h
      obtain ⟨hw, hr2⟩ := m_one hok
      refine ⟨m_ok_s2 hokl hw, hr2, fun k => ?_⟩
      rcases m_ldn_or hr with ⟨rfl, rfl⟩ | ⟨i, hi, rfl, rfl⟩
      · exact lv_lstore hx hb hd (m_lh_has hl) ha rfl (fun ls' h' => k ls' (m_lh_s2 hl.1 h'))
      · exact lv_lstore_n hx hb hd hi (m_lh_has hl) ha rfl (fun ls' h' => k ls' (m_lh_s2 hl.1 h'))
    next => cases h
  · simp only [m_okl, Bool.and_eq_true, decide_eq_true_eq] at hr
    obtain ⟨ha, hr⟩ := hr
    split at h
    next x r0 =>
      cases h
      obtain ⟨hw, hr2⟩ := m_one hok
      refine ⟨m_ok_s1 hokl hw, hr2, fun k => ?_⟩
      rcases m_ldn_or hr with ⟨rfl, rfl⟩ | ⟨i, hi, rfl, rfl⟩
      · exact lv_fstore hx hb hd (m_lh_has hl) ha rfl (fun ls' h' => k ls' (m_lh_s1 hl.1 h'))
      · exact lv_fstore_n hx hb hd hi (m_lh_has hl) ha rfl (fun ls' h' => k ls' (m_lh_s1 hl.1 h'))
    next => cases h
  · simp only [m_okl, Bool.and_eq_true, decide_eq_true_eq] at hr
    obtain ⟨ha, hr⟩ := hr
    split at h
    next x r0 =>
      cases h
      obtain ⟨hw, hr2⟩ := m_one hok
      refine ⟨m_ok_s1 hokl hw, hr2, fun k => ?_⟩
      rcases m_ldn_or hr with ⟨rfl, rfl⟩ | ⟨i, hi, rfl, rfl⟩
      · exact lv_astore hx hb hd (m_lh_has hl) ha rfl (fun ls' h' => k ls' (m_lh_s1 hl.1 h'))
      · exact lv_astore_n hx hb hd hi (m_lh_has hl) ha rfl (fun ls' h' => k ls' (m_lh_s1 hl.1 h'))
    next => cases h
  · simp only [m_okl, Bool.and_eq_true, decide_eq_true_eq] at hr
    obtain ⟨ha, rfl, rfl⟩ := hr
    split at h
    next x e0 =>
      cases h
      have ho := hokl a
      rw [e0] at ho
      have hin2 := m_ll_in (ads := ads) (b := b) (pls := pls) (j := a) (by rw [e0]; exact fun q => by cases q)
      rw [e0] at hin2
      obtain ⟨k0, hk0⟩ := List.getElem?_of_mem hin2
      refine ⟨m_ok_s1 hokl (m_inw _), hok, fun k => ?_⟩
      refine lv_iinc (v := Int32.ofInt (m_w (x + z))) hx hb hd (m_lh_has hl) hk0 ?_ ha rfl (fun ls' h' => k ls' (m_lh_s1 (v := m_I (m_w (x + z))) hl.1 h'))
      refine (m_eqI (m_inw _) ?_).symm
      rw [Int32.toInt_add, m_ofI ho, Int32.toInt_ofInt, m_w_bm]
      exact Int.add_bmod_bmod
    next => cases h
  · cases h
end MS
