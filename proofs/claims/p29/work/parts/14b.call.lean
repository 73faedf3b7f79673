/-! the places of the blocks -/
theorem m_blk_chk {y : Nat} (hy : y < 198) (k : Nat) : m_chk y (m_blk y k) (m_stt y k) = true := by
  have h := m_cha y hy
  unfold m_chm at h
  split at h
  next l hl =>
    simp only [Bool.and_eq_true] at h
    unfold m_blk m_stt
    rw [hl]
    dsimp only
    cases hk : l[k]? with
    | none => rfl
    | some q => exact List.all_eq_true.mp h.2 q (List.mem_of_getElem? hk)
  next => cases h
theorem m_stt_0 {y : Nat} (hy : y < 198) : m_stt y 0 = 0 := by
  have h := m_cha y hy
  unfold m_chm at h
  split at h
  next l hl =>
    simp only [Bool.and_eq_true, decide_eq_true_eq] at h
    exact h.1
  next => cases h
section MR
variable {p : Program} {l : Launch} {e : Env} {R : Room} {s : State} {m : MethodId} {args : Array Value} {below : List Frame} {meth : Method} {c : Code} {Q : State → Prop}
variable {dC : Nat → ClassId} {dI : Nat → Nat → Nat} {tc : Nat → ClassId} {A : Nat → Prop} {X : Option (Nat × (Nat → Int))} {b y n0 z0 : Nat} {ads0 : Nat → Nat}
/-- a call's end: what came back, and the walk goes on -/
theorem m_call_go {H : Heap} {locs : List Loc} {ls : Array Slot} {ads : Nat → Nat} {pc nL : Nat} {pls stR : List m_V} {st0 rest : List Value} {μ μ2 : m_M} {rv : Option m_V} {a : Array Value}
    (hr : va_Run p l e R s m args below meth c H locs (μ.1.length - n0) (m_sz μ.1 - z0) (μ2.1.length - μ.1.length) (m_sz μ2.1 - m_sz μ.1) (F0 m pc ls st0) rest (m_Qc dC dI tc A b ads μ rv μ2 a) A)
    (hA : ∀ q, s.heap.size ≤ q → A q) (hS : va_S A s.heap H locs) (hrest : rest = stR.map (m_re ads b)) (hads : ∀ k, k < n0 → ads k = ads0 k) (hn0 : n0 ≤ μ.1.length) (hz0 : z0 ≤ m_sz μ.1) (hg : m_grow μ μ2)
    (hl : m_lh ads b nL pls ls) (hokl : ∀ i, m_okw μ.1.length (m_ld pls i)) (hok : ∀ v ∈ stR, m_okw μ.1.length v)
    (kk : m_W p l e R s m args below meth c Q dC dI tc A b nL n0 z0 ads0 (pc + 3) pls (rv.toList ++ stR) μ2) :
    W p l e R s m args below meth c H locs (μ.1.length - n0) (m_sz μ.1 - z0) Q (F0 m pc ls st0) := by
  intro T hT XX
  obtain ⟨v, st₀, t, T', L, h0, X', hL, e1, e2, ⟨⟨ads', ha, ho, hP', hD', hM', hok'⟩, hF'⟩, st⟩ := hr T hT XX
  cases ho
  obtain ⟨hg1, hg2⟩ := hg
  have hS' : va_S A s.heap T'.heap (locs ++ L) := by
    refine ⟨Nat.le_trans hS.1 (by rw [e1, ← h0]; exact hF'.1), fun q h1 h2 => ?_, fun q hq => ?_⟩
    · rw [e1, hF'.2 q (by rw [h0]; exact Nat.lt_of_lt_of_le h1 hS.1) h2, h0]
      exact hS.2.1 q h1 h2
    · rcases List.mem_append.mp hq with h | h
      · exact hS.2.2 q h
      · exact hL q h
  have hl' : m_lh ads' b nL pls ls := ⟨hl.1, hl.2.1, hl.2.2.1, fun i hi => by rw [m_re_ads ha (hokl i)]; exact hl.2.2.2 i hi⟩
  have hr' : stR.map (m_re ads' b) = stR.map (m_re ads b) := List.map_congr_left fun v hv => m_re_ads ha (hok v hv)
  have k1 := kk ads' T'.heap (locs ++ L) ls (fun k hk => by rw [ha k (Nat.lt_of_lt_of_le hk hn0)]; exact hads k hk) (by omega) (by omega) (by rw [e1]; exact hP') hD' hS' hM' hl' (fun i => m_okw_mono hg1 (hokl i)) (fun v hv => by
    rcases List.mem_append.mp hv with h | h
    · exact hok' v (Option.mem_toList.mp h)
    · exact m_okw_mono hg1 (hok v h))
  have c1 : μ2.1.length - n0 = μ.1.length - n0 + (μ2.1.length - μ.1.length) := by omega
  have c2 : m_sz μ2.1 - z0 = m_sz μ.1 - z0 + (m_sz μ2.1 - m_sz μ.1) := by omega
  rw [c1, c2] at k1
  obtain ⟨t2, a1, b1⟩ := k1 T' rfl X'
  refine ⟨t2, st t2 ?_, b1⟩
  have e5 : (rv.toList ++ stR).map (m_re ads' b) = (rv.map (m_re ads' b)).toList ++ rest := by
    rw [List.map_append, hr', hrest]
    cases rv <;> rfl
  rw [e5] at a1
  exact a1
theorem m_KN_moved {u U : State} (h : m_KN dC dI tc u) (hW : u.WarmedH U.vm) : m_KN dC dI tc U :=
  ⟨va_K.moved hW.alike h.1, fun q hq hk => va_Nw.warmM hW (h.2.1 q hq hk), va_AO.moved hW.alike h.2.2⟩
theorem m_blind {as : List Value} {ads : Nat → Nat} {μ : m_M} : FrameBlind (va_Pc as (m_Pre dC dI tc A X b ads μ)) := by
  intro a U g mk h
  obtain ⟨h0, hP, hD, hK, hA, hX⟩ := h
  exact ⟨h0, hP, hD, ⟨va_K.moved (u := U) (U := U.calling g mk a) (Vm.Alike.refl U.vm) hK.1, fun q hq hk => va_Nw.same (u := U) (U := U.calling g mk a) rfl rfl (hK.2.1 q hq hk), va_AO.moved (u := U) (U := U.calling g mk a) (Vm.Alike.refl U.vm) hK.2.2⟩, hA, fun x hx => ⟨va_X.moved (u := U) (U := U.calling g mk a) (Vm.Alike.refl U.vm) (hX x hx).1, (hX x hx).2⟩⟩
theorem m_mp3 {a : Nat} (ha : a < 197) : (parseMethodDescriptor (m_nm a).desc).map (fun d => d.parameters.length) = some (m_MP.getD a (0, 0, 0)).2.2 := of_decide_eq_true (m_rng m_MP_ok3 ha)
theorem m_ini {a : Nat} (ha : a < 197) : Cond.initialized (m_nm a).cls ∈ lw_tbl.filter goodWord := m_wok_in (m_rng m_MP_ok2 ha)
theorem m_cod {a : Nat} (ha : a < 197) : Cond.code (m_nm a) (m_by a) (m_ml a) (m_rt a) ∈ lw_tbl.filter goodWord := m_wd_in ha _ List.mem_cons_self
theorem m_ml16 {a : Nat} (ha : a < 197) : m_ml a ≤ 16 := by
  have h := m_rng m_MP_ok4 ha
  simp only [Bool.and_eq_true, decide_eq_true_eq] at h
  exact h.2.1
theorem m_clsn {a : Nat} (ha : a < 197) : (m_nm a).cls = m_cn (m_own a) := by
  have h := m_rng m_MP_ok4 ha
  simp only [Bool.and_eq_true, decide_eq_true_eq] at h
  exact h.2.2
theorem m_noMH {a : Nat} (ha : a < 197) : (m_nm a).cls ≠ "java/lang/invoke/MethodHandle" ∧ (m_nm a).cls ≠ "java/lang/invoke/VarHandle" := by
  have h := m_rng m_MP_ok6 ha
  simp only [Bool.and_eq_true, decide_eq_true_eq] at h
  exact ⟨h.1, h.2.1⟩
theorem m_arity {a n : Nat} (ha : a < 197) (hn : n = (m_MP.getD a (0, 0, 0)).2.2) : ∀ sig, parseMethodDescriptor (m_nm a).desc = some sig → n = sig.parameters.length := by
  intro sig h
  have h2 := m_mp3 ha
  rw [h] at h2
  exact hn.trans (Option.some.inj h2).symm
theorem m_callB {a index n mc ms d : Nat} (ha : a < 197) (hn : n = (m_MP.getD a (0, 0, 0)).2.2) (hts : ∀ w ∈ lw_tbl.filter goodWord, w.before args s = true) (hl : (Cond.methodLink (m_cn (m_own y)) index (m_nm a)).before args s = true) (hf : d + 1 ≤ R.frames) (hlo : 35 * d + 35 ≤ R.locals) :
    CallB R s args (m_cn (m_own y)) index (m_nm a) (m_by a) (m_ml a) (m_rt a) (m_wd a) (m_rm d mc ms) mc ms n := by
  have h16 := m_ml16 ha
  exact ⟨rfl, rfl, hf, by show 8 + (m_ml a + 11) + 35 * d ≤ _; omega, pay_in hts (m_wd_good ha), List.mem_cons_self, hts _ (m_cod ha), hts _ (m_ini ha), m_noMH ha, m_arity ha hn, hl⟩
theorem m_callN {a index n mc ms d : Nat} (ha : a < 197) (hn : n = (m_MP.getD a (0, 0, 0)).2.2) (hts : ∀ w ∈ lw_tbl.filter goodWord, w.before args s = true) (hl : va_Nw (.methodLinkNest (m_cn (m_own y)) index (m_nm a) RX9) s) (hf : d + 1 ≤ R.frames) (hlo : 35 * d + 35 ≤ R.locals) :
    va_CN R s args (m_cn (m_own y)) index (m_nm a) RX9 (m_by a) (m_ml a) (m_rt a) (m_wd a) (m_rm d mc ms) mc ms n := by
  have h16 := m_ml16 ha
  exact ⟨⟨rfl, rfl, hf, by show 8 + (m_ml a + 11) + 35 * d ≤ _; omega, pay_in hts (m_wd_good ha), List.mem_cons_self⟩, hts _ (m_cod ha), hts _ (m_ini ha), m_noMH ha, m_arity ha hn, va_Nw.use rfl hl⟩
theorem m_take {α : Type} (st : List α) (n : Nat) : st = ((st.take n).reverse).reverse ++ st.drop n := by rw [List.reverse_reverse, List.take_append_drop]
end MR
