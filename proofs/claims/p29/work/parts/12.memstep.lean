theorem m_lt_obj {μ : m_M} {c a : Nat} (h : m_gk μ c = (0, a)) : c < μ.1.length := m_lt_of (by rw [h]; exact fun q => by cases q)
section MM
variable {p : Program} {l : Launch} {e : Env} {R : Room} {s : State} {m : MethodId} {args : Array Value} {below : List Frame} {meth : Method} {c : Code} {Q : State → Prop}
variable {H : Heap} {locs : List Loc} {ls : Array Slot}
variable {dC : Nat → ClassId} {dI : Nat → Nat → Nat} {tc : Nat → ClassId} {A : Nat → Prop} {X : Option (Nat × (Nat → Int))} {b y : Nat}
/-- what a step of memory comes to -/
def m_Nx (p : Program) (l : Launch) (e : Env) (R : Room) (s : State) (m : MethodId) (args : Array Value) (below : List Frame) (meth : Method) (c : Code) (Q : State → Prop) (dC : Nat → ClassId) (dI : Nat → Nat → Nat) (tc : Nat → ClassId) (A : Nat → Prop) (b n0 z0 : Nat) (ls : Array Slot) (H : Heap) (locs : List Loc) (ads : Nat → Nat) (pc pc' : Nat) (st st' : List m_V) (μ μ' : m_M) : Prop :=
  μ.1.length ≤ μ'.1.length ∧ m_sz μ.1 ≤ m_sz μ'.1 ∧ (∀ v ∈ st', m_okw μ'.1.length v) ∧ m_mok μ' ∧
  ((∀ (ads' : Nat → Nat) (H' : Heap) (locs' : List Loc), (∀ c, c < μ.1.length → ads' c = ads c) → va_P (dC, dI) vwCl (m_ws tc ads' μ') H' → va_D A (m_ws tc ads' μ') → va_S A s.heap H' locs' →
      W p l e R s m args below meth c H' locs' (μ'.1.length - n0) (m_sz μ'.1 - z0) Q (F0 m pc' ls (st'.map (m_re ads' b)))) →
    W p l e R s m args below meth c H locs (μ.1.length - n0) (m_sz μ.1 - z0) Q (F0 m pc ls (st.map (m_re ads b))))
/-- a step that leaves memory as it is -/
theorem m_Nx_same {ads : Nat → Nat} {n0 z0 pc pc' : Nat} {st st' : List m_V} {μ : m_M} (hP : va_P (dC, dI) vwCl (m_ws tc ads μ) H) (hD : va_D A (m_ws tc ads μ)) (hS : va_S A s.heap H locs) (hM : m_mok μ) (hok : ∀ v ∈ st', m_okw μ.1.length v)
    (k : W p l e R s m args below meth c H locs (μ.1.length - n0) (m_sz μ.1 - z0) Q (F0 m pc' ls (st'.map (m_re ads b))) → W p l e R s m args below meth c H locs (μ.1.length - n0) (m_sz μ.1 - z0) Q (F0 m pc ls (st.map (m_re ads b)))) :
    m_Nx p l e R s m args below meth c Q dC dI tc A b n0 z0 ls H locs ads pc pc' st st' μ μ :=
  ⟨Nat.le_refl _, Nat.le_refl _, hok, hM, fun kk => k (kk ads H locs (fun _ _ => rfl) hP hD hS)⟩
/-- a step that changes one cell -/
theorem m_Nx_cell {ads : Nat → Nat} {n0 z0 pc pc' c0 : Nat} {E : va_E} {st st' : List m_V} {μ μ' : m_M} (hl : μ'.1.length = μ.1.length) (hz : m_sz μ'.1 = m_sz μ.1) (hc0 : c0 < μ.1.length) (hok : ∀ v ∈ st', m_okw μ.1.length v) (hM : m_mok μ')
    (hne : ∀ c', c' ≠ c0 → m_ce tc ads μ'.2 c' (m_g μ' c') = m_ce tc ads μ.2 c' (m_g μ c')) (he : m_ce tc ads μ'.2 c0 (m_g μ' c0) = E)
    (k : (∀ (H1 : Heap) (locs1 : List Loc), va_P (dC, dI) vwCl ((m_ws tc ads μ).set c0 (ads c0, E)) H1 → va_D A ((m_ws tc ads μ).set c0 (ads c0, E)) → va_S A s.heap H1 locs1 → W p l e R s m args below meth c H1 locs1 (μ.1.length - n0) (m_sz μ.1 - z0) Q (F0 m pc' ls (st'.map (m_re ads b)))) → W p l e R s m args below meth c H locs (μ.1.length - n0) (m_sz μ.1 - z0) Q (F0 m pc ls (st.map (m_re ads b)))) :
    m_Nx p l e R s m args below meth c Q dC dI tc A b n0 z0 ls H locs ads pc pc' st st' μ μ' := by
  refine ⟨by omega, by omega, fun v hv => m_okw_mono (by omega) (hok v hv), hM, fun kk => k fun H1 locs1 hP hD hS => ?_⟩
  rw [m_ws_set hl hc0 hne he] at hP hD
  have := kk ads H1 locs1 (fun _ _ => rfl) hP hD hS
  rw [hl, hz] at this
  exact this
set_option maxHeartbeats 4000000 in
theorem m_get_ok {ads : Nat → Nat} {n0 z0 pc a f len : Nat} {z : Int} {r : Instr} {st st' : List m_V} {μ μ' : m_M} (hF : m_Fx p R s m args meth c dC dI tc A X b y) (hr : m_okm (m_own y) (m_nm y).name r len 53 a f z = true) (hd : decode (m_by y) pc = .ok (r, len)) (h : m_mk X 53 a f z st μ = some (st', μ'))
    (hP : va_P (dC, dI) vwCl (m_ws tc ads μ) H) (hD : va_D A (m_ws tc ads μ)) (hS : va_S A s.heap H locs) (hM : m_mok μ) (hok : ∀ v ∈ st, m_okw μ.1.length v) : m_Nx p l e R s m args below meth c Q dC dI tc A b n0 z0 ls H locs ads pc (pc + len) st st' μ μ' := by
  obtain ⟨hx, hb, hml, hown, hts, hK, hN, hO, hA, hin, hX, hfr, hlo⟩ := hF
  simp only [m_okm, Bool.and_eq_true, decide_eq_true_eq] at hr
  obtain ⟨rfl, ha, hf, hz, hr⟩ := hr
  simp only [m_mk] at h
  split at h
  next q r0 =>
    split at h
    next hg =>
      cases h
      have hlt := m_lt_obj hg
      obtain ⟨-, hr2⟩ := m_one hok
      have hq := m_tyq_at ha hf
      obtain ⟨t, ht⟩ : ∃ t, (m_FC.getD a [])[f]? = some t := ⟨_, List.getElem?_eq_getElem hf⟩
      have hgd : (m_FC.getD a []).getD f 9 = t := by rw [List.getD_eq_getElem?_getD, ht]; rfl
      have hzt : z = (t : Int) := by rw [hz, m_fk, hgd]
      subst hzt
      have hokv : m_okw μ.1.length (m_fv μ q f (t : Int)) := by
        unfold m_fv
        split
        next h2 => exact hM.2.1 q f (by rw [m_tk_obj hg, hgd]; omega)
        next h2 =>
          split
          next h3 => exact fun j hj => hM.2.2.1 q f j hj
          next h3 =>
            refine hM.1 q f ?_
            rw [m_tk_obj hg, hgd]
            unfold m_tyq at hq
            rw [hgd] at hq
            split at hq
            · decide
            · decide
            · omega
            · omega
            · cases hq
      refine m_Nx_same hP hD hS hM (m_put hokv hr2) fun k => ?_
      unfold m_okg at hr
      split at hr
      next i =>
        simp only [decide_eq_true_eq, Option.map_eq_some_iff] at hr
        obtain ⟨⟨q1, q2, q3⟩, e1, e2⟩ := hr
        cases e2
        have hw := hts _ (m_wok_in (List.all_eq_true.mp m_FL_ok _ (m_lk2_in e1)))
        have he : (m_ws tc ads μ)[q]? = some (ads q, .inr (q1, m_fs ads μ.2 (m_g μ q).2 q 0 (m_FC.getD q1 []))) := by rw [m_ws_get hlt, m_ce_0 hg]
        refine va_get (C := m_cn q1) (T := m_T q1) (N := m_fn q1) hx hb hts (m_cl_in q1 ha) hown hK hP q he (m_cl_at q1 ha) q2 hf hw (fun _ h9 => h9) (v := m_fval ads μ.2 (m_g μ q).2 q q2 t) ?_ hd ?_
        · rw [m_fs_get, ht, Nat.zero_add]; rfl
        · rw [← m_re_fv (b := b)]
          exact k
      next => cases hr
    next => cases h
  next => cases h
set_option maxHeartbeats 4000000 in
/-- a field is written, of whatever kind: what the kit's two rows have in common -/
theorem m_put_row {ads : Nat → Nat} {cells slots : Nat} {pc a f q t : Nat} {r : Instr} {μ : m_M} {v : Value} {rest : List Value} (hF : m_Fx p R s m args meth c dC dI tc A X b y) (ha : a < 10) (hf : f < m_fn a) (hr : m_okp (m_own y) (m_nm y).name r a f = true) (hd : decode (m_by y) pc = .ok (r, 3)) (hg : m_gk μ q = (0, a))
    (hP : va_P (dC, dI) vwCl (m_ws tc ads μ) H) (hD : va_D A (m_ws tc ads μ)) (hS : va_S A s.heap H locs) (ht : (m_FC.getD a [])[f]? = some t) (hv : narrow (m_ty a f) v = v ∧ fits (m_ty a f) v = true)
    (kk : ∀ (H1 : Heap) (locs1 : List Loc), va_P (dC, dI) vwCl ((m_ws tc ads μ).set q (ads q, .inr (a, (m_fs ads μ.2 (m_g μ q).2 q 0 (m_FC.getD a [])).set f v))) H1 → va_D A ((m_ws tc ads μ).set q (ads q, .inr (a, (m_fs ads μ.2 (m_g μ q).2 q 0 (m_FC.getD a [])).set f v))) → va_S A s.heap H1 locs1 → W p l e R s m args below meth c H1 locs1 cells slots Q (F0 m (pc + 3) ls rest)) :
    W p l e R s m args below meth c H locs cells slots Q (F0 m pc ls (v :: .ref (ads q) :: rest)) := by
  obtain ⟨hx, hb, hml, hown, hts, hK, hN, hO, hA, hin, hX, hfr, hlo⟩ := hF
  have hlt := m_lt_obj hg
  have he : (m_ws tc ads μ)[q]? = some (ads q, .inr (a, m_fs ads μ.2 (m_g μ q).2 q 0 (m_FC.getD a []))) := by rw [m_ws_get hlt, m_ce_0 hg]
  have hlen : f < (m_fs ads μ.2 (m_g μ q).2 q 0 (m_FC.getD a [])).length := by rw [m_fs_len]; exact hf
  unfold m_okp at hr
  split at hr
  next i =>
    simp only [Bool.and_eq_true, Bool.or_eq_true, decide_eq_true_eq, Option.map_eq_some_iff] at hr
    obtain ⟨⟨⟨q1, q2, q3⟩, e1, e2⟩, hfin⟩ := hr
    cases e2
    have hw := hts _ (m_wok_in (List.all_eq_true.mp m_FL_ok _ (m_lk2_in e1)))
    rcases hfin with hfin | ⟨hfin, hnm, how⟩
    · exact va_put (C := m_cn q1) (T := m_T q1) (N := m_fn q1) hx hb hts (m_cl_in q1 ha) (m_ty q1) (m_cl_ty q1 ha) (m_cl_nm q1 ha) hown hK hP hD hS q he (m_cl_at q1 ha) q2 hf hw (fun _ h9 => h9) hfin (m_cl_ty q1 ha q2 hf) hv.1 hv.2 hlen hd kk
    · exact va_putF (C := m_cn q1) (T := m_T q1) (N := m_fn q1) hx hb hts (m_cl_in q1 ha) (m_ty q1) (m_cl_ty q1 ha) (m_cl_nm q1 ha) hown hK hP hD hS q he (m_cl_at q1 ha) q2 hf hw (fun _ h9 => h9) hfin (by rw [hin]; exact hnm) (by rw [← how]; exact m_T_1 q1 ha q2 hf) (m_cl_ty q1 ha q2 hf) hv.1 hv.2 hlen hd kk
  next => cases hr
theorem m_fval_up {ads : Nat → Nat} {σ : Nat → Nat → Int} {refs : List (Option Nat)} {q f j t : Nat} {z : Int} (h : j ≠ f) : m_fval ads (m_up σ q f z) refs q j t = m_fval ads σ refs q j t := by
  have e : m_up σ q f z q j = σ q j := by unfold m_up; rw [if_neg (fun w => h w.2)]
  unfold m_fval
  split <;> simp [e]
theorem m_up_self {σ : Nat → Nat → Int} {q f : Nat} {z : Int} : m_up σ q f z q f = z := by unfold m_up; rw [if_pos ⟨rfl, rfl⟩]
theorem m_narrow_b {x : Int} (h : x = 0 ∨ x = 1) : narrow .boolean (.int (Int32.ofInt x)) = .int (Int32.ofInt x) ∧ fits .boolean (.int (Int32.ofInt x)) = true := by
  rcases h with rfl | rfl <;> exact ⟨by decide +kernel, by decide +kernel⟩
set_option maxHeartbeats 4000000 in
theorem m_putf_ok {ads : Nat → Nat} {n0 z0 pc a f len : Nat} {z : Int} {r : Instr} {st st' : List m_V} {μ μ' : m_M} (hF : m_Fx p R s m args meth c dC dI tc A X b y) (hr : m_okm (m_own y) (m_nm y).name r len 54 a f z = true) (hd : decode (m_by y) pc = .ok (r, len)) (h : m_mk X 54 a f z st μ = some (st', μ'))
    (hP : va_P (dC, dI) vwCl (m_ws tc ads μ) H) (hD : va_D A (m_ws tc ads μ)) (hS : va_S A s.heap H locs) (hM : m_mok μ) (hok : ∀ v ∈ st, m_okw μ.1.length v) : m_Nx p l e R s m args below meth c Q dC dI tc A b n0 z0 ls H locs ads pc (pc + len) st st' μ μ' := by
  simp only [m_okm, Bool.and_eq_true, decide_eq_true_eq] at hr
  obtain ⟨rfl, ha, hf, hz, hr⟩ := hr
  have hq := m_tyq_at ha hf
  obtain ⟨t, ht⟩ : ∃ t, (m_FC.getD a [])[f]? = some t := ⟨_, List.getElem?_eq_getElem hf⟩
  have hgd : (m_FC.getD a []).getD f 9 = t := by rw [List.getD_eq_getElem?_getD, ht]; rfl
  have hzt : z = (t : Int) := by rw [hz, m_fk, hgd]
  unfold m_tyq at hq
  rw [hgd] at hq
  simp only [m_mk] at h
  split at h
  next x q r0 =>
    split at h
    next hg =>
      cases h
      obtain ⟨hg, hzz⟩ := hg
      obtain ⟨hw, -, hr2⟩ := m_two hok
      have hlt := m_lt_obj hg
      have htk : m_tk μ.1 q f = t := by rw [m_tk_obj hg, hgd]
      have hv : narrow (m_ty a f) (.int (Int32.ofInt x)) = .int (Int32.ofInt x) ∧ fits (m_ty a f) (.int (Int32.ofInt x)) = true := by
        rcases hzz with h0 | ⟨h1, hx01⟩
        · have t0 : t = 0 := by omega
          subst t0
          rw [of_decide_eq_true hq]
          exact ⟨rfl, rfl⟩
        · have t1 : t = 1 := by omega
          subst t1
          rw [of_decide_eq_true hq]
          exact m_narrow_b hx01
      have hfv : m_fval ads (m_up μ.2 q f x) (m_g μ q).2 q f t = .int (Int32.ofInt x) := by
        unfold m_fval
        split
        · omega
        · omega
        · rw [m_up_self]
      refine m_Nx_cell (c0 := q) rfl rfl hlt hr2 (m_mok_up hM (fun _ => hw) (fun h2 => by omega)) (fun c' hc' => m_ce_up hc') ?_ (fun kk => m_put_row hF ha hf hr hd hg hP hD hS ht hv kk)
      show m_ce tc ads (m_up μ.2 q f x) q (m_g μ q) = _
      rw [m_ce_0 hg, m_fs_up ht hfv (fun j t' hj => m_fval_up hj)]
      rfl
    next => cases h
  next x q r0 =>
    split at h
    next hg =>
      cases h
      obtain ⟨hg, hzz⟩ := hg
      obtain ⟨hw, -, hr2⟩ := m_two hok
      have hlt := m_lt_obj hg
      have htk : m_tk μ.1 q f = t := by rw [m_tk_obj hg, hgd]
      have t2 : t = 2 := by omega
      subst t2
      have hv : narrow (m_ty a f) (.long (Int64.ofInt x)) = .long (Int64.ofInt x) ∧ fits (m_ty a f) (.long (Int64.ofInt x)) = true := by
        rw [of_decide_eq_true hq]
        exact ⟨rfl, rfl⟩
      have hfv : m_fval ads (m_up μ.2 q f x) (m_g μ q).2 q f 2 = .long (Int64.ofInt x) := by
        show Value.long (Int64.ofInt (m_up μ.2 q f x q f)) = _
        rw [m_up_self]
      refine m_Nx_cell (c0 := q) rfl rfl hlt hr2 (m_mok_up hM (fun h2 => by omega) (fun _ => hw)) (fun c' hc' => m_ce_up hc') ?_ (fun kk => m_put_row hF ha hf hr hd hg hP hD hS ht hv kk)
      show m_ce tc ads (m_up μ.2 q f x) q (m_g μ q) = _
      rw [m_ce_0 hg, m_fs_up ht hfv (fun j t' hj => m_fval_up hj)]
      rfl
    next => cases h
  next o q r0 =>
    split at h
    next hg =>
      cases h
      obtain ⟨hg, hzz, hbl⟩ := hg
      obtain ⟨hw, -, hr2⟩ := m_two hok
      have hlt := m_lt_obj hg
      have t3 : t = 3 := by omega
      subst t3
      have hv := m_fits_rf hq (o.map ads)
      have hg1 : m_g (m_sr μ.1 q f o, μ.2) q = ((m_g μ q).1, (m_g μ q).2.set f o) := by unfold m_sr; rw [m_g_set_self hlt]; rfl
      have hfv : m_fval ads μ.2 ((m_g μ q).2.set f o) q f 3 = va_rf (o.map ads) := by
        show va_rf (((((m_g μ q).2.set f o)[f]?).join).map ads) = _
        rw [List.getElem?_set_self hbl]
        rfl
      refine m_Nx_cell (c0 := q) (by simp [m_sr]) (m_sz_set _ _ _ rfl) hlt hr2 (m_mok_sr hM hlt hw) (fun c' hc' => by unfold m_sr; rw [m_g_set hc']) ?_ (fun kk => m_put_row hF ha hf hr hd hg hP hD hS ht hv kk)
      show m_ce tc ads μ.2 q (m_g (m_sr μ.1 q f o, μ.2) q) = _
      rw [hg1, m_ce_0 (g := ((m_g μ q).1, (m_g μ q).2.set f o)) (a := a) hg]
      congr 2
      refine m_fs_up ht hfv (fun j t' hj => ?_)
      unfold m_fval
      split
      · rfl
      · rw [List.getElem?_set_ne (Ne.symm hj)]
      · rfl
    next => cases h
  next => cases h
end MM
