theorem m_ofN (n : Nat) : Int32.ofInt (n : Int) = Int32.ofNat n := by
  apply Int32.toInt_inj.mp
  rw [Int32.toInt_ofInt, Int32.toInt_ofNat']
theorem m_rep_none (n k : Nat) : ((List.replicate n (none : Option Nat))[k]?).join = none := by
  rw [List.getElem?_replicate]
  split <;> rfl
theorem m_oi_ok : m_wok (.instanceMethod Lib.objectInit) 46 = true := by decide +kernel
theorem m_oc_ok : m_wok (.code Lib.objectInit ⟨#[0xb1]⟩ 1 none) 47 = true := by decide +kernel
theorem m_sy_ok : m_wok (.initialized "java/lang/System") 38 = true := by decide +kernel
theorem m_a1_ok : m_wok (.arrayClass .int) 82 = true := by decide +kernel
theorem m_a2_ok : m_wok (.arrayClass .long) 245 = true := by decide +kernel
theorem m_a3_ok : m_wok (.arrayClass .byte) 64 = true := by decide +kernel
section MA
variable {p : Program} {l : Launch} {e : Env} {R : Room} {s : State} {m : MethodId} {args : Array Value} {below : List Frame} {meth : Method} {c : Code} {Q : State → Prop}
variable {H : Heap} {locs : List Loc} {ls : Array Slot}
variable {dC : Nat → ClassId} {dI : Nat → Nat → Nat} {tc : Nat → ClassId} {A : Nat → Prop} {X : Option (Nat × (Nat → Int))} {b y : Nat}
set_option maxHeartbeats 4000000 in
theorem m_len_ok {ads : Nat → Nat} {n0 z0 pc a f len : Nat} {z : Int} {r : Instr} {st st' : List m_V} {μ μ' : m_M} (hF : m_Fx p R s m args meth c dC dI tc A X b y) (hr : m_okm (m_own y) (m_nm y).name r len 58 a f z = true) (hd : decode (m_by y) pc = .ok (r, len)) (h : m_mk X 58 a f z st μ = some (st', μ'))
    (hP : va_P (dC, dI) vwCl (m_ws tc ads μ) H) (hD : va_D A (m_ws tc ads μ)) (hS : va_S A s.heap H locs) (hM : m_mok μ) (hok : ∀ v ∈ st, m_okw μ.1.length v) : m_Nx p l e R s m args below meth c Q dC dI tc A b n0 z0 ls H locs ads pc (pc + len) st st' μ μ' := by
  obtain ⟨hx, hb, hml, hown, hts, hK, hN, hO, hA, hin, hX, hfr, hlo⟩ := hF
  simp only [m_okm, Bool.and_eq_true, decide_eq_true_eq] at hr
  obtain ⟨rfl, rfl⟩ := hr
  simp only [m_mk] at h
  split at h
  next q r0 =>
    split at h
    next hg =>
      cases h
      obtain ⟨hg1, hg4⟩ := hg
      have hlt := m_lt_of (μ := μ) (c := q) (by omega)
      obtain ⟨-, hr2⟩ := m_one hok
      have h4 := hM.2.2.2 q
      refine m_Nx_same hP hD hS hM (m_put (show m_in _ from ⟨by omega, by omega⟩) hr2) fun k => ?_
      have he := m_ws_get (tc := tc) (ads := ads) hlt
      have hc : (m_gk μ q).1 = 1 ∨ (m_gk μ q).1 = 2 ∨ (m_gk μ q).1 = 3 ∨ (m_gk μ q).1 = 4 := by omega
      rcases hc with hc | hc | hc | hc
      · rw [m_ce_1 hc] at he
        exact va_alen hx hb hK hP q 0 he rfl (m_ofN _).symm hd k
      · rw [m_ce_2 hc] at he
        exact va_alen hx hb hK hP q 1 he rfl (m_ofN _).symm hd k
      · rw [m_ce_3 hc] at he
        exact va_alen hx hb hK hP q 2 he rfl (m_ofN _).symm hd k
      · rw [m_ce_4 hc] at he
        exact va_alen hx hb hK hP q 3 he rfl (m_ofN _).symm hd k
    next => cases h
  next r0 =>
    split at h
    next x =>
      cases h
      obtain ⟨hXv, hbl, hbA, -, hx25⟩ := hX x rfl
      obtain ⟨-, hr2⟩ := m_one hok
      refine m_Nx_same hP hD hS hM (m_put (show m_in _ from ⟨by omega, by omega⟩) hr2) fun k => ?_
      refine va_slen hx hb hXv hbl hbA hS hd ?_
      rw [← m_ofN]
      exact k
    next => cases h
  next => cases h

set_option maxHeartbeats 4000000 in
theorem m_iald_ok {ads : Nat → Nat} {n0 z0 pc a f len : Nat} {z : Int} {r : Instr} {st st' : List m_V} {μ μ' : m_M} (hF : m_Fx p R s m args meth c dC dI tc A X b y) (hr : m_okm (m_own y) (m_nm y).name r len 59 a f z = true) (hd : decode (m_by y) pc = .ok (r, len)) (h : m_mk X 59 a f z st μ = some (st', μ'))
    (hP : va_P (dC, dI) vwCl (m_ws tc ads μ) H) (hD : va_D A (m_ws tc ads μ)) (hS : va_S A s.heap H locs) (hM : m_mok μ) (hok : ∀ v ∈ st, m_okw μ.1.length v) : m_Nx p l e R s m args below meth c Q dC dI tc A b n0 z0 ls H locs ads pc (pc + len) st st' μ μ' := by
  obtain ⟨hx, hb, hml, hown, hts, hK, hN, hO, hA, hin, hX, hfr, hlo⟩ := hF
  simp only [m_okm, Bool.and_eq_true, decide_eq_true_eq] at hr
  obtain ⟨rfl, rfl⟩ := hr
  simp only [m_mk] at h
  split at h
  next i q r0 =>
    split at h
    next hg =>
      cases h
      obtain ⟨hg1, hi0, hi1⟩ := hg
      have hlt := m_lt_of (μ := μ) (c := q) (by omega)
      obtain ⟨hw, -, hr2⟩ := m_two hok
      refine m_Nx_same hP hD hS hM (m_put (show m_in _ from hM.1 q _ (by rw [m_tk_1 hg1]; decide)) hr2) fun k => ?_
      have he := m_ws_get (tc := tc) (ads := ads) hlt
      rw [m_ce_1 hg1] at he
      refine va_iald hx hb hK hP q 0 he rfl (m_vpin hw hi0 hi1) hd ?_
      rw [m_cl hw]
      exact k
    next => cases h
  next i r0 =>
    split at h
    next x =>
      split at h
      next hg =>
        cases h
        obtain ⟨hi0, hi1⟩ := hg
        obtain ⟨hXv, hbl, hbA, hxi, hx25⟩ := hX x rfl
        obtain ⟨hw, -, hr2⟩ := m_two hok
        refine m_Nx_same hP hD hS hM (m_put (show m_in _ from hxi _) hr2) fun k => ?_
        refine va_sld hx hb hXv hbl hbA hS (m_vpin hw hi0 hi1) hd ?_
        rw [m_cl hw]
        exact k
      next => cases h
    next => cases h
  next => cases h

set_option maxHeartbeats 4000000 in
theorem m_lald_ok {ads : Nat → Nat} {n0 z0 pc a f len : Nat} {z : Int} {r : Instr} {st st' : List m_V} {μ μ' : m_M} (hF : m_Fx p R s m args meth c dC dI tc A X b y) (hr : m_okm (m_own y) (m_nm y).name r len 60 a f z = true) (hd : decode (m_by y) pc = .ok (r, len)) (h : m_mk X 60 a f z st μ = some (st', μ'))
    (hP : va_P (dC, dI) vwCl (m_ws tc ads μ) H) (hD : va_D A (m_ws tc ads μ)) (hS : va_S A s.heap H locs) (hM : m_mok μ) (hok : ∀ v ∈ st, m_okw μ.1.length v) : m_Nx p l e R s m args below meth c Q dC dI tc A b n0 z0 ls H locs ads pc (pc + len) st st' μ μ' := by
  obtain ⟨hx, hb, hml, hown, hts, hK, hN, hO, hA, hin, hX, hfr, hlo⟩ := hF
  simp only [m_okm, Bool.and_eq_true, decide_eq_true_eq] at hr
  obtain ⟨rfl, rfl⟩ := hr
  simp only [m_mk] at h
  split at h
  next i q r0 =>
    split at h
    next hg =>
      cases h
      obtain ⟨hg1, hi0, hi1⟩ := hg
      have hlt := m_lt_of (μ := μ) (c := q) (by omega)
      obtain ⟨hw, -, hr2⟩ := m_two hok
      refine m_Nx_same hP hD hS hM (m_put (show m_il _ from hM.2.1 q _ (m_tk_2 hg1)) hr2) fun k => ?_
      have he := m_ws_get (tc := tc) (ads := ads) hlt
      rw [m_ce_2 hg1] at he
      refine va_lald hx hb hK hP q 1 he rfl (m_vpin hw hi0 hi1) hd ?_
      rw [m_cl hw]
      exact k
    next => cases h
  next => cases h

set_option maxHeartbeats 4000000 in
theorem m_bald_ok {ads : Nat → Nat} {n0 z0 pc a f len : Nat} {z : Int} {r : Instr} {st st' : List m_V} {μ μ' : m_M} (hF : m_Fx p R s m args meth c dC dI tc A X b y) (hr : m_okm (m_own y) (m_nm y).name r len 61 a f z = true) (hd : decode (m_by y) pc = .ok (r, len)) (h : m_mk X 61 a f z st μ = some (st', μ'))
    (hP : va_P (dC, dI) vwCl (m_ws tc ads μ) H) (hD : va_D A (m_ws tc ads μ)) (hS : va_S A s.heap H locs) (hM : m_mok μ) (hok : ∀ v ∈ st, m_okw μ.1.length v) : m_Nx p l e R s m args below meth c Q dC dI tc A b n0 z0 ls H locs ads pc (pc + len) st st' μ μ' := by
  obtain ⟨hx, hb, hml, hown, hts, hK, hN, hO, hA, hin, hX, hfr, hlo⟩ := hF
  simp only [m_okm, Bool.and_eq_true, decide_eq_true_eq] at hr
  obtain ⟨rfl, rfl⟩ := hr
  simp only [m_mk] at h
  split at h
  next i q r0 =>
    split at h
    next hg =>
      cases h
      obtain ⟨hg1, hi0, hi1⟩ := hg
      have hlt := m_lt_of (μ := μ) (c := q) (by omega)
      obtain ⟨hw, -, hr2⟩ := m_two hok
      refine m_Nx_same hP hD hS hM (m_put (show m_in _ from hM.1 q _ (by rw [m_tk_3 hg1]; decide)) hr2) fun k => ?_
      have he := m_ws_get (tc := tc) (ads := ads) hlt
      rw [m_ce_3 hg1] at he
      refine va_bald hx hb hK hP q 2 he rfl (m_vpin hw hi0 hi1) hd ?_
      rw [m_cl hw]
      exact k
    next => cases h
  next => cases h

set_option maxHeartbeats 4000000 in
theorem m_aald_ok {ads : Nat → Nat} {n0 z0 pc a f len : Nat} {z : Int} {r : Instr} {st st' : List m_V} {μ μ' : m_M} (hF : m_Fx p R s m args meth c dC dI tc A X b y) (hr : m_okm (m_own y) (m_nm y).name r len 62 a f z = true) (hd : decode (m_by y) pc = .ok (r, len)) (h : m_mk X 62 a f z st μ = some (st', μ'))
    (hP : va_P (dC, dI) vwCl (m_ws tc ads μ) H) (hD : va_D A (m_ws tc ads μ)) (hS : va_S A s.heap H locs) (hM : m_mok μ) (hok : ∀ v ∈ st, m_okw μ.1.length v) : m_Nx p l e R s m args below meth c Q dC dI tc A b n0 z0 ls H locs ads pc (pc + len) st st' μ μ' := by
  obtain ⟨hx, hb, hml, hown, hts, hK, hN, hO, hA, hin, hX, hfr, hlo⟩ := hF
  simp only [m_okm, Bool.and_eq_true, decide_eq_true_eq] at hr
  obtain ⟨rfl, rfl⟩ := hr
  simp only [m_mk] at h
  split at h
  next i q r0 =>
    split at h
    next hg =>
      cases h
      obtain ⟨hg1, hi0, hi1⟩ := hg
      have hlt := m_lt_of (μ := μ) (c := q) (by omega)
      obtain ⟨hw, -, hr2⟩ := m_two hok
      refine m_Nx_same hP hD hS hM (m_put (fun j hj => hM.2.2.1 q _ j hj) hr2) fun k => ?_
      have he := m_ws_get (tc := tc) (ads := ads) hlt
      rw [m_ce_4 hg1] at he
      refine va_aldq hx hb hK hP q 3 he rfl (m_vpin hw hi0 hi1) hd ?_
      rw [m_cl hw]
      exact k
    next => cases h
  next => cases h

set_option maxHeartbeats 4000000 in
theorem m_iast_ok {ads : Nat → Nat} {n0 z0 pc a f len : Nat} {z : Int} {r : Instr} {st st' : List m_V} {μ μ' : m_M} (hF : m_Fx p R s m args meth c dC dI tc A X b y) (hr : m_okm (m_own y) (m_nm y).name r len 63 a f z = true) (hd : decode (m_by y) pc = .ok (r, len)) (h : m_mk X 63 a f z st μ = some (st', μ'))
    (hP : va_P (dC, dI) vwCl (m_ws tc ads μ) H) (hD : va_D A (m_ws tc ads μ)) (hS : va_S A s.heap H locs) (hM : m_mok μ) (hok : ∀ v ∈ st, m_okw μ.1.length v) : m_Nx p l e R s m args below meth c Q dC dI tc A b n0 z0 ls H locs ads pc (pc + len) st st' μ μ' := by
  obtain ⟨hx, hb, hml, hown, hts, hK, hN, hO, hA, hin, hX, hfr, hlo⟩ := hF
  simp only [m_okm, Bool.and_eq_true, decide_eq_true_eq] at hr
  obtain ⟨rfl, rfl⟩ := hr
  simp only [m_mk] at h
  split at h
  next x i q r0 =>
    split at h
    next hg =>
      cases h
      obtain ⟨hg1, hi0, hi1⟩ := hg
      have hlt := m_lt_of (μ := μ) (c := q) (by omega)
      obtain ⟨hw, hwi, hr1⟩ := m_two hok
      obtain ⟨-, hr2⟩ := m_one hr1
      have he := m_ws_get (tc := tc) (ads := ads) hlt
      rw [m_ce_1 hg1] at he
      refine m_Nx_cell (c0 := q) rfl rfl hlt hr2 (m_mok_up hM (fun _ => hw) (fun h2 => by rw [m_tk_1 hg1] at h2; cases h2)) (fun c' hc' => m_ce_up hc') ?_ (fun kk => va_iast hx hb hK hP hD hS q 0 he rfl (m_vpin hwi hi0 hi1) hd kk)
      show m_ce tc ads (m_up μ.2 q i.toNat x) q (m_g μ q) = _
      rw [m_ce_1 hg1, m_cl hwi]
      congr
      funext j
      unfold upd m_up
      by_cases hj : j = i.toNat
      · rw [if_pos hj, if_pos ⟨rfl, hj⟩]
      · rw [if_neg hj, if_neg (fun w => hj w.2)]
    next => cases h
  next => cases h

set_option maxHeartbeats 4000000 in
theorem m_last_ok {ads : Nat → Nat} {n0 z0 pc a f len : Nat} {z : Int} {r : Instr} {st st' : List m_V} {μ μ' : m_M} (hF : m_Fx p R s m args meth c dC dI tc A X b y) (hr : m_okm (m_own y) (m_nm y).name r len 64 a f z = true) (hd : decode (m_by y) pc = .ok (r, len)) (h : m_mk X 64 a f z st μ = some (st', μ'))
    (hP : va_P (dC, dI) vwCl (m_ws tc ads μ) H) (hD : va_D A (m_ws tc ads μ)) (hS : va_S A s.heap H locs) (hM : m_mok μ) (hok : ∀ v ∈ st, m_okw μ.1.length v) : m_Nx p l e R s m args below meth c Q dC dI tc A b n0 z0 ls H locs ads pc (pc + len) st st' μ μ' := by
  obtain ⟨hx, hb, hml, hown, hts, hK, hN, hO, hA, hin, hX, hfr, hlo⟩ := hF
  simp only [m_okm, Bool.and_eq_true, decide_eq_true_eq] at hr
  obtain ⟨rfl, rfl⟩ := hr
  simp only [m_mk] at h
  split at h
  next x i q r0 =>
    split at h
    next hg =>
      cases h
      obtain ⟨hg1, hi0, hi1⟩ := hg
      have hlt := m_lt_of (μ := μ) (c := q) (by omega)
      obtain ⟨hw, hwi, hr1⟩ := m_two hok
      obtain ⟨-, hr2⟩ := m_one hr1
      have he := m_ws_get (tc := tc) (ads := ads) hlt
      rw [m_ce_2 hg1] at he
      refine m_Nx_cell (c0 := q) rfl rfl hlt hr2 (m_mok_up hM (fun h2 => by rw [m_tk_2 hg1] at h2; omega) (fun _ => hw)) (fun c' hc' => m_ce_up hc') ?_ (fun kk => va_last hx hb hK hP hD hS q 1 he rfl (m_vpin hwi hi0 hi1) hd kk)
      show m_ce tc ads (m_up μ.2 q i.toNat x) q (m_g μ q) = _
      rw [m_ce_2 hg1, m_cl hwi]
      congr
      funext j
      unfold vp_updL m_up
      by_cases hj : j = i.toNat
      · rw [if_pos hj, if_pos ⟨rfl, hj⟩]
      · rw [if_neg hj, if_neg (fun w => hj w.2)]
    next => cases h
  next => cases h

set_option maxHeartbeats 4000000 in
theorem m_bast_ok {ads : Nat → Nat} {n0 z0 pc a f len : Nat} {z : Int} {r : Instr} {st st' : List m_V} {μ μ' : m_M} (hF : m_Fx p R s m args meth c dC dI tc A X b y) (hr : m_okm (m_own y) (m_nm y).name r len 65 a f z = true) (hd : decode (m_by y) pc = .ok (r, len)) (h : m_mk X 65 a f z st μ = some (st', μ'))
    (hP : va_P (dC, dI) vwCl (m_ws tc ads μ) H) (hD : va_D A (m_ws tc ads μ)) (hS : va_S A s.heap H locs) (hM : m_mok μ) (hok : ∀ v ∈ st, m_okw μ.1.length v) : m_Nx p l e R s m args below meth c Q dC dI tc A b n0 z0 ls H locs ads pc (pc + len) st st' μ μ' := by
  obtain ⟨hx, hb, hml, hown, hts, hK, hN, hO, hA, hin, hX, hfr, hlo⟩ := hF
  simp only [m_okm, Bool.and_eq_true, decide_eq_true_eq] at hr
  obtain ⟨rfl, rfl⟩ := hr
  simp only [m_mk] at h
  split at h
  next x i q r0 =>
    split at h
    next hg =>
      cases h
      obtain ⟨hg1, hi0, hi1⟩ := hg
      have hlt := m_lt_of (μ := μ) (c := q) (by omega)
      obtain ⟨hw, hwi, hr1⟩ := m_two hok
      obtain ⟨-, hr2⟩ := m_one hr1
      have he := m_ws_get (tc := tc) (ads := ads) hlt
      rw [m_ce_3 hg1] at he
      refine m_Nx_cell (c0 := q) rfl rfl hlt hr2 (m_mok_up hM (fun _ => m_in_b _) (fun h2 => by rw [m_tk_3 hg1] at h2; cases h2)) (fun c' hc' => m_ce_up hc') ?_ (fun kk => va_bast hx hb hK hP hD hS q 2 he rfl (m_vpin hwi hi0 hi1) hd kk)
      show m_ce tc ads (m_up μ.2 q i.toNat (m_b x)) q (m_g μ q) = _
      rw [m_ce_3 hg1, m_cl hwi]
      congr
      funext j
      unfold upd m_up
      by_cases hj : j = i.toNat
      · rw [if_pos hj, if_pos ⟨rfl, hj⟩]
        exact (m_i2b hw).symm
      · rw [if_neg hj, if_neg (fun w => hj w.2)]
    next => cases h
  next => cases h

set_option maxHeartbeats 4000000 in
theorem m_aast_ok {ads : Nat → Nat} {n0 z0 pc a f len : Nat} {z : Int} {r : Instr} {st st' : List m_V} {μ μ' : m_M} (hF : m_Fx p R s m args meth c dC dI tc A X b y) (hr : m_okm (m_own y) (m_nm y).name r len 66 a f z = true) (hd : decode (m_by y) pc = .ok (r, len)) (h : m_mk X 66 a f z st μ = some (st', μ'))
    (hP : va_P (dC, dI) vwCl (m_ws tc ads μ) H) (hD : va_D A (m_ws tc ads μ)) (hS : va_S A s.heap H locs) (hM : m_mok μ) (hok : ∀ v ∈ st, m_okw μ.1.length v) : m_Nx p l e R s m args below meth c Q dC dI tc A b n0 z0 ls H locs ads pc (pc + len) st st' μ μ' := by
  obtain ⟨hx, hb, hml, hown, hts, hK, hN, hO, hA, hin, hX, hfr, hlo⟩ := hF
  simp only [m_okm, Bool.and_eq_true, decide_eq_true_eq] at hr
  obtain ⟨rfl, rfl⟩ := hr
  simp only [m_mk] at h
  split at h
  next j i q r0 =>
    split at h
    next hg =>
      cases h
      obtain ⟨hg1, hi0, hi1, hgj, hrl⟩ := hg
      have hlt := m_lt_of (μ := μ) (c := q) (by omega)
      have hltj := m_lt_obj hgj
      obtain ⟨hw, hwi, hr1⟩ := m_two hok
      obtain ⟨-, hr2⟩ := m_one hr1
      have he := m_ws_get (tc := tc) (ads := ads) hlt
      rw [m_ce_4 hg1] at he
      have hej := m_ws_get (tc := tc) (ads := ads) hltj
      rw [m_ce_0 hgj] at hej
      have hg2 : m_g (m_sr μ.1 q i.toNat (some j), μ.2) q = ((m_g μ q).1, (m_g μ q).2.set i.toNat (some j)) := by unfold m_sr; rw [m_g_set_self hlt]; rfl
      refine m_Nx_cell (c0 := q) (by simp [m_sr]) (m_sz_set _ _ _ rfl) hlt hr2 (m_mok_sr hM hlt hw) (fun c' hc' => by unfold m_sr; rw [m_g_set hc']) ?_ (fun kk => va_astq hx hb hK hP hD hS q 3 j 7 he rfl hej rfl (m_vpin hwi hi0 hi1) hd kk)
      show m_ce tc ads μ.2 q (m_g (m_sr μ.1 q i.toNat (some j), μ.2) q) = _
      rw [hg2, m_ce_4 (g := ((m_g μ q).1, (m_g μ q).2.set i.toNat (some j))) hg1, m_cl hwi]
      congr
      funext k
      unfold va_up
      by_cases hk : k = i.toNat
      · subst hk
        rw [if_pos rfl]
        show ((((m_g μ q).2.set i.toNat (some j))[i.toNat]?).join).map ads = _
        rw [List.getElem?_set_self hrl]
        rfl
      · rw [if_neg hk]
        show ((((m_g μ q).2.set i.toNat (some j))[k]?).join).map ads = _
        rw [List.getElem?_set_ne (Ne.symm hk)]
    next => cases h
  next => cases h

set_option maxHeartbeats 4000000 in
theorem m_obj_ok {ads : Nat → Nat} {n0 z0 pc a f len : Nat} {z : Int} {r : Instr} {st st' : List m_V} {μ μ' : m_M} (hF : m_Fx p R s m args meth c dC dI tc A X b y) (hr : m_okm (m_own y) (m_nm y).name r len 67 a f z = true) (hd : decode (m_by y) pc = .ok (r, len)) (h : m_mk X 67 a f z st μ = some (st', μ'))
    (hP : va_P (dC, dI) vwCl (m_ws tc ads μ) H) (hD : va_D A (m_ws tc ads μ)) (hS : va_S A s.heap H locs) (hM : m_mok μ) (hok : ∀ v ∈ st, m_okw μ.1.length v) (hls : ls.size = c.maxLocals) : m_Nx p l e R s m args below meth c Q dC dI tc A b n0 z0 ls H locs ads pc (pc + len) st st' μ μ' := by
  obtain ⟨hx, hb, hml, hown, hts, hK, hN, hO, hA, hin, hX, hfr, hlo⟩ := hF
  simp only [m_okm, Bool.and_eq_true, decide_eq_true_eq] at hr
  obtain ⟨rfl, hr⟩ := hr
  simp only [m_mk] at h
  split at h
  next q r0 =>
    split at h
    next hrl =>
      cases h
      obtain ⟨-, hr2⟩ := m_one hok
      refine m_Nx_same hP hD hS hM hr2 fun k => ?_
      unfold m_okv at hr
      split at hr
      next i =>
        simp only [Bool.and_eq_true, decide_eq_true_eq, Option.map_eq_some_iff] at hr
        obtain ⟨⟨⟨q1, q2, q3⟩, e1, e2⟩, -⟩ := hr
        cases e2
        have hw := List.all_eq_true.mp m_ML_ok _ (m_lk2_in e1)
        have hw : m_wok (.methodLink (m_cn (m_own y)) i Lib.objectInit) _ = true := hw
        have hc8 := m_cats (ads := ads) (b := b) _ 4 hrl
        refine W.objInit hx hb hown (hts _ (m_wok_in hw)) (hts _ (m_wok_in m_oi_ok)) (hts _ (m_wok_in m_oc_ok)) rfl hls rfl hd hfr ?_ k
        show 2 * 0 + _ + 12 ≤ _
        omega
      next => simp at hr
      next => cases hr
    next => cases h
  next => cases h

set_option maxHeartbeats 4000000 in
theorem m_acp_ok {ads : Nat → Nat} {n0 z0 pc a f len : Nat} {z : Int} {r : Instr} {st st' : List m_V} {μ μ' : m_M} (hF : m_Fx p R s m args meth c dC dI tc A X b y) (hr : m_okm (m_own y) (m_nm y).name r len 68 a f z = true) (hd : decode (m_by y) pc = .ok (r, len)) (h : m_mk X 68 a f z st μ = some (st', μ'))
    (hP : va_P (dC, dI) vwCl (m_ws tc ads μ) H) (hD : va_D A (m_ws tc ads μ)) (hS : va_S A s.heap H locs) (hM : m_mok μ) (hok : ∀ v ∈ st, m_okw μ.1.length v) (hls : ls.size = c.maxLocals) : m_Nx p l e R s m args below meth c Q dC dI tc A b n0 z0 ls H locs ads pc (pc + len) st st' μ μ' := by
  obtain ⟨hx, hb, hml, hown, hts, hK, hN, hO, hA, hin, hX, hfr, hlo⟩ := hF
  simp only [m_okm, Bool.and_eq_true, decide_eq_true_eq] at hr
  obtain ⟨rfl, hr⟩ := hr
  simp only [m_mk] at h
  split at h
  next n dp d sp q r0 =>
    split at h
    next hg =>
      cases h
      obtain ⟨hg1, hg2, hs0, hd0, hn0, hs1, hd1, hrl⟩ := hg
      have hlt := m_lt_of (μ := μ) (c := q) (by omega)
      have hltd := m_lt_of (μ := μ) (c := d) (by omega)
      obtain ⟨hwn, hwd, hr1⟩ := m_two hok
      obtain ⟨-, hws, hr3⟩ := m_two hr1
      obtain ⟨-, hr2⟩ := m_one hr3
      have he := m_ws_get (tc := tc) (ads := ads) hlt
      rw [m_ce_1 hg1] at he
      have hed := m_ws_get (tc := tc) (ads := ads) hltd
      rw [m_ce_1 hg2] at hed
      have hmok : m_mok (μ.1, m_cp μ.2 q d sp.toNat dp.toNat n.toNat) := by
        refine ⟨fun c' k' hk => ?_, fun c' k' hk => ?_, hM.2.2.1, hM.2.2.2⟩
        · show m_in (m_cp _ _ _ _ _ _ c' k')
          unfold m_cp
          split
          · exact hM.1 q _ (by rw [m_tk_1 hg1]; decide)
          · exact hM.1 c' k' hk
        · show m_il (m_cp _ _ _ _ _ _ c' k')
          unfold m_cp
          split
          next w => rw [w.1, m_tk_1 hg2] at hk; cases hk
          · exact hM.2.1 c' k' hk
      refine m_Nx_cell (c0 := d) rfl rfl hltd hr2 hmok (fun c' hc' => m_ce_cp hc') (E := .inl (tc 0, (m_g μ d).1.2, .inl (va_cpy (fun j => Int32.ofInt (μ.2 q j)) (fun j => Int32.ofInt (μ.2 d j)) sp.toNat dp.toNat n.toNat))) ?_ (fun kk => ?_)
      · show m_ce tc ads (m_cp μ.2 q d sp.toNat dp.toNat n.toNat) d (m_g μ d) = _
        rw [m_ce_1 hg2]
        congr
        funext j
        unfold va_cpy m_cp
        by_cases hj : dp.toNat ≤ j ∧ j < dp.toNat + n.toNat
        · rw [if_pos hj, if_pos ⟨rfl, hj⟩]
        · rw [if_neg hj, if_neg (fun w => hj w.2)]
      · unfold m_okv at hr
        split at hr
        next => simp at hr
        next i =>
          simp only [Bool.and_eq_true, decide_eq_true_eq, Option.map_eq_some_iff] at hr
          obtain ⟨⟨⟨q1, q2, q3, q4, q5⟩, e1, e2⟩, -⟩ := hr
          cases e2
          have hw := List.all_eq_true.mp m_ML_ok _ (m_lk2_in e1)
          simp only [m_mlw, Bool.and_eq_true] at hw
          have hc8 := m_cats (ads := ads) (b := b) _ 4 hrl
          have hnw : nativeFrameWords "java/lang/System" "arraycopy" 5 ≤ 16 := by decide
          refine va_copyi hx hb (by rw [hls]) hown (hts _ (m_wok_in hw.1)) (hts _ (m_wok_in hw.2.1)) (hts _ (m_wok_in hw.2.2)) (hts _ (m_wok_in m_sy_ok)) hK hP hD hS q d 0 0 he hed rfl rfl rfl (m_nneg hws hs0) (m_nneg hwd hd0) (m_nneg hwn hn0) ?_ ?_ (fun _ _ => rfl) hfr (by omega) hd ?_
          · rw [m_cl hws, m_cl hwn]
            show _ ≤ (m_gk μ q).2
            omega
          · rw [m_cl hwd, m_cl hwn]
            show _ ≤ (m_gk μ d).2
            omega
          · rw [m_cl hws, m_cl hwd, m_cl hwn]
            exact kk
        next => cases hr
    next => cases h
  next => cases h

set_option maxHeartbeats 4000000 in
theorem m_raw_ok {ads : Nat → Nat} {n0 z0 pc a f len : Nat} {z : Int} {r : Instr} {st st' : List m_V} {μ μ' : m_M} (hF : m_Fx p R s m args meth c dC dI tc A X b y) (hr : m_okm (m_own y) (m_nm y).name r len 69 a f z = true) (hd : decode (m_by y) pc = .ok (r, len)) (h : m_mk X 69 a f z st μ = some (st', μ'))
    (hP : va_P (dC, dI) vwCl (m_ws tc ads μ) H) (hD : va_D A (m_ws tc ads μ)) (hS : va_S A s.heap H locs) (hM : m_mok μ) (hok : ∀ v ∈ st, m_okw μ.1.length v) (hls : ls.size = c.maxLocals) : m_Nx p l e R s m args below meth c Q dC dI tc A b n0 z0 ls H locs ads pc (pc + len) st st' μ μ' := by
  exfalso
  simp [m_okm] at hr


/-- a step that makes a cell -/
theorem m_Nx_new {ads : Nat → Nat} {n0 z0 pc pc' nn : Nat} {E : va_E} {g : m_G} {σ : Nat → Nat → Int} {st r0 : List m_V} {μ : m_M} (hn0 : n0 ≤ μ.1.length) (hz0 : z0 ≤ m_sz μ.1) (hM : m_mok μ) (hok : ∀ v ∈ r0, m_okw μ.1.length v) (hnn : (if g.1.1 = 0 then m_fn g.1.2 else g.1.2) = nn)
    (hgk : g.1.2 ≤ 4096) (hgr : ∀ (k j : Nat), (g.2[k]?).join = some j → False) (hσ : ∀ c' k, c' ≠ μ.1.length → σ c' k = μ.2 c' k) (hσ0 : ∀ k, m_tk (μ.1 ++ [g]) μ.1.length k ≤ 2 → σ μ.1.length k = 0)
    (hne : ∀ c', c' ≠ μ.1.length → ∀ (ads' : Nat → Nat) (g' : m_G), m_ce tc ads' σ c' g' = m_ce tc ads' μ.2 c' g') (he : ∀ ads' : Nat → Nat, m_ce tc ads' σ μ.1.length g = E)
    (k : (∀ (q : Nat) (H1 : Heap), va_P (dC, dI) vwCl (m_ws tc ads μ ++ [(q, E)]) H1 → va_D A (m_ws tc ads μ ++ [(q, E)]) → va_S A s.heap H1 locs → W p l e R s m args below meth c H1 locs (μ.1.length - n0 + 1) (m_sz μ.1 - z0 + nn) Q (F0 m pc' ls (.ref q :: r0.map (m_re ads b)))) → W p l e R s m args below meth c H locs (μ.1.length - n0) (m_sz μ.1 - z0) Q (F0 m pc ls (st.map (m_re ads b)))) :
    m_Nx p l e R s m args below meth c Q dC dI tc A b n0 z0 ls H locs ads pc pc' st (m_R μ.1.length :: r0) μ (μ.1 ++ [g], σ) := by
  have hl : (μ.1 ++ [g]).length = μ.1.length + 1 := by simp
  have hsz := m_sz_app μ.1 g
  rw [hnn] at hsz
  have hgg : ∀ c', c' < μ.1.length → m_g (μ.1 ++ [g], σ) c' = m_g μ c' := fun c' hc' => m_g_app hc'
  have htk : ∀ c' k, c' ≠ μ.1.length → m_tk (μ.1 ++ [g]) c' k = m_tk μ.1 c' k := by
    intro c' k hc'
    unfold m_tk
    by_cases hlt : c' < μ.1.length
    · rw [show (μ.1 ++ [g]).getD c' ((9, 0), []) = μ.1.getD c' ((9, 0), []) from hgg c' hlt]
    · rw [show (μ.1 ++ [g]).getD c' ((9, 0), []) = ((9, 0), []) from m_g_out (G := μ.1 ++ [g]) (σ := σ) (by omega), show μ.1.getD c' ((9, 0), []) = ((9, 0), []) from m_g_out (G := μ.1) (σ := σ) (by omega)]
  have hmok : m_mok (μ.1 ++ [g], σ) := by
    refine ⟨fun c' k' hk => ?_, fun c' k' hk => ?_, fun c' k' j hj => ?_, fun c' => ?_⟩
    · show m_in (σ c' k')
      by_cases hc' : c' = μ.1.length
      · subst hc'
        rw [hσ0 k' (Nat.le_trans hk (by decide))]
        exact m_in0
      · rw [hσ c' k' hc']
        exact hM.1 c' k' (by rw [← htk c' k' hc']; exact hk)
    · show m_il (σ c' k')
      by_cases hc' : c' = μ.1.length
      · subst hc'
        rw [hσ0 k' (Nat.le_of_eq hk)]
        unfold m_il
        decide
      · rw [hσ c' k' hc']
        exact hM.2.1 c' k' (by rw [← htk c' k' hc']; exact hk)
    · show j < (μ.1 ++ [g]).length
      rw [hl]
      by_cases hlt : c' < μ.1.length
      · unfold m_gr at hj
        rw [hgg c' hlt] at hj
        exact Nat.lt_succ_of_lt (hM.2.2.1 c' k' j hj)
      · by_cases hc' : c' = μ.1.length
        · subst hc'
          unfold m_gr at hj
          rw [m_g_app_self] at hj
          exact (hgr k' j hj).elim
        · unfold m_gr at hj
          rw [m_g_out (by rw [hl]; omega)] at hj
          simp at hj
    · show (m_g (μ.1 ++ [g], σ) c').1.2 ≤ 4096
      by_cases hlt : c' < μ.1.length
      · rw [hgg c' hlt]; exact hM.2.2.2 c'
      · by_cases hc' : c' = μ.1.length
        · subst hc'; rw [m_g_app_self]; exact hgk
        · rw [m_g_out (by rw [hl]; omega)]; decide
  refine ⟨by show _ ≤ (μ.1 ++ [g]).length; omega, by show _ ≤ m_sz (μ.1 ++ [g]); omega, m_put (fun k hk => by cases hk; show _ < (μ.1 ++ [g]).length; omega) (fun v hv => m_okw_mono (by show _ ≤ (μ.1 ++ [g]).length; omega) (hok v hv)), hmok, fun kk => k fun q H1 hP hD hS => ?_⟩
  have ha : ∀ c', c' < μ.1.length → (fun c'' => if c'' = μ.1.length then q else ads c'') c' = ads c' := fun c' hc' => if_neg (Nat.ne_of_lt hc')
  have hw : m_ws tc ads μ ++ [(q, E)] = m_ws tc (fun c'' => if c'' = μ.1.length then q else ads c'') (μ.1 ++ [g], σ) := by
    refine m_ws_push (μ' := (μ.1 ++ [g], σ)) hl (if_pos rfl) ha (fun c' hc' => ?_) ?_
    · rw [hgg c' hc', hne c' (Nat.ne_of_lt hc')]
      exact m_ce_ads ha (fun k j hj => hM.2.2.1 c' k j hj)
    · rw [m_g_app_self]
      exact he _
  rw [hw] at hP hD
  have := kk _ H1 locs ha hP hD hS
  have e1 : (μ.1 ++ [g]).length - n0 = μ.1.length - n0 + 1 := by omega
  have e2 : m_sz (μ.1 ++ [g]) - z0 = m_sz μ.1 - z0 + nn := by omega
  have e3 : r0.map (m_re (fun c'' => if c'' = μ.1.length then q else ads c'') b) = r0.map (m_re ads b) := List.map_congr_left fun v hv => m_re_ads ha (hok v hv)
  have e4 : m_re (fun c'' => if c'' = μ.1.length then q else ads c'') b (m_R μ.1.length) = .ref q := by
    show va_rf (some (if μ.1.length = μ.1.length then q else ads μ.1.length)) = .ref q
    rw [if_pos rfl]
    rfl
  rw [e1, e2, List.map_cons, e3, e4] at this
  exact this
set_option maxHeartbeats 4000000 in
theorem m_newa_ok {ads : Nat → Nat} {n0 z0 pc a f len : Nat} {z : Int} {r : Instr} {st st' : List m_V} {μ μ' : m_M} (hF : m_Fx p R s m args meth c dC dI tc A X b y) (hr : m_okm (m_own y) (m_nm y).name r len 55 a f z = true) (hd : decode (m_by y) pc = .ok (r, len)) (h : m_mk X 55 a f z st μ = some (st', μ'))
    (hP : va_P (dC, dI) vwCl (m_ws tc ads μ) H) (hD : va_D A (m_ws tc ads μ)) (hS : va_S A s.heap H locs) (hM : m_mok μ) (hok : ∀ v ∈ st, m_okw μ.1.length v) (hn0 : n0 ≤ μ.1.length) (hz0 : z0 ≤ m_sz μ.1) (hcR : μ'.1.length - n0 ≤ R.cells) (hsR : m_sz μ'.1 - z0 ≤ R.slots) : m_Nx p l e R s m args below meth c Q dC dI tc A b n0 z0 ls H locs ads pc (pc + len) st st' μ μ' := by
  obtain ⟨hx, hb, hml, hown, hts, hK, hN, hO, hA, hin, hX, hfr, hlo⟩ := hF
  simp only [m_okm, Bool.and_eq_true, decide_eq_true_eq] at hr
  obtain ⟨rfl, hr⟩ := hr
  simp only [m_mk] at h
  split at h
  next n r0 =>
    split at h
    next hg =>
      cases h
      obtain ⟨hw, hr2⟩ := m_one hok
      unfold m_okx at hr
      split at hr
      next =>
        simp only [decide_eq_true_eq] at hr
        subst hr
        refine m_Nx_new (nn := n.toNat) (E := .inl (tc 0, n.toNat, .inl (fun _ => 0))) hn0 hz0 hM hr2 (by simp) (by show n.toNat ≤ 4096; omega) (fun k j hj => by simp at hj) (fun c' k hc' => by unfold m_zr; rw [if_neg hc']) (fun k _ => by unfold m_zr; rw [if_pos rfl]) (fun c' hc' ads' g' => m_ce_zr hc') (fun ads' => ?_) (fun kk => ?_)
        · rw [m_ce_1 (g := ((1, n.toNat), [])) rfl]
          congr
          funext j
          unfold m_zr
          rw [if_pos rfl]
          rfl
        · have hl2 : (μ.1 ++ [((1, n.toNat), ([] : List (Option Nat)))]).length = μ.1.length + 1 := by simp
          have hs2 : m_sz (μ.1 ++ [((1, n.toNat), ([] : List (Option Nat)))]) = m_sz μ.1 + n.toNat := by rw [m_sz_app]; simp
          have hcR : (μ.1 ++ [((1, n.toNat), ([] : List (Option Nat)))]).length - n0 ≤ R.cells := hcR
          have hsR : m_sz (μ.1 ++ [((1, n.toNat), ([] : List (Option Nat)))]) - z0 ≤ R.slots := hsR
          refine va_newa (atype := .int) (ty := .int) (a0 := (n.toNat, .inl (fun _ => 0))) hx hb (hts _ (m_wok_in m_a1_ok)) rfl hK hP hD hS hA (fun _ => rfl) (m_nneg hw hg.1) (m_cl hw) (by show n.toNat * 4 ≤ _; omega) (by omega) (by omega) hd (fun q cA H1 hK' hP' hD' hS' => ?_)
          have e1 : cA = tc 0 := by
            have w1 := (hK'.2 4 (cA, .int) rfl).2
            have w2 := (hK.2 0 (tc 0, .int) rfl).2
            exact Option.some.inj (w1.symm.trans w2)
          subst e1
          exact kk q H1 hP' hD' hS'
      next =>
        simp only [decide_eq_true_eq] at hr
        subst hr
        refine m_Nx_new (nn := n.toNat) (E := .inl (tc 1, n.toNat, .inr (.inl (fun _ => 0)))) hn0 hz0 hM hr2 (by simp) (by show n.toNat ≤ 4096; omega) (fun k j hj => by simp at hj) (fun c' k hc' => by unfold m_zr; rw [if_neg hc']) (fun k _ => by unfold m_zr; rw [if_pos rfl]) (fun c' hc' ads' g' => m_ce_zr hc') (fun ads' => ?_) (fun kk => ?_)
        · rw [m_ce_2 (g := ((2, n.toNat), [])) rfl]
          congr
          funext j
          unfold m_zr
          rw [if_pos rfl]
          rfl
        · have hl2 : (μ.1 ++ [((2, n.toNat), ([] : List (Option Nat)))]).length = μ.1.length + 1 := by simp
          have hs2 : m_sz (μ.1 ++ [((2, n.toNat), ([] : List (Option Nat)))]) = m_sz μ.1 + n.toNat := by rw [m_sz_app]; simp
          have hcR : (μ.1 ++ [((2, n.toNat), ([] : List (Option Nat)))]).length - n0 ≤ R.cells := hcR
          have hsR : m_sz (μ.1 ++ [((2, n.toNat), ([] : List (Option Nat)))]) - z0 ≤ R.slots := hsR
          refine va_newa (atype := .long) (ty := .long) (a0 := (n.toNat, .inr (.inl (fun _ => 0)))) hx hb (hts _ (m_wok_in m_a2_ok)) rfl hK hP hD hS hA (fun _ => rfl) (m_nneg hw hg.1) (m_cl hw) (by show n.toNat * 8 ≤ _; omega) (by omega) (by omega) hd (fun q cA H1 hK' hP' hD' hS' => ?_)
          have e1 : cA = tc 1 := by
            have w1 := (hK'.2 4 (cA, .long) rfl).2
            have w2 := (hK.2 1 (tc 1, .long) rfl).2
            exact Option.some.inj (w1.symm.trans w2)
          subst e1
          exact kk q H1 hP' hD' hS'
      next =>
        simp only [decide_eq_true_eq] at hr
        subst hr
        refine m_Nx_new (nn := n.toNat) (E := .inl (tc 2, n.toNat, .inl (fun _ => 0))) hn0 hz0 hM hr2 (by simp) (by show n.toNat ≤ 4096; omega) (fun k j hj => by simp at hj) (fun c' k hc' => by unfold m_zr; rw [if_neg hc']) (fun k _ => by unfold m_zr; rw [if_pos rfl]) (fun c' hc' ads' g' => m_ce_zr hc') (fun ads' => ?_) (fun kk => ?_)
        · rw [m_ce_3 (g := ((3, n.toNat), [])) rfl]
          congr
          funext j
          unfold m_zr
          rw [if_pos rfl]
          rfl
        · have hl2 : (μ.1 ++ [((3, n.toNat), ([] : List (Option Nat)))]).length = μ.1.length + 1 := by simp
          have hs2 : m_sz (μ.1 ++ [((3, n.toNat), ([] : List (Option Nat)))]) = m_sz μ.1 + n.toNat := by rw [m_sz_app]; simp
          have hcR : (μ.1 ++ [((3, n.toNat), ([] : List (Option Nat)))]).length - n0 ≤ R.cells := hcR
          have hsR : m_sz (μ.1 ++ [((3, n.toNat), ([] : List (Option Nat)))]) - z0 ≤ R.slots := hsR
          refine va_newa (atype := .byte) (ty := .byte) (a0 := (n.toNat, .inl (fun _ => 0))) hx hb (hts _ (m_wok_in m_a3_ok)) rfl hK hP hD hS hA (fun _ => rfl) (m_nneg hw hg.1) (m_cl hw) (by show n.toNat * 1 ≤ _; omega) (by omega) (by omega) hd (fun q cA H1 hK' hP' hD' hS' => ?_)
          have e1 : cA = tc 2 := by
            have w1 := (hK'.2 4 (cA, .byte) rfl).2
            have w2 := (hK.2 2 (tc 2, .byte) rfl).2
            exact Option.some.inj (w1.symm.trans w2)
          subst e1
          exact kk q H1 hP' hD' hS'
      next => cases hr
    next => cases h
  next => cases h

set_option maxHeartbeats 4000000 in
theorem m_newq_ok {ads : Nat → Nat} {n0 z0 pc a f len : Nat} {z : Int} {r : Instr} {st st' : List m_V} {μ μ' : m_M} (hF : m_Fx p R s m args meth c dC dI tc A X b y) (hr : m_okm (m_own y) (m_nm y).name r len 56 a f z = true) (hd : decode (m_by y) pc = .ok (r, len)) (h : m_mk X 56 a f z st μ = some (st', μ'))
    (hP : va_P (dC, dI) vwCl (m_ws tc ads μ) H) (hD : va_D A (m_ws tc ads μ)) (hS : va_S A s.heap H locs) (hM : m_mok μ) (hok : ∀ v ∈ st, m_okw μ.1.length v) (hn0 : n0 ≤ μ.1.length) (hz0 : z0 ≤ m_sz μ.1) (hcR : μ'.1.length - n0 ≤ R.cells) (hsR : m_sz μ'.1 - z0 ≤ R.slots) : m_Nx p l e R s m args below meth c Q dC dI tc A b n0 z0 ls H locs ads pc (pc + len) st st' μ μ' := by
  obtain ⟨hx, hb, hml, hown, hts, hK, hN, hO, hA, hin, hX, hfr, hlo⟩ := hF
  simp only [m_okm, Bool.and_eq_true, decide_eq_true_eq] at hr
  obtain ⟨rfl, hr⟩ := hr
  simp only [m_mk] at h
  split at h
  next n r0 =>
    split at h
    next hg =>
      cases h
      obtain ⟨hw, hr2⟩ := m_one hok
      refine m_Nx_new (nn := n.toNat) (E := .inl (tc 3, n.toNat, .inr (.inr (.inr (.inr (fun _ => none)))))) hn0 hz0 hM hr2 (by simp) (by show n.toNat ≤ 4096; omega) (fun k j hj => by rw [m_rep_none] at hj; cases hj) (fun c' k hc' => rfl) (fun k hk => ?_) (fun c' hc' ads' g' => rfl) (fun ads' => ?_) (fun kk => ?_)
      · unfold m_tk at hk
        have e9 : (μ.1 ++ [((4, n.toNat), List.replicate n.toNat (none : Option Nat))]).getD μ.1.length ((9, 0), []) = ((4, n.toNat), List.replicate n.toNat none) := m_g_app_self (G := μ.1) (σ := μ.2)
        rw [e9] at hk
        exact absurd hk (by simp)
      · rw [m_ce_4 (g := ((4, n.toNat), List.replicate n.toNat none)) rfl]
        congr
        funext j
        rw [m_rep_none]
        rfl
      · have hl2 : (μ.1 ++ [((4, n.toNat), List.replicate n.toNat (none : Option Nat))]).length = μ.1.length + 1 := by simp
        have hs2 : m_sz (μ.1 ++ [((4, n.toNat), List.replicate n.toNat (none : Option Nat))]) = m_sz μ.1 + n.toNat := by rw [m_sz_app]; simp
        have hcR : (μ.1 ++ [((4, n.toNat), List.replicate n.toNat (none : Option Nat))]).length - n0 ≤ R.cells := hcR
        have hsR : m_sz (μ.1 ++ [((4, n.toNat), List.replicate n.toNat (none : Option Nat))]) - z0 ≤ R.slots := hsR
        unfold m_isA at hr
        split at hr
        next i =>
          simp only [m_okn, decide_eq_true_eq, Option.map_eq_some_iff, true_and] at hr
          obtain ⟨⟨q1, q2⟩, e1, e2⟩ := hr
          cases e2
          have hw2 := hts _ (m_wok_in (List.all_eq_true.mp m_NC_ok _ (m_lk2_in e1)))
          refine va_newq (C := RX7) hx hb hown hw2 hO hK hP hD hS hA (m_nneg hw hg.1) (m_cl hw) (by omega) (by omega) (by omega) hd (fun q cA H1 hK' hP' hD' hS' => ?_)
          have e3 : cA = tc 3 := by
            obtain ⟨k1, c1, -, -, -, w1⟩ := (hK'.2 4 (cA, .object RX7) rfl).2
            obtain ⟨k2, c2, -, -, -, w2⟩ := (hK.2 3 (tc 3, .object RX7) rfl).2
            exact Option.some.inj (w1.symm.trans w2)
          subst e3
          exact kk q H1 hP' hD' hS'
        next => simp at hr
    next => cases h
  next => cases h

set_option maxHeartbeats 4000000 in
theorem m_new_ok {ads : Nat → Nat} {n0 z0 pc a f len : Nat} {z : Int} {r : Instr} {st st' : List m_V} {μ μ' : m_M} (hF : m_Fx p R s m args meth c dC dI tc A X b y) (hr : m_okm (m_own y) (m_nm y).name r len 57 a f z = true) (hd : decode (m_by y) pc = .ok (r, len)) (h : m_mk X 57 a f z st μ = some (st', μ'))
    (hP : va_P (dC, dI) vwCl (m_ws tc ads μ) H) (hD : va_D A (m_ws tc ads μ)) (hS : va_S A s.heap H locs) (hM : m_mok μ) (hok : ∀ v ∈ st, m_okw μ.1.length v) (hn0 : n0 ≤ μ.1.length) (hz0 : z0 ≤ m_sz μ.1) (hcR : μ'.1.length - n0 ≤ R.cells) (hsR : m_sz μ'.1 - z0 ≤ R.slots) : m_Nx p l e R s m args below meth c Q dC dI tc A b n0 z0 ls H locs ads pc (pc + len) st st' μ μ' := by
  obtain ⟨hx, hb, hml, hown, hts, hK, hN, hO, hA, hin, hX, hfr, hlo⟩ := hF
  simp only [m_okm, Bool.and_eq_true, decide_eq_true_eq, Bool.not_eq_true'] at hr
  obtain ⟨rfl, hnA, ha, hzv, hr⟩ := hr
  simp only [m_mk] at h
  cases h
  have hzn : z.toNat = m_fn a := by omega
  refine m_Nx_new (nn := m_fn a) (E := .inr (a, m_fs ads (m_zr μ.2 μ.1.length) (List.replicate z.toNat none) μ.1.length 0 (m_FC.getD a []))) hn0 hz0 hM hok (by simp) (by show a ≤ 4096; omega) (fun k j hj => by rw [m_rep_none] at hj; cases hj) (fun c' k hc' => by unfold m_zr; rw [if_neg hc']) (fun k _ => by unfold m_zr; rw [if_pos rfl]) (fun c' hc' ads' g' => m_ce_zr hc') (fun ads' => ?_) (fun kk => ?_)
  · rw [← m_ce_0 (tc := tc) (ads := ads) (σ := m_zr μ.2 μ.1.length) (c := μ.1.length) (g := ((0, a), List.replicate z.toNat none)) rfl]
    exact m_ce_ads (n := 0) (fun c' hc' => absurd hc' (Nat.not_lt_zero _)) (fun k j hj => by rw [m_rep_none] at hj; cases hj)
  · have hl2 : (μ.1 ++ [((0, a), List.replicate z.toNat (none : Option Nat))]).length = μ.1.length + 1 := by simp
    have hs2 : m_sz (μ.1 ++ [((0, a), List.replicate z.toNat (none : Option Nat))]) = m_sz μ.1 + m_fn a := by rw [m_sz_app]; simp
    have hcR : (μ.1 ++ [((0, a), List.replicate z.toNat (none : Option Nat))]).length - n0 ≤ R.cells := hcR
    have hsR : m_sz (μ.1 ++ [((0, a), List.replicate z.toNat (none : Option Nat))]) - z0 ≤ R.slots := hsR
    have hc1 : μ.1.length - n0 + 1 ≤ R.cells := by omega
    have hs1 : m_sz μ.1 - z0 + m_fn a ≤ R.slots := by omega
    unfold m_okn at hr
    split at hr
    next => simp [m_isA] at hnA
    next i =>
      simp only [decide_eq_true_eq, Option.map_eq_some_iff] at hr
      obtain ⟨⟨q1, q2⟩, e1, e2⟩ := hr
      cases e2
      have hw2 := hts _ (m_wok_in (List.all_eq_true.mp m_NC_ok _ (m_lk2_in e1)))
      have hnp := List.all_eq_true.mp m_NP_ok q1 (List.mem_range.mpr ha)
      simp only [Bool.and_eq_true] at hnp
      refine va_new (C := m_cn q1) (T := m_T q1) (N := m_fn q1) hx hb hts (m_cl_in q1 ha) (m_ty q1) (m_cl_ty q1 ha) hown hw2 (hts _ (m_wok_in hnp.1)) (hts _ (m_wok_in hnp.2)) hK hP hD hS hA (m_cl_at q1 ha) (fun j hj => ?_) hc1 hs1 hd kk
      have hq := m_tyq_at ha hj
      obtain ⟨t, ht⟩ : ∃ t, (m_FC.getD q1 [])[j]? = some t := ⟨_, List.getElem?_eq_getElem hj⟩
      have hgd : (m_FC.getD q1 []).getD j 9 = t := by rw [List.getD_eq_getElem?_getD, ht]; rfl
      unfold m_tyq at hq
      rw [hgd] at hq
      unfold vp_V
      rw [List.getD_eq_getElem?_getD, m_fs_get, ht, Nat.zero_add]
      show _ = m_fval _ _ _ _ _ _
      have hz0' : m_zr μ.2 μ.1.length μ.1.length j = 0 := by unfold m_zr; rw [if_pos rfl]
      split at hq
      · rw [of_decide_eq_true hq]; show _ = Value.int (Int32.ofInt (m_zr μ.2 μ.1.length μ.1.length j)); rw [hz0']; rfl
      · rw [of_decide_eq_true hq]; show _ = Value.int (Int32.ofInt (m_zr μ.2 μ.1.length μ.1.length j)); rw [hz0']; rfl
      · rw [of_decide_eq_true hq]; show _ = Value.long (Int64.ofInt (m_zr μ.2 μ.1.length μ.1.length j)); rw [hz0']; rfl
      · show _ = va_rf ((((List.replicate z.toNat (none : Option Nat))[j]?).join).map ads)
        have e5 : ((List.replicate z.toNat (none : Option Nat))[j]?).join = none := by
          exact m_rep_none _ _
        rw [e5]
        cases hty : m_ty q1 j with
        | object _ => rfl
        | array _ => rfl
        | _ => rw [hty] at hq; cases hq
      · cases hq
    next => cases hr

end MA
