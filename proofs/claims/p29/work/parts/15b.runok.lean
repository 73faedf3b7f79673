section MO
variable {p : Program} {l : Launch} {e : Env} {R : Room} {s : State} {m : MethodId} {args : Array Value} {below : List Frame} {meth : Method} {c : Code} {Q : State → Prop}
variable {dC : Nat → ClassId} {dI : Nat → Nat → Nat} {tc : Nat → ClassId} {A : Nat → Prop} {X : Option (Nat × (Nat → Int))} {b y n0 z0 : Nat} {ads0 : Nat → Nat}
theorem m_rf_or {ads : Nat → Nat} {b : Nat} (o : Option Nat) : (o = none ∧ m_re ads b (m_O o) = .null) ∨ ∃ k, o = some k ∧ m_re ads b (m_O o) = .ref (ads k) := by
  cases o with
  | none => exact Or.inl ⟨rfl, rfl⟩
  | some k => exact Or.inr ⟨k, rfl, rfl⟩
set_option maxHeartbeats 4000000 in
/-- one step that is no branch, no call, no return -/
theorem m_stp_ok {pc len : Nat} {i : m_P} {r : Instr} {pls st : List m_V} {μ : m_M} {q : List m_V × List m_V × m_M} (hF : m_Fx p R s m args meth c dC dI tc A X b y) (hr : (if 53 ≤ i.1 then m_okm (m_own y) (m_nm y).name r len i.1 i.2.1 i.2.2.1 i.2.2.2 else if 14 ≤ i.1 ∧ i.1 ≤ 22 then m_okl (m_ml y) r len i.1 i.2.1 i.2.2.2 else m_oks (m_own y) r len i.1 i.2.1 i.2.2.2) = true)
    (hd : decode (m_by y) pc = .ok (r, len)) (h : m_stp X i pls st μ = some q) (hcR : q.2.2.1.length - n0 ≤ R.cells) (hsR : m_sz q.2.2.1 - z0 ≤ R.slots)
    (kk : m_W p l e R s m args below meth c Q dC dI tc A b (m_ml y) n0 z0 ads0 (pc + len) q.1 q.2.1 q.2.2) : m_W p l e R s m args below meth c Q dC dI tc A b (m_ml y) n0 z0 ads0 pc pls st μ := by
  intro ads H locs ls hads hn0 hz0 hP hD hS hM hl hokl hok
  have hml : c.maxLocals = m_ml y := hF.2.2.1
  have hls : ls.size = c.maxLocals := by rw [hml]; exact hl.2.1
  unfold m_stp at h
  split at h
  next h53 =>
    rw [if_pos h53] at hr
    obtain ⟨⟨st', μ'⟩, h1, rfl⟩ := Option.map_eq_some_iff.mp h
    have key : m_Nx p l e R s m args below meth c Q dC dI tc A b n0 z0 ls H locs ads pc (pc + len) st st' μ μ' := by
      obtain ⟨op, a, f, z⟩ := i
      have hop : op = 53 ∨ op = 54 ∨ op = 55 ∨ op = 56 ∨ op = 57 ∨ op = 58 ∨ op = 59 ∨ op = 60 ∨ op = 61 ∨ op = 62 ∨ op = 63 ∨ op = 64 ∨ op = 65 ∨ op = 66 ∨ op = 67 ∨ op = 68 ∨ op = 69 ∨ 70 ≤ op := by
        have h53 : 53 ≤ op := h53
        omega
      rcases hop with rfl | rfl | rfl | rfl | rfl | rfl | rfl | rfl | rfl | rfl | rfl | rfl | rfl | rfl | rfl | rfl | rfl | hop
      · exact m_get_ok hF hr hd h1 hP hD hS hM hok
      · exact m_putf_ok hF hr hd h1 hP hD hS hM hok
      · exact m_newa_ok hF hr hd h1 hP hD hS hM hok hn0 hz0 hcR hsR
      · exact m_newq_ok hF hr hd h1 hP hD hS hM hok hn0 hz0 hcR hsR
      · exact m_new_ok hF hr hd h1 hP hD hS hM hok hn0 hz0 hcR hsR
      · exact m_len_ok hF hr hd h1 hP hD hS hM hok
      · exact m_iald_ok hF hr hd h1 hP hD hS hM hok
      · exact m_lald_ok hF hr hd h1 hP hD hS hM hok
      · exact m_bald_ok hF hr hd h1 hP hD hS hM hok
      · exact m_aald_ok hF hr hd h1 hP hD hS hM hok
      · exact m_iast_ok hF hr hd h1 hP hD hS hM hok
      · exact m_last_ok hF hr hd h1 hP hD hS hM hok
      · exact m_bast_ok hF hr hd h1 hP hD hS hM hok
      · exact m_aast_ok hF hr hd h1 hP hD hS hM hok
      · exact m_obj_ok hF hr hd h1 hP hD hS hM hok hls
      · exact m_acp_ok hF hr hd h1 hP hD hS hM hok hls
      · exact m_raw_ok hF hr hd h1 hP hD hS hM hok hls
      · obtain ⟨j, rfl⟩ : ∃ j, op = j + 70 := ⟨op - 70, by omega⟩
        cases hr
    obtain ⟨g1, g2, hok', hM', kw⟩ := key
    refine kw fun ads' H' locs' ha hP' hD' hS' => ?_
    exact kk ads' H' locs' ls (fun k hk => by rw [ha k (Nat.lt_of_lt_of_le hk hn0)]; exact hads k hk) (Nat.le_trans hn0 g1) (Nat.le_trans hz0 g2) hP' hD' hS' hM' ⟨hl.1, hl.2.1, hl.2.2.1, fun i hi => by rw [m_re_ads ha (hokl i)]; exact hl.2.2.2 i hi⟩ (fun i => m_okw_mono g1 (hokl i)) hok'
  next h53 =>
    rw [if_neg h53] at hr
    split at h
    next h14 =>
      rw [if_pos h14] at hr
      obtain ⟨⟨pls', st'⟩, h1, rfl⟩ := Option.map_eq_some_iff.mp h
      obtain ⟨k1, k2, k3⟩ := m_lk_ok (H := H) (locs := locs) (cells := μ.1.length - n0) (slots := m_sz μ.1 - z0) (Q := Q) (l := l) (e := e) (below := below) hF hr hd h1 hl hokl hok
      exact k3 fun ls' hl' => kk ads H locs ls' hads hn0 hz0 hP hD hS hM hl' k1 k2
    next h14 =>
      rw [if_neg h14] at hr
      obtain ⟨st', h1, rfl⟩ := Option.map_eq_some_iff.mp h
      obtain ⟨k1, k2⟩ := m_sk_ok (ads := ads) (H := H) (locs := locs) (ls := ls) (cells := μ.1.length - n0) (slots := m_sz μ.1 - z0) (Q := Q) (l := l) (e := e) (below := below) hF hr hd h1 hok
      exact k2 (kk ads H locs ls hads hn0 hz0 hP hD hS hM hl hokl k1)
set_option maxHeartbeats 4000000 in
/-- what a run comes to is what the machine comes to -/
theorem m_run_ok {d : Nat} {f : m_C} {rv : Option m_V} {μ' : m_M} (hF : m_Fx p R s m args meth c dC dI tc A X b y) (hC : m_Con l dC dI tc A X b d f) (hfr : d + 1 ≤ R.frames) (hlo : 35 * d + 35 ≤ R.locals) (hy : y < 198) (hf : ∀ y as μ q, f y as μ = some q → m_grow μ q.2)
    (hcR : μ'.1.length - n0 ≤ R.cells) (hsR : m_sz μ'.1 - z0 ≤ R.slots)
    (hex : ∀ (pcR k : Nat) (plsR stR : List m_V) (ins : Instr), decode (m_by y) pcR = .ok (ins, 1) → m_okr (m_rt y) ins k = true → m_ret k stR μ' = some (rv, μ') → m_W p l e R s m args below meth c Q dC dI tc A b (m_ml y) n0 z0 ads0 pcR plsR stR μ') :
    ∀ (n : Nat) (is : List m_P) (pc : Nat) (pls st : List m_V) (μ : m_M), m_chk y is pc = true → m_run X f y n is pls st μ = some (rv, μ') → m_W p l e R s m args below meth c Q dC dI tc A b (m_ml y) n0 z0 ads0 pc pls st μ
  | 0, _, _, _, _, _, _, h => by cases h
  | _ + 1, [], _, _, _, _, _, h => by cases h
  | n + 1, i :: is, pc, pls, st, μ, hc, h => by
    have ih := m_run_ok hF hC hfr hlo hy hf hcR hsR hex n
    have hx : p.tables.exec = Jvm.exec := hF.1
    have hb : c.code = m_by y := hF.2.1
    unfold m_chk at hc
    split at hc
    next h8 =>
      obtain ⟨op, a, f2, z⟩ := i
      have h8 : op = 8 := h8
      subst h8
      have e1 : m_stt y a = pc := of_decide_eq_true hc
      have h : m_run X f y n (m_blk y a) pls st μ = some (rv, μ') := h
      rw [← e1]
      exact ih _ _ _ _ _ (m_blk_chk hy a) h
    next h8 =>
      split at hc
      next r len hd =>
        simp only [Bool.and_eq_true] at hc
        obtain ⟨hr, hc⟩ := hc
        unfold m_run at h
        split at h
        next h0 =>
          obtain ⟨op, a, f2, z⟩ := i
          have h0 : op = 0 := h0
          subst h0
          simp only [m_okB, Bool.and_eq_true, decide_eq_true_eq] at hr
          obtain ⟨rfl, rfl⟩ := hr
          have k := ih _ _ _ _ _ (m_blk_chk hy a) h
          intro ads H locs ls hads hn0 hz0 hP hD hS hM hl hokl hok
          exact lv_goto hx hb hd (by omega) (k ads H locs ls hads hn0 hz0 hP hD hS hM hl hokl hok)
        next h0 =>
          obtain ⟨op, a, f2, z⟩ := i
          have h0 : op = 1 := h0
          subst h0
          simp only [m_okB, Bool.and_eq_true, decide_eq_true_eq] at hr
          obtain ⟨rfl, rfl⟩ := hr
          split at h
          next x r0 =>
            intro ads H locs ls hads hn0 hz0 hP hD hS hM hl hokl hok
            obtain ⟨hw, hr2⟩ := m_one hok
            refine m_if_row (tgt := m_stt y f2) hx hb hd (by omega) hw (fun ht => ?_) (fun ht => ?_)
            · rw [if_pos ht] at h
              exact ih _ _ _ _ _ (m_blk_chk hy f2) h ads H locs ls hads hn0 hz0 hP hD hS hM hl hokl hr2
            · rw [if_neg (by rw [show m_cnd a x 0 = false from ht]; decide)] at h
              exact ih _ _ _ _ _ hc h ads H locs ls hads hn0 hz0 hP hD hS hM hl hokl hr2
          next => cases h
        next h0 =>
          obtain ⟨op, a, f2, z⟩ := i
          have h0 : op = 2 := h0
          subst h0
          simp only [m_okB, Bool.and_eq_true, decide_eq_true_eq] at hr
          obtain ⟨rfl, rfl⟩ := hr
          split at h
          next w x r0 =>
            intro ads H locs ls hads hn0 hz0 hP hD hS hM hl hokl hok
            obtain ⟨hw, hx2, hr2⟩ := m_two hok
            refine m_icmp_row (tgt := m_stt y f2) hx hb hd (by omega) hx2 hw (fun ht => ?_) (fun ht => ?_)
            · rw [if_pos ht] at h
              exact ih _ _ _ _ _ (m_blk_chk hy f2) h ads H locs ls hads hn0 hz0 hP hD hS hM hl hokl hr2
            · rw [if_neg (by rw [show m_cnd a x w = false from ht]; decide)] at h
              exact ih _ _ _ _ _ hc h ads H locs ls hads hn0 hz0 hP hD hS hM hl hokl hr2
          next => cases h
        next h0 =>
          obtain ⟨op, a, f2, z⟩ := i
          have h0 : op = 3 := h0
          subst h0
          simp only [m_okB, Bool.and_eq_true, decide_eq_true_eq] at hr
          obtain ⟨rfl, rfl⟩ := hr
          split at h
          next r0 =>
            have k := ih _ _ _ _ _ (m_blk_chk hy a) h
            intro ads H locs ls hads hn0 hz0 hP hD hS hM hl hokl hok
            exact lv_ifnullN hx hb hd (by omega) (k ads H locs ls hads hn0 hz0 hP hD hS hM hl hokl (m_one hok).2)
          next w r0 =>
            have k := ih _ _ _ _ _ hc h
            intro ads H locs ls hads hn0 hz0 hP hD hS hM hl hokl hok
            exact lv_ifnull hx hb hd (k ads H locs ls hads hn0 hz0 hP hD hS hM hl hokl (m_one hok).2)
          next => cases h
        next h0 =>
          obtain ⟨op, a, f2, z⟩ := i
          have h0 : op = 4 := h0
          subst h0
          simp only [m_okB, Bool.and_eq_true, decide_eq_true_eq] at hr
          obtain ⟨rfl, rfl⟩ := hr
          split at h
          next r0 =>
            have k := ih _ _ _ _ _ hc h
            intro ads H locs ls hads hn0 hz0 hP hD hS hM hl hokl hok
            exact lv_ifnonnullN hx hb hd (k ads H locs ls hads hn0 hz0 hP hD hS hM hl hokl (m_one hok).2)
          next w r0 =>
            have k := ih _ _ _ _ _ (m_blk_chk hy a) h
            intro ads H locs ls hads hn0 hz0 hP hD hS hM hl hokl hok
            exact lv_ifnonnull hx hb hd (by omega) (k ads H locs ls hads hn0 hz0 hP hD hS hM hl hokl (m_one hok).2)
          next => cases h
        next h0 =>
          obtain ⟨op, a, f2, z⟩ := i
          have h0 : op = 5 := h0
          subst h0
          split at h
          next x r0 =>
            have k := ih _ _ _ _ _ (m_blk_chk hy _) h
            intro ads H locs ls hads hn0 hz0 hP hD hS hM hl hokl hok
            obtain ⟨hw, hr2⟩ := m_one hok
            exact m_ts_row hx hb hr hd hw (k ads H locs ls hads hn0 hz0 hP hD hS hM hl hokl hr2)
          next => cases h
        next h0 =>
          obtain ⟨op, a, f2, z⟩ := i
          have h0 : op = 6 := h0
          subst h0
          simp only [m_okB, Bool.and_eq_true, decide_eq_true_eq] at hr
          obtain ⟨rfl, hr⟩ := hr
          have e1 : μ' = μ := m_ret_same h
          subst e1
          exact hex pc a pls st r hd hr h
        next h0 =>
          obtain ⟨op, a, f2, z⟩ := i
          have h0 : op = 7 := h0
          subst h0
          simp only [m_okB, Bool.and_eq_true, decide_eq_true_eq] at hr
          obtain ⟨rfl, ha, hr⟩ := hr
          split at h
          next q hq =>
            have hg2 := m_run_grow hf n _ _ _ _ _ h
            have k := ih _ _ _ _ _ hc h
            intro ads H locs ls hads hn0 hz0 hP hD hS hM hl hokl hok
            refine m_cal_ok (len := 0) hF hC hfr hlo ha hr hd hq hads hn0 hz0 (Nat.le_trans (Nat.sub_le_sub_right hg2.1 n0) hcR) (Nat.le_trans (Nat.sub_le_sub_right hg2.2 z0) hsR) hP hD hS hM hl hokl hok k
          next => cases h
        next h0 => exact absurd h0 h8
        next h0 =>
          obtain ⟨op, a, f2, z⟩ := i
          have h0 : op = 9 := h0
          subst h0
          split at h
          next x r0 =>
            have k := ih _ _ _ _ _ (m_blk_chk hy _) h
            intro ads H locs ls hads hn0 hz0 hP hD hS hM hl hokl hok
            obtain ⟨hw, hr2⟩ := m_one hok
            exact m_ls_row hx hb hr hd hw (k ads H locs ls hads hn0 hz0 hP hD hS hM hl hokl hr2)
          next => cases h
        next h0 h1 h2 h3 h4 h5 h6 h7 _ h9 =>
          have hr2 : (if 53 ≤ i.1 then m_okm (m_own y) (m_nm y).name r len i.1 i.2.1 i.2.2.1 i.2.2.2 else if 14 ≤ i.1 ∧ i.1 ≤ 22 then m_okl (m_ml y) r len i.1 i.2.1 i.2.2.2 else m_oks (m_own y) r len i.1 i.2.1 i.2.2.2) = true := by
            unfold m_okB at hr
            split at hr
            next q => exact absurd q h0
            next q => exact absurd q h1
            next q => exact absurd q h2
            next q => exact absurd q h3
            next q => exact absurd q h4
            next q => exact absurd q h5
            next q => exact absurd q h6
            next q => exact absurd q h7
            next q => exact absurd q h9
            next => exact hr
          split at h
          next q hq =>
            have hg2 := m_run_grow hf n _ _ _ _ _ h
            exact m_stp_ok hF hr2 hd hq (Nat.le_trans (Nat.sub_le_sub_right hg2.1 n0) hcR) (Nat.le_trans (Nat.sub_le_sub_right hg2.2 z0) hsR) (ih _ _ _ _ _ hc h)
          next => cases h
      next => cases hc
end MO
