section MR
variable {p : Program} {l : Launch} {e : Env} {R : Room} {s : State} {m : MethodId} {args : Array Value} {below : List Frame} {meth : Method} {c : Code} {Q : State → Prop}
variable {dC : Nat → ClassId} {dI : Nat → Nat → Nat} {tc : Nat → ClassId} {A : Nat → Prop} {X : Option (Nat × (Nat → Int))} {b y n0 z0 : Nat} {ads0 : Nat → Nat}
set_option maxHeartbeats 4000000 in
/-- a call -/
theorem m_cal_ok {H : Heap} {locs : List Loc} {ls : Array Slot} {ads : Nat → Nat} {pc a n d len : Nat} {z : Int} {r : Instr} {pls st : List m_V} {μ : m_M} {q : List m_V × m_M} {f : m_C} (hF : m_Fx p R s m args meth c dC dI tc A X b y) (hC : m_Con l dC dI tc A X b d f) (hfr : d + 1 ≤ R.frames) (hlo : 35 * d + 35 ≤ R.locals)
    (ha : a < 197) (hr : m_okc (m_own y) r a n z = true) (hd : decode (m_by y) pc = .ok (r, 3)) (h : m_cal f a n z st μ = some q)
    (hads : ∀ k, k < n0 → ads k = ads0 k) (hn0 : n0 ≤ μ.1.length) (hz0 : z0 ≤ m_sz μ.1) (hcR : q.2.1.length - n0 ≤ R.cells) (hsR : m_sz q.2.1 - z0 ≤ R.slots)
    (hP : va_P (dC, dI) vwCl (m_ws tc ads μ) H) (hD : va_D A (m_ws tc ads μ)) (hS : va_S A s.heap H locs) (hM : m_mok μ) (hl : m_lh ads b (m_ml y) pls ls) (hokl : ∀ i, m_okw μ.1.length (m_ld pls i)) (hok : ∀ v ∈ st, m_okw μ.1.length v)
    (kk : m_W p l e R s m args below meth c Q dC dI tc A b (m_ml y) n0 z0 ads0 (pc + 3) pls q.1 q.2) :
    W p l e R s m args below meth c H locs (μ.1.length - n0) (m_sz μ.1 - z0) Q (F0 m pc ls (st.map (m_re ads b))) := by
  have hF' := hF
  obtain ⟨hx, hb, hml, hown, hts, hK, hN, hO, hA, hin, hX, hfr1, hlo1⟩ := hF
  unfold m_cal at h
  split at h
  next hc =>
    obtain ⟨hc1, hc2, hc3⟩ := hc
    obtain ⟨⟨rv, μ2⟩, hf, rfl⟩ := Option.map_eq_some_iff.mp h
    obtain ⟨hg, hMet⟩ := hC a _ μ rv μ2 ha hf
    have hoka : ∀ v ∈ (st.take n).reverse, m_okw μ.1.length v := fun v hv => hok v (List.mem_of_mem_take (List.mem_reverse.mp hv))
    have hokr : ∀ v ∈ st.drop n, m_okw μ.1.length v := fun v hv => hok v (List.mem_of_mem_drop hv)
    have hMt := hMet ads hM hoka
    have hsub : μ.1.length - n0 + (μ2.1.length - μ.1.length) ≤ R.cells ∧ m_sz μ.1 - z0 + (m_sz μ2.1 - m_sz μ.1) ≤ R.slots := by
      have h1 := hg.1
      have h2 := hg.2
      have hcR : μ2.1.length - n0 ≤ R.cells := hcR
      have hsR : m_sz μ2.1 - z0 ≤ R.slots := hsR
      constructor <;> omega
    have hlsz : ls.size = m_ml y := hl.2.1
    have hroom : 2 * (F0 m pc ls (st.map (m_re ads b))).monitorRoom + (((st.drop n).map (m_re ads b)).map fun v => v.category).sum ≤ 8 := by
      have h8 := m_cats (ads := ads) (b := b) (st.drop n) 4 hc2
      exact lv_room (by omega)
    have hCF : CallFix p m c (m_by y) (m_ml y) s args (lw_tbl.filter goodWord) (m_cn (m_own y)) := ⟨hx, hb, hml, hown, hts⟩
    have hKN : m_KN dC dI tc s := ⟨hK, hN, hO⟩
    have hpre : ∀ U : State, U.heap = H → s.WarmedH U.vm → va_Pc ((st.take n).reverse.map (m_re ads b)) (m_Pre dC dI tc A X b ads μ) ((st.take n).reverse.map (m_re ads b)).toArray U :=
      fun U hU hW => ⟨rfl, by rw [hU]; exact hP, hD, m_KN_moved hKN hW, fun w hw => hA w (Nat.le_trans hS.1 (by rw [← hU]; exact hw)), fun x hx => (by
        obtain ⟨x1, x2, x3, x4⟩ := hX x hx
        exact ⟨va_X.moved hW.alike (va_X.kept x1 (by rw [hU]; exact hS.2.1 b x2 x3)), Nat.lt_of_lt_of_le x2 (by rw [hU]; exact hS.1), x3, x4⟩)⟩
    have hst : st.map (m_re ads b) = ((st.take n).reverse.map (m_re ads b)).reverse ++ (st.drop n).map (m_re ads b) := by
      rw [← List.map_reverse, List.reverse_reverse, ← List.map_append, List.take_append_drop]
    have hlen : (st.take n).reverse.length = n := by rw [List.length_reverse, List.length_take]; omega
    unfold m_okc at hr
    split at hr
    next i =>
      simp only [Bool.and_eq_true, decide_eq_true_eq, Option.map_eq_some_iff] at hr
      obtain ⟨⟨⟨q1, q2, q3, q4, q5⟩, e1, e2⟩, hn, rfl⟩ := hr
      cases e2
      have hw := List.all_eq_true.mp m_ML_ok _ (m_lk2_in e1)
      simp only [m_mlw, Bool.and_eq_true] at hw
      unfold m_rcv at hc3
      rw [if_neg (by omega)] at hc3
      split at hc3
      next w as has =>
        rw [if_neg (by omega)] at hc3
        have hgk : m_gk μ w = (0, m_own q2) := of_decide_eq_true hc3
        rw [has] at hpre hst hlen hMt
        have hlt := m_lt_obj hgk
        have he : (m_ws tc ads μ)[w]? = some (ads w, .inr (m_own q2, m_fs ads μ.2 (m_g μ w).2 w 0 (m_FC.getD (m_own q2) []))) := by rw [m_ws_get hlt, m_ce_0 hgk]
        obtain ⟨q', hq', -⟩ := hP w _ he
        have hown11 : m_own q2 < 10 := (List.getElem?_eq_some_iff.mp hq').1
        have hrecv := va_recv hK hP (m_cl_at (m_own q2) hown11) he
        refine m_call_go (va_runV (As := as.map (m_re ads b)) (rest := (st.drop n).map (m_re ads b)) (n := (m_MP.getD q2 (0, 0, 0)).2.2) (C := (m_nm q2).cls) hCF hMt ⟨m_callB ha rfl hts (hts _ (m_wok_in hw.1)) hfr hlo, hts _ (m_wok_in hw.2.1), hts _ (m_wok_in hw.2.2)⟩ ⟨m_blind, by rw [m_clsn ha]; exact hrecv, hpre⟩ rfl ?_ hlsz ?_ hroom hd hsub) hA hS rfl hads hn0 hz0 hg hl hokl hokr kk
        · rw [List.length_map]
          have h1 : as.length + 1 = n := hlen
          have h2 : n = (m_MP.getD q2 (0, 0, 0)).2.2 + 1 := hn
          omega
        · rw [hst]
          show (m_re ads b (m_R w) :: as.map (m_re ads b)).reverse ++ _ = _
          rw [List.reverse_cons, List.append_assoc]
          rfl
      next => cases hc3
    next i =>
      simp only [Bool.and_eq_true, Bool.or_eq_true, decide_eq_true_eq, Option.map_eq_some_iff] at hr
      obtain ⟨⟨⟨q1, q2, q3, q4, q5⟩, e1, e2⟩ | ⟨⟨q1, q2, q3, q4, q5⟩, e1, e2⟩, hn, rfl⟩ := hr
      · cases e2
        have hw := List.all_eq_true.mp m_ML_ok _ (m_lk2_in e1)
        simp only [m_mlw, Bool.and_eq_true] at hw
        refine m_call_go (va_runS (As := (st.take n).reverse.map (m_re ads b)) (rest := (st.drop n).map (m_re ads b)) (n := n) hCF hMt ⟨m_callB ha hn hts (hts _ (m_wok_in hw.1)) hfr hlo, hts _ (m_wok_in hw.2)⟩ ⟨m_blind, hpre⟩ rfl ?_ hlsz hst hroom hd hsub) hA hS rfl hads hn0 hz0 hg hl hokl hokr kk
        rw [List.length_map]; exact hlen
      · cases e2
        have hin2 := m_lk2_in e1
        have hw := List.all_eq_true.mp m_ML_ok _ hin2
        simp only [m_mlw, Bool.and_eq_true] at hw
        refine m_call_go (va_runSN (As := (st.take n).reverse.map (m_re ads b)) (rest := (st.drop n).map (m_re ads b)) (n := n) hCF hMt ⟨m_callN ha hn hts (hN _ hin2 (Or.inr rfl)) hfr hlo, hts _ (m_wok_in hw.2), trivial⟩ ⟨m_blind, hpre⟩ rfl ?_ hlsz hst hroom hd hsub) hA hS rfl hads hn0 hz0 hg hl hokl hokr kk
        rw [List.length_map]; exact hlen
    next i =>
      simp only [Bool.and_eq_true, Bool.or_eq_true, decide_eq_true_eq, Option.map_eq_some_iff] at hr
      obtain ⟨hkind, hn, rfl, hnm⟩ := hr
      have hrt : m_rt a = none := by
        have h5 := m_rng m_MP_ok5 ha
        simp only [Bool.or_eq_true, Bool.not_eq_true', decide_eq_false_iff_not, decide_eq_true_eq] at h5
        rcases h5 with h5 | h5
        · exact absurd hnm h5
        · exact h5
      unfold m_rcv at hc3
      rw [if_neg (by decide)] at hc3
      split at hc3
      next w as has =>
        rw [has] at hpre hst hlen hMt
        have hlen2 : (as.map (m_re ads b)).length = (m_MP.getD a (0, 0, 0)).2.2 := by
          rw [List.length_map]
          have : as.length + 1 = n := hlen
          omega
        have hst2 : st.map (m_re ads b) = (as.map (m_re ads b)).reverse ++ .ref (ads w) :: (st.drop n).map (m_re ads b) := by
          rw [hst]
          show (m_re ads b (m_R w) :: as.map (m_re ads b)).reverse ++ _ = _
          rw [List.reverse_cons, List.append_assoc]
          rfl
        obtain ⟨⟨q1, q2, q3, q4, q5⟩, e1, e2⟩ | ⟨⟨q1, q2, q3, q4, q5⟩, e1, e2⟩ := hkind
        · cases e2
          have hw := List.all_eq_true.mp m_ML_ok _ (m_lk2_in e1)
          simp only [m_mlw, Bool.and_eq_true] at hw
          have hB := m_callB (R := R) (d := d) (mc := μ2.1.length - μ.1.length) (ms := m_sz μ2.1 - m_sz μ.1) ha rfl hts (hts _ (m_wok_in hw.1)) hfr hlo
          rw [hrt] at hB
          exact m_call_go (va_runI (As := as.map (m_re ads b)) (rest := (st.drop n).map (m_re ads b)) (n := (m_MP.getD q2 (0, 0, 0)).2.2) hCF hMt ⟨hB, hnm, hts _ (m_wok_in hw.2)⟩ ⟨m_blind, hpre⟩ rfl hlen2 hlsz hst2 hroom hd hsub) hA hS rfl hads hn0 hz0 hg hl hokl hokr kk
        · cases e2
          have hin2 := m_lk2_in e1
          have hw := List.all_eq_true.mp m_ML_ok _ hin2
          simp only [m_mlw, Bool.and_eq_true] at hw
          have hB := m_callN (R := R) (args := args) (d := d) (mc := μ2.1.length - μ.1.length) (ms := m_sz μ2.1 - m_sz μ.1) ha rfl hts (hN _ hin2 (Or.inl rfl)) hfr hlo
          rw [hrt] at hB
          exact m_call_go (va_runIN (As := as.map (m_re ads b)) (rest := (st.drop n).map (m_re ads b)) (n := (m_MP.getD q2 (0, 0, 0)).2.2) hCF hMt ⟨hB, hnm, hts _ (m_wok_in hw.2)⟩ ⟨m_blind, hpre⟩ rfl hlen2 hlsz hst2 hroom hd hsub) hA hS rfl hads hn0 hz0 hg hl hokl hokr kk
      next => cases hc3
    next => cases hr
  next => cases h
end MR
