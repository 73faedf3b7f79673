/-! branches and switches by the pure machine's conditions -/
section MB
variable {p : Program} {l : Launch} {e : Env} {R : Room} {s : State} {m : MethodId} {args : Array Value} {below : List Frame} {meth : Method} {c : Code} {H : Heap} {locs : List Loc} {cells slots : Nat} {Q : State → Prop}
variable {cc : ByteArray} {pc : Nat} {ls : Array Slot} {rest : List Value}
theorem m_k6 (k : Nat) : k = 0 ∨ k = 1 ∨ k = 2 ∨ k = 3 ∨ k = 4 ∨ ∃ j, k = j + 5 := by
  rcases Nat.lt_or_ge k 5 with h | h
  · omega
  · exact Or.inr (Or.inr (Or.inr (Or.inr (Or.inr ⟨k - 5, by omega⟩))))
theorem m_if_row {k tgt : Nat} {x off : Int} (hx : p.tables.exec = Jvm.exec) (hb : c.code = cc) (hd : decode cc pc = .ok (.ifCond (m_cq k) off, 3)) (ht : (pc : Int) + off = (tgt : Int)) (hi : m_in x)
    (kt : m_cnd k x 0 = true → W p l e R s m args below meth c H locs cells slots Q (F0 m tgt ls rest)) (kf : m_cnd k x 0 = false → W p l e R s m args below meth c H locs cells slots Q (F0 m (pc + 3) ls rest)) : W p l e R s m args below meth c H locs cells slots Q (F0 m pc ls (.int (Int32.ofInt x) :: rest)) := by
  have e0 : (Int32.ofInt x = 0) ↔ x = 0 := by rw [← m_of0, m_eq hi m_in0]
  have e1 : (Int32.ofInt x < 0) ↔ x < 0 := by rw [← m_of0, m_lt hi m_in0]
  have e2 : (0 ≤ Int32.ofInt x) ↔ 0 ≤ x := by rw [← m_of0, m_le m_in0 hi]
  have e3 : (0 < Int32.ofInt x) ↔ 0 < x := by rw [← m_of0, m_lt m_in0 hi]
  have e4 : (Int32.ofInt x ≤ 0) ↔ x ≤ 0 := by rw [← m_of0, m_le hi m_in0]
  rcases m_k6 k with rfl | rfl | rfl | rfl | rfl | ⟨j, rfl⟩
  · exact lv_if_eq hx hb hd ht (fun h => kt (decide_eq_true (e0.mp h))) (fun h => kf (decide_eq_false (fun q => h (e0.mpr q))))
  · exact lv_if_ne hx hb hd ht (fun h => kt (decide_eq_true (fun q => h (e0.mpr q)))) (fun h => kf (decide_eq_false (fun q => q (e0.mp h))))
  · exact lv_if_lt hx hb hd ht (fun h => kt (decide_eq_true (e1.mp h))) (fun h => kf (decide_eq_false (fun q => h (e1.mpr q))))
  · exact lv_if_ge hx hb hd ht (fun h => kt (decide_eq_true (e2.mp h))) (fun h => kf (decide_eq_false (fun q => h (e2.mpr q))))
  · exact lv_if_gt hx hb hd ht (fun h => kt (decide_eq_true (e3.mp h))) (fun h => kf (decide_eq_false (fun q => h (e3.mpr q))))
  · exact lv_if_le hx hb hd ht (fun h => kt (decide_eq_true (e4.mp h))) (fun h => kf (decide_eq_false (fun q => h (e4.mpr q))))
theorem m_icmp_row {k tgt : Nat} {x w off : Int} (hx : p.tables.exec = Jvm.exec) (hb : c.code = cc) (hd : decode cc pc = .ok (.if_icmp (m_cq k) off, 3)) (ht : (pc : Int) + off = (tgt : Int)) (hi : m_in x) (hw : m_in w)
    (kt : m_cnd k x w = true → W p l e R s m args below meth c H locs cells slots Q (F0 m tgt ls rest)) (kf : m_cnd k x w = false → W p l e R s m args below meth c H locs cells slots Q (F0 m (pc + 3) ls rest)) : W p l e R s m args below meth c H locs cells slots Q (F0 m pc ls (.int (Int32.ofInt w) :: .int (Int32.ofInt x) :: rest)) := by
  have e0 := m_eq hi hw
  have e1 := m_lt hi hw
  have e2 := m_le hw hi
  have e3 := m_lt hw hi
  have e4 := m_le hi hw
  rcases m_k6 k with rfl | rfl | rfl | rfl | rfl | ⟨j, rfl⟩
  · exact lv_icmp_eq hx hb hd ht (fun h => kt (decide_eq_true (e0.mp h))) (fun h => kf (decide_eq_false (fun q => h (e0.mpr q))))
  · exact lv_icmp_ne hx hb hd ht (fun h => kt (decide_eq_true (fun q => h (e0.mpr q)))) (fun h => kf (decide_eq_false (fun q => q (e0.mp h))))
  · exact lv_icmp_lt hx hb hd ht (fun h => kt (decide_eq_true (e1.mp h))) (fun h => kf (decide_eq_false (fun q => h (e1.mpr q))))
  · exact lv_icmp_ge hx hb hd ht (fun h => kt (decide_eq_true (e2.mp h))) (fun h => kf (decide_eq_false (fun q => h (e2.mpr q))))
  · exact lv_icmp_gt hx hb hd ht (fun h => kt (decide_eq_true (e3.mp h))) (fun h => kf (decide_eq_false (fun q => h (e3.mpr q))))
  · exact lv_icmp_le hx hb hd ht (fun h => kt (decide_eq_true (e4.mp h))) (fun h => kf (decide_eq_false (fun q => h (e4.mpr q))))
theorem m_ls_off {y : Nat} {d x : Int} {dd : Nat} (hd : (pc : Int) + d = (m_stt y dd : Nat)) : ∀ (ps : List (Int × Int)) (ks : List (Int × Nat)), ps.map (fun q => (q.1, (pc : Int) + q.2)) = ks.map (fun q => (q.1, ((m_stt y q.2 : Nat) : Int))) → (pc : Int) + Op.lookupswitch.offset ps d x = (m_stt y (m_lsb ks dd x) : Nat)
  | [], [], _ => by simpa [Op.lookupswitch.offset, m_lsb] using hd
  | [], _ :: _, h => by simp at h
  | _ :: _, [], h => by simp at h
  | (a, o) :: ps, (k, w) :: ks, h => by
    simp only [List.map_cons, List.cons.injEq, Prod.mk.injEq] at h
    obtain ⟨⟨rfl, h2⟩, h3⟩ := h
    rw [Op.lookupswitch.offset_cons]
    unfold m_lsb
    by_cases hc : x = a
    · rw [if_pos hc.symm, if_pos hc]; exact h2
    · rw [if_neg (fun q => hc q.symm), if_neg hc]; exact m_ls_off hd ps ks h3
theorem m_ts_row {y a len : Nat} {x : Int} {r : Instr} (hx : p.tables.exec = Jvm.exec) (hb : c.code = cc) (hr : m_okt y pc r a = true) (hd : decode cc pc = .ok (r, len)) (hi : m_in x)
    (k : W p l e R s m args below meth c H locs cells slots Q (F0 m (m_stt y (m_tsb (m_tsl a) x)) ls rest)) : W p l e R s m args below meth c H locs cells slots Q (F0 m pc ls (.int (Int32.ofInt x) :: rest)) := by
  unfold m_okt at hr
  split at hr
  next d lo hi2 offs =>
    simp only [Bool.and_eq_true, decide_eq_true_eq] at hr
    obtain ⟨h1, h2, h3, h4⟩ := hr
    have ex := m_ofI hi
    unfold m_tsb at k
    split at k
    next hc => exact lv_tableOut hx hb hd (by rw [ex]; omega) h3 k
    next hc =>
      have hk : (x - (m_tsl a).1).toNat < (m_tsl a).2.2.length := by omega
      have hg : (m_tsl a).2.2[(x - (m_tsl a).1).toNat]? = some ((m_tsl a).2.2.getD (x - (m_tsl a).1).toNat (m_tsl a).2.1) := by
        rw [List.getD_eq_getElem?_getD, List.getElem?_eq_getElem hk]; rfl
      have h5 := congrArg (fun l => l[(x - (m_tsl a).1).toNat]?) h4
      simp only [List.getElem?_map, hg, Option.map_some] at h5
      obtain ⟨o, ho, ho2⟩ := Option.map_eq_some_iff.mp h5
      exact lv_tableIn hx hb hd (by rw [ex]; omega) (by rw [ex]; omega) (off := o) (by rw [ex, h1, ← Array.getElem?_toList]; exact ho) ho2 k
  next => cases hr
theorem m_ls_row {y a len : Nat} {x : Int} {r : Instr} (hx : p.tables.exec = Jvm.exec) (hb : c.code = cc) (hr : m_oku y pc r a = true) (hd : decode cc pc = .ok (r, len)) (hi : m_in x)
    (k : W p l e R s m args below meth c H locs cells slots Q (F0 m (m_stt y (m_lsb (m_lsl a).2 (m_lsl a).1 x)) ls rest)) : W p l e R s m args below meth c H locs cells slots Q (F0 m pc ls (.int (Int32.ofInt x) :: rest)) := by
  unfold m_oku at hr
  split at hr
  next d ps =>
    simp only [Bool.and_eq_true, decide_eq_true_eq] at hr
    obtain ⟨h1, h2, h3⟩ := hr
    have ex := m_ofI hi
    exact lv_lookup hx hb hd h1 rfl (by rw [ex]; exact m_ls_off h2 _ _ h3) k
  next => cases hr
end MB
