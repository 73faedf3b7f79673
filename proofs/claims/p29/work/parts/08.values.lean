/-! the pure machine's values and the machine's -/
def m_in (z : Int) : Prop := -2147483648 ≤ z ∧ z < 2147483648
def m_il (z : Int) : Prop := -9223372036854775808 ≤ z ∧ z < 9223372036854775808
def m_re (ads : Nat → Nat) (b : Nat) : m_V → Value
  | .inl z => .int (Int32.ofInt z)
  | .inr (.inl z) => .long (Int64.ofInt z)
  | .inr (.inr (.inl f)) => .float f
  | .inr (.inr (.inr (.inl o))) => va_rf (o.map ads)
  | .inr (.inr (.inr (.inr true))) => .ref b
  | .inr (.inr (.inr (.inr false))) => .null
/-- in range; references to cells below n -/
def m_okw (n : Nat) : m_V → Prop
  | .inl z => m_in z
  | .inr (.inl z) => m_il z
  | .inr (.inr (.inr (.inl o))) => ∀ k, o = some k → k < n
  | _ => True
theorem m_ofI {z : Int} (h : m_in z) : (Int32.ofInt z).toInt = z := Int32.toInt_ofInt_of_le (by have := h.1; omega) (by have := h.2; omega)
theorem m_ofL {z : Int} (h : m_il z) : (Int64.ofInt z).toInt = z := Int64.toInt_ofInt_of_le (by have := h.1; omega) (by have := h.2; omega)
theorem m_inI (x : Int32) : m_in x.toInt := ⟨by have := x.le_toInt; omega, by have := x.toInt_lt; omega⟩
theorem m_ilL (x : Int64) : m_il x.toInt := ⟨by have := x.le_toInt; omega, by have := x.toInt_lt; omega⟩
theorem m_w_bm (z : Int) : m_w z = z.bmod (2 ^ 32) := by
  unfold m_w Int.bmod
  simp only [show (2 ^ 32 : Nat) = 4294967296 from rfl]
  split <;> omega
theorem m_inw (z : Int) : m_in (m_w z) := by unfold m_in m_w; omega
theorem m_ilx (z : Int) : m_il (m_x z) := by unfold m_il m_x; omega
theorem m_x_bm (z : Int) : m_x z = z.bmod (2 ^ 64) := by
  unfold m_x Int.bmod
  simp only [show (2 ^ 64 : Nat) = 18446744073709551616 from rfl]
  split <;> omega
theorem m_b_bm (z : Int) : m_b z = z.bmod (2 ^ 8) := by
  unfold m_b Int.bmod
  simp only [show (2 ^ 8 : Nat) = 256 from rfl]
  split <;> omega
theorem m_eqI {z : Int} (h : m_in z) {x : Int32} (e : x.toInt = z) : Int32.ofInt z = x := Int32.toInt_inj.mp ((m_ofI h).trans e.symm)
theorem m_eqL {z : Int} (h : m_il z) {x : Int64} (e : x.toInt = z) : Int64.ofInt z = x := Int64.toInt_inj.mp ((m_ofL h).trans e.symm)
theorem m_add {x y : Int} (hx : m_in x) (hy : m_in y) : Int32.ofInt (m_w (x + y)) = Int32.ofInt x + Int32.ofInt y := m_eqI (m_inw _) (by rw [Int32.toInt_add, m_ofI hx, m_ofI hy, m_w_bm])
theorem m_sub {x y : Int} (hx : m_in x) (hy : m_in y) : Int32.ofInt (m_w (x - y)) = Int32.ofInt x - Int32.ofInt y := m_eqI (m_inw _) (by rw [Int32.toInt_sub, m_ofI hx, m_ofI hy, m_w_bm])
theorem m_mul {x y : Int} (hx : m_in x) (hy : m_in y) : Int32.ofInt (m_w (x * y)) = Int32.ofInt x * Int32.ofInt y := m_eqI (m_inw _) (by rw [Int32.toInt_mul, m_ofI hx, m_ofI hy, m_w_bm])
theorem m_div {x y : Int} (hx : m_in x) (hy : m_in y) : Int32.ofInt (m_w (Int.tdiv x y)) = Int32.ofInt x / Int32.ofInt y := m_eqI (m_inw _) (by rw [Int32.toInt_div, m_ofI hx, m_ofI hy, m_w_bm])
theorem m_neg {x : Int} (hx : m_in x) : Int32.ofInt (m_w (-x)) = -Int32.ofInt x := m_eqI (m_inw _) (by rw [Int32.toInt_neg, m_ofI hx, m_w_bm])
theorem m_rem_t {x y : Int} (hx : m_in x) (hy : m_in y) : (Int32.ofInt x - Int32.ofInt x / Int32.ofInt y * Int32.ofInt y).toInt = Int.tmod x y := by rw [rem_toInt, m_ofI hx, m_ofI hy]
theorem m_rem {x y : Int} (hx : m_in x) (hy : m_in y) : m_in (Int.tmod x y) ∧ Int32.ofInt (Int.tmod x y) = Int32.ofInt x - Int32.ofInt x / Int32.ofInt y * Int32.ofInt y := by
  have h : m_in (Int.tmod x y) := by rw [← m_rem_t hx hy]; exact m_inI _
  exact ⟨h, m_eqI h (m_rem_t hx hy)⟩
theorem m_ne0 {y : Int} (hy : m_in y) (h : ¬ y = 0) : ¬ Int32.ofInt y = 0 := fun q => h (by rw [← m_ofI hy, q]; decide)
theorem m_ne0L {y : Int} (hy : m_il y) (h : ¬ y = 0) : ¬ Int64.ofInt y = 0 := fun q => h (by rw [← m_ofL hy, q]; decide)
theorem m_addL {x y : Int} (hx : m_il x) (hy : m_il y) : Int64.ofInt (m_x (x + y)) = Int64.ofInt x + Int64.ofInt y := m_eqL (m_ilx _) (by rw [Int64.toInt_add, m_ofL hx, m_ofL hy, m_x_bm])
theorem m_subL {x y : Int} (hx : m_il x) (hy : m_il y) : Int64.ofInt (m_x (x - y)) = Int64.ofInt x - Int64.ofInt y := m_eqL (m_ilx _) (by rw [Int64.toInt_sub, m_ofL hx, m_ofL hy, m_x_bm])
theorem m_mulL {x y : Int} (hx : m_il x) (hy : m_il y) : Int64.ofInt (m_x (x * y)) = Int64.ofInt x * Int64.ofInt y := m_eqL (m_ilx _) (by rw [Int64.toInt_mul, m_ofL hx, m_ofL hy, m_x_bm])
theorem m_divL {x y : Int} (hx : m_il x) (hy : m_il y) : Int64.ofInt (m_x (Int.tdiv x y)) = Int64.ofInt x / Int64.ofInt y := m_eqL (m_ilx _) (by rw [Int64.toInt_div, m_ofL hx, m_ofL hy, m_x_bm])
theorem m_negL {x : Int} (hx : m_il x) : Int64.ofInt (m_x (-x)) = -Int64.ofInt x := m_eqL (m_ilx _) (by rw [Int64.toInt_neg, m_ofL hx, m_x_bm])
theorem m_lrem (x y : Int64) : x - x / y * y = x % y := by
  apply Int64.toInt_inj.mp
  have h1 := Int64.le_toInt (x % y)
  have h2 := Int64.toInt_lt (x % y)
  rw [Int64.toInt_sub, Int64.toInt_mul, Int64.toInt_div, Int.bmod_mul_bmod, Int.sub_bmod_bmod, Int.mul_comm (x.toInt.tdiv y.toInt), ← Int.tmod_def, ← Int64.toInt_mod]
  exact Int.bmod_eq_of_le_mul_two (by omega) (by omega)
theorem m_rem_tL {x y : Int} (hx : m_il x) (hy : m_il y) : (Int64.ofInt x - Int64.ofInt x / Int64.ofInt y * Int64.ofInt y).toInt = Int.tmod x y := by rw [m_lrem, Int64.toInt_mod, m_ofL hx, m_ofL hy]
theorem m_remL {x y : Int} (hx : m_il x) (hy : m_il y) : m_il (Int.tmod x y) ∧ Int64.ofInt (Int.tmod x y) = Int64.ofInt x - Int64.ofInt x / Int64.ofInt y * Int64.ofInt y := by
  have h : m_il (Int.tmod x y) := by rw [← m_rem_tL hx hy]; exact m_ilL _
  exact ⟨h, m_eqL h (m_rem_tL hx hy)⟩
theorem m_cmp_in (x y : Int) : m_in (m_cmp x y) := by
  unfold m_cmp m_in
  split
  · decide
  · split <;> decide
theorem m_cmpL {x y : Int} (hx : m_il x) (hy : m_il y) : Int32.ofInt (m_cmp x y) = lg_cmp (Int64.ofInt x) (Int64.ofInt y) := by
  have e1 : (Int64.ofInt x > Int64.ofInt y) ↔ y < x := by rw [gt_iff_lt, Int64.lt_iff_toInt_lt, m_ofL hx, m_ofL hy]
  have e2 : (Int64.ofInt x = Int64.ofInt y) ↔ x = y := by rw [← Int64.toInt_inj, m_ofL hx, m_ofL hy]
  unfold m_cmp lg_cmp
  by_cases h1 : y < x
  · rw [if_pos h1, if_pos (e1.mpr h1)]; decide
  · rw [if_neg h1, if_neg (fun q => h1 (e1.mp q))]
    by_cases h2 : x = y
    · rw [if_pos h2, if_pos (e2.mpr h2)]; decide
    · rw [if_neg h2, if_neg (fun q => h2 (e2.mp q))]; decide
theorem m_i2l {x : Int} (hx : m_in x) : (Int32.ofInt x).toInt64 = Int64.ofInt x := (m_eqL ⟨by have := hx.1; omega, by have := hx.2; omega⟩ (by rw [Int32.toInt_toInt64, m_ofI hx])).symm
theorem m_in_b (x : Int) : m_in (m_b x) := by unfold m_in m_b; omega
theorem m_i2b {x : Int} (hx : m_in x) : (Int32.ofInt x).toInt8.toInt32 = Int32.ofInt (m_b x) := (m_eqI (m_in_b x) (by rw [lg_i2b_toInt, m_ofI hx, m_b_bm])).symm
theorem m_lt {x y : Int} (hx : m_in x) (hy : m_in y) : Int32.ofInt x < Int32.ofInt y ↔ x < y := by rw [Int32.lt_iff_toInt_lt, m_ofI hx, m_ofI hy]
theorem m_le {x y : Int} (hx : m_in x) (hy : m_in y) : Int32.ofInt x ≤ Int32.ofInt y ↔ x ≤ y := by rw [Int32.le_iff_toInt_le, m_ofI hx, m_ofI hy]
theorem m_eq {x y : Int} (hx : m_in x) (hy : m_in y) : Int32.ofInt x = Int32.ofInt y ↔ x = y := by rw [← Int32.toInt_inj, m_ofI hx, m_ofI hy]
theorem m_in0 : m_in 0 := by unfold m_in; decide
theorem m_of0 : Int32.ofInt 0 = 0 := by decide
theorem m_vpin {x : Int} (hx : m_in x) {n : Nat} (h0 : 0 ≤ x) (h1 : x < n) : vp_in (Int32.ofInt x) n := vp_in_iff.mpr (by rw [m_ofI hx]; exact ⟨h0, h1⟩)
theorem m_cl {x : Int} (hx : m_in x) : (Int32.ofInt x).toNatClampNeg = x.toNat := by
  show (Int32.ofInt x).toInt.toNat = x.toNat
  rw [m_ofI hx]
theorem m_nneg {x : Int} (hx : m_in x) (h : 0 ≤ x) : ¬ Int32.ofInt x < 0 := by
  rw [← m_of0, m_lt hx m_in0]; omega
/-! locals -/
theorem m_ld_st (v : m_V) : ∀ (l : List m_V) (i j : Nat), m_ld (m_st l i v) j = if j = i ∧ i < l.length then v else m_ld l j
  | [], i, j => by simp [m_st, m_ld]
  | a :: r, 0, 0 => by simp [m_st, m_ld]
  | a :: r, 0, j + 1 => by simp [m_st, m_ld]
  | a :: r, i + 1, 0 => by simp [m_st, m_ld]
  | a :: r, i + 1, j + 1 => by
    simp only [m_st, m_ld, List.length_cons, Nat.add_lt_add_iff_right, Nat.add_right_cancel_iff]
    exact m_ld_st v r i j
theorem m_len_st (v : m_V) : ∀ (l : List m_V) (i : Nat), (m_st l i v).length = l.length
  | [], _ => rfl
  | _ :: _, 0 => rfl
  | _ :: r, i + 1 => by simp [m_st, m_len_st v r i]
theorem m_ld_out : ∀ (l : List m_V) (j : Nat), l.length ≤ j → m_ld l j = m_U
  | [], _, _ => rfl
  | _ :: r, 0, h => absurd h (by simp)
  | _ :: r, j + 1, h => m_ld_out r j (by simpa using h)
theorem m_ld_rep (n j : Nat) : m_ld (List.replicate n m_U) j = m_U := by
  induction n generalizing j with
  | zero => rfl
  | succ n ih => cases j with
    | zero => rfl
    | succ j => exact ih j
def m_lg (v : m_V) : Bool := match v with
  | .inr (.inl _) => true
  | _ => false
theorem m_len_kl (l : List m_V) (i : Nat) : (m_kl l i).length = l.length := by
  unfold m_kl
  split
  · exact m_len_st _ _ _
  · rfl
theorem m_ld_kl (l : List m_V) (i j : Nat) : m_ld (m_kl l i) j = if j = i - 1 ∧ m_lg (m_ld l (i - 1)) = true then m_U else m_ld l j := by
  unfold m_kl
  split
  next z h =>
    rw [m_ld_st, h]
    have hl : i - 1 < l.length := Nat.not_le.mp fun q => by rw [m_ld_out l _ q] at h; cases h
    by_cases hj : j = i - 1
    · rw [if_pos ⟨hj, hl⟩, if_pos ⟨hj, rfl⟩]
    · rw [if_neg (fun q => hj q.1), if_neg (fun q => hj q.1)]
  next h =>
    rw [if_neg]
    rintro ⟨-, q⟩
    unfold m_lg at q
    split at q
    next z e => exact h z e
    next => cases q
theorem m_cat {ads : Nat → Nat} {b : Nat} (v : m_V) (h : m_lg v = false) : (m_re ads b v).category = 1 := by
  rcases v with z | z | z | o | u
  · rfl
  · cases h
  · rfl
  · cases o <;> rfl
  · cases u <;> rfl
def m_lh (ads : Nat → Nat) (b nL : Nat) (pls : List m_V) (ls : Array Slot) : Prop := pls.length = nL ∧ ls.size = nL ∧ lv_wf ls ∧ ∀ i, ¬ m_ld pls i = m_U → ls[i]? = some (.val (m_re ads b (m_ld pls i)))
def m_ll (ads : Nat → Nat) (b : Nat) (pls : List m_V) : List (Nat × Value) := ((List.range pls.length).filter (fun i => !decide (m_ld pls i = m_U))).map (fun i => (i, m_re ads b (m_ld pls i)))
theorem m_ll_in {ads : Nat → Nat} {b : Nat} {pls : List m_V} {j : Nat} (h : ¬ m_ld pls j = m_U) : (j, m_re ads b (m_ld pls j)) ∈ m_ll ads b pls := by
  refine List.mem_map.mpr ⟨j, List.mem_filter.mpr ⟨List.mem_range.mpr ?_, by simp [h]⟩, rfl⟩
  exact Nat.not_le.mp fun q => h (m_ld_out _ _ q)
theorem m_lh_has {ads : Nat → Nat} {b nL : Nat} {pls : List m_V} {ls : Array Slot} (h : m_lh ads b nL pls ls) : lv_has ls nL (m_ll ads b pls) := by
  refine ⟨h.2.1, h.2.2.1, fun q hq => ?_⟩
  obtain ⟨i, hi, rfl⟩ := List.mem_map.mp hq
  have := (List.mem_filter.mp hi).2
  exact h.2.2.2 i (by simpa using this)
theorem m_lh_s1 {ads : Nat → Nat} {b nL i : Nat} {pls : List m_V} {v : m_V} (hl : pls.length = nL) {ls' : Array Slot} (h : lv_has ls' nL ((i, m_re ads b v) :: (m_ll ads b pls).filter (fun q => !(q.1 == i) && !(q.1 + 1 == i && q.2.category == 2)))) : m_lh ads b nL (m_s1 pls i v) ls' := by
  refine ⟨?_, h.1, h.2.1, fun j hj => ?_⟩
  · rw [m_s1, m_len_st, m_len_kl, hl]
  · refine h.2.2 (j, _) ?_
    revert hj
    rw [m_s1, m_ld_st]
    by_cases hji : j = i ∧ i < (m_kl pls i).length
    · rw [if_pos hji]
      intro _
      rw [hji.1]
      exact List.mem_cons_self
    · rw [if_neg hji, m_ld_kl]
      split
      · intro q; exact absurd rfl q
      next hn =>
        intro hj
        refine List.mem_cons_of_mem _ (List.mem_filter.mpr ⟨m_ll_in hj, ?_⟩)
        have hne : j ≠ i := fun e => hji ⟨e, by
          rw [m_len_kl, ← e]
          exact Nat.not_le.mp fun q => hj (m_ld_out _ _ q)⟩
        simp only [Bool.and_eq_true, Bool.not_eq_true', beq_eq_false_iff_ne, ne_eq, hne, not_false_eq_true, true_and, Bool.and_eq_false_imp, beq_iff_eq]
        intro e
        have e2 : i - 1 = j := by omega
        have e3 : m_lg (m_ld pls j) = false := by
          cases q : m_lg (m_ld pls j) with
          | false => rfl
          | true => exact absurd ⟨e2.symm, by rw [e2]; exact q⟩ hn
        intro q
        exact absurd ((m_cat (ads := ads) (b := b) _ e3).symm.trans q) (by decide)
theorem m_lh_s2 {ads : Nat → Nat} {b nL i : Nat} {pls : List m_V} {v : m_V} (hl : pls.length = nL) {ls' : Array Slot} (h : lv_has ls' nL ((i, m_re ads b v) :: (m_ll ads b pls).filter (fun q => !(q.1 == i) && (!(q.1 == i + 1) && !(q.1 + 1 == i && q.2.category == 2))))) : m_lh ads b nL (m_s2 pls i v) ls' := by
  refine ⟨?_, h.1, h.2.1, fun j hj => ?_⟩
  · rw [m_s2, m_len_st, m_len_st, m_len_kl, hl]
  · refine h.2.2 (j, _) ?_
    revert hj
    rw [m_s2, m_ld_st]
    split
    · intro q; exact absurd rfl q
    next hn1 =>
    rw [m_ld_st]
    by_cases hji : j = i ∧ i < (m_kl pls i).length
    · rw [if_pos hji]
      intro _
      rw [hji.1]
      exact List.mem_cons_self
    · rw [if_neg hji, m_ld_kl]
      split
      · intro q; exact absurd rfl q
      next hn =>
        intro hj
        refine List.mem_cons_of_mem _ (List.mem_filter.mpr ⟨m_ll_in hj, ?_⟩)
        have hlt : j < pls.length := Nat.not_le.mp fun q => hj (m_ld_out _ _ q)
        have hne : j ≠ i := fun e => hji ⟨e, by rw [m_len_kl, ← e]; exact hlt⟩
        have hne2 : j ≠ i + 1 := fun e => hn1 ⟨e, by rw [m_len_st, m_len_kl, ← e]; exact hlt⟩
        simp only [Bool.and_eq_true, Bool.not_eq_true', beq_eq_false_iff_ne, ne_eq, hne, hne2, not_false_eq_true, true_and, Bool.and_eq_false_imp, beq_iff_eq]
        intro e
        have e2 : i - 1 = j := by omega
        have e3 : m_lg (m_ld pls j) = false := by
          cases q : m_lg (m_ld pls j) with
          | false => rfl
          | true => exact absurd ⟨e2.symm, by rw [e2]; exact q⟩ hn
        intro q
        exact absurd ((m_cat (ads := ads) (b := b) _ e3).symm.trans q) (by decide)
