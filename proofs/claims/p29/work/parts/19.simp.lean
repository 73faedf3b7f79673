/-! the equations in the form in which simp uses them -/
theorem m_lim_none {α : Type} {f : Nat → Option α} (h : ∀ n, f n = none) : m_lim f = none := by
  cases q : m_lim f with
  | none => rfl
  | some a => obtain ⟨n, hn⟩ := m_lim_ex q; rw [h n] at hn; cases hn
def m_kI {α : Type} (v : m_V) (k : Int → Option α) : Option α := match v with
  | .inl x => k x
  | _ => none
def m_kJ {α : Type} (v : m_V) (k : Int → Option α) : Option α := match v with
  | .inr (.inl x) => k x
  | _ => none
def m_kF {α : Type} (v : m_V) (k : UInt32 → Option α) : Option α := match v with
  | .inr (.inr (.inl x)) => k x
  | _ => none
def m_kR {α : Type} (v : m_V) (k : m_V → Option α) : Option α := match v with
  | .inr (.inr (.inr (.inl (some x)))) => k (m_R x)
  | .inr (.inr (.inr (.inr true))) => k m_S
  | _ => none
theorem m_kI_I {α : Type} {x : Int} {k : Int → Option α} : m_kI (m_I x) k = k x := rfl
theorem m_kJ_J {α : Type} {x : Int} {k : Int → Option α} : m_kJ (m_J x) k = k x := rfl
theorem m_kF_F {α : Type} {x : UInt32} {k : UInt32 → Option α} : m_kF (m_F x) k = k x := rfl
theorem m_kR_R {α : Type} {x : Nat} {k : m_V → Option α} : m_kR (m_R x) k = k (m_R x) := rfl
theorem m_kR_S {α : Type} {k : m_V → Option α} : m_kR m_S k = k m_S := rfl
section EQS
variable {X : Option (Nat × (Nat → Int))} {f : m_C} {y : Nat} {is : List m_P} {ls st r : List m_V} {μ : m_M} {a b : Nat} {z : Int}
theorem e_stuck {i : m_P} (h8 : 10 ≤ i.1) (h : m_stp X i ls st μ = none) : m_e X f y (i :: is) ls st μ = none := by
  refine m_lim_none (fun n => ?_)
  cases n with
  | zero => rfl
  | succ n =>
    obtain ⟨op, a, b, z⟩ := i
    obtain ⟨j, rfl⟩ : ∃ j, op = j + 10 := ⟨op - 10, by have : 10 ≤ op := h8; omega⟩
    show (match m_stp X (j + 10, a, b, z) ls st μ with
        | some q => m_run X f y n is q.1 q.2.1 q.2.2
        | none => none) = _
    rw [h]
theorem s_il : m_e X f y ((14, a, b, z) :: is) ls r μ = m_kI (m_ld ls a) (fun x => m_e X f y is ls (m_I x :: r) μ) := by
  unfold m_kI
  split
  next x h => exact e_il h
  next h =>
    refine e_stuck (Nat.le_of_ble_eq_true rfl) ?_
    show (m_lk 14 a z ls r).map (fun q => (q.1, q.2, μ)) = none
    simp only [m_lk]
    rfl
theorem s_ll : m_e X f y ((15, a, b, z) :: is) ls r μ = m_kJ (m_ld ls a) (fun x => m_e X f y is ls (m_J x :: r) μ) := by
  unfold m_kJ
  split
  next x h => exact e_ll h
  next h =>
    refine e_stuck (Nat.le_of_ble_eq_true rfl) ?_
    show (m_lk 15 a z ls r).map (fun q => (q.1, q.2, μ)) = none
    simp only [m_lk]
    rfl
theorem s_fl : m_e X f y ((16, a, b, z) :: is) ls r μ = m_kF (m_ld ls a) (fun x => m_e X f y is ls (m_F x :: r) μ) := by
  unfold m_kF
  split
  next x h => exact e_fl h
  next h =>
    refine e_stuck (Nat.le_of_ble_eq_true rfl) ?_
    show (m_lk 16 a z ls r).map (fun q => (q.1, q.2, μ)) = none
    simp only [m_lk]
    rfl
theorem s_al : m_e X f y ((17, a, b, z) :: is) ls r μ = m_kR (m_ld ls a) (fun x => m_e X f y is ls (x :: r) μ) := by
  unfold m_kR
  split
  next x h => exact e_al h
  next h => exact e_as h
  next h h' =>
    refine e_stuck (Nat.le_of_ble_eq_true rfl) ?_
    show (m_lk 17 a z ls r).map (fun q => (q.1, q.2, μ)) = none
    simp only [m_lk]
    rfl
theorem s_inc : m_e X f y ((22, a, b, z) :: is) ls r μ = m_kI (m_ld ls a) (fun x => m_e X f y is (m_s1 ls a (m_I (m_w (x + z)))) r μ) := by
  unfold m_kI
  split
  next x h => exact e_inc h
  next h =>
    refine e_stuck (Nat.le_of_ble_eq_true rfl) ?_
    show (m_lk 22 a z ls r).map (fun q => (q.1, q.2, μ)) = none
    simp only [m_lk]
    rfl
theorem s_gr {c : Nat} (h : m_gk μ c = (0, a)) : m_e X f y ((53, a, b, 3) :: is) ls (m_R c :: r) μ = m_e X f y is ls (m_O (m_gr μ c b) :: r) μ := e_gf h
theorem s_ia {c : Nat} {i : Int} (h : (m_gk μ c).1 = 1) : m_e X f y ((59, a, b, z) :: is) ls (m_I i :: m_R c :: r) μ = if 0 ≤ i ∧ i < (m_gk μ c).2 then m_e X f y is ls (m_I (μ.2 c i.toNat) :: r) μ else none := by
  split
  next h2 => exact e_ia h h2.1 h2.2
  next h2 =>
    refine e_stuck (Nat.le_of_ble_eq_true rfl) ?_
    show (m_mk X 59 _ _ _ (m_I i :: m_R c :: r) μ).map (fun q => (ls, q.1, q.2)) = none
    simp only [m_mk]
    rw [if_neg (fun w => h2 w.2)]
    rfl
theorem s_la {c : Nat} {i : Int} (h : (m_gk μ c).1 = 2) : m_e X f y ((60, a, b, z) :: is) ls (m_I i :: m_R c :: r) μ = if 0 ≤ i ∧ i < (m_gk μ c).2 then m_e X f y is ls (m_J (μ.2 c i.toNat) :: r) μ else none := by
  split
  next h2 => exact e_la h h2.1 h2.2
  next h2 =>
    refine e_stuck (Nat.le_of_ble_eq_true rfl) ?_
    show (m_mk X 60 _ _ _ (m_I i :: m_R c :: r) μ).map (fun q => (ls, q.1, q.2)) = none
    simp only [m_mk]
    rw [if_neg (fun w => h2 w.2)]
    rfl
theorem s_ba {c : Nat} {i : Int} (h : (m_gk μ c).1 = 3) : m_e X f y ((61, a, b, z) :: is) ls (m_I i :: m_R c :: r) μ = if 0 ≤ i ∧ i < (m_gk μ c).2 then m_e X f y is ls (m_I (μ.2 c i.toNat) :: r) μ else none := by
  split
  next h2 => exact e_ba h h2.1 h2.2
  next h2 =>
    refine e_stuck (Nat.le_of_ble_eq_true rfl) ?_
    show (m_mk X 61 _ _ _ (m_I i :: m_R c :: r) μ).map (fun q => (ls, q.1, q.2)) = none
    simp only [m_mk]
    rw [if_neg (fun w => h2 w.2)]
    rfl
theorem s_aa {c : Nat} {i : Int} (h : (m_gk μ c).1 = 4) : m_e X f y ((62, a, b, z) :: is) ls (m_I i :: m_R c :: r) μ = if 0 ≤ i ∧ i < (m_gk μ c).2 then m_e X f y is ls (m_O (m_gr μ c i.toNat) :: r) μ else none := by
  split
  next h2 => exact e_aa h h2.1 h2.2
  next h2 =>
    refine e_stuck (Nat.le_of_ble_eq_true rfl) ?_
    show (m_mk X 62 _ _ _ (m_I i :: m_R c :: r) μ).map (fun q => (ls, q.1, q.2)) = none
    simp only [m_mk]
    rw [if_neg (fun w => h2 w.2)]
    rfl
theorem s_ias {c : Nat} {i x : Int} (h : (m_gk μ c).1 = 1) : m_e X f y ((63, a, b, z) :: is) ls (m_I x :: m_I i :: m_R c :: r) μ = if 0 ≤ i ∧ i < (m_gk μ c).2 then m_e X f y is ls r (μ.1, m_up μ.2 c i.toNat (x)) else none := by
  split
  next h2 => exact e_ias h h2.1 h2.2
  next h2 =>
    refine e_stuck (Nat.le_of_ble_eq_true rfl) ?_
    show (m_mk X 63 _ _ _ (m_I x :: m_I i :: m_R c :: r) μ).map (fun q => (ls, q.1, q.2)) = none
    simp only [m_mk]
    rw [if_neg (fun w => h2 w.2)]
    rfl
theorem s_las {c : Nat} {i x : Int} (h : (m_gk μ c).1 = 2) : m_e X f y ((64, a, b, z) :: is) ls (m_J x :: m_I i :: m_R c :: r) μ = if 0 ≤ i ∧ i < (m_gk μ c).2 then m_e X f y is ls r (μ.1, m_up μ.2 c i.toNat (x)) else none := by
  split
  next h2 => exact e_las h h2.1 h2.2
  next h2 =>
    refine e_stuck (Nat.le_of_ble_eq_true rfl) ?_
    show (m_mk X 64 _ _ _ (m_J x :: m_I i :: m_R c :: r) μ).map (fun q => (ls, q.1, q.2)) = none
    simp only [m_mk]
    rw [if_neg (fun w => h2 w.2)]
    rfl
theorem s_bas {c : Nat} {i x : Int} (h : (m_gk μ c).1 = 3) : m_e X f y ((65, a, b, z) :: is) ls (m_I x :: m_I i :: m_R c :: r) μ = if 0 ≤ i ∧ i < (m_gk μ c).2 then m_e X f y is ls r (μ.1, m_up μ.2 c i.toNat (m_b x)) else none := by
  split
  next h2 => exact e_bas h h2.1 h2.2
  next h2 =>
    refine e_stuck (Nat.le_of_ble_eq_true rfl) ?_
    show (m_mk X 65 _ _ _ (m_I x :: m_I i :: m_R c :: r) μ).map (fun q => (ls, q.1, q.2)) = none
    simp only [m_mk]
    rw [if_neg (fun w => h2 w.2)]
    rfl
theorem m_cal_none {n : Nat} (h : m_cal f a n z st μ = none) : m_e X f y ((7, a, n, z) :: is) ls st μ = none := by
  refine m_lim_none (fun k => ?_)
  cases k with
  | zero => rfl
  | succ k =>
    show (match m_cal f a n z st μ with
        | some q => m_run X f y k is ls q.1 q.2
        | none => none) = none
    rw [h]
theorem s_call {n : Nat} {as : List m_V} (hst : st = as.reverse ++ r) (hn : n = as.length) (hr : r.length ≤ 4) (hrc : m_rcv z as μ = true) : m_e X f y ((7, a, n, z) :: is) ls st μ = (f a as μ).bind (fun q => m_e X f y is ls (q.1.toList ++ r) q.2) := by
  cases hf : f a as μ with
  | some q => exact e_call hst hn hr hrc hf
  | none =>
    refine m_cal_none ?_
    subst hst hn
    have h1 : (as.reverse ++ r).take as.length = as.reverse := by rw [← List.length_reverse, List.take_left]
    unfold m_cal
    rw [h1, List.reverse_reverse, hf]
    split <;> rfl
theorem s_v1 {c : Nat} (hk : m_gk μ c = (0, z.toNat) ∧ 0 ≤ z ∧ r.length ≤ 4) : m_e X f y ((7, a, 1, z) :: is) ls (m_R c :: r) μ = (f a [m_R c] μ).bind (fun q => m_e X f y is ls (q.1.toList ++ r) q.2) := s_call (as := [m_R c]) rfl rfl hk.2.2 (by unfold m_rcv; rw [if_neg (by have := hk.2.1; omega)]; dsimp only; rw [if_neg (by have := hk.2.1; omega)]; exact decide_eq_true hk.1)
theorem s_s1 {v1 : m_V} (hr : r.length ≤ 4) : m_e X f y ((7, a, 1, -1) :: is) ls (v1 :: r) μ = (f a [v1] μ).bind (fun q => m_e X f y is ls (q.1.toList ++ r) q.2) := s_call (as := [v1]) rfl rfl hr rfl
theorem s_v2 {c : Nat} {v1 : m_V} (hk : m_gk μ c = (0, z.toNat) ∧ 0 ≤ z ∧ r.length ≤ 4) : m_e X f y ((7, a, 2, z) :: is) ls (v1 :: m_R c :: r) μ = (f a [m_R c, v1] μ).bind (fun q => m_e X f y is ls (q.1.toList ++ r) q.2) := s_call (as := [m_R c, v1]) rfl rfl hk.2.2 (by unfold m_rcv; rw [if_neg (by have := hk.2.1; omega)]; dsimp only; rw [if_neg (by have := hk.2.1; omega)]; exact decide_eq_true hk.1)
theorem s_s2 {v1 v2 : m_V} (hr : r.length ≤ 4) : m_e X f y ((7, a, 2, -1) :: is) ls (v2 :: v1 :: r) μ = (f a [v1, v2] μ).bind (fun q => m_e X f y is ls (q.1.toList ++ r) q.2) := s_call (as := [v1, v2]) rfl rfl hr rfl
theorem s_v3 {c : Nat} {v1 v2 : m_V} (hk : m_gk μ c = (0, z.toNat) ∧ 0 ≤ z ∧ r.length ≤ 4) : m_e X f y ((7, a, 3, z) :: is) ls (v2 :: v1 :: m_R c :: r) μ = (f a [m_R c, v1, v2] μ).bind (fun q => m_e X f y is ls (q.1.toList ++ r) q.2) := s_call (as := [m_R c, v1, v2]) rfl rfl hk.2.2 (by unfold m_rcv; rw [if_neg (by have := hk.2.1; omega)]; dsimp only; rw [if_neg (by have := hk.2.1; omega)]; exact decide_eq_true hk.1)
theorem s_s3 {v1 v2 v3 : m_V} (hr : r.length ≤ 4) : m_e X f y ((7, a, 3, -1) :: is) ls (v3 :: v2 :: v1 :: r) μ = (f a [v1, v2, v3] μ).bind (fun q => m_e X f y is ls (q.1.toList ++ r) q.2) := s_call (as := [v1, v2, v3]) rfl rfl hr rfl
theorem s_v4 {c : Nat} {v1 v2 v3 : m_V} (hk : m_gk μ c = (0, z.toNat) ∧ 0 ≤ z ∧ r.length ≤ 4) : m_e X f y ((7, a, 4, z) :: is) ls (v3 :: v2 :: v1 :: m_R c :: r) μ = (f a [m_R c, v1, v2, v3] μ).bind (fun q => m_e X f y is ls (q.1.toList ++ r) q.2) := s_call (as := [m_R c, v1, v2, v3]) rfl rfl hk.2.2 (by unfold m_rcv; rw [if_neg (by have := hk.2.1; omega)]; dsimp only; rw [if_neg (by have := hk.2.1; omega)]; exact decide_eq_true hk.1)
theorem s_s4 {v1 v2 v3 v4 : m_V} (hr : r.length ≤ 4) : m_e X f y ((7, a, 4, -1) :: is) ls (v4 :: v3 :: v2 :: v1 :: r) μ = (f a [v1, v2, v3, v4] μ).bind (fun q => m_e X f y is ls (q.1.toList ++ r) q.2) := s_call (as := [v1, v2, v3, v4]) rfl rfl hr rfl
theorem s_v5 {c : Nat} {v1 v2 v3 v4 : m_V} (hk : m_gk μ c = (0, z.toNat) ∧ 0 ≤ z ∧ r.length ≤ 4) : m_e X f y ((7, a, 5, z) :: is) ls (v4 :: v3 :: v2 :: v1 :: m_R c :: r) μ = (f a [m_R c, v1, v2, v3, v4] μ).bind (fun q => m_e X f y is ls (q.1.toList ++ r) q.2) := s_call (as := [m_R c, v1, v2, v3, v4]) rfl rfl hk.2.2 (by unfold m_rcv; rw [if_neg (by have := hk.2.1; omega)]; dsimp only; rw [if_neg (by have := hk.2.1; omega)]; exact decide_eq_true hk.1)
theorem s_s5 {v1 v2 v3 v4 v5 : m_V} (hr : r.length ≤ 4) : m_e X f y ((7, a, 5, -1) :: is) ls (v5 :: v4 :: v3 :: v2 :: v1 :: r) μ = (f a [v1, v2, v3, v4, v5] μ).bind (fun q => m_e X f y is ls (q.1.toList ++ r) q.2) := s_call (as := [v1, v2, v3, v4, v5]) rfl rfl hr rfl
theorem s_v6 {c : Nat} {v1 v2 v3 v4 v5 : m_V} (hk : m_gk μ c = (0, z.toNat) ∧ 0 ≤ z ∧ r.length ≤ 4) : m_e X f y ((7, a, 6, z) :: is) ls (v5 :: v4 :: v3 :: v2 :: v1 :: m_R c :: r) μ = (f a [m_R c, v1, v2, v3, v4, v5] μ).bind (fun q => m_e X f y is ls (q.1.toList ++ r) q.2) := s_call (as := [m_R c, v1, v2, v3, v4, v5]) rfl rfl hk.2.2 (by unfold m_rcv; rw [if_neg (by have := hk.2.1; omega)]; dsimp only; rw [if_neg (by have := hk.2.1; omega)]; exact decide_eq_true hk.1)
theorem s_s6 {v1 v2 v3 v4 v5 v6 : m_V} (hr : r.length ≤ 4) : m_e X f y ((7, a, 6, -1) :: is) ls (v6 :: v5 :: v4 :: v3 :: v2 :: v1 :: r) μ = (f a [v1, v2, v3, v4, v5, v6] μ).bind (fun q => m_e X f y is ls (q.1.toList ++ r) q.2) := s_call (as := [v1, v2, v3, v4, v5, v6]) rfl rfl hr rfl
end EQS
theorem m_ld0 {v : m_V} {r : List m_V} : m_ld (v :: r) 0 = v := rfl
theorem m_ldS {v : m_V} {r : List m_V} {n : Nat} : m_ld (v :: r) (n + 1) = m_ld r n := rfl
theorem m_st0 {v w : m_V} {r : List m_V} : m_st (v :: r) 0 w = w :: r := rfl
theorem m_stS {v w : m_V} {r : List m_V} {n : Nat} : m_st (v :: r) (n + 1) w = v :: m_st r n w := rfl
