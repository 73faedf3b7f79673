/-! floats: the class's own bits, for each chance that there is -/
def sfl : Nat → UInt32 → Option (Nat × UInt32)
  | 0, x => some (0, x)
  | n + 1, x => if m_fg x (UInt32.ofNat 1065353216) .g < 0 then (if FP.fmul x (UInt32.ofNat 1073741824) &&& 0x7fffffff ≤ 0x7f800000 then sfl n (FP.fmul x (UInt32.ofNat 1073741824)) else none) else some (n + 1, x)
def sfb (x : UInt32) : Option Int := if 0 < m_fg x (UInt32.ofNat 0) .g then (match sfl 126 x with
    | some q => if FP.fsub q.2 (UInt32.ofNat 1065353216) &&& 0x7fffffff ≤ 0x7f800000 ∧ FP.fmul (FP.fsub q.2 (UInt32.ofNat 1065353216)) (UInt32.ofNat 1258291200) &&& 0x7fffffff ≤ 0x7f800000 then some (m_w (m_shl ((q.1 : Int) + 1) 23 + (FP.f2i (FP.fmul (FP.fsub q.2 (UInt32.ofNat 1065353216)) (UInt32.ofNat 1258291200))).toInt)) else none
    | none => none) else some 0
def sfx (num den : Int) : UInt32 := FP.fdiv (FP.l2f (Int64.ofInt num)) (FP.l2f (Int64.ofInt den))
def sfk (num den : Int) : Bool := decide (0 < m_fg (FP.l2f (Int64.ofInt den)) (UInt32.ofNat 0) .l) && decide (sfx num den &&& 0x7fffffff ≤ 0x7f800000) && decide (m_fg (sfx num den) (sfx num den) .l = 0) && decide (sfb (sfx num den) = some (sfx num den).toInt32.toInt)
def sRn (w : Nat) : Nat → List Nat → List Nat
  | a, [] => [a * w]
  | a, b :: r => (b * (6 - w) + a * w) :: sRn w b r
def sRo (w : Nat) : Nat → List Nat
  | 0 => [1]
  | m + 1 => sRn w 0 (sRo w m)
def sSu : List Nat → List Nat
  | [] => [0]
  | a :: r => (a + (sSu r).getD 0 0) :: sSu r
def sfc (w m : Nat) : Bool := (sSu (sRo w m)).all (fun v => sfk ((v / Nat.gcd v (6 ^ m) : Nat) : Int) ((6 ^ m / Nat.gcd v (6 ^ m) : Nat) : Int))
set_option maxRecDepth 100000 in
theorem sfc_1 : (List.range 21).all (fun m => sfc 1 m) = true := by decide +kernel
set_option maxRecDepth 100000 in
theorem sfc_2 : (List.range 21).all (fun m => sfc 2 m) = true := by decide +kernel
theorem sRn_g (w : Nat) : ∀ (l : List Nat) (a n : Nat), (sRn w a l).getD n 0 = l.getD n 0 * (6 - w) + (if n = 0 then a else l.getD (n - 1) 0) * w
  | [], a, 0 => by simp [sRn]
  | [], a, n + 1 => by simp [sRn]
  | b :: r, a, 0 => by simp [sRn]
  | b :: r, a, n + 1 => by
    have h := sRn_g w r b n
    have e : (sRn w a (b :: r)).getD (n + 1) 0 = (sRn w b r).getD n 0 := rfl
    have e2 : (b :: r).getD (n + 1) 0 = r.getD n 0 := rfl
    rw [e, h, e2]
    cases n with
    | zero =>
      rw [if_pos rfl, if_neg (by omega)]
      rfl
    | succ n =>
      rw [if_neg (by omega), if_neg (by omega)]
      rfl
theorem sRo_g (w : Nat) : ∀ (m n : Nat), (sRo w m).getD n 0 = sEx w m n
  | 0, 0 => rfl
  | 0, n + 1 => rfl
  | m + 1, 0 => by
    show (sRn w 0 (sRo w m)).getD 0 0 = sEx w m 0 * (6 - w)
    rw [sRn_g, sRo_g w m 0, if_pos rfl, Nat.zero_mul, Nat.add_zero]
  | m + 1, n + 1 => by
    show (sRn w 0 (sRo w m)).getD (n + 1) 0 = sEx w m (n + 1) * (6 - w) + sEx w m n * w
    rw [sRn_g, sRo_g w m (n + 1), if_neg (by omega), show n + 1 - 1 = n by omega, sRo_g w m n]
theorem sRn_l (w : Nat) : ∀ (l : List Nat) (a : Nat), (sRn w a l).length = l.length + 1
  | [], _ => rfl
  | b :: r, a => by
    show (sRn w b r).length + 1 = _
    rw [sRn_l w r b]
    rfl
theorem sRo_l (w : Nat) : ∀ m, (sRo w m).length = m + 1
  | 0 => rfl
  | m + 1 => by
    show (sRn w 0 (sRo w m)).length = _
    rw [sRn_l, sRo_l w m]
theorem sSu_g : ∀ (l : List Nat) (j : Nat), (sSu l).getD j 0 = l.getD j 0 + (sSu l).getD (j + 1) 0
  | [], 0 => rfl
  | [], j + 1 => rfl
  | a :: r, 0 => rfl
  | a :: r, j + 1 => sSu_g r j
theorem sSu_z : ∀ (l : List Nat) (j : Nat), l.length ≤ j → (sSu l).getD j 0 = 0
  | [], 0, _ => rfl
  | [], j + 1, _ => rfl
  | a :: r, 0, h => absurd h (by simp)
  | a :: r, j + 1, h => sSu_z r j (by simp at h; exact h)
theorem sSu_e (w m : Nat) : ∀ (k j : Nat), m + 1 ≤ j + k → (sSu (sRo w m)).getD j 0 = sLe w m j
  | 0, j, h => by rw [sSu_z _ _ (by rw [sRo_l]; omega), sLe_z (by omega)]
  | k + 1, j, h => by
    by_cases g : m < j
    · rw [sSu_z _ _ (by rw [sRo_l]; omega), sLe_z g]
    · rw [sSu_g, sRo_g, sSu_e w m k (j + 1) (by omega), sLe_s (by omega : j ≤ m), Nat.add_comm]
theorem sSu_0 : ∀ l : List Nat, 0 ∈ sSu l
  | [] => List.mem_cons_self
  | _ :: r => List.mem_cons_of_mem _ (sSu_0 r)
theorem getD_m : ∀ (l : List Nat) (j : Nat), l.getD j 0 ∈ l ∨ l.getD j 0 = 0
  | [], _ => Or.inr rfl
  | _ :: _, 0 => Or.inl List.mem_cons_self
  | _ :: r, j + 1 => (getD_m r j).imp (fun h => List.mem_cons_of_mem _ h) id
theorem sfk_of {w m j : Nat} (hw : w = 1 ∨ w = 2) (hm : m ≤ 20) : sfk ((sLe w m j / Nat.gcd (sLe w m j) (6 ^ m) : Nat) : Int) ((6 ^ m / Nat.gcd (sLe w m j) (6 ^ m) : Nat) : Int) = true := by
  have hmem : sLe w m j ∈ sSu (sRo w m) := by
    rw [← sSu_e w m (m + 1) j (by omega)]
    rcases getD_m (sSu (sRo w m)) j with h | h
    · exact h
    · rw [h]; exact sSu_0 _
  have hc : sfc w m = true := by
    rcases hw with rfl | rfl
    · exact List.all_eq_true.mp sfc_1 m (List.mem_range.mpr (by omega))
    · exact List.all_eq_true.mp sfc_2 m (List.mem_range.mpr (by omega))
  exact List.all_eq_true.mp hc _ hmem
