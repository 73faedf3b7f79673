/-! ways in which dice can fall: the class's rows, the reference's products -/
def sCh : Nat → Nat → Nat
  | _, 0 => 1
  | 0, _ + 1 => 0
  | n + 1, k + 1 => sCh n k + sCh n (k + 1)
def sEx (w : Nat) : Nat → Nat → Nat
  | 0, 0 => 1
  | 0, _ + 1 => 0
  | m + 1, 0 => sEx w m 0 * (6 - w)
  | m + 1, n + 1 => sEx w m (n + 1) * (6 - w) + sEx w m n * w
/-- the last k of the row of m dice -/
def sLd (w m : Nat) : Nat → Nat
  | 0 => 0
  | k + 1 => sLd w m k + sEx w m (m - k)
def sLe (w m n : Nat) : Nat := sLd w m (m + 1 - n)
theorem sCh_0 (n : Nat) : sCh n 0 = 1 := by cases n <;> rfl
theorem sCh_z : ∀ (n k : Nat), n < k → sCh n k = 0
  | _, 0, h => absurd h (by omega)
  | 0, k + 1, _ => rfl
  | n + 1, k + 1, h => by
    show sCh n k + sCh n (k + 1) = 0
    rw [sCh_z n k (by omega), sCh_z n (k + 1) (by omega)]
theorem sEx_z (w : Nat) : ∀ (m n : Nat), m < n → sEx w m n = 0
  | 0, 0, h => absurd h (by omega)
  | 0, n + 1, _ => rfl
  | m + 1, 0, h => absurd h (by omega)
  | m + 1, n + 1, h => by
    show sEx w m (n + 1) * (6 - w) + sEx w m n * w = 0
    rw [sEx_z w m (n + 1) (by omega), sEx_z w m n (by omega), Nat.zero_mul, Nat.zero_mul]
theorem sEx_c (w : Nat) : ∀ (m n : Nat), n ≤ m → sEx w m n = sCh m n * w ^ n * (6 - w) ^ (m - n)
  | 0, 0, _ => rfl
  | 0, n + 1, h => absurd h (by omega)
  | m + 1, 0, _ => by
    show sEx w m 0 * (6 - w) = _
    rw [sEx_c w m 0 (by omega), sCh_0, sCh_0, Nat.sub_zero, Nat.sub_zero, Nat.pow_zero, Nat.pow_succ, Nat.one_mul, Nat.one_mul]
  | m + 1, n + 1, h => by
    show sEx w m (n + 1) * (6 - w) + sEx w m n * w = (sCh m n + sCh m (n + 1)) * w ^ (n + 1) * (6 - w) ^ (m + 1 - (n + 1))
    rw [show m + 1 - (n + 1) = m - n by omega, sEx_c w m n (by omega)]
    by_cases g : n + 1 ≤ m
    · rw [sEx_c w m (n + 1) g]
      have e : m - n = m - (n + 1) + 1 := by omega
      rw [e, Nat.pow_succ (m := m - (n + 1)), Nat.pow_succ (m := n)]
      grind
    · rw [sEx_z w m (n + 1) (by omega), sCh_z m (n + 1) (by omega), Nat.pow_succ (m := n)]
      grind
theorem sCh_s : ∀ (n k : Nat), sCh (n + 1) (k + 1) * (k + 1) = (n + 1) * sCh n k
  | 0, 0 => rfl
  | 0, k + 1 => by
    show (sCh 0 (k + 1) + sCh 0 (k + 2)) * (k + 1 + 1) = (0 + 1) * sCh 0 (k + 1)
    rw [sCh_z 0 (k + 1) (by omega), sCh_z 0 (k + 2) (by omega), Nat.zero_add, Nat.zero_mul, Nat.mul_zero]
  | n + 1, 0 => by
    have h : sCh (n + 1) 1 * 1 = (n + 1) * sCh n 0 := sCh_s n 0
    show (sCh (n + 1) 0 + sCh (n + 1) 1) * 1 = (n + 2) * sCh (n + 1) 0
    rw [sCh_0] at h
    rw [sCh_0]
    omega
  | n + 1, k + 1 => by
    have h1 := sCh_s n k
    have h2 := sCh_s n (k + 1)
    have e : sCh (n + 2) (k + 2) = sCh (n + 1) (k + 1) + sCh (n + 1) (k + 2) := rfl
    have e2 : sCh (n + 1) (k + 1) = sCh n k + sCh n (k + 1) := rfl
    rw [e]
    have e3 : (sCh (n + 1) (k + 1) + sCh (n + 1) (k + 2)) * (k + 1 + 1) = sCh (n + 1) (k + 1) * (k + 1) + sCh (n + 1) (k + 1) + sCh (n + 1) (k + 2) * (k + 1 + 1) := by grind
    rw [e3, h1, h2]
    grind
theorem sCh_b : ∀ (n k : Nat), sCh n k ≤ 2 ^ n
  | n, 0 => by rw [sCh_0]; exact Nat.one_le_two_pow
  | 0, k + 1 => Nat.zero_le _
  | n + 1, k + 1 => by
    show sCh n k + sCh n (k + 1) ≤ 2 ^ (n + 1)
    have h1 := sCh_b n k
    have h2 := sCh_b n (k + 1)
    rw [Nat.pow_succ]
    omega
theorem sEx_b6 (w : Nat) (hw : w ≤ 6) : ∀ (m n : Nat), sEx w m n ≤ 6 ^ m
  | 0, 0 => Nat.le_refl _
  | 0, n + 1 => Nat.zero_le _
  | m + 1, 0 => by
    show sEx w m 0 * (6 - w) ≤ 6 ^ (m + 1)
    rw [Nat.pow_succ]
    exact Nat.mul_le_mul (sEx_b6 w hw m 0) (by omega)
  | m + 1, n + 1 => by
    show sEx w m (n + 1) * (6 - w) + sEx w m n * w ≤ 6 ^ (m + 1)
    have h1 := Nat.mul_le_mul_right (6 - w) (sEx_b6 w hw m (n + 1))
    have h2 := Nat.mul_le_mul_right w (sEx_b6 w hw m n)
    have h3 : 6 ^ m * (6 - w) + 6 ^ m * w = 6 ^ (m + 1) := by
      rw [← Nat.mul_add, Nat.pow_succ]
      congr 1
      omega
    omega
theorem sEx_b {w m n : Nat} (hw : w ≤ 6) (hm : m ≤ 20) : sEx w m n ≤ 3656158440062976 :=
  Nat.le_trans (sEx_b6 w hw m n) (Nat.pow_le_pow_right (by decide) hm)
theorem sLd_b {w m : Nat} (hw : w ≤ 6) (hm : m ≤ 20) : ∀ k, sLd w m k ≤ k * 3656158440062976
  | 0 => Nat.le_refl _
  | k + 1 => by
    show sLd w m k + sEx w m (m - k) ≤ _
    have h1 := sLd_b hw hm k
    have h2 := sEx_b (w := w) (m := m) (n := m - k) hw hm
    omega
theorem sLe_b {w m n : Nat} (hw : w ≤ 6) (hm : m ≤ 20) : sLe w m n ≤ 76779327241322496 := by
  have h := sLd_b hw hm (m + 1 - n)
  unfold sLe
  omega
theorem sLe_s {w m n : Nat} (h : n ≤ m) : sLe w m n = sLe w m (n + 1) + sEx w m n := by
  unfold sLe
  have e : m + 1 - n = (m + 1 - (n + 1)) + 1 := by omega
  rw [e]
  show sLd w m (m + 1 - (n + 1)) + sEx w m (m - (m + 1 - (n + 1))) = _
  rw [show m - (m + 1 - (n + 1)) = n by omega]
theorem sLe_z {w m n : Nat} (h : m < n) : sLe w m n = 0 := by
  unfold sLe
  rw [show m + 1 - n = 0 by omega]
  rfl
/-- all ways -/
theorem sLe_all (w : Nat) (hw : w ≤ 6) : ∀ m, sLe w m 0 = 6 ^ m := by
  have step : ∀ m n, n ≤ m + 1 → sLe w (m + 1) n = sLe w m n * (6 - w) + (if n = 0 then sLe w m 0 else sLe w m (n - 1)) * w := by
    intro m n hn
    obtain ⟨j, hj⟩ : ∃ j, j = m + 1 - n := ⟨_, rfl⟩
    induction j generalizing n with
    | zero =>
      have e : n = m + 1 := by omega
      subst e
      rw [sLe_s (Nat.le_refl _), sLe_z (by omega), sLe_z (w := w) (m := m) (n := m + 1) (by omega), if_neg (by omega), show m + 1 - 1 = m by omega, sLe_s (Nat.le_refl m), sLe_z (w := w) (m := m) (n := m + 1) (by omega)]
      show 0 + (sEx w m (m + 1) * (6 - w) + sEx w m m * w) = _
      rw [sEx_z w m (m + 1) (by omega)]
      grind
    | succ j ih =>
      have ih2 := ih (n + 1) (by omega) (by omega)
      rw [sLe_s (by omega : n ≤ m + 1), ih2, if_neg (by omega), show n + 1 - 1 = n by omega, sLe_s (by omega : n ≤ m)]
      cases n with
      | zero =>
        rw [if_pos rfl]
        show _ + sEx w m 0 * (6 - w) = _
        rw [sLe_s (by omega : 0 ≤ m)]
        grind
      | succ n =>
        rw [if_neg (by omega), show n + 1 - 1 = n by omega]
        show _ + (sEx w m (n + 1) * (6 - w) + sEx w m n * w) = _
        rw [sLe_s (by omega : n ≤ m), sLe_s (by omega : n + 1 ≤ m)]
        grind
  intro m
  induction m with
  | zero => rfl
  | succ m ih =>
    rw [step m 0 (by omega), if_pos rfl, ih, ← Nat.mul_add, Nat.pow_succ]
    congr 1
    omega
