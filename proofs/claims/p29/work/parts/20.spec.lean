/-! the game as a row of numbers f (the reference's own row); the class's tables hold it -/
theorem m_bite {α β : Type} {c : Prop} [Decidable c] {a b : Option α} {k : α → Option β} : (if c then a else b).bind k = if c then a.bind k else b.bind k := by split <;> rfl
theorem m_qI {a b : Int} {μ : m_M} (h : a = b) : (some (some (m_I a), μ) : Option (Option m_V × m_M)) = some (some (m_I b), μ) := by rw [h]
theorem m_qJ {a b : Int} {μ : m_M} (h : a = b) : (some (some (m_J a), μ) : Option (Option m_V × m_M)) = some (some (m_J b), μ) := by rw [h]
theorem m_b0 {c : Prop} [Decidable c] : ((if c then (1 : Int) else 0) = 0) = ¬ c := by by_cases h : c <;> simp [h]
theorem m_b1 {c : Prop} [Decidable c] : ((if c then (1 : Int) else 0) = 1) = c := by by_cases h : c <;> simp [h]
theorem m_nn {p : Prop} : (¬ ¬ p) = p := propext Classical.not_not
theorem m_tn {n : Nat} : ((n : Int)).toNat = n := Int.toNat_natCast n
theorem m_itk {c : Prop} [Decidable c] {a b : Int} (k : Int → Option (Option m_V × m_M)) : k (if c then a else b) = if c then k a else k b := by split <;> rfl
theorem q_le1 {a b : Int} (h : a ≤ b) : (a ≤ b) = True := eq_true h
theorem q_le0 {a b : Int} (h : b < a) : (a ≤ b) = False := eq_false (by omega)
theorem q_lt1 {a b : Int} (h : a < b) : (a < b) = True := eq_true h
theorem q_lt0 {a b : Int} (h : b ≤ a) : (a < b) = False := eq_false (by omega)
theorem q_eq1 {a b : Int} (h : a = b) : (a = b) = True := eq_true h
theorem q_eq0 {a b : Int} (h : ¬ a = b) : (a = b) = False := eq_false h
theorem e_retb {X : Option (Nat × (Nat → Int))} {f : m_C} {y b : Nat} {is : List m_P} {ls : List m_V} {μ : m_M} {z : Int} {c : Prop} [Decidable c] : m_e X f y ((6, 2, b, z) :: is) ls [m_I (if c then 1 else 0)] μ = some (some (m_I (if c then 1 else 0)), μ) := e_ret2 (by split <;> omega)
theorem m_cs {k : Nat} : ((k + 1 : Nat) : Int) = (k : Int) + 1 := rfl
/-- how many are not out; the dice in the game -/
def sAl (f : Nat → Int) : Int := (if 0 < f 0 then 1 else 0) + (if 0 < f 1 then 1 else 0) + (if 0 < f 2 then 1 else 0) + (if 0 < f 3 then 1 else 0) + (if 0 < f 4 then 1 else 0)
def sDc (f : Nat → Int) : Int := f 0 + f 1 + f 2 + f 3 + f 4
/-- how many of a player's dice count for a face -/
def sUn (f : Nat → Int) (p : Nat) (face : Int) : Int := if f 42 = 1 then m_it (fun i s => s + (if f (15 + 5 * p + i) = face ∨ f 46 = 1 ∧ f (15 + 5 * p + i) = 1 then 1 else 0)) 0 (f p).toNat 0 else 0
def sUA (f : Nat → Int) (face : Int) : Int := sUn f 0 face + sUn f 1 face + sUn f 2 face + sUn f 3 face + sUn f 4 face
def sRk (f : Nat → Int) (n face : Int) : Int := if f 46 = 0 then 6 * n + face else if face = 1 then 12 * n else 6 * n + face - 1
/-- the first from p on that is not out, else q -/
def sF1 (f : Nat → Int) (p q : Int) : Int := if p ≤ 0 ∧ 0 < f 0 then 0 else if p ≤ 1 ∧ 0 < f 1 then 1 else if p ≤ 2 ∧ 0 < f 2 then 2 else if p ≤ 3 ∧ 0 < f 3 then 3 else if p ≤ 4 ∧ 0 < f 4 then 4 else q
def sFr (f : Nat → Int) (p : Int) : Int := sF1 f p (sF1 f 0 (-1003))
def sWF (f : Nat → Int) : Prop :=
  (2 ≤ f 40 ∧ f 40 ≤ 5) ∧ (∀ p : Nat, p < 5 → 0 ≤ f p ∧ f p ≤ 5 ∧ (f 40 ≤ (p : Int) → f p = 0)) ∧ (f 42 = 0 ∨ f 42 = 1) ∧ (f 46 = 0 ∨ f 46 = 1) ∧
  (2 ≤ sAl f → 0 ≤ f 41 ∧ f 41 < f 40 ∧ 0 < f (f 41).toNat) ∧ (sAl f < 2 → f 41 = -1003) ∧ (f 42 = 1 → 2 ≤ sAl f) ∧
  (f 42 = 1 → ∀ p i : Nat, p < 5 → (i : Int) < f p → 1 ≤ f (15 + 5 * p + i) ∧ f (15 + 5 * p + i) ≤ 6) ∧
  (f 43 = -1003 ∨ ((1 ≤ f 43 ∧ f 43 ≤ 25 ∧ 1 ≤ f 44 ∧ f 44 ≤ 6) ∧ (0 ≤ f 45 ∧ f 45 < f 40 ∧ 0 < f (f 45).toNat) ∧ f 42 = 1)) ∧
  (f 43 = -1003 → f 44 = -1003 ∧ f 45 = -1003) ∧ (1 ≤ f 49 ∧ f 49 ≤ 4 ∧ 1 ≤ f 50 ∧ f 50 ≤ 4) ∧ (∀ k : Nat, k < 16 → -99 ≤ f (51 + k) ∧ f (51 + k) ≤ 99)
def sTR (σ : Nat → Nat → Int) (t : Nat) (f : Nat → Int) : Prop :=
  (σ t 0 = f 40 ∧ σ t 1 = f 46 ∧ σ t 2 = f 42) ∧ (2 ≤ sAl f → σ t 3 = f 41) ∧ σ t 4 = (if f 43 = -1003 then 0 else f 43) ∧ (¬ f 43 = -1003 → σ t 5 = f 44 ∧ σ t 6 = f 45) ∧
  (σ t 7 = f 47 ∧ σ t 8 = f 48) ∧ (∀ p : Nat, p < 5 → σ (t + 1) p = f p) ∧ (∀ p : Nat, p < 5 → σ (t + 2) p = f (5 + p)) ∧ (∀ p : Nat, p < 5 → σ (t + 3) p = f (10 + p)) ∧
  (f 42 = 1 → ∀ p i : Nat, p < 5 → (i : Int) < f p → σ (t + 4) (5 * p + i) = f (15 + 5 * p + i)) ∧ (σ (t + 5) 0 = f 49 ∧ σ (t + 5) 1 = f 50) ∧
  (∀ r c : Nat, (r : Int) < f 49 → (c : Int) < f 50 → σ (t + 6) (4 * r + c) = f (51 + 4 * r + c))
section ACC
variable {σ : Nat → Nat → Int} {f : Nat → Int}
theorem T_p (T : sTR σ 8 f) : σ 8 0 = f 40 := T.1.1
theorem T_w (T : sTR σ 8 f) : σ 8 1 = f 46 := T.1.2.1
theorem T_dl (T : sTR σ 8 f) : σ 8 2 = f 42 := T.1.2.2
theorem T_t (T : sTR σ 8 f) (h : 2 ≤ sAl f) : σ 8 3 = f 41 := T.2.1 h
theorem T_n (T : sTR σ 8 f) : σ 8 4 = (if f 43 = -1003 then 0 else f 43) := T.2.2.1
theorem T_f (T : sTR σ 8 f) (h : ¬ f 43 = -1003) : σ 8 5 = f 44 := (T.2.2.2.1 h).1
theorem T_b (T : sTR σ 8 f) (h : ¬ f 43 = -1003) : σ 8 6 = f 45 := (T.2.2.2.1 h).2
theorem T_r (T : sTR σ 8 f) : σ 8 7 = f 47 := T.2.2.2.2.1.1
theorem T_rd (T : sTR σ 8 f) : σ 8 8 = f 48 := T.2.2.2.2.1.2
theorem T_d (T : sTR σ 8 f) {p : Nat} (h : p < 5) : σ 9 p = f p := T.2.2.2.2.2.1 p h
theorem T_l (T : sTR σ 8 f) {p : Nat} (h : p < 5) : σ 10 p = f (5 + p) := T.2.2.2.2.2.2.1 p h
theorem T_x (T : sTR σ 8 f) {p : Nat} (h : p < 5) : σ 11 p = f (10 + p) := T.2.2.2.2.2.2.2.1 p h
theorem T_fc (T : sTR σ 8 f) (h : f 42 = 1) {p i : Nat} (hp : p < 5) (hi : (i : Int) < f p) : σ 12 (5 * p + i) = f (15 + 5 * p + i) := T.2.2.2.2.2.2.2.2.1 h p i hp hi
theorem T_mr (T : sTR σ 8 f) : σ 13 0 = f 49 := T.2.2.2.2.2.2.2.2.2.1.1
theorem T_mc (T : sTR σ 8 f) : σ 13 1 = f 50 := T.2.2.2.2.2.2.2.2.2.1.2
theorem T_me (T : sTR σ 8 f) {r c : Nat} (hr : (r : Int) < f 49) (hc : (c : Int) < f 50) : σ 14 (4 * r + c) = f (51 + 4 * r + c) := T.2.2.2.2.2.2.2.2.2.2 r c hr hc
theorem T_ds (T : sTR σ 8 f) : σ 9 0 = f 0 ∧ σ 9 1 = f 1 ∧ σ 9 2 = f 2 ∧ σ 9 3 = f 3 ∧ σ 9 4 = f 4 := ⟨T_d T (by omega), T_d T (by omega), T_d T (by omega), T_d T (by omega), T_d T (by omega)⟩
theorem W_p (W : sWF f) : 2 ≤ f 40 ∧ f 40 ≤ 5 := W.1
theorem W_d (W : sWF f) {p : Nat} (h : p < 5) : 0 ≤ f p ∧ f p ≤ 5 ∧ (f 40 ≤ (p : Int) → f p = 0) := W.2.1 p h
theorem W_ds (W : sWF f) : (0 ≤ f 0 ∧ f 0 ≤ 5) ∧ (0 ≤ f 1 ∧ f 1 ≤ 5) ∧ (0 ≤ f 2 ∧ f 2 ≤ 5) ∧ (0 ≤ f 3 ∧ f 3 ≤ 5) ∧ (0 ≤ f 4 ∧ f 4 ≤ 5) ∧ (f 40 ≤ 2 → f 2 = 0) ∧ (f 40 ≤ 3 → f 3 = 0) ∧ (f 40 ≤ 4 → f 4 = 0) := by
  have h0 := W_d W (p := 0) (by omega)
  have h1 := W_d W (p := 1) (by omega)
  have h2 := W_d W (p := 2) (by omega)
  have h3 := W_d W (p := 3) (by omega)
  have h4 := W_d W (p := 4) (by omega)
  omega
theorem W_dl (W : sWF f) : f 42 = 0 ∨ f 42 = 1 := W.2.2.1
theorem W_w (W : sWF f) : f 46 = 0 ∨ f 46 = 1 := W.2.2.2.1
theorem W_t (W : sWF f) (h : 2 ≤ sAl f) : 0 ≤ f 41 ∧ f 41 < f 40 ∧ 0 < f (f 41).toNat := W.2.2.2.2.1 h
theorem W_tn (W : sWF f) (h : sAl f < 2) : f 41 = -1003 := W.2.2.2.2.2.1 h
theorem W_al (W : sWF f) (h : f 42 = 1) : 2 ≤ sAl f := W.2.2.2.2.2.2.1 h
theorem W_fc (W : sWF f) (h : f 42 = 1) {p i : Nat} (hp : p < 5) (hi : (i : Int) < f p) : 1 ≤ f (15 + 5 * p + i) ∧ f (15 + 5 * p + i) ≤ 6 := W.2.2.2.2.2.2.2.1 h p i hp hi
theorem W_n (W : sWF f) : f 43 = -1003 ∨ ((1 ≤ f 43 ∧ f 43 ≤ 25 ∧ 1 ≤ f 44 ∧ f 44 ≤ 6) ∧ (0 ≤ f 45 ∧ f 45 < f 40 ∧ 0 < f (f 45).toNat) ∧ f 42 = 1) := W.2.2.2.2.2.2.2.2.1
theorem W_nn (W : sWF f) (h : f 43 = -1003) : f 44 = -1003 ∧ f 45 = -1003 := W.2.2.2.2.2.2.2.2.2.1 h
theorem W_m (W : sWF f) : 1 ≤ f 49 ∧ f 49 ≤ 4 ∧ 1 ≤ f 50 ∧ f 50 ≤ 4 := W.2.2.2.2.2.2.2.2.2.2.1
theorem W_e (W : sWF f) {k : Nat} (h : k < 16) : -99 ≤ f (51 + k) ∧ f (51 + k) ≤ 99 := W.2.2.2.2.2.2.2.2.2.2.2 k h
end ACC
