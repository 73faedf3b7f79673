/-! the law's row and the row of the class's table: where they must agree -/
def jR (A f : Nat → Int) : Prop := (∀ k, k < 15 → A k = f k) ∧ (∀ k, 40 ≤ k → k < 49 → A k = f k) ∧ (f 42 = 1 → ∀ p i : Nat, p < 5 → (i : Int) < f p → A (15 + 5 * p + i) = f (15 + 5 * p + i))
/-- the law's invariant: the class's state, the law's row, the number of players -/
def jV (σ : Nat → Nat → Int) (f : Nat → Int) (u : Nat) (h : Nat → Nat → Int) (l : Nat) (t : Nat → Int) (P : Int) : Prop :=
  sRq f ∧ sTR σ 8 f ∧ (sHC σ u h ∧ u ≤ 8) ∧ (sTX σ l t ∧ l ≤ 60 ∧ ∀ i, i < l → 0 ≤ t i ∧ t i ≤ 127) ∧ jR (σ 86) f ∧ f 40 = P
def jE (σ : Nat → Nat → Int) (P : Int) : Prop := ∃ (f : Nat → Int) (u : Nat) (h : Nat → Nat → Int) (l : Nat) (t : Nat → Int), jV σ f u h l t P
section RR
variable {A f g : Nat → Int} {face n q : Int}
theorem R_D (R : jR A f) (W : sWF f) : jD A := by
  have w := W_ds W
  have w2 := W_p W
  unfold jD
  rw [R.1 0 (by decide), R.1 1 (by decide), R.1 2 (by decide), R.1 3 (by decide), R.1 4 (by decide), R.2.1 40 (by decide) (by decide)]
  exact ⟨w2, w⟩
theorem R_al (R : jR A f) : sAl A = sAl f := sAl_c (fun p hp => R.1 p (by omega))
theorem R_dc (R : jR A f) : sDc A = sDc f := by
  unfold sDc
  rw [R.1 0 (by decide), R.1 1 (by decide), R.1 2 (by decide), R.1 3 (by decide), R.1 4 (by decide)]
theorem R_un (R : jR A f) {p : Nat} (hp : p < 5) : sUn A p face = sUn f p face := by
  unfold sUn
  rw [R.1 p (by omega), R.2.1 42 (by decide) (by decide), R.2.1 46 (by decide) (by decide)]
  by_cases h : f 42 = 1
  · rw [if_pos h, if_pos h]
    refine m_it_cong _ _ _ (fun k s h1 h2 => ?_)
    rw [R.2.2 h p k hp (by omega)]
  · rw [if_neg h, if_neg h]
theorem R_ua (R : jR A f) : sUA A face = sUA f face := by
  unfold sUA
  rw [R_un R (by decide), R_un R (by decide), R_un R (by decide), R_un R (by decide), R_un R (by decide)]
theorem R_rk (R : jR A f) : sRk A n q = sRk f n q := by
  unfold sRk
  rw [R.2.1 46 (by decide) (by decide)]
theorem R_fr (R : jR A f) : sFr A q = sFr f q := sFr_c (fun p hp => R.1 p (by omega))
theorem R_gE {A' f' : Nat → Int} (h1 : ∀ k, k < 15 → A' k = f' k) (h2 : ∀ k, 40 ≤ k → k < 49 → A' k = f' k) : jR (gE A' q) (gE f' q) := by
  refine ⟨fun k hk => by rw [gE_e (by omega), gE_e (by omega)]; exact h1 k hk, fun k a b => ?_, fun h => absurd h (by rw [gE_42]; decide)⟩
  have g : k = 40 ∨ k = 41 ∨ k = 42 ∨ k = 43 ∨ k = 44 ∨ k = 45 ∨ k = 46 ∨ k = 47 ∨ k = 48 := by omega
  rcases g with rfl | rfl | rfl | rfl | rfl | rfl | rfl | rfl | rfl
  · rw [gE_e (by omega), gE_e (by omega)]; exact h2 40 (by decide) (by decide)
  · rw [gE_41, gE_41, sAl_c (f := f') (f' := A') (fun p hp => h1 p (by omega)), sFr_c (f := f') (f' := A') (fun p hp => h1 p (by omega))]
  · rw [gE_42, gE_42]
  · rw [gE_43, gE_43]
  · rw [gE_44, gE_44]
  · rw [gE_45, gE_45]
  · rw [gE_e (by omega), gE_e (by omega)]; exact h2 46 (by decide) (by decide)
  · rw [gE_47, gE_47, h2 47 (by decide) (by decide)]
  · rw [gE_e (by omega), gE_e (by omega)]; exact h2 48 (by decide) (by decide)
theorem R_new (R : jR A f) {P : Int} : jR (gNw A P) (gNw f P) := by
  refine ⟨fun k hk => ?_, fun k a b => ?_, fun h => ?_⟩
  · unfold gNw
    rw [R.1 k hk]
  · unfold gNw
    rw [R.2.1 k a b]
  · have e : gNw f P 42 = if ((42 : Nat) : Int) < P then 5 else 0 := rfl
    rw [e] at h
    split at h <;> omega
end RR
