/-! the class reads dice: the loop -/
section DK
variable {d : Nat} {σ : Nat → Nat → Int} {f : Nat → Int} {x : Int} {l : Nat} {t : Nat → Int}
theorem gOf_lt {q i : Nat} (hi : (i : Int) < f q) : ∀ c, q < c → gOf f q + i < gOf f c
  | 0, h => absurd h (by omega)
  | c + 1, h => by
    show gOf f q + i < gOf f c + (f c).toNat
    by_cases g : q = c
    · rw [g] at hi ⊢; omega
    · have := gOf_lt hi c (by omega); omega
def sFV (s : Nat → Nat → Int) (f V : Nat → Int) (c j : Int) : Prop := ∀ q i : Nat, q < 5 → (i : Int) < f q → ((q : Int) < c ∨ (q : Int) = c ∧ (i : Int) < j) → s 4 (5 * q + i) = V (gOf f q + i)
theorem sF1_nx {c : Int} (h : ¬ sF1 f (c + 1) (-1003) = -1003) : c < sF1 f (c + 1) (-1003) ∧ sF1 f (c + 1) (-1003) < 5 ∧ 0 < f (sF1 f (c + 1) (-1003)).toNat ∧ ∀ q : Nat, c < q → (q : Int) < sF1 f (c + 1) (-1003) → f q ≤ 0 := by
  unfold sF1 at h ⊢
  by_cases a0 : c + 1 ≤ 0 ∧ 0 < f 0
  · rw [if_pos a0]; exact ⟨by omega, by decide, a0.2, fun q _ _ => by omega⟩
  rw [if_neg a0] at h ⊢
  by_cases a1 : c + 1 ≤ 1 ∧ 0 < f 1
  · rw [if_pos a1]; exact ⟨by omega, by decide, a1.2, fun q _ _ => by have : q = 0 := by omega
                                                                      subst this; omega⟩
  rw [if_neg a1] at h ⊢
  by_cases a2 : c + 1 ≤ 2 ∧ 0 < f 2
  · rw [if_pos a2]; exact ⟨by omega, by decide, a2.2, fun q _ _ => by have : q = 0 ∨ q = 1 := by omega
                                                                      rcases this with rfl | rfl <;> omega⟩
  rw [if_neg a2] at h ⊢
  by_cases a3 : c + 1 ≤ 3 ∧ 0 < f 3
  · rw [if_pos a3]; exact ⟨by omega, by decide, a3.2, fun q _ _ => by have : q = 0 ∨ q = 1 ∨ q = 2 := by omega
                                                                      rcases this with rfl | rfl | rfl <;> omega⟩
  rw [if_neg a3] at h ⊢
  by_cases a4 : c + 1 ≤ 4 ∧ 0 < f 4
  · rw [if_pos a4]; exact ⟨by omega, by decide, a4.2, fun q _ _ => by have : q = 0 ∨ q = 1 ∨ q = 2 ∨ q = 3 := by omega
                                                                      rcases this with rfl | rfl | rfl | rfl <;> omega⟩
  · rw [if_neg a4] at h; exact absurd rfl h
end DK
