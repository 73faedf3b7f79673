section DL
variable {d : Nat} {σ : Nat → Nat → Int} {f : Nat → Int} {x : Int} {l : Nat} {t : Nat → Int}
theorem sF1_none {c : Int} (h : sF1 f (c + 1) (-1003) = -1003) (q : Nat) (hq : q < 5) (hc : c < q) : f q ≤ 0 := by
  unfold sF1 at h
  by_cases a0 : c + 1 ≤ 0 ∧ 0 < f 0
  · rw [if_pos a0] at h; exact absurd h (by decide)
  rw [if_neg a0] at h
  by_cases a1 : c + 1 ≤ 1 ∧ 0 < f 1
  · rw [if_pos a1] at h; exact absurd h (by decide)
  rw [if_neg a1] at h
  by_cases a2 : c + 1 ≤ 2 ∧ 0 < f 2
  · rw [if_pos a2] at h; exact absurd h (by decide)
  rw [if_neg a2] at h
  by_cases a3 : c + 1 ≤ 3 ∧ 0 < f 3
  · rw [if_pos a3] at h; exact absurd h (by decide)
  rw [if_neg a3] at h
  by_cases a4 : c + 1 ≤ 4 ∧ 0 < f 4
  · rw [if_pos a4] at h; exact absurd h (by decide)
  have g : q = 0 ∨ q = 1 ∨ q = 2 ∨ q = 3 ∨ q = 4 := by omega
  rcases g with rfl | rfl | rfl | rfl | rfl <;> omega
end DL
