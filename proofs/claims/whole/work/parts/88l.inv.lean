/-! the law's invariant -/
section IV
variable {d : Nat} {σ s : Nat → Nat → Int} {f g t : Nat → Int} {l u : Nat} {h : Nat → Nat → Int}
def sRq (f : Nat → Int) : Prop := sWF f ∧ sZf f ∧ (∀ k, 67 ≤ k → f k = 0) ∧ m_in (f 48) ∧ 1 ≤ sAl f
def sIv (σ : Nat → Nat → Int) (f : Nat → Int) (h : Nat → Nat → Int) (t : Nat → Int) (u l : Nat) : Prop :=
  sRq f ∧ sTR σ 8 f ∧ σ 87 = f ∧ (sHC σ u h ∧ sMH σ u h ∧ u ≤ 8 ∧ ∀ j, j < u → sRq (h j)) ∧ (sTX σ l t ∧ sMX σ l t ∧ l ≤ 60 ∧ ∀ i, i < l → 0 ≤ t i ∧ t i ≤ 127) ∧ sSX σ ∧ sSo σ f
theorem sIv_f (V : sIv σ f h t u l) (hc : ∀ c, c < 73 → s c = σ c) (hm : ∀ c, 87 ≤ c → c < 90 → s c = σ c) (h2 : s 86 2 = σ 86 2) (h4 : s 86 4 = σ 86 4) (S : sSX s) (O : sSo s f) : sIv s f h t u l := by
  obtain ⟨W, T, R, ⟨C, M, u8, P⟩, ⟨X, Y, l60, L⟩, _, _⟩ := V
  refine ⟨W, ?_, ?_, ⟨⟨?_, ?_, ?_⟩, ⟨?_, ?_⟩, u8, P⟩, ⟨⟨?_, ?_⟩, ⟨?_, ?_⟩, l60, L⟩, S, O⟩
  · exact sTR_fr (fun c a b => hc c (by omega)) T
  · exact (hm 87 (by decide) (by decide)).trans R
  · rw [hc 15 (by decide)]; exact C.1
  · rw [hc 15 (by decide)]; exact C.2.1
  · intro j hj
    rw [hc 15 (by decide)]
    exact sTR_fr (fun c a b => hc c (by omega)) (C.2.2 j hj)
  · exact h2.trans M.1
  · intro j k a b
    rw [hm 88 (by decide) (by decide)]
    exact M.2 j k a b
  · rw [hc 1 (by decide)]; exact X.1
  · intro i a
    rw [hc 2 (by decide)]
    exact X.2 i a
  · exact h4.trans Y.1
  · intro i a
    rw [hm 89 (by decide) (by decide)]
    exact Y.2 i a
end IV
