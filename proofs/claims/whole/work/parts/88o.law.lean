/-! the law's cases: value, share -/
section LY
variable {d : Nat} {σ s : Nat → Nat → Int} {f g t xs : Nat → Int} {l u L : Nat} {h : Nat → Nat → Int} {i : Int}
theorem sIv_r {s : Nat → Nat → Int} (V : sIv σ f h t u l) (F : sFR σ s) : sIv s f h t u l := sIv_f V (fun c a => F.1 c (by omega) (by omega) (by omega)) (fun c a b => F.1 c (by omega) (by omega) (by omega)) (F.2 2 (by decide) (by decide)) (F.2 4 (by decide) (by decide)) (by
  obtain ⟨m1, m2, a, b⟩ := V.2.2.2.2.2.1
  refine ⟨m1, m2, ?_, ?_⟩
  · unfold sS1 at a ⊢
    simpa only [F.1 74 (by decide) (by decide) (by decide), F.1 75 (by decide) (by decide) (by decide), F.1 76 (by decide) (by decide) (by decide)] using a
  · unfold sS2 at b ⊢
    simpa only [F.1 77 (by decide) (by decide) (by decide), F.1 78 (by decide) (by decide) (by decide), F.1 79 (by decide) (by decide) (by decide)] using b) (sSo_fr (fun c a b => F.1 c (by omega) (by omega) (by omega)) V.2.2.2.2.2.2)
theorem sIv_x (V : sIv σ f h t u l) : ∃ x, sOn (sEa f) (f 49).toNat (f 50).toNat 4 1 = some x := by
  obtain ⟨x, e, _⟩ := V.2.2.2.2.2.2.2.2.2
  exact ⟨x, e⟩
end LY
