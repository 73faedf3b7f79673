/-! the law's cases: chances -/
section LX
variable {d : Nat} {σ s : Nat → Nat → Int} {f g t xs : Nat → Int} {l u L : Nat} {h : Nat → Nat → Int} {i : Int}
theorem sSo_fr {s : Nat → Nat → Int} (hs : ∀ c, 80 ≤ c → c < 86 → s c = σ c) (O : sSo σ f) : sSo s f := by
  obtain ⟨a, b, c, x, y, z⟩ := O
  refine ⟨a, by rw [hs 84 (by decide) (by decide)]; exact b, fun r q => by rw [hs 85 (by decide) (by decide)]; exact c r q, x, y, ?_⟩
  unfold sVl at z ⊢
  simpa only [hs 80 (by decide) (by decide), hs 81 (by decide) (by decide), hs 82 (by decide) (by decide), hs 83 (by decide) (by decide), hs 84 (by decide) (by decide), hs 85 (by decide) (by decide)] using z
theorem sIv_p {s : Nat → Nat → Int} (V : sIv σ f h t u l) (F : sF 74 80 σ s) (S : sSX s) : sIv s f h t u l := sIv_f V (fun c a => F c (by omega)) (fun c a b => F c (by omega)) (by rw [F 86 (by omega)]) (by rw [F 86 (by omega)]) S (sSo_fr (fun c a b => F c (by omega)) V.2.2.2.2.2.2)
end LX
