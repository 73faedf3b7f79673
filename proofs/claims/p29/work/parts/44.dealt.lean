/-! dice are dealt with the values v -/
def gDl (f v : Nat → Int) : Nat → Int := fun k => if k = 42 then 1 else if 15 ≤ k ∧ k < 40 then gFl f v (fun k => f (15 + k)) 25 (k - 15) else f k
section DE
variable {d : Nat} {σ : Nat → Nat → Int} {f v : Nat → Int} {x : Int}
theorem gDl_e {k : Nat} (h1 : ¬ k = 42) (h2 : k < 15 ∨ 40 ≤ k) : gDl f v k = f k := by
  unfold gDl; rw [if_neg h1, if_neg (by omega)]
theorem gDl_42 : gDl f v 42 = 1 := rfl
theorem gDl_f {p i : Nat} (hp : p < 5) (hi : i < 5) (h : (i : Int) < f p) : gDl f v (15 + 5 * p + i) = v (gOf f p + i) := by
  unfold gDl gFl
  have e1 : (15 + 5 * p + i - 15) / 5 = p := by omega
  have e2 : (15 + 5 * p + i - 15) % 5 = i := by omega
  rw [if_neg (by omega), if_pos (by omega), e1, e2, if_pos ⟨by omega, h⟩]
theorem gOf_b (hb : ∀ p, p < 5 → 0 ≤ f p) : ∀ p, p < 5 → ∀ i : Nat, (i : Int) < f p → ((gOf f p + i : Nat) : Int) < f 0 + f 1 + f 2 + f 3 + f 4 := by
  intro p hp i hi
  have b0 := hb 0 (by decide)
  have b1 := hb 1 (by decide)
  have b2 := hb 2 (by decide)
  have b3 := hb 3 (by decide)
  have b4 := hb 4 (by decide)
  have g : p = 0 ∨ p = 1 ∨ p = 2 ∨ p = 3 ∨ p = 4 := by omega
  rcases g with rfl | rfl | rfl | rfl | rfl <;> simp only [gOf] <;> omega
theorem W_deal (W : sWF f) (ha : 2 ≤ sAl f) (hv : ∀ n : Nat, (n : Int) < sDc f → 1 ≤ v n ∧ v n ≤ 6) (hn : f 43 = -1003) : sWF (gDl f v) := by
  have e : ∀ k, ¬ k = 42 → (k < 15 ∨ 40 ≤ k) → gDl f v k = f k := fun k h1 h2 => gDl_e h1 h2
  have ea : sAl (gDl f v) = sAl f := sAl_c (fun p hp => e p (by omega) (by omega))
  have wp := W_p W
  have wd := fun p hp => W_d W (p := p) hp
  have wt := W_t W ha
  obtain ⟨w1, w2, w3, w4, w5, w6, w7, w8, w9, w10, w11, w12⟩ := W
  unfold sWF
  rw [ea, gDl_42, e 40 (by decide) (by decide), e 41 (by decide) (by decide), e 43 (by decide) (by decide), e 44 (by decide) (by decide), e 45 (by decide) (by decide), e 46 (by decide) (by decide), e 49 (by decide) (by decide), e 50 (by decide) (by decide)]
  refine ⟨w1, fun p hp => ?_, Or.inr rfl, w4, fun z => ?_, w6, fun _ => ha, fun z p i hp hi => ?_, Or.inl hn, w10, w11, fun k hk => ?_⟩
  · rw [e p (by omega) (by omega)]; exact w2 p hp
  · rw [e _ (by omega) (by omega)]; exact wt
  · rw [e p (by omega) (by omega)] at hi
    have := wd p hp
    rw [gDl_f hp (by omega) hi]
    exact hv _ (gOf_b (fun p hp => (wd p hp).1) p hp i hi)
  · rw [e _ (by omega) (by omega)]; exact w12 k hk
theorem T_deal {σ' : Nat → Nat → Int} (T : sTR σ 8 f) (W : sWF f) (h2 : σ' 8 2 = 1) (h0 : ∀ k, ¬ k = 2 → σ' 8 k = σ 8 k) (hc : ∀ c, 8 < c → c < 15 → ¬ c = 12 → σ' c = σ c) (hf : ∀ p i : Nat, p < 5 → (i : Int) < f p → σ' 12 (5 * p + i) = v (gOf f p + i)) : sTR σ' 8 (gDl f v) := by
  have e : ∀ k, ¬ k = 42 → (k < 15 ∨ 40 ≤ k) → gDl f v k = f k := fun k h1 h2 => gDl_e h1 h2
  have ea : sAl (gDl f v) = sAl f := sAl_c (fun p hp => e p (by omega) (by omega))
  have wd := fun p hp => W_d W (p := p) hp
  obtain ⟨⟨t0, t1, t2⟩, t3, t4, t5, ⟨t6, t7⟩, t8, t9, t10, t11, ⟨t12, t13⟩, t14⟩ := T
  unfold sTR
  rw [ea, gDl_42, e 40 (by decide) (by decide), e 41 (by decide) (by decide), e 43 (by decide) (by decide), e 44 (by decide) (by decide), e 45 (by decide) (by decide), e 46 (by decide) (by decide), e 47 (by decide) (by decide), e 48 (by decide) (by decide), e 49 (by decide) (by decide), e 50 (by decide) (by decide), h2, h0 0 (by decide), h0 1 (by decide), h0 3 (by decide), h0 4 (by decide), h0 5 (by decide), h0 6 (by decide), h0 7 (by decide), h0 8 (by decide), hc (8 + 1) (by decide) (by decide) (by decide), hc (8 + 2) (by decide) (by decide) (by decide), hc (8 + 3) (by decide) (by decide) (by decide), hc (8 + 5) (by decide) (by decide) (by decide), hc (8 + 6) (by decide) (by decide) (by decide)]
  refine ⟨⟨t0, t1, rfl⟩, t3, t4, t5, ⟨t6, t7⟩, fun p hp => ?_, fun p hp => ?_, fun p hp => ?_, fun z p i hp hi => ?_, ⟨t12, t13⟩, fun r c hr hc => ?_⟩
  · rw [e _ (by omega) (by omega)]; exact t8 p hp
  · rw [e _ (by omega) (by omega)]; exact t9 p hp
  · rw [e _ (by omega) (by omega)]; exact t10 p hp
  · rw [e _ (by omega) (by omega)] at hi
    have := wd p hp
    rw [gDl_f hp (by omega) hi]
    exact hf p i hp hi
  · rw [e _ (by omega) (by omega)]; exact t14 r c hr hc
end DE
