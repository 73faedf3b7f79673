/-! a text of dice, letter by letter -/
def jQ (f t : Nat → Int) (l : Nat) (c j : Int) (V : Nat → Int) : Prop := ∀ (L : Nat) (t' : Nat → Int), l ≤ L → (∀ i, i < l → t' i = t i) → sA f t' L L (sF1 f 0 (-1003)) 0 (fun _ => 0) = sA f t' L (L - l) c j V
section JQ
variable {f t V : Nat → Int} {l : Nat} {c j z : Int}
theorem Q_0 : jQ f t 0 (sF1 f 0 (-1003)) 0 (fun _ => 0) := fun _ _ _ _ => rfl
theorem Q_st (Q : jQ f t l c j V) {c' j' x : Int} {V' : Nat → Int} (h : ∀ (L n : Nat) (t' : Nat → Int), L - (n + 1) = l → t' l = x → sA f t' L (n + 1) c j V = sA f t' L n c' j' V') : jQ f (g1 t l x) (l + 1) c' j' V' := by
  intro L t' hL ht
  have h1 := Q L t' (by omega) (fun i hi => by rw [ht i (by omega), g1_n (by omega)])
  obtain ⟨n, hn⟩ : ∃ n, L - l = n + 1 := ⟨L - l - 1, by omega⟩
  rw [h1, hn, show L - (l + 1) = n by omega]
  exact h L n t' (by omega) ((ht l (by omega)).trans g1_s)
theorem Q_sp (Q : jQ f t l c j V) : jQ f (g1 t l 32) (l + 1) c j V := Q_st Q (fun L n t' hl hx => by
  rw [sA, hl, hx, if_pos rfl])
theorem Q_sl (Q : jQ f t l c j V) (hj : sD f c ≤ j) (hn : ¬ sF1 f (c + 1) (-1003) = -1003) : jQ f (g1 t l 47) (l + 1) (sF1 f (c + 1) (-1003)) 0 V := Q_st Q (fun L n t' hl hx => by
  rw [sA, hl, hx, if_neg (by decide), if_pos rfl, if_neg (by omega)])
theorem Q_fc (Q : jQ f t l c j V) (hz : 1 ≤ z ∧ z ≤ 6) (hj : j < sD f c) : jQ f (g1 t l (48 + z)) (l + 1) c (j + 1) (g1 V (gOf f c.toNat + j.toNat) z) := Q_st Q (fun L n t' hl hx => by
  rw [sA, hl, hx, if_neg (by omega), if_neg (by omega), if_pos (by omega), show 48 + z - 48 = z by omega])
theorem Q_end (Q : jQ f t l c j V) : sFD f t l = (if j = sD f c ∧ sF1 f (c + 1) (-1003) = -1003 then -1003 else (l : Int), V) := by
  have h := Q l t (Nat.le_refl _) (fun _ _ => rfl)
  unfold sFD
  rw [h, Nat.sub_self, sA]
theorem sD_n {p : Nat} (hp : p < 5) : sD f p = f p := by
  unfold sD
  rw [m_tn (n := p), if_pos (by omega)]
end JQ
/-- the class's and the law's memory while the law types dice -/
def jDs (σ s : Nat → Nat → Int) (f : Nat → Int) (p i l : Nat) (t V : Nat → Int) : Prop :=
  (∀ c, ¬ c = 86 → ¬ (1 ≤ c ∧ c < 5) → s c = σ c) ∧ (sTX s l t ∧ ∀ i, i < l → 0 ≤ t i ∧ t i ≤ 127) ∧ jFa (σ 86) (s 86) f V p i ∧ ∀ n, n < gOf f p + i → 1 ≤ V n ∧ V n ≤ 6
section JD
variable {σ s s' : Nat → Nat → Int} {f t V : Nat → Int} {p i l : Nat} {x z : Int}
theorem jDs_ty (G : jDs σ s f p i l t V) (hx : 0 ≤ x ∧ x ≤ 127) (F : sF 1 3 s s') (X : sTX s' (l + 1) (g1 t l x)) : jDs σ s' f p i (l + 1) (g1 t l x) V := by
  refine ⟨fun c h1 h2 => (F c (by omega)).trans (G.1 c h1 h2), ⟨X, fun i hi => ?_⟩, by rw [F 86 (by omega)]; exact G.2.2.1, G.2.2.2⟩
  by_cases e : i = l
  · rw [e, g1_s]; exact hx
  · rw [g1_n e]; exact G.2.1.2 i (by omega)
theorem jDs_fa (G : jDs σ s f p i l t V) (F : sF 3 5 s s') : jDs σ s' f p i l t V :=
  ⟨fun c h1 h2 => (F c (by omega)).trans (G.1 c h1 h2), ⟨sTX_e G.2.1.1 (F 1 (by omega)) (F 2 (by omega)), G.2.1.2⟩, by rw [F 86 (by omega)]; exact G.2.2.1, G.2.2.2⟩
theorem jDs_up (G : jDs σ s f p i l t V) (hb : ∀ p, p < 5 → 0 ≤ f p ∧ f p ≤ 5) (hp : p < 5) (hi : (i : Int) < f p) (hz : 1 ≤ z ∧ z ≤ 6) : jDs σ (m_up s 86 (15 + 5 * p + i) z) f p (i + 1) l t (g1 V (gOf f p + i) z) := by
  refine ⟨fun c h1 h2 => by rw [m_up_x h1]; exact G.1 c h1 h2, ⟨sTX_e G.2.1.1 (m_up_x (by decide)) (m_up_x (by decide)), G.2.1.2⟩, by rw [m_up_g]; exact jFa_V G.2.2.1 hb hp hi, fun n hn => ?_⟩
  by_cases e : n = gOf f p + i
  · rw [e, g1_s]; exact hz
  · rw [g1_n e]; exact G.2.2.2 n (by omega)
theorem jDs_p (G : jDs σ s f p i l t V) (hi : (i : Int) = f p ∨ f p ≤ 0) : jDs σ s f (p + 1) 0 l t V :=
  ⟨G.1, G.2.1, jFa_p G.2.2.1 (by omega), fun n hn => G.2.2.2 n (by have e : gOf f (p + 1) = gOf f p + (f p).toNat := rfl; omega)⟩
theorem jDs_T (G : jDs σ s f p i l t V) (T : sTR σ 8 f) : sTR s 8 f := sTR_fr (fun c a b => G.1 c (by omega) (by omega)) T
end JD
