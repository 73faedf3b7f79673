/-! linear functionals over the rationals: either a point or a combination -/
section FK
def rS (g : Nat → Rat) : Nat → Rat
  | 0 => 0
  | n + 1 => rS g n + g n
def rL (φ : (Nat → Rat) → Rat) : Prop := ∀ (x y : Nat → Rat) (c : Rat), φ (fun k => x k + c * y k) = φ x + c * φ y
theorem rS_c {g h : Nat → Rat} : ∀ (n : Nat), (∀ i, i < n → g i = h i) → rS g n = rS h n
  | 0, _ => rfl
  | n + 1, H => by
    show rS g n + g n = rS h n + h n
    rw [rS_c n (fun i hi => H i (by omega)), H n (by omega)]
theorem rS_n {g : Nat → Rat} : ∀ (n : Nat), (∀ i, i < n → 0 ≤ g i) → 0 ≤ rS g n
  | 0, _ => Rat.le_refl
  | n + 1, H => by
    have a := rS_n n (fun i hi => H i (by omega))
    have b := H n (by omega)
    show 0 ≤ rS g n + g n
    grind
theorem rS_d {w A B : Nat → Rat} {p q : Rat} : ∀ (n : Nat), rS (fun i => w i * (A i - B i / p * q)) n = rS (fun i => w i * A i) n - rS (fun i => w i * B i) n / p * q
  | 0 => by
    show (0 : Rat) = 0 - 0 / p * q
    grind
  | n + 1 => by
    show rS (fun i => w i * (A i - B i / p * q)) n + w n * (A n - B n / p * q) = (rS (fun i => w i * A i) n + w n * A n) - (rS (fun i => w i * B i) n + w n * B n) / p * q
    rw [rS_d n]
    grind
theorem rq_dn {x p : Rat} (hx : x ≤ 0) (hp : p < 0) : 0 ≤ x / p := by
  apply Classical.byContradiction
  intro h
  have h1 : x / p < 0 := Rat.not_le.mp h
  have h2 : 0 < (-(x / p)) * (-p) := Rat.mul_pos (by grind) (by grind)
  have h3 : x / p * p = x := Rat.div_mul_cancel (by grind)
  grind
theorem rq_dp {x p : Rat} (hx : 0 ≤ x) (hp : 0 < p) : 0 ≤ x / p := by
  apply Classical.byContradiction
  intro h
  have h1 : x / p < 0 := Rat.not_le.mp h
  have h2 : 0 < (-(x / p)) * p := Rat.mul_pos (by grind) hp
  have h3 : x / p * p = x := Rat.div_mul_cancel (by grind)
  grind
theorem rq_4 {p q r s t : Rat} : p / t + q / t + r / t + s / t = (p + q + r + s) / t := by grind
theorem fk : ∀ (N : Nat) (a : Nat → (Nat → Rat) → Rat) (b : (Nat → Rat) → Rat), (∀ i, i < N → rL (a i)) → rL b → (∃ x, (∀ i, i < N → 0 ≤ a i x) ∧ b x < 0) ∨ ∃ w : Nat → Rat, (∀ i, i < N → 0 ≤ w i) ∧ ∀ x, b x = rS (fun i => w i * a i x) N
  | 0, a, b, ha, hb => by
    by_cases h : ∀ x, b x = 0
    · exact Or.inr ⟨fun _ => 0, fun i hi => absurd hi (by omega), fun x => h x⟩
    · obtain ⟨x, hx⟩ := Classical.not_forall.mp h
      by_cases g : b x < 0
      · exact Or.inl ⟨x, fun i hi => absurd hi (by omega), g⟩
      · refine Or.inl ⟨fun k => x k + (-2) * x k, fun i hi => absurd hi (by omega), ?_⟩
        rw [hb]
        have g2 : 0 ≤ b x := Rat.not_lt.mp g
        grind
  | N + 1, a, b, ha, hb => by
    have hN := ha N (by omega)
    rcases fk N a b (fun i hi => ha i (by omega)) hb with ⟨x, h1, h2⟩ | ⟨w, h1, h2⟩
    · by_cases g : 0 ≤ a N x
      · refine Or.inl ⟨x, fun i hi => ?_, h2⟩
        by_cases e : i = N
        · rw [e]; exact g
        · exact h1 i (by omega)
      · obtain ⟨p, hp⟩ : ∃ p, a N x = p := ⟨_, rfl⟩
        have p0 : p < 0 := by rw [← hp]; exact Rat.not_le.mp g
        have pn : ¬ p = 0 := by grind
        have l1 : ∀ i, i < N → rL ((fun i z => a i z - a i x / p * a N z) i) := fun i hi y z c => by
          show a i _ - a i x / p * a N _ = (a i y - a i x / p * a N y) + c * (a i z - a i x / p * a N z)
          rw [ha i (by omega) y z c, hN y z c]
          grind
        have l2 : rL (fun z => b z - b x / p * a N z) := fun y z c => by
          show b _ - b x / p * a N _ = (b y - b x / p * a N y) + c * (b z - b x / p * a N z)
          rw [hb y z c, hN y z c]
          grind
        rcases fk N (fun i z => a i z - a i x / p * a N z) (fun z => b z - b x / p * a N z) l1 l2 with ⟨z, k1, k2⟩ | ⟨w, k1, k2⟩
        · refine Or.inl ⟨fun k => z k + (-(a N z) / p) * x k, fun i hi => ?_, ?_⟩
          · by_cases e : i = N
            · rw [e, hN, hp]
              have e2 : -a N z / p * p = -a N z := Rat.div_mul_cancel pn
              rw [e2, Rat.add_neg_cancel]
              exact Rat.le_refl
            · have k := k1 i (by omega)
              rw [ha i (by omega)]
              have k' : 0 ≤ a i z - a i x / p * a N z := k
              have e2 : a i z + -a N z / p * a i x = a i z - a i x / p * a N z := by grind
              rw [e2]
              exact k'
          · rw [hb]
            have k' : b z - b x / p * a N z < 0 := k2
            have e2 : b z + -a N z / p * b x = b z - b x / p * a N z := by grind
            rw [e2]
            exact k'
        · obtain ⟨S, hS⟩ : ∃ S, rS (fun i => w i * a i x) N = S := ⟨_, rfl⟩
          have S0 : 0 ≤ S := by rw [← hS]; exact rS_n N (fun i hi => Rat.mul_nonneg (k1 i hi) (h1 i hi))
          refine Or.inr ⟨fun i => if i = N then (b x - S) / p else w i, fun i hi => ?_, fun z => ?_⟩
          · show 0 ≤ if i = N then (b x - S) / p else w i
            by_cases e : i = N
            · rw [if_pos e]
              exact rq_dn (by grind) p0
            · rw [if_neg e]
              exact k1 i (by omega)
          · have k : b z - b x / p * a N z = rS (fun i => w i * (a i z - a i x / p * a N z)) N := k2 z
            have d := rS_d (w := w) (A := fun i => a i z) (B := fun i => a i x) (p := p) (q := a N z) N
            have d' : rS (fun i => w i * (a i z - a i x / p * a N z)) N = rS (fun i => w i * a i z) N - rS (fun i => w i * a i x) N / p * a N z := d
            have c : rS (fun i => (if i = N then (b x - S) / p else w i) * a i z) N = rS (fun i => w i * a i z) N := rS_c N (fun i hi => by
              show (if i = N then (b x - S) / p else w i) * a i z = w i * a i z
              rw [if_neg (by omega)])
            show b z = rS (fun i => (if i = N then (b x - S) / p else w i) * a i z) N + (if N = N then (b x - S) / p else w N) * a N z
            rw [c, if_pos rfl]
            rw [d', hS] at k
            grind
    · refine Or.inr ⟨fun i => if i = N then 0 else w i, fun i hi => ?_, fun z => ?_⟩
      · show 0 ≤ if i = N then 0 else w i
        by_cases e : i = N
        · rw [if_pos e]; exact Rat.le_refl
        · rw [if_neg e]; exact h1 i (by omega)
      · have c : rS (fun i => (if i = N then 0 else w i) * a i z) N = rS (fun i => w i * a i z) N := rS_c N (fun i hi => by
          show (if i = N then 0 else w i) * a i z = w i * a i z
          rw [if_neg (by omega)])
        show b z = rS (fun i => (if i = N then 0 else w i) * a i z) N + (if N = N then 0 else w N) * a N z
        rw [c, if_pos rfl, h2 z]
        grind
end FK
section MM
def t4 (g : Nat → Rat) : Rat := g 0 + g 1 + g 2 + g 3
def cA (A : Nat → Nat → Rat) (x : Nat → Rat) (j : Nat) : Rat := A 0 j * x 0 + A 1 j * x 1 + A 2 j * x 2 + A 3 j * x 3
def rA (A : Nat → Nat → Rat) (y : Nat → Rat) (i : Nat) : Rat := A i 0 * y 0 + A i 1 * y 1 + A i 2 * y 2 + A i 3 * y 3
def fX (M K : Nat → Rat) (A : Nat → Nat → Rat) (i : Nat) (X : Nat → Rat) : Rat :=
  match i with
  | 0 => M 0 * X 0
  | 1 => M 1 * X 1
  | 2 => M 2 * X 2
  | 3 => M 3 * X 3
  | 4 => K 0 * X 4
  | 5 => K 1 * X 5
  | 6 => K 2 * X 6
  | 7 => K 3 * X 7
  | 8 => K 0 * (A 0 0 * (M 0 * X 0) + A 1 0 * (M 1 * X 1) + A 2 0 * (M 2 * X 2) + A 3 0 * (M 3 * X 3) - X 8)
  | 9 => K 1 * (A 0 1 * (M 0 * X 0) + A 1 1 * (M 1 * X 1) + A 2 1 * (M 2 * X 2) + A 3 1 * (M 3 * X 3) - X 8)
  | 10 => K 2 * (A 0 2 * (M 0 * X 0) + A 1 2 * (M 1 * X 1) + A 2 2 * (M 2 * X 2) + A 3 2 * (M 3 * X 3) - X 8)
  | 11 => K 3 * (A 0 3 * (M 0 * X 0) + A 1 3 * (M 1 * X 1) + A 2 3 * (M 2 * X 2) + A 3 3 * (M 3 * X 3) - X 8)
  | 12 => M 0 * (X 8 - (A 0 0 * (K 0 * X 4) + A 0 1 * (K 1 * X 5) + A 0 2 * (K 2 * X 6) + A 0 3 * (K 3 * X 7)))
  | 13 => M 1 * (X 8 - (A 1 0 * (K 0 * X 4) + A 1 1 * (K 1 * X 5) + A 1 2 * (K 2 * X 6) + A 1 3 * (K 3 * X 7)))
  | 14 => M 2 * (X 8 - (A 2 0 * (K 0 * X 4) + A 2 1 * (K 1 * X 5) + A 2 2 * (K 2 * X 6) + A 2 3 * (K 3 * X 7)))
  | 15 => M 3 * (X 8 - (A 3 0 * (K 0 * X 4) + A 3 1 * (K 1 * X 5) + A 3 2 * (K 2 * X 6) + A 3 3 * (K 3 * X 7)))
  | 16 => M 0 * X 0 + M 1 * X 1 + M 2 * X 2 + M 3 * X 3 - (K 0 * X 4 + K 1 * X 5 + K 2 * X 6 + K 3 * X 7)
  | _ => K 0 * X 4 + K 1 * X 5 + K 2 * X 6 + K 3 * X 7 - (M 0 * X 0 + M 1 * X 1 + M 2 * X 2 + M 3 * X 3)
def vX (x y : Nat → Rat) (v : Rat) : Nat → Rat := fun k => if k < 4 then x k else if k < 8 then y (k - 4) else v
variable {M K : Nat → Rat} {A : Nat → Nat → Rat}
theorem fX_l (i : Nat) : rL (fX M K A i) := by
  intro x y c
  unfold fX
  split <;> grind
/-- no combination gives the sum -/
theorem mm_no (hM : ∀ i, i < 4 → 0 ≤ M i) (hK : ∀ i, i < 4 → 0 ≤ K i) (hM0 : M 0 = 1) (hK0 : K 0 = 1) (w : Nat → Rat) (hw : ∀ i, i < 18 → 0 ≤ w i) (h : ∀ X, -(M 0 * X 0 + M 1 * X 1 + M 2 * X 2 + M 3 * X 3) = rS (fun i => w i * fX M K A i X) 18) : False := by
  obtain ⟨μ, hμ⟩ : ∃ μ : Nat → Rat, ∀ j, μ j = w (8 + j) * K j := ⟨_, fun _ => rfl⟩
  obtain ⟨ν, hν⟩ : ∃ ν : Nat → Rat, ∀ j, ν j = w (12 + j) * M j := ⟨_, fun _ => rfl⟩
  have H : ∀ (x y : Nat → Rat) (v : Rat), -(M 0 * x 0 + M 1 * x 1 + M 2 * x 2 + M 3 * x 3) = (w 0 * (M 0 * x 0) + w 1 * (M 1 * x 1) + w 2 * (M 2 * x 2) + w 3 * (M 3 * x 3)) + (w 4 * (K 0 * y 0) + w 5 * (K 1 * y 1) + w 6 * (K 2 * y 2) + w 7 * (K 3 * y 3)) + (μ 0 * (cA A (fun i => M i * x i) 0 - v) + μ 1 * (cA A (fun i => M i * x i) 1 - v) + μ 2 * (cA A (fun i => M i * x i) 2 - v) + μ 3 * (cA A (fun i => M i * x i) 3 - v)) + (ν 0 * (v - rA A (fun i => K i * y i) 0) + ν 1 * (v - rA A (fun i => K i * y i) 1) + ν 2 * (v - rA A (fun i => K i * y i) 2) + ν 3 * (v - rA A (fun i => K i * y i) 3)) + (w 16 - w 17) * ((M 0 * x 0 + M 1 * x 1 + M 2 * x 2 + M 3 * x 3) - (K 0 * y 0 + K 1 * y 1 + K 2 * y 2 + K 3 * y 3)) := by
    intro x y v
    have k := h (vX x y v)
    have e0 : vX x y v 0 = x 0 := rfl
    have e1 : vX x y v 1 = x 1 := rfl
    have e2 : vX x y v 2 = x 2 := rfl
    have e3 : vX x y v 3 = x 3 := rfl
    have e4 : vX x y v 4 = y 0 := rfl
    have e5 : vX x y v 5 = y 1 := rfl
    have e6 : vX x y v 6 = y 2 := rfl
    have e7 : vX x y v 7 = y 3 := rfl
    have e8 : vX x y v 8 = v := rfl
    have m0 : μ 0 = w 8 * K 0 := hμ 0
    have m1 : μ 1 = w 9 * K 1 := hμ 1
    have m2 : μ 2 = w 10 * K 2 := hμ 2
    have m3 : μ 3 = w 11 * K 3 := hμ 3
    have n0 : ν 0 = w 12 * M 0 := hν 0
    have n1 : ν 1 = w 13 * M 1 := hν 1
    have n2 : ν 2 = w 14 * M 2 := hν 2
    have n3 : ν 3 = w 15 * M 3 := hν 3
    simp only [rS, fX, e0, e1, e2, e3, e4, e5, e6, e7, e8] at k
    simp only [cA, rA, m0, m1, m2, m3, n0, n1, n2, n3]
    rw [k]
    grind
  have μ0 : ∀ j, j < 4 → 0 ≤ μ j := fun j hj => by rw [hμ]; exact Rat.mul_nonneg (hw _ (by omega)) (hK j hj)
  have ν0 : ∀ j, j < 4 → 0 ≤ ν j := fun j hj => by rw [hν]; exact Rat.mul_nonneg (hw _ (by omega)) (hM j hj)
  have h1 := H (fun _ => 0) (fun _ => 0) 1
  simp only [cA, rA] at h1
  have s1 : ν 0 + ν 1 + ν 2 + ν 3 = μ 0 + μ 1 + μ 2 + μ 3 := by grind
  have h2 := H (fun i => w (12 + i)) (fun j => w (8 + j)) 0
  have c1 : ∀ i, M i * w (12 + i) = ν i := fun i => by rw [hν]; exact Rat.mul_comm _ _
  have c2 : ∀ i, K i * w (8 + i) = μ i := fun i => by rw [hμ]; exact Rat.mul_comm _ _
  simp only [c1, c2, cA, rA] at h2
  have p0 := Rat.mul_nonneg (hw 0 (by decide)) (ν0 0 (by decide))
  have p1 := Rat.mul_nonneg (hw 1 (by decide)) (ν0 1 (by decide))
  have p2 := Rat.mul_nonneg (hw 2 (by decide)) (ν0 2 (by decide))
  have p3 := Rat.mul_nonneg (hw 3 (by decide)) (ν0 3 (by decide))
  have q0 := Rat.mul_nonneg (hw 4 (by decide)) (μ0 0 (by decide))
  have q1 := Rat.mul_nonneg (hw 5 (by decide)) (μ0 1 (by decide))
  have q2 := Rat.mul_nonneg (hw 6 (by decide)) (μ0 2 (by decide))
  have q3 := Rat.mul_nonneg (hw 7 (by decide)) (μ0 3 (by decide))
  have a0 := ν0 0 (by decide)
  have a1 := ν0 1 (by decide)
  have a2 := ν0 2 (by decide)
  have a3 := ν0 3 (by decide)
  have b0 := μ0 0 (by decide)
  have b1 := μ0 1 (by decide)
  have b2 := μ0 2 (by decide)
  have b3 := μ0 3 (by decide)
  have s2 : -(ν 0 + ν 1 + ν 2 + ν 3) = (w 0 * ν 0 + w 1 * ν 1 + w 2 * ν 2 + w 3 * ν 3) + (w 4 * μ 0 + w 5 * μ 1 + w 6 * μ 2 + w 7 * μ 3) := by
    rw [h2]
    have s3 : (ν 0 + ν 1 + ν 2 + ν 3) - (μ 0 + μ 1 + μ 2 + μ 3) = 0 := by grind
    rw [s3]
    grind
  have z : ν 0 + ν 1 + ν 2 + ν 3 ≤ 0 := by grind
  have za : ν 0 = 0 ∧ ν 1 = 0 ∧ ν 2 = 0 ∧ ν 3 = 0 := by refine ⟨?_, ?_, ?_, ?_⟩ <;> grind
  have zb : μ 0 = 0 ∧ μ 1 = 0 ∧ μ 2 = 0 ∧ μ 3 = 0 := by refine ⟨?_, ?_, ?_, ?_⟩ <;> grind
  have h3 := H (fun i => if i = 0 then 1 else 0) (fun i => if i = 0 then 1 else 0) 0
  rw [za.1, za.2.1, za.2.2.1, za.2.2.2, zb.1, zb.2.1, zb.2.2.1, zb.2.2.2, hM0, hK0] at h3
  have w0 := hw 0 (by decide)
  have w4 := hw 4 (by decide)
  have i0 : ((if (0 : Nat) = 0 then (1 : Rat) else 0)) = 1 := if_pos rfl
  have i1 : ((if (1 : Nat) = 0 then (1 : Rat) else 0)) = 0 := if_neg (by decide)
  have i2 : ((if (2 : Nat) = 0 then (1 : Rat) else 0)) = 0 := if_neg (by decide)
  have i3 : ((if (3 : Nat) = 0 then (1 : Rat) else 0)) = 0 := if_neg (by decide)
  simp only [i0, i1, i2, i3] at h3
  grind
theorem mmx (hM : ∀ i, i < 4 → 0 ≤ M i) (hK : ∀ i, i < 4 → 0 ≤ K i) (hM0 : M 0 = 1) (hK0 : K 0 = 1) : ∃ (x y : Nat → Rat) (v : Rat), ((∀ i, i < 4 → 0 ≤ x i) ∧ ∀ j, j < 4 → 0 ≤ y j) ∧ ((∀ i, M i = 0 → x i = 0) ∧ ∀ j, K j = 0 → y j = 0) ∧ (t4 x = 1 ∧ t4 y = 1) ∧ (∀ j, j < 4 → K j = 1 → v ≤ cA A x j) ∧ ∀ i, i < 4 → M i = 1 → rA A y i ≤ v := by
  have lb : rL (fun X => -(M 0 * X 0 + M 1 * X 1 + M 2 * X 2 + M 3 * X 3)) := fun x y c => by
    show -(M 0 * (x 0 + c * y 0) + M 1 * (x 1 + c * y 1) + M 2 * (x 2 + c * y 2) + M 3 * (x 3 + c * y 3)) = -(M 0 * x 0 + M 1 * x 1 + M 2 * x 2 + M 3 * x 3) + c * -(M 0 * y 0 + M 1 * y 1 + M 2 * y 2 + M 3 * y 3)
    grind
  rcases fk 18 (fX M K A) _ (fun i _ => fX_l i) lb with ⟨X, h1, h2⟩ | ⟨w, h1, h2⟩
  · have h2' : -(M 0 * X 0 + M 1 * X 1 + M 2 * X 2 + M 3 * X 3) < 0 := h2
    obtain ⟨t, ht⟩ : ∃ t, M 0 * X 0 + M 1 * X 1 + M 2 * X 2 + M 3 * X 3 = t := ⟨_, rfl⟩
    have t0 : 0 < t := by grind
    have tn : ¬ t = 0 := by grind
    have g16 := h1 16 (by decide)
    have g17 := h1 17 (by decide)
    simp only [fX] at g16 g17
    have ht2 : K 0 * X 4 + K 1 * X 5 + K 2 * X 6 + K 3 * X 7 = t := by grind
    have xi : ∀ i, i < 4 → 0 ≤ M i * X i := fun i hi => by
      have g : i = 0 ∨ i = 1 ∨ i = 2 ∨ i = 3 := by omega
      rcases g with rfl | rfl | rfl | rfl
      · exact h1 0 (by decide)
      · exact h1 1 (by decide)
      · exact h1 2 (by decide)
      · exact h1 3 (by decide)
    have yi : ∀ i, i < 4 → 0 ≤ K i * X (4 + i) := fun i hi => by
      have g : i = 0 ∨ i = 1 ∨ i = 2 ∨ i = 3 := by omega
      rcases g with rfl | rfl | rfl | rfl
      · exact h1 4 (by decide)
      · exact h1 5 (by decide)
      · exact h1 6 (by decide)
      · exact h1 7 (by decide)
    have ci : ∀ j, j < 4 → 0 ≤ K j * (A 0 j * (M 0 * X 0) + A 1 j * (M 1 * X 1) + A 2 j * (M 2 * X 2) + A 3 j * (M 3 * X 3) - X 8) := fun i hi => by
      have g : i = 0 ∨ i = 1 ∨ i = 2 ∨ i = 3 := by omega
      rcases g with rfl | rfl | rfl | rfl
      · exact h1 8 (by decide)
      · exact h1 9 (by decide)
      · exact h1 10 (by decide)
      · exact h1 11 (by decide)
    have ri : ∀ i, i < 4 → 0 ≤ M i * (X 8 - (A i 0 * (K 0 * X 4) + A i 1 * (K 1 * X 5) + A i 2 * (K 2 * X 6) + A i 3 * (K 3 * X 7))) := fun i hi => by
      have g : i = 0 ∨ i = 1 ∨ i = 2 ∨ i = 3 := by omega
      rcases g with rfl | rfl | rfl | rfl
      · exact h1 12 (by decide)
      · exact h1 13 (by decide)
      · exact h1 14 (by decide)
      · exact h1 15 (by decide)
    refine ⟨fun i => M i * X i / t, fun i => K i * X (4 + i) / t, X 8 / t, ⟨fun i hi => rq_dp (xi i hi) t0, fun i hi => rq_dp (yi i hi) t0⟩, ⟨fun i hi => ?_, fun i hi => ?_⟩, ⟨?_, ?_⟩, fun j hj hk => ?_, fun i hi hm => ?_⟩
    · show M i * X i / t = 0
      rw [hi]
      grind
    · show K i * X (4 + i) / t = 0
      rw [hi]
      grind
    · show M 0 * X 0 / t + M 1 * X 1 / t + M 2 * X 2 / t + M 3 * X 3 / t = 1
      rw [rq_4, ht]
      exact Rat.mul_inv_cancel t tn
    · show K 0 * X 4 / t + K 1 * X 5 / t + K 2 * X 6 / t + K 3 * X 7 / t = 1
      rw [rq_4, ht2]
      exact Rat.mul_inv_cancel t tn
    · have c := ci j hj
      rw [hk] at c
      refine Rat.le_of_mul_le_mul_left (c := t) ?_ t0
      have e1 : t * (X 8 / t) = X 8 := by grind
      have e2 : t * cA A (fun i => M i * X i / t) j = A 0 j * (M 0 * X 0) + A 1 j * (M 1 * X 1) + A 2 j * (M 2 * X 2) + A 3 j * (M 3 * X 3) := by
        show t * (A 0 j * (M 0 * X 0 / t) + A 1 j * (M 1 * X 1 / t) + A 2 j * (M 2 * X 2 / t) + A 3 j * (M 3 * X 3 / t)) = _
        grind
      rw [e1, e2]
      grind
    · have c := ri i hi
      rw [hm] at c
      refine Rat.le_of_mul_le_mul_left (c := t) ?_ t0
      have e1 : t * (X 8 / t) = X 8 := by grind
      have e2 : t * rA A (fun i => K i * X (4 + i) / t) i = A i 0 * (K 0 * X 4) + A i 1 * (K 1 * X 5) + A i 2 * (K 2 * X 6) + A i 3 * (K 3 * X 7) := by
        show t * (A i 0 * (K 0 * X 4 / t) + A i 1 * (K 1 * X 5 / t) + A i 2 * (K 2 * X 6 / t) + A i 3 * (K 3 * X 7 / t)) = _
        grind
      rw [e1, e2]
      grind
  · exact absurd trivial (fun _ => mm_no hM hK hM0 hK0 w h1 h2)
end MM
