/-! every matrix has a solution -/
section EX
variable {a : Nat → Nat → Int} {A : Nat → Nat → Rat} {m n R C : Nat} {v : Rat} {x y z : Nat → Rat}
theorem nt_b : ∀ R : Nat, R < 16 → ∀ i : Nat, i < 4 → i < sPc R → sBi R (sNt R i) = 1 := by decide +kernel
theorem nt_j : ∀ R : Nat, R < 16 → ∀ i : Nat, i < 4 → ∀ j : Nat, j < 4 → (i < sPc R ∧ j < sPc R ∧ sNt R i = sNt R j) → i = j := by decide +kernel
theorem nt_i (R : Nat) (h : R < 16) (i : Nat) (hi : i < 4) (j : Nat) (hj : j < 4) (h1 : i < sPc R) (h2 : j < sPc R) (h3 : sNt R i = sNt R j) : i = j := nt_j R h i hi j hj ⟨h1, h2, h3⟩
theorem cn_lt : ∀ R : Nat, R < 16 → ∀ r : Nat, r < 4 → sBi R r = 1 → sCn R r < sPc R := by decide +kernel
theorem t4R {g : Nat → Rat} {R : Nat} (hR : R < 16) (H : ∀ k, k < 4 → sBi R k = 0 → g k = 0) : t4 g = rS (fun i => g (sNt R i)) (sPc R) := by
  have gR : R = 0 ∨ R = 1 ∨ R = 2 ∨ R = 3 ∨ R = 4 ∨ R = 5 ∨ R = 6 ∨ R = 7 ∨ R = 8 ∨ R = 9 ∨ R = 10 ∨ R = 11 ∨ R = 12 ∨ R = 13 ∨ R = 14 ∨ R = 15 := by omega
  rcases gR with rfl | rfl | rfl | rfl | rfl | rfl | rfl | rfl | rfl | rfl | rfl | rfl | rfl | rfl | rfl | rfl
  · show g 0 + g 1 + g 2 + g 3 = (0 : Rat)
    have z0 := H 0 (by decide) (by decide)
    have z1 := H 1 (by decide) (by decide)
    have z2 := H 2 (by decide) (by decide)
    have z3 := H 3 (by decide) (by decide)
    rw [z0, z1, z2, z3]
    grind
  · show g 0 + g 1 + g 2 + g 3 = ((0 : Rat) + g 0)
    have z1 := H 1 (by decide) (by decide)
    have z2 := H 2 (by decide) (by decide)
    have z3 := H 3 (by decide) (by decide)
    rw [z1, z2, z3]
    grind
  · show g 0 + g 1 + g 2 + g 3 = ((0 : Rat) + g 1)
    have z0 := H 0 (by decide) (by decide)
    have z2 := H 2 (by decide) (by decide)
    have z3 := H 3 (by decide) (by decide)
    rw [z0, z2, z3]
    grind
  · show g 0 + g 1 + g 2 + g 3 = (((0 : Rat) + g 0) + g 1)
    have z2 := H 2 (by decide) (by decide)
    have z3 := H 3 (by decide) (by decide)
    rw [z2, z3]
    grind
  · show g 0 + g 1 + g 2 + g 3 = ((0 : Rat) + g 2)
    have z0 := H 0 (by decide) (by decide)
    have z1 := H 1 (by decide) (by decide)
    have z3 := H 3 (by decide) (by decide)
    rw [z0, z1, z3]
    grind
  · show g 0 + g 1 + g 2 + g 3 = (((0 : Rat) + g 0) + g 2)
    have z1 := H 1 (by decide) (by decide)
    have z3 := H 3 (by decide) (by decide)
    rw [z1, z3]
    grind
  · show g 0 + g 1 + g 2 + g 3 = (((0 : Rat) + g 1) + g 2)
    have z0 := H 0 (by decide) (by decide)
    have z3 := H 3 (by decide) (by decide)
    rw [z0, z3]
    grind
  · show g 0 + g 1 + g 2 + g 3 = ((((0 : Rat) + g 0) + g 1) + g 2)
    have z3 := H 3 (by decide) (by decide)
    rw [z3]
    grind
  · show g 0 + g 1 + g 2 + g 3 = ((0 : Rat) + g 3)
    have z0 := H 0 (by decide) (by decide)
    have z1 := H 1 (by decide) (by decide)
    have z2 := H 2 (by decide) (by decide)
    rw [z0, z1, z2]
    grind
  · show g 0 + g 1 + g 2 + g 3 = (((0 : Rat) + g 0) + g 3)
    have z1 := H 1 (by decide) (by decide)
    have z2 := H 2 (by decide) (by decide)
    rw [z1, z2]
    grind
  · show g 0 + g 1 + g 2 + g 3 = (((0 : Rat) + g 1) + g 3)
    have z0 := H 0 (by decide) (by decide)
    have z2 := H 2 (by decide) (by decide)
    rw [z0, z2]
    grind
  · show g 0 + g 1 + g 2 + g 3 = ((((0 : Rat) + g 0) + g 1) + g 3)
    have z2 := H 2 (by decide) (by decide)
    rw [z2]
    grind
  · show g 0 + g 1 + g 2 + g 3 = (((0 : Rat) + g 2) + g 3)
    have z0 := H 0 (by decide) (by decide)
    have z1 := H 1 (by decide) (by decide)
    rw [z0, z1]
    grind
  · show g 0 + g 1 + g 2 + g 3 = ((((0 : Rat) + g 0) + g 2) + g 3)
    have z1 := H 1 (by decide) (by decide)
    rw [z1]
    grind
  · show g 0 + g 1 + g 2 + g 3 = ((((0 : Rat) + g 1) + g 2) + g 3)
    have z0 := H 0 (by decide) (by decide)
    rw [z0]
  · show g 0 + g 1 + g 2 + g 3 = (((((0 : Rat) + g 0) + g 1) + g 2) + g 3)
    grind
theorem nonempty_C (V : pV A v m n R C x y) : ∃ j, j < 4 ∧ sBi C j = 1 := by
  apply Classical.byContradiction
  intro h
  obtain ⟨_, ⟨b1, b2⟩, _, d⟩ := V
  rw [t4_0 y (fun j hj => (d j hj).2.1 (by
    have := sBi_2 C j
    have : ¬ sBi C j = 1 := fun h2 => h ⟨j, hj, h2⟩
    omega))] at b2
  exact absurd b2 (by grind)
theorem pSz (V : pV A v m n R C x y) (N : pN A R C) : sPc R ≤ sPc C := by
  apply Classical.byContradiction
  intro h
  obtain ⟨j0, hj0, hb⟩ := nonempty_C V
  have hR := V.1.1.1
  have hC := V.1.2.1
  have hC0 := bR_n C hC j0 hj0 hb
  obtain ⟨r1, r2, r3⟩ := bR_s C hC j0 hj0 hb
  obtain ⟨z, ⟨i, hi, hz⟩, k1, k2⟩ := few (sPc R - 1) R hR (by omega) (fun e i => match e with
    | 0 => 1
    | e + 1 => A i (sNt (C - 2 ^ j0) e) - A i j0)
  have s0 : t4 z = 0 := by
    have k : t4 (fun i => 1 * z i) = 0 := k2 0 (by omega)
    unfold t4 at k ⊢
    grind
  refine hz (pC V N k1 s0 (c := cA A z j0) (fun j hj h2 => ?_) i hi)
  by_cases e : j = j0
  · rw [e]
  · have hb2 : sBi (C - 2 ^ j0) j = 1 := by rw [r3 j hj, if_neg e]; exact h2
    have lt := cn_lt _ r1 j hj hb2
    have k : t4 (fun i => (A i (sNt (C - 2 ^ j0) (sCn (C - 2 ^ j0) j)) - A i j0) * z i) = 0 := k2 (sCn (C - 2 ^ j0) j + 1) (by omega)
    rw [sNt_c _ r1 j hj hb2] at k
    unfold t4 at k
    unfold cA
    grind
theorem pInv (V : pV A v m n R C x y) (N : pN A R C) (hs : sPc R = sPc C) {j0 j1 : Nat} (h0 : j0 < 4) (h1 : j1 < 4) (b0 : sBi C j0 = 1) (b1 : sBi C j1 = 1) (ne : ¬ j1 = j0) : ∃ z : Nat → Rat, (∀ i, i < 4 → sBi R i = 0 → z i = 0) ∧ t4 z = 0 ∧ ∀ j, j < 4 → sBi C j = 1 → cA A z j - cA A z j0 = if j = j1 then 1 else 0 := by
  have hR := V.1.1.1
  have hC := V.1.2.1
  obtain ⟨r1, r2, r3⟩ := bR_s C hC j0 h0 b0
  have b1' : sBi (C - 2 ^ j0) j1 = 1 := by rw [r3 j1 h1, if_neg ne]; exact b1
  obtain ⟨t1, t2, t3⟩ := bR_s _ r1 j1 h1 b1'
  obtain ⟨C2, hC2⟩ : ∃ C2, C - 2 ^ j0 - 2 ^ j1 = C2 := ⟨_, rfl⟩
  rw [hC2] at t1 t2 t3
  obtain ⟨z, ⟨i, hi, hz⟩, k1, k2⟩ := few (sPc R - 1) R hR (by omega) (fun e i => match e with
    | 0 => 1
    | e + 1 => A i (sNt C2 e) - A i j0)
  have s0 : t4 z = 0 := by
    have k : t4 (fun i => 1 * z i) = 0 := k2 0 (by omega)
    unfold t4 at k ⊢
    grind
  have s1 : ∀ j, j < 4 → sBi C j = 1 → ¬ j = j1 → cA A z j = cA A z j0 := fun j hj h2 e1 => by
    by_cases e : j = j0
    · rw [e]
    · have hb2 : sBi C2 j = 1 := by rw [t3 j hj, if_neg e1, r3 j hj, if_neg e]; exact h2
      have lt := cn_lt _ t1 j hj hb2
      have k : t4 (fun i => (A i (sNt C2 (sCn C2 j)) - A i j0) * z i) = 0 := k2 (sCn C2 j + 1) (by omega)
      rw [sNt_c _ t1 j hj hb2] at k
      unfold t4 at k
      unfold cA
      grind
  obtain ⟨d, hd⟩ : ∃ d, cA A z j1 - cA A z j0 = d := ⟨_, rfl⟩
  have dn : ¬ d = 0 := fun d0 => hz (pC V N k1 s0 (c := cA A z j0) (fun j hj h2 => by
    by_cases e : j = j1
    · rw [e]; grind
    · exact s1 j hj h2 e) i hi)
  have cd : ∀ j, cA A (fun i => z i / d) j = cA A z j / d := fun j => by
    unfold cA
    grind
  refine ⟨fun i => z i / d, fun i hi h => ?_, ?_, fun j hj h2 => ?_⟩
  · show z i / d = 0
    rw [k1 i hi h]
    grind
  · have : t4 (fun i => z i / d) = t4 z / d := by
      unfold t4
      grind
    rw [this, s0]
    grind
  · rw [cd, cd]
    by_cases e : j = j1
    · rw [if_pos e, e]
      grind
    · rw [if_neg e, s1 j hj h2 e]
      grind
theorem pEq (V : pV A v m n R C x y) (N : pN A R C) (hs : sPc R = sPc C) {l : Nat} (hl : 0 < l ∧ l < sPc R) : ∃ p : Nat → Rat, rS p (sPc R) = 0 ∧ ∀ j, j < sPc R → rS (fun i => A (sNt R i) (sNt C j) * p i) (sPc R) - rS (fun i => A (sNt R i) (sNt C 0) * p i) (sPc R) = if j = l then 1 else 0 := by
  have hR := V.1.1.1
  have hC := V.1.2.1
  have b4 := bt_4 R hR
  obtain ⟨z, k1, k2, k3⟩ := pInv V N hs (sNt_4 C 0) (sNt_4 C l) (nt_b C hC 0 (by decide) (by omega)) (nt_b C hC l (by omega) (by omega)) (fun h => by
    have := nt_i C hC l (by omega) 0 (by decide) (by omega) (by omega) h
    omega)
  have cz : ∀ j, cA A z j = rS (fun i => A (sNt R i) j * z (sNt R i)) (sPc R) := fun j => by
    have e : cA A z j = t4 (fun i => A i j * z i) := rfl
    rw [e, t4R hR (fun k hk h => by
      show A k j * z k = 0
      rw [k1 k hk h]
      grind)]
  refine ⟨fun i => z (sNt R i), ?_, fun j hj => ?_⟩
  · rw [← t4R (g := z) hR k1]
    exact k2
  · have k := k3 (sNt C j) (sNt_4 C j) (nt_b C hC j (by omega) (by omega))
    rw [cz, cz] at k
    rw [k]
    by_cases e : j = l
    · rw [e, if_pos rfl, if_pos rfl]
    · rw [if_neg e, if_neg (fun h => e (nt_i C hC j (by omega) l (by omega) (by omega) (by omega) h))]
theorem m2i {p q r s B1 B2 B3 B4 : Rat} (h1 : p * B1 + q * B3 = 1) (h2 : p * B2 + q * B4 = 0) (h3 : r * B1 + s * B3 = 0) (h4 : r * B2 + s * B4 = 1) : ¬ B1 * B4 - B2 * B3 = 0 := by
  intro h
  have e : (p * s - q * r) * (B1 * B4 - B2 * B3) = (p * B1 + q * B3) * (r * B2 + s * B4) - (p * B2 + q * B4) * (r * B1 + s * B3) := by grind
  rw [h1, h2, h3, h4, h] at e
  grind
theorem m3i {p q r s t u f g h a b c d e i j k l : Rat} (h1 : p * a + q * d + r * j = 1) (h2 : p * b + q * e + r * k = 0) (h3 : p * c + q * i + r * l = 0) (h4 : s * a + t * d + u * j = 0) (h5 : s * b + t * e + u * k = 1) (h6 : s * c + t * i + u * l = 0) (h7 : f * a + g * d + h * j = 0) (h8 : f * b + g * e + h * k = 0) (h9 : f * c + g * i + h * l = 1) : ¬ a * (e * l - i * k) - b * (d * l - i * j) + c * (d * k - e * j) = 0 := by
  intro h0
  have w : (p * (t * h - u * g) - q * (s * h - u * f) + r * (s * g - t * f)) * (a * (e * l - i * k) - b * (d * l - i * j) + c * (d * k - e * j)) = (p * a + q * d + r * j) * ((s * b + t * e + u * k) * (f * c + g * i + h * l) - (s * c + t * i + u * l) * (f * b + g * e + h * k)) - (p * b + q * e + r * k) * ((s * a + t * d + u * j) * (f * c + g * i + h * l) - (s * c + t * i + u * l) * (f * a + g * d + h * j)) + (p * c + q * i + r * l) * ((s * a + t * d + u * j) * (f * b + g * e + h * k) - (s * b + t * e + u * k) * (f * a + g * d + h * j)) := by grind
  rw [h1, h2, h3, h4, h5, h6, h7, h8, h9, h0] at w
  grind
def gA (a : Nat → Nat → Int) : Nat → Nat → Rat := fun i j => ((a i j : Int) : Rat)
theorem pD (V : pV (gA a) v m n R C x y) (N : pN (gA a) R C) (hs : sPc R = sPc C) : ¬ sDn a R C = 0 := by
  have hR := V.1.1.1
  have hC := V.1.2.1
  obtain ⟨j0, hj0, hb0⟩ := nonempty_C V
  have p0 := bR_n C hC j0 hj0 hb0
  have b4 := bt_4 R hR
  have E := fun l hl => pEq V N hs (l := l) hl
  rw [sDn_d a hR hC hs (by omega)]
  intro h0
  have h : ((sE (sPc R) (fun i j => a (sNt R i) (sNt C j)) : Int) : Rat) = 0 := by rw [h0]; rfl
  obtain ⟨b, hb⟩ : ∃ b : Nat → Nat → Rat, ∀ i j, b i j = gA a (sNt R i) (sNt C j) := ⟨_, fun _ _ => rfl⟩
  have hb' : ∀ i j, ((a (sNt R i) (sNt C j) : Int) : Rat) = b i j := fun i j => (hb i j).symm
  have g : sPc R = 1 ∨ sPc R = 2 ∨ sPc R = 3 ∨ sPc R = 4 := by omega
  rcases g with g | g | g | g <;> rw [g] at E h
  · have h1 : (1 : Rat) = 0 := h
    exact absurd h1 (by grind)
  · obtain ⟨p, e0, e1⟩ := E 1 (by decide)
    have f1 := e1 1 (by decide)
    rw [if_pos rfl] at f1
    simp only [rS, ← hb] at e0 f1
    simp only [sE, Rat.intCast_sub, Rat.intCast_add, hb'] at h
    have k : p 1 * (b 1 1 - b 1 0 - b 0 1 + b 0 0) = 1 := by grind
    rw [h] at k
    exact absurd k (by grind)
  · obtain ⟨p, e0, e1⟩ := E 1 (by decide)
    obtain ⟨q, g0, g1⟩ := E 2 (by decide)
    have f1 := e1 1 (by decide)
    have f2 := e1 2 (by decide)
    have f3 := g1 1 (by decide)
    have f4 := g1 2 (by decide)
    rw [if_pos rfl] at f1 f4
    rw [if_neg (by decide)] at f2 f3
    simp only [rS, ← hb] at e0 g0 f1 f2 f3 f4
    simp only [sE, d2, Rat.intCast_sub, Rat.intCast_add, Rat.intCast_mul, hb'] at h
    exact m2i (p := p 1) (q := p 2) (r := q 1) (s := q 2) (by grind) (by grind) (by grind) (by grind) h
  · obtain ⟨p, e0, e1⟩ := E 1 (by decide)
    obtain ⟨q, g0, g1⟩ := E 2 (by decide)
    obtain ⟨r, k0, k1⟩ := E 3 (by decide)
    have f1 := e1 1 (by decide)
    have f2 := e1 2 (by decide)
    have f3 := e1 3 (by decide)
    have f4 := g1 1 (by decide)
    have f5 := g1 2 (by decide)
    have f6 := g1 3 (by decide)
    have f7 := k1 1 (by decide)
    have f8 := k1 2 (by decide)
    have f9 := k1 3 (by decide)
    rw [if_pos rfl] at f1 f5 f9
    rw [if_neg (by decide)] at f2 f3 f4 f6 f7 f8
    simp only [rS, ← hb] at e0 g0 k0 f1 f2 f3 f4 f5 f6 f7 f8 f9
    simp only [sE, d3, d2, Rat.intCast_sub, Rat.intCast_add, Rat.intCast_mul, hb'] at h
    exact m3i (p := p 1) (q := p 2) (r := p 3) (s := q 1) (t := q 2) (u := q 3) (f := r 1) (g := r 2) (h := r 3) (by grind) (by grind) (by grind) (by grind) (by grind) (by grind) (by grind) (by grind) (by grind) h
theorem sRh_0 {i : Nat} (h : sBi R i = 0) : sRh a R C i = 0 := by
  have e : ∀ c, sXc a R C i c = 0 := fun c => if_neg (fun z => by omega)
  show (((0 + sXc a R C i 0) + sXc a R C i 1) + sXc a R C i 2) + sXc a R C i 3 = 0
  rw [e, e, e, e]
  rfl
theorem sKa_0 {i : Nat} (h : sBi C i = 0) : sKa a R C i = 0 := by
  have e : ∀ c, sXc a R C c i = 0 := fun c => if_neg (fun z => by omega)
  show (((0 + sXc a R C 0 i) + sXc a R C 1 i) + sXc a R C 2 i) + sXc a R C 3 i = 0
  rw [e, e, e, e]
  rfl
theorem sKa_s : (((0 + sKa a R C 0) + sKa a R C 1) + sKa a R C 2) + sKa a R C 3 = sDn a R C := by
  unfold sDn sRh sKa
  simp only [sSm]
  omega
theorem pRho (V : pV (gA a) v m n R C x y) (N : pN (gA a) R C) (hs : sPc R = sPc C) : (∀ i, i < 4 → ((sRh a R C i : Int) : Rat) = ((sDn a R C : Int) : Rat) * x i) ∧ ((sMi a R C : Int) : Rat) = ((sDn a R C : Int) : Rat) * v := by
  have hR := V.1.1.1
  have hC := V.1.2.1
  obtain ⟨D, hD⟩ : ∃ D : Rat, ((sDn a R C : Int) : Rat) = D := ⟨_, rfl⟩
  obtain ⟨ρ, hρ⟩ : ∃ ρ : Nat → Rat, ∀ i, ((sRh a R C i : Int) : Rat) = ρ i := ⟨_, fun _ => rfl⟩
  have sum : t4 ρ = D := by
    have e : sDn a R C = (((0 + sRh a R C 0) + sRh a R C 1) + sRh a R C 2) + sRh a R C 3 := rfl
    rw [← hD, e]
    simp only [Rat.intCast_add, hρ, Rat.intCast_zero]
    unfold t4
    grind
  have col : ∀ j, j < 4 → sBi C j = 1 → cA (gA a) ρ j = ((sMi a R C : Int) : Rat) := fun j hj h => by
    have e := sRh_l a hR hC hs hj h
    have e2 : sSm (fun r => a r j * sRh a R C r) 4 = (((0 + a 0 j * sRh a R C 0) + a 1 j * sRh a R C 1) + a 2 j * sRh a R C 2) + a 3 j * sRh a R C 3 := rfl
    rw [← e, e2]
    simp only [Rat.intCast_add, Rat.intCast_mul, hρ, Rat.intCast_zero]
    unfold cA gA
    grind
  have xc := V.2.2.2
  have z : ∀ i, i < 4 → D * x i - ρ i = 0 := pC V N (z := fun i => D * x i - ρ i) (c := D * v - ((sMi a R C : Int) : Rat)) (fun i hi h => by
    show D * x i - ρ i = 0
    rw [(V.2.2.1 i hi).2.1 h, ← hρ, sRh_0 h]
    show D * 0 - 0 = 0
    grind) (by
    have e : t4 (fun i => D * x i - ρ i) = D * t4 x - t4 ρ := by
      unfold t4
      grind
    rw [e, sum, V.2.1.1]
    grind) (fun j hj h => by
    have e : cA (gA a) (fun i => D * x i - ρ i) j = D * cA (gA a) x j - cA (gA a) ρ j := by
      unfold cA
      grind
    rw [e, col j hj h, (xc j hj).2.2.1 h])
  have z' : ∀ i, i < 4 → ρ i = D * x i := fun i hi => by
    have := z i hi
    grind
  refine ⟨fun i hi => by rw [hρ, hD]; exact z' i hi, ?_⟩
  obtain ⟨j, hj, hb⟩ := nonempty_C V
  rw [hD, ← col j hj hb, ← (xc j hj).2.2.1 hb]
  unfold cA
  rw [z' 0 (by decide), z' 1 (by decide), z' 2 (by decide), z' 3 (by decide)]
  grind
theorem pKap (V : pV (gA a) v m n R C x y) (N : pN (gT (gA a)) C R) (hs : sPc R = sPc C) : ∀ j, j < 4 → ((sKa a R C j : Int) : Rat) = ((sDn a R C : Int) : Rat) * y j := by
  have hR := V.1.1.1
  have hC := V.1.2.1
  obtain ⟨D, hD⟩ : ∃ D : Rat, ((sDn a R C : Int) : Rat) = D := ⟨_, rfl⟩
  obtain ⟨ρ, hρ⟩ : ∃ ρ : Nat → Rat, ∀ i, ((sKa a R C i : Int) : Rat) = ρ i := ⟨_, fun _ => rfl⟩
  have sum : t4 ρ = D := by
    have e := sKa_s (a := a) (R := R) (C := C)
    rw [← hD, ← e]
    simp only [Rat.intCast_add, hρ, Rat.intCast_zero]
    unfold t4
    grind
  have row : ∀ i, i < 4 → sBi R i = 1 → rA (gA a) ρ i = ((sMi a R C : Int) : Rat) := fun i hi h => by
    have e := sKa_l a hR hC hs hi h
    have e2 : sSm (fun c => a i c * sKa a R C c) 4 = (((0 + a i 0 * sKa a R C 0) + a i 1 * sKa a R C 1) + a i 2 * sKa a R C 2) + a i 3 * sKa a R C 3 := rfl
    rw [← e, e2]
    simp only [Rat.intCast_add, Rat.intCast_mul, hρ, Rat.intCast_zero]
    unfold rA gA
    grind
  have yr := V.2.2.1
  have z : ∀ i, i < 4 → D * y i - ρ i = 0 := pC (pV_T V) N (z := fun i => D * y i - ρ i) (c := -(D * v - ((sMi a R C : Int) : Rat))) (fun i hi h => by
    show D * y i - ρ i = 0
    rw [(V.2.2.2 i hi).2.1 h, ← hρ, sKa_0 h]
    show D * 0 - 0 = 0
    grind) (by
    have e : t4 (fun i => D * y i - ρ i) = D * t4 y - t4 ρ := by
      unfold t4
      grind
    rw [e, sum, V.2.1.2]
    grind) (fun j hj h => by
    have e : rA (gA a) (fun i => D * y i - ρ i) j = D * rA (gA a) y j - rA (gA a) ρ j := by
      unfold rA
      grind
    rw [cA_T, e, row j hj h, (yr j hj).2.2.1 h])
  intro i hi
  have := z i hi
  rw [hρ, hD]
  grind
theorem pIs (V : pV (gA a) v m n R C x y) (N : pN (gA a) R C) (N' : pN (gT (gA a)) C R) (hs : sPc R = sPc C) (hm : m ≤ 4) (hn : n ≤ 4) : sIs a m n R C = true := by
  have dn := pD V N hs
  obtain ⟨hρ, hd⟩ := pRho V N hs
  have hκ := pKap V N' hs
  obtain ⟨D, hD⟩ : ∃ D : Int, sDn a R C = D := ⟨_, rfl⟩
  rw [hD] at dn hρ hd hκ
  obtain ⟨s, h1, h2⟩ : ∃ s : Int, (∀ z, sNe D z = s * z) ∧ 0 < s * D := by
    by_cases g : D < 0
    · refine ⟨-1, fun z => ?_, by omega⟩
      unfold sNe
      rw [if_pos g]
      omega
    · refine ⟨1, fun z => ?_, by omega⟩
      unfold sNe
      rw [if_neg g]
      omega
  obtain ⟨E, hE⟩ : ∃ E : Rat, ((s * D : Int) : Rat) = E := ⟨_, rfl⟩
  have E0 : 0 ≤ E := by rw [← hE]; exact Rat.intCast_nonneg.mpr (by omega)
  have hE2 : ((s : Int) : Rat) * ((D : Int) : Rat) = E := by rw [← hE, Rat.intCast_mul]
  have r1 : ∀ i, i < 4 → ((s * sRh a R C i : Int) : Rat) = E * x i := fun i hi => by
    rw [Rat.intCast_mul, hρ i hi, ← hE2]
    grind
  have r2 : ∀ i, i < 4 → ((s * sKa a R C i : Int) : Rat) = E * y i := fun i hi => by
    rw [Rat.intCast_mul, hκ i hi, ← hE2]
    grind
  have r3 : ((s * sMi a R C : Int) : Rat) = E * v := by
    rw [Rat.intCast_mul, hd, ← hE2]
    grind
  obtain ⟨_, _, cc, dd⟩ := V
  unfold sIs
  rw [hD]
  simp only [Bool.and_eq_true, Bool.not_eq_true', decide_eq_false_iff_not]
  refine ⟨dn, (sAn_t _ _).mpr (fun i _ hi => ?_), (sAn_t _ _).mpr (fun c _ hc => ?_), (sAn_t _ _).mpr (fun r _ hr => ?_)⟩
  · simp only [Bool.and_eq_true, decide_eq_true_eq]
    rw [h1, h1]
    constructor
    · apply Rat.intCast_nonneg.mp
      rw [r1 i (by omega)]
      exact Rat.mul_nonneg E0 (cc i (by omega)).1
    · apply Rat.intCast_nonneg.mp
      rw [r2 i (by omega)]
      exact Rat.mul_nonneg E0 (dd i (by omega)).1
  · simp only [decide_eq_true_eq]
    have e : sCs a (fun r => sNe D (sRh a R C r)) c = (((0 + a 0 c * (s * sRh a R C 0)) + a 1 c * (s * sRh a R C 1)) + a 2 c * (s * sRh a R C 2)) + a 3 c * (s * sRh a R C 3) := by
      rw [← h1, ← h1, ← h1, ← h1]
      rfl
    rw [h1, e]
    apply Rat.intCast_le_intCast.mp
    have k := Rat.mul_le_mul_of_nonneg_left ((dd c (by omega)).2.2.2 (by omega)) E0
    rw [r3, Rat.intCast_add, Rat.intCast_add, Rat.intCast_add, Rat.intCast_add, Rat.intCast_mul (a 0 c), Rat.intCast_mul (a 1 c), Rat.intCast_mul (a 2 c), Rat.intCast_mul (a 3 c), r1 0 (by decide), r1 1 (by decide), r1 2 (by decide), r1 3 (by decide), Rat.intCast_zero]
    unfold cA gA at k
    grind
  · simp only [decide_eq_true_eq]
    have e : sRs a (fun c => sNe D (sKa a R C c)) r = (((0 + a r 0 * (s * sKa a R C 0)) + a r 1 * (s * sKa a R C 1)) + a r 2 * (s * sKa a R C 2)) + a r 3 * (s * sKa a R C 3) := by
      rw [← h1, ← h1, ← h1, ← h1]
      rfl
    rw [h1, e]
    apply Rat.intCast_le_intCast.mp
    have k := Rat.mul_le_mul_of_nonneg_left ((cc r (by omega)).2.2.2 (by omega)) E0
    rw [r3, Rat.intCast_add, Rat.intCast_add, Rat.intCast_add, Rat.intCast_add, Rat.intCast_mul (a r 0), Rat.intCast_mul (a r 1), Rat.intCast_mul (a r 2), Rat.intCast_mul (a r 3), r2 0 (by decide), r2 1 (by decide), r2 2 (by decide), r2 3 (by decide), Rat.intCast_zero]
    unfold rA gA at k
    grind
theorem mkR (P : Nat → Prop) : ∃ R : Nat, R < 16 ∧ ∀ i, i < 4 → (sBi R i = 1 ↔ P i) := by
  obtain ⟨b, hb⟩ : ∃ b : Nat → Nat, ∀ i, (b i = 0 ∨ b i = 1) ∧ (b i = 1 ↔ P i) := by
    refine ⟨fun i => @ite _ (P i) (Classical.propDecidable _) 1 0, fun i => ?_⟩
    by_cases h : P i
    · simp [h]
    · simp [h]
  have b0 := (hb 0).1
  have b1 := (hb 1).1
  have b2 := (hb 2).1
  have b3 := (hb 3).1
  refine ⟨b 0 + 2 * b 1 + 4 * b 2 + 8 * b 3, by omega, fun i hi => ?_⟩
  rw [← (hb i).2]
  have g : i = 0 ∨ i = 1 ∨ i = 2 ∨ i = 3 := by omega
  unfold sBi
  rcases g with rfl | rfl | rfl | rfl
  · show (b 0 + 2 * b 1 + 4 * b 2 + 8 * b 3) / 1 % 2 = 1 ↔ _
    omega
  · show (b 0 + 2 * b 1 + 4 * b 2 + 8 * b 3) / 2 % 2 = 1 ↔ _
    omega
  · show (b 0 + 2 * b 1 + 4 * b 2 + 8 * b 3) / 4 % 2 = 1 ↔ _
    omega
  · show (b 0 + 2 * b 1 + 4 * b 2 + 8 * b 3) / 8 % 2 = 1 ↔ _
    omega
theorem R_lt : ∀ m : Nat, m < 5 → ∀ R : Nat, R < 16 → (∀ i : Nat, i < 4 → sBi R i = 1 → i < m) → R < 2 ^ m := by decide +kernel
theorem sOc_s {sz : Nat} : ∀ (k c C : Nat), c ≤ C → C < c + k → sPc C = sz → sIs a m n R C = true → ∃ C', sOc a m n sz R k c = some C'
  | 0, c, C, h1, h2, h3, h4 => absurd h2 (by omega)
  | k + 1, c, C, h1, h2, h3, h4 => by
    have e : sOc a m n sz R (k + 1) c = if sPc c = sz ∧ sIs a m n R c = true then some c else sOc a m n sz R k (c + 1) := rfl
    rw [e]
    by_cases g : sPc c = sz ∧ sIs a m n R c = true
    · exact ⟨c, if_pos g⟩
    · rw [if_neg g]
      by_cases q : c = C
      · rw [q] at g
        exact absurd ⟨h3, h4⟩ g
      · exact sOc_s k (c + 1) C (by omega) (by omega) h3 h4
theorem sOr_s {sz : Nat} (hC : 1 ≤ C ∧ C < 2 ^ n) (hz : sPc C = sz) (hI : sIs a m n R C = true) (hR : sPc R = sz) : ∀ (k r : Nat), r ≤ R → R < r + k → ∃ w, sOr a m n sz k r = some w
  | 0, r, h1, h2 => absurd h2 (by omega)
  | k + 1, r, h1, h2 => by
    by_cases g : sPc r = sz
    · have e : sOr a m n sz (k + 1) r = (match sOc a m n sz r (2 ^ n - 1) 1 with
        | some C => some (r, C)
        | none => sOr a m n sz k (r + 1)) := if_pos g
      rw [e]
      by_cases q : r = R
      · obtain ⟨C', hC'⟩ := sOc_s (2 ^ n - 1) 1 C hC.1 (by omega) hz (by rw [← q] at hI; exact hI)
        rw [hC']
        exact ⟨_, rfl⟩
      · cases h : sOc a m n sz r (2 ^ n - 1) 1 with
        | some C' => exact ⟨_, rfl⟩
        | none => exact sOr_s hC hz hI hR k (r + 1) (by omega) (by omega)
    · have e : sOr a m n sz (k + 1) r = sOr a m n sz k (r + 1) := if_neg g
      rw [e]
      by_cases q : r = R
      · rw [q] at g
        exact absurd hR g
      · exact sOr_s hC hz hI hR k (r + 1) (by omega) (by omega)
theorem sOn_s (hR1 : 1 ≤ R ∧ R < 2 ^ m) (hC : 1 ≤ C ∧ C < 2 ^ n) (hz : sPc R = sPc C) (hI : sIs a m n R C = true) : ∀ (k z : Nat), z ≤ sPc R → sPc R < z + k → ∃ w, sOn a m n k z = some w
  | 0, z, h1, h2 => absurd h2 (by omega)
  | k + 1, z, h1, h2 => by
    have e : sOn a m n (k + 1) z = (match sOr a m n z (2 ^ m - 1) 1 with
      | some x => some x
      | none => sOn a m n k (z + 1)) := rfl
    rw [e]
    by_cases q : z = sPc R
    · obtain ⟨w, hw⟩ := sOr_s (sz := z) hC (by omega) hI (by omega) (2 ^ m - 1) 1 hR1.1 (by omega)
      rw [hw]
      exact ⟨_, rfl⟩
    · cases h : sOr a m n z (2 ^ m - 1) 1 with
      | some w => exact ⟨_, rfl⟩
      | none => exact sOn_s hR1 hC hz hI k (z + 1) (by omega) (by omega)
theorem pInit (a : Nat → Nat → Int) (hm : 1 ≤ m ∧ m ≤ 4) (hn : 1 ≤ n ∧ n ≤ 4) : ∃ (R C : Nat) (x y : Nat → Rat) (v : Rat), pV (gA a) v m n R C x y := by
  have i01 : ∀ (q i : Nat), ((if i < q then (1 : Rat) else 0) = 0 ∨ (if i < q then (1 : Rat) else 0) = 1) ∧ 0 ≤ (if i < q then (1 : Rat) else 0) := fun q i => by
    split
    · exact ⟨Or.inr rfl, by grind⟩
    · exact ⟨Or.inl rfl, Rat.le_refl⟩
  obtain ⟨x, y, v, ⟨x0, y0⟩, ⟨xm, yn⟩, ⟨sx, sy⟩, hc, hr⟩ := mmx (A := gA a) (M := fun i => if i < m then 1 else 0) (K := fun i => if i < n then 1 else 0) (fun i _ => (i01 m i).2) (fun i _ => (i01 n i).2) (if_pos (by omega)) (if_pos (by omega))
  have xz : ∀ i, ¬ i < m → x i = 0 := fun i h => xm i (if_neg h)
  have yz : ∀ i, ¬ i < n → y i = 0 := fun i h => yn i (if_neg h)
  have hc' : ∀ j, j < 4 → j < n → v ≤ cA (gA a) x j := fun j hj h => hc j hj (if_pos h)
  have hr' : ∀ i, i < 4 → i < m → rA (gA a) y i ≤ v := fun i hi h => hr i hi (if_pos h)
  have α0 : ∀ i, i < 4 → 0 ≤ x i * (v - rA (gA a) y i) := fun i hi => by
    by_cases g : i < m
    · have := hr' i hi g
      exact Rat.mul_nonneg (x0 i hi) (by grind)
    · rw [xz i g]
      grind
  have β0 : ∀ j, j < 4 → 0 ≤ (cA (gA a) x j - v) * y j := fun j hj => by
    by_cases g : j < n
    · have := hc' j hj g
      exact Rat.mul_nonneg (by grind) (y0 j hj)
    · rw [yz j g]
      grind
  have tot : t4 (fun i => x i * (v - rA (gA a) y i)) + t4 (fun j => (cA (gA a) x j - v) * y j) = 0 := by
    have f1 := zAw (gA a) x y
    have e1 : t4 (fun i => x i * (v - rA (gA a) y i)) = t4 x * v - t4 (fun i => x i * rA (gA a) y i) := by
      unfold t4
      grind
    have e2 : t4 (fun j => (cA (gA a) x j - v) * y j) = t4 (fun j => cA (gA a) x j * y j) - v * t4 y := by
      unfold t4
      grind
    rw [e1, e2, f1, sx, sy]
    grind
  have z0 := α0 0 (by decide)
  have z1 := α0 1 (by decide)
  have z2 := α0 2 (by decide)
  have z3 := α0 3 (by decide)
  have w0 := β0 0 (by decide)
  have w1 := β0 1 (by decide)
  have w2 := β0 2 (by decide)
  have w3 := β0 3 (by decide)
  unfold t4 at tot
  have αz : ∀ i, i < 4 → x i * (v - rA (gA a) y i) = 0 := fun i hi => by
    obtain ⟨p, hp⟩ : ∃ p : Nat → Rat, ∀ i, x i * (v - rA (gA a) y i) = p i := ⟨_, fun _ => rfl⟩
    obtain ⟨q, hq⟩ : ∃ q : Nat → Rat, ∀ j, (cA (gA a) x j - v) * y j = q j := ⟨_, fun _ => rfl⟩
    simp only [hp, hq] at tot z0 z1 z2 z3 w0 w1 w2 w3 ⊢
    have g : i = 0 ∨ i = 1 ∨ i = 2 ∨ i = 3 := by omega
    rcases g with rfl | rfl | rfl | rfl <;> grind
  have βz : ∀ j, j < 4 → (cA (gA a) x j - v) * y j = 0 := fun i hi => by
    obtain ⟨p, hp⟩ : ∃ p : Nat → Rat, ∀ i, x i * (v - rA (gA a) y i) = p i := ⟨_, fun _ => rfl⟩
    obtain ⟨q, hq⟩ : ∃ q : Nat → Rat, ∀ j, (cA (gA a) x j - v) * y j = q j := ⟨_, fun _ => rfl⟩
    simp only [hp, hq] at tot z0 z1 z2 z3 w0 w1 w2 w3 ⊢
    have g : i = 0 ∨ i = 1 ∨ i = 2 ∨ i = 3 := by omega
    rcases g with rfl | rfl | rfl | rfl <;> grind
  obtain ⟨R, hR, hRi⟩ := mkR (fun i => i < m ∧ rA (gA a) y i = v)
  obtain ⟨C, hC, hCi⟩ := mkR (fun j => j < n ∧ cA (gA a) x j = v)
  refine ⟨R, C, x, y, v, ⟨⟨hR, fun i hi h => ((hRi i hi).mp h).1⟩, hC, fun i hi h => ((hCi i hi).mp h).1⟩, ⟨sx, sy⟩, fun i hi => ⟨x0 i hi, fun h => ?_, fun h => ((hRi i hi).mp h).2, hr' i hi⟩, fun j hj => ⟨y0 j hj, fun h => ?_, fun h => ((hCi j hj).mp h).2, hc' j hj⟩⟩
  · by_cases g : i < m
    · rcases Rat.mul_eq_zero.mp (αz i hi) with h2 | h2
      · exact h2
      · have := (hRi i hi).mpr ⟨g, by grind⟩
        omega
    · exact xz i g
  · by_cases g : j < n
    · rcases Rat.mul_eq_zero.mp (βz j hj) with h2 | h2
      · have := (hCi j hj).mpr ⟨g, by grind⟩
        omega
      · exact h2
    · exact yz j g
theorem bR_1 : ∀ R : Nat, R < 16 → 0 < sPc R → 1 ≤ R := by decide +kernel
theorem sol_ex (f : Nat → Int) (W : sWF f) (Z : sZf f) : ∃ x, sOn (sEa f) (f 49).toNat (f 50).toNat 4 1 = some x := by
  have wm := W_m W
  obtain ⟨R0, C0, x0, y0, v, V0⟩ := pInit (m := (f 49).toNat) (n := (f 50).toNat) (sEa f) (by omega) (by omega)
  obtain ⟨R, C, x, y, V, N, N'⟩ := pDone V0
  have s1 := pSz V N
  have s2 := pSz (pV_T V) N'
  have hs : sPc R = sPc C := by omega
  obtain ⟨⟨a1, a2⟩, a3, a4⟩ := V.1
  obtain ⟨j, hj, hb⟩ := nonempty_C V
  have p0 := bR_n C a3 j hj hb
  have b4 := bt_4 R a1
  exact sOn_s ⟨bR_1 R a1 (by omega), R_lt _ (by omega) R a1 a2⟩ ⟨bR_1 C a3 p0, R_lt _ (by omega) C a3 a4⟩ hs (pIs V N N' hs (by omega) (by omega)) 4 1 (by omega) (by omega)
end EX
