/-! from best shares to a part: the ratio test, solutions of few equations, one step -/
section RT
theorem rt : ∀ (N : Nat) (u w : Nat → Rat), (∀ k, k < N → 0 ≤ u k) → (∃ k, k < N ∧ w k < 0) → ∃ s : Rat, 0 ≤ s ∧ (∀ k, k < N → 0 ≤ u k + s * w k) ∧ ∃ k, k < N ∧ w k < 0 ∧ u k + s * w k = 0
  | 0, u, w, hu, hw => by
    obtain ⟨k, hk, _⟩ := hw
    exact absurd hk (by omega)
  | N + 1, u, w, hu, hw => by
    have uN := hu N (by omega)
    have key : w N < 0 → (∀ k, k < N → 0 ≤ u k + (u N / -(w N)) * w k) → ∃ s : Rat, 0 ≤ s ∧ (∀ k, k < N + 1 → 0 ≤ u k + s * w k) ∧ ∃ k, k < N + 1 ∧ w k < 0 ∧ u k + s * w k = 0 := fun hN hk => by
      have hN2 : 0 < -(w N) := by grind
      have e : u N + (u N / -(w N)) * w N = 0 := by
        have := Rat.div_mul_cancel (a := u N) (b := -(w N)) (by grind)
        grind
      refine ⟨u N / -(w N), rq_dp uN hN2, fun k hk2 => ?_, N, by omega, hN, e⟩
      by_cases g : k = N
      · rw [g, e]; exact Rat.le_refl
      · exact hk k (by omega)
    by_cases h : ∃ k, k < N ∧ w k < 0
    · obtain ⟨s, s0, h1, k, hk, h2, h3⟩ := rt N u w (fun k hk => hu k (by omega)) h
      by_cases g : 0 ≤ u N + s * w N
      · refine ⟨s, s0, fun j hj => ?_, k, by omega, h2, h3⟩
        by_cases e : j = N
        · rw [e]; exact g
        · exact h1 j (by omega)
      · have g2 : u N + s * w N < 0 := Rat.not_le.mp g
        have hN : w N < 0 := by
          apply Classical.byContradiction
          intro z
          have := Rat.mul_nonneg s0 (Rat.not_lt.mp z)
          grind
        have hN2 : 0 < -(w N) := by grind
        have le : u N / -(w N) ≤ s := by
          apply Classical.byContradiction
          intro z
          have z2 : s < u N / -(w N) := Rat.not_le.mp z
          have := Rat.mul_lt_mul_of_pos_right z2 hN2
          have e := Rat.div_mul_cancel (a := u N) (b := -(w N)) (by grind)
          grind
        refine key hN (fun j hj => ?_)
        have p0 := rq_dp uN hN2
        by_cases z : 0 ≤ w j
        · have := Rat.mul_nonneg p0 z
          have := hu j (by omega)
          grind
        · have a := h1 j hj
          have z2 : w j < 0 := Rat.not_le.mp z
          have b : 0 ≤ (s - u N / -(w N)) * -(w j) := Rat.mul_nonneg (by grind) (by grind)
          grind
    · obtain ⟨k, hk, h2⟩ := hw
      have e : k = N := by
        apply Classical.byContradiction
        intro z
        exact h ⟨k, by omega, h2⟩
      rw [e] at h2
      refine key h2 (fun j hj => ?_)
      have p0 := rq_dp uN (by grind : 0 < -(w N))
      have z : 0 ≤ w j := Rat.not_lt.mp (fun z => h ⟨j, hj, z⟩)
      have := Rat.mul_nonneg p0 z
      have := hu j (by omega)
      grind
theorem bR_s : ∀ R : Nat, R < 16 → ∀ i : Nat, i < 4 → sBi R i = 1 → R - 2 ^ i < 16 ∧ sPc (R - 2 ^ i) + 1 = sPc R ∧ ∀ j : Nat, j < 4 → sBi (R - 2 ^ i) j = if j = i then 0 else sBi R j := by decide +kernel
theorem bR_a : ∀ R : Nat, R < 16 → ∀ i : Nat, i < 4 → sBi R i = 0 → R + 2 ^ i < 16 ∧ sPc (R + 2 ^ i) = sPc R + 1 ∧ ∀ j : Nat, j < 4 → sBi (R + 2 ^ i) j = if j = i then 1 else sBi R j := by decide +kernel
theorem bR_p : ∀ R : Nat, R < 16 → 0 < sPc R → sLo R < 4 ∧ sBi R (sLo R) = 1 := by decide +kernel
theorem bR_n : ∀ R : Nat, R < 16 → ∀ i : Nat, i < 4 → sBi R i = 1 → 0 < sPc R := by decide +kernel
theorem t4_i (g h : Nat → Rat) {i : Nat} (hi : i < 4) (he : ∀ k, k < 4 → ¬ k = i → g k = h k) : t4 g = t4 h + (g i - h i) := by
  unfold t4
  have c : i = 0 ∨ i = 1 ∨ i = 2 ∨ i = 3 := by omega
  rcases c with rfl | rfl | rfl | rfl
  · rw [he 1 (by decide) (by decide), he 2 (by decide) (by decide), he 3 (by decide) (by decide)]; grind
  · rw [he 0 (by decide) (by decide), he 2 (by decide) (by decide), he 3 (by decide) (by decide)]; grind
  · rw [he 0 (by decide) (by decide), he 1 (by decide) (by decide), he 3 (by decide) (by decide)]; grind
  · rw [he 0 (by decide) (by decide), he 1 (by decide) (by decide), he 2 (by decide) (by decide)]; grind
theorem t4_0 (g : Nat → Rat) (h : ∀ k, k < 4 → g k = 0) : t4 g = 0 := by
  unfold t4
  rw [h 0 (by decide), h 1 (by decide), h 2 (by decide), h 3 (by decide)]
  grind
/-- fewer equations than unknowns -/
theorem few : ∀ (p R : Nat), R < 16 → sPc R = p + 1 → ∀ φ : Nat → Nat → Rat, ∃ z : Nat → Rat, (∃ i, i < 4 ∧ ¬ z i = 0) ∧ (∀ i, i < 4 → sBi R i = 0 → z i = 0) ∧ ∀ e, e < p → t4 (fun i => φ e i * z i) = 0
  | 0, R, hR, hp, φ => by
    have lo := bR_p R hR (by omega)
    refine ⟨fun i => if sBi R i = 1 then 1 else 0, ⟨sLo R, lo.1, ?_⟩, fun i hi h => ?_, fun e he => absurd he (by omega)⟩
    · show ¬ (if sBi R (sLo R) = 1 then (1 : Rat) else 0) = 0
      rw [if_pos lo.2]
      grind
    · show (if sBi R i = 1 then (1 : Rat) else 0) = 0
      rw [if_neg (by omega)]
  | p + 1, R, hR, hp, φ => by
    by_cases h : ∃ i, i < 4 ∧ sBi R i = 1 ∧ ¬ φ p i = 0
    · obtain ⟨i, hi, hb, hn⟩ := h
      obtain ⟨r1, r2, r3⟩ := bR_s R hR i hi hb
      obtain ⟨z, ⟨j, hj, zj⟩, k1, k2⟩ := few p (R - 2 ^ i) r1 (by omega) (fun e k => φ e k - φ e i / φ p i * φ p k)
      have zi : z i = 0 := k1 i hi (by rw [r3 i hi, if_pos rfl])
      obtain ⟨q, hq⟩ : ∃ q, -(t4 (fun k => φ p k * z k)) / φ p i = q := ⟨_, rfl⟩
      have key : ∀ ψ : Nat → Rat, t4 (fun k => ψ k * (if k = i then q else z k)) = t4 (fun k => ψ k * z k) + ψ i * q := fun ψ => by
        rw [t4_i (fun k => ψ k * (if k = i then q else z k)) (fun k => ψ k * z k) hi (fun k hk h => by
          show ψ k * (if k = i then q else z k) = ψ k * z k
          rw [if_neg h])]
        show t4 (fun k => ψ k * z k) + (ψ i * (if i = i then q else z i) - ψ i * z i) = _
        rw [if_pos rfl, zi]
        grind
      refine ⟨fun k => if k = i then q else z k, ⟨j, hj, ?_⟩, fun k hk h => ?_, fun e he => ?_⟩
      · show ¬ (if j = i then q else z j) = 0
        rw [if_neg (fun h => zj (by rw [h]; exact zi))]
        exact zj
      · show (if k = i then q else z k) = 0
        have ki : ¬ k = i := fun h2 => by rw [h2, hb] at h; exact absurd h (by decide)
        rw [if_neg ki]
        exact k1 k hk (by rw [r3 k hk, if_neg ki]; exact h)
      · rw [key (φ e)]
        have qe : φ p i * q = -(t4 (fun k => φ p k * z k)) := by
          rw [← hq]
          grind
        by_cases g : e = p
        · rw [g, qe]
          grind
        · have k := k2 e (by omega)
          have s : t4 (fun k => (φ e k - φ e i / φ p i * φ p k) * z k) = t4 (fun k => φ e k * z k) - φ e i / φ p i * t4 (fun k => φ p k * z k) := by
            unfold t4
            grind
          have k' : t4 (fun k => (φ e k - φ e i / φ p i * φ p k) * z k) = 0 := k
          rw [s] at k'
          have e3 : φ e i * q = φ e i / φ p i * (φ p i * q) := by grind
          rw [e3, qe]
          grind
    · have lo := bR_p R hR (by omega)
      obtain ⟨r1, r2, r3⟩ := bR_s R hR (sLo R) lo.1 lo.2
      obtain ⟨z, k0, k1, k2⟩ := few p (R - 2 ^ sLo R) r1 (by omega) φ
      have k1' : ∀ i, i < 4 → sBi R i = 0 → z i = 0 := fun i hi hb => k1 i hi (by
        rw [r3 i hi]
        split
        · rfl
        · exact hb)
      refine ⟨z, k0, k1', fun e he => ?_⟩
      by_cases g : e = p
      · rw [g]
        refine t4_0 _ (fun k hk => ?_)
        show φ p k * z k = 0
        by_cases hb : sBi R k = 1
        · have : φ p k = 0 := Classical.byContradiction (fun h2 => h ⟨k, hk, hb, h2⟩)
          rw [this]
          grind
        · rw [k1' k hk (by have := sBi_2 R k; omega)]
          grind
      · exact k2 e (by omega)
end RT
section PR
/-- the matrix as the other one sees it -/
def gT (A : Nat → Nat → Rat) : Nat → Nat → Rat := fun i j => -(A j i)
def pV (A : Nat → Nat → Rat) (v : Rat) (m n R C : Nat) (x y : Nat → Rat) : Prop :=
  ((R < 16 ∧ ∀ i, i < 4 → sBi R i = 1 → i < m) ∧ C < 16 ∧ ∀ j, j < 4 → sBi C j = 1 → j < n) ∧ (t4 x = 1 ∧ t4 y = 1) ∧
  (∀ i, i < 4 → 0 ≤ x i ∧ (sBi R i = 0 → x i = 0) ∧ (sBi R i = 1 → rA A y i = v) ∧ (i < m → rA A y i ≤ v)) ∧
  ∀ j, j < 4 → 0 ≤ y j ∧ (sBi C j = 0 → y j = 0) ∧ (sBi C j = 1 → cA A x j = v) ∧ (j < n → v ≤ cA A x j)
def pK (A : Nat → Nat → Rat) (R C : Nat) (z : Nat → Rat) : Prop := (∀ i, i < 4 → sBi R i = 0 → z i = 0) ∧ t4 z = 0 ∧ ∀ j, j < 4 → sBi C j = 1 → cA A z j = 0
def pN (A : Nat → Nat → Rat) (R C : Nat) : Prop := ∀ z, pK A R C z → ∀ i, i < 4 → z i = 0
variable {A : Nat → Nat → Rat} {v : Rat} {m n R C : Nat} {x y z w : Nat → Rat}
theorem gT_T : gT (gT A) = A := by
  funext i j
  show -(-(A i j)) = A i j
  grind
theorem cA_T (j : Nat) : cA (gT A) y j = -(rA A y j) := by
  show -(A j 0) * y 0 + -(A j 1) * y 1 + -(A j 2) * y 2 + -(A j 3) * y 3 = -(A j 0 * y 0 + A j 1 * y 1 + A j 2 * y 2 + A j 3 * y 3)
  grind
theorem rA_T (i : Nat) : rA (gT A) x i = -(cA A x i) := by
  show -(A 0 i) * x 0 + -(A 1 i) * x 1 + -(A 2 i) * x 2 + -(A 3 i) * x 3 = -(A 0 i * x 0 + A 1 i * x 1 + A 2 i * x 2 + A 3 i * x 3)
  grind
theorem pV_T (V : pV A v m n R C x y) : pV (gT A) (-v) n m C R y x := by
  obtain ⟨⟨⟨a1, a2⟩, a3, a4⟩, ⟨b1, b2⟩, c, d⟩ := V
  refine ⟨⟨⟨a3, a4⟩, a1, a2⟩, ⟨b2, b1⟩, fun i hi => ?_, fun j hj => ?_⟩
  · obtain ⟨d1, d2, d3, d4⟩ := d i hi
    rw [rA_T]
    refine ⟨d1, d2, fun h => by rw [d3 h], fun h => ?_⟩
    have := d4 h
    grind
  · obtain ⟨d1, d2, d3, d4⟩ := c j hj
    rw [cA_T]
    refine ⟨d1, d2, fun h => by rw [d3 h], fun h => ?_⟩
    have := d4 h
    grind
theorem zAw (A : Nat → Nat → Rat) (z w : Nat → Rat) : t4 (fun i => z i * rA A w i) = t4 (fun j => cA A z j * w j) := by
  unfold t4 rA cA
  grind
theorem cA_s (A : Nat → Nat → Rat) (x z : Nat → Rat) (s : Rat) (j : Nat) : cA A (fun i => x i + s * z i) j = cA A x j + s * cA A z j := by
  unfold cA
  grind
/-- a vanishing sum with one term left -/
theorem t4_1 {g : Nat → Rat} {k : Nat} (hk : k < 4) (h : ∀ i, i < 4 → ¬ i = k → g i = 0) : t4 g = g k := by
  rw [t4_i g (fun _ => 0) hk (fun i hi h2 => h i hi h2), t4_0 (fun _ => 0) (fun _ _ => rfl)]
  grind
theorem pStep (V : pV A v m n R C x y) (k : pK A R C z) (hz : ∃ i, i < 4 ∧ ¬ z i = 0) : ∃ (R' C' : Nat) (x' : Nat → Rat), pV A v m n R' C' x' y ∧ sPc R' + (4 - sPc C') < sPc R + (4 - sPc C) ∧ (pN (gT A) C R → pN (gT A) C' R') := by
  obtain ⟨⟨⟨a1, a2⟩, a3, a4⟩, ⟨b1, b2⟩, c, d⟩ := V
  obtain ⟨k1, k2, k3⟩ := k
  have neg : ∃ i, i < 4 ∧ z i < 0 := by
    apply Classical.byContradiction
    intro h
    have p : ∀ i, i < 4 → 0 ≤ z i := fun i hi => Rat.not_lt.mp (fun h2 => h ⟨i, hi, h2⟩)
    obtain ⟨i, hi, hn⟩ := hz
    have p0 := p 0 (by decide)
    have p1 := p 1 (by decide)
    have p2 := p 2 (by decide)
    have p3 := p 3 (by decide)
    unfold t4 at k2
    have g : i = 0 ∨ i = 1 ∨ i = 2 ∨ i = 3 := by omega
    rcases g with rfl | rfl | rfl | rfl <;> exact hn (by grind)
  obtain ⟨u, hu⟩ : ∃ u : Nat → Rat, ∀ k, u k = if k < 4 then x k else if k - 4 < n then cA A x (k - 4) - v else 0 := ⟨_, fun _ => rfl⟩
  obtain ⟨w, hw⟩ : ∃ w : Nat → Rat, ∀ k, w k = if k < 4 then z k else if k - 4 < n then cA A z (k - 4) else 0 := ⟨_, fun _ => rfl⟩
  obtain ⟨s, s0, q1, k, hk, q2, q3⟩ := rt 8 u w (fun k hk => by
    rw [hu]
    by_cases g : k < 4
    · rw [if_pos g]; exact (c k g).1
    · rw [if_neg g]
      by_cases g2 : k - 4 < n
      · rw [if_pos g2]
        have := (d (k - 4) (by omega)).2.2.2 g2
        grind
      · rw [if_neg g2]; exact Rat.le_refl) (by
    obtain ⟨i, hi, h⟩ := neg
    exact ⟨i, by omega, by rw [hw, if_pos hi]; exact h⟩)
  have x0 : ∀ i, i < 4 → 0 ≤ x i + s * z i := fun i hi => by
    have := q1 i (by omega)
    rw [hu, hw, if_pos hi, if_pos hi] at this
    exact this
  have y0 : ∀ j, j < 4 → j < n → v ≤ cA A x j + s * cA A z j := fun j hj hn => by
    have := q1 (4 + j) (by omega)
    have n4 : ¬ 4 + j < 4 := by omega
    have e4 : 4 + j - 4 = j := by omega
    have e1 : u (4 + j) = cA A x j - v := by rw [hu, if_neg n4, e4, if_pos hn]
    have e2 : w (4 + j) = cA A z j := by rw [hw, if_neg n4, e4, if_pos hn]
    rw [e1, e2] at this
    grind
  have sum : t4 (fun i => x i + s * z i) = 1 := by
    have : t4 (fun i => x i + s * z i) = t4 x + s * t4 z := by
      unfold t4
      grind
    rw [this, b1, k2]
    grind
  have off : ∀ i, i < 4 → sBi R i = 0 → x i + s * z i = 0 := fun i hi h => by
    rw [(c i hi).2.1 h, k1 i hi h]
    grind
  have onc : ∀ j, j < 4 → sBi C j = 1 → cA A x j + s * cA A z j = v := fun j hj h => by
    rw [(d j hj).2.2.1 h, k3 j hj h]
    grind
  by_cases g : k < 4
  · rw [hu, hw, if_pos g, if_pos g] at q3
    rw [hw, if_pos g] at q2
    have hb : sBi R k = 1 := by
      have := sBi_2 R k
      apply Classical.byContradiction
      intro h
      rw [k1 k g (by omega)] at q2
      exact absurd q2 (by grind)
    obtain ⟨r1, r2, r3⟩ := bR_s R a1 k g hb
    have rr : ∀ i, i < 4 → sBi (R - 2 ^ k) i = 1 → sBi R i = 1 := fun i hi h => by
      rw [r3 i hi] at h
      split at h
      · exact absurd h (by decide)
      · exact h
    refine ⟨R - 2 ^ k, C, fun i => x i + s * z i, ⟨⟨⟨r1, fun i hi h => a2 i hi (rr i hi h)⟩, a3, a4⟩, ⟨sum, b2⟩, fun i hi => ⟨x0 i hi, fun h => ?_, fun h => (c i hi).2.2.1 (rr i hi h), (c i hi).2.2.2⟩, fun j hj => ⟨(d j hj).1, (d j hj).2.1, fun h => by rw [cA_s]; exact onc j hj h, fun h => by rw [cA_s]; exact y0 j hj h⟩⟩, by omega, fun N w' hw' => ?_⟩
    · show x i + s * z i = 0
      by_cases e : i = k
      · rw [e]; exact q3
      · rw [r3 i hi, if_neg e] at h
        exact off i hi h
    · obtain ⟨e1, e2, e3⟩ := hw'
      refine N w' ⟨e1, e2, fun i hi h => ?_⟩
      by_cases e : i = k
      · have f1 := zAw A z w'
        rw [t4_0 (fun j => cA A z j * w' j) (fun j hj => by
          show cA A z j * w' j = 0
          by_cases h2 : sBi C j = 1
          · rw [k3 j hj h2]; grind
          · rw [e1 j hj (by have := sBi_2 C j; omega)]; grind), t4_1 (k := k) g (fun i hi hik => by
          show z i * rA A w' i = 0
          by_cases h2 : sBi R i = 1
          · have := e3 i hi (by rw [r3 i hi, if_neg hik]; exact h2)
            rw [cA_T] at this
            have : rA A w' i = 0 := by grind
            rw [this]; grind
          · rw [k1 i hi (by have := sBi_2 R i; omega)]; grind)] at f1
        have f2 : z k * rA A w' k = 0 := f1
        have f3 : rA A w' k = 0 := by
          rcases Rat.mul_eq_zero.mp f2 with h2 | h2
          · rw [h2] at q2; exact absurd q2 (by grind)
          · exact h2
        rw [e, cA_T, f3]
        grind
      · exact e3 i hi (by rw [r3 i hi, if_neg e]; exact h)
  · obtain ⟨j, hj⟩ : ∃ j, j = k - 4 := ⟨_, rfl⟩
    have j4 : j < 4 := by omega
    rw [hu, hw, if_neg g, if_neg g, ← hj] at q3
    rw [hw, if_neg g, ← hj] at q2
    have jn : j < n := by
      apply Classical.byContradiction
      intro h
      rw [if_neg h] at q2
      exact absurd q2 (by grind)
    rw [if_pos jn] at q2
    rw [if_pos jn, if_pos jn] at q3
    have hb : sBi C j = 0 := by
      have := sBi_2 C j
      apply Classical.byContradiction
      intro h
      rw [k3 j j4 (by omega)] at q2
      exact absurd q2 (by grind)
    obtain ⟨r1, r2, r3⟩ := bR_a C a3 j j4 hb
    have rr : ∀ i, i < 4 → sBi (C + 2 ^ j) i = 0 → sBi C i = 0 ∧ ¬ i = j := fun i hi h => by
      rw [r3 i hi] at h
      split at h
      · exact absurd h (by decide)
      · exact ⟨h, by assumption⟩
    have b4 := bt_4 _ r1
    refine ⟨R, C + 2 ^ j, fun i => x i + s * z i, ⟨⟨⟨a1, a2⟩, r1, fun i hi h => ?_⟩, ⟨sum, b2⟩, fun i hi => ⟨x0 i hi, off i hi, (c i hi).2.2.1, (c i hi).2.2.2⟩, fun i hi => ⟨(d i hi).1, fun h => (d i hi).2.1 (rr i hi h).1, fun h => ?_, fun h => by rw [cA_s]; exact y0 i hi h⟩⟩, by omega, fun N w' hw' => ?_⟩
    · by_cases e : i = j
      · rw [e]; exact jn
      · rw [r3 i hi, if_neg e] at h
        exact a4 i hi h
    · rw [cA_s]
      by_cases e : i = j
      · rw [e]; grind
      · rw [r3 i hi, if_neg e] at h
        exact onc i hi h
    · obtain ⟨e1, e2, e3⟩ := hw'
      have wj : w' j = 0 := by
        have f1 := zAw A z w'
        rw [t4_0 (fun i => z i * rA A w' i) (fun i hi => by
          show z i * rA A w' i = 0
          by_cases h2 : sBi R i = 1
          · have := e3 i hi h2
            rw [cA_T] at this
            have : rA A w' i = 0 := by grind
            rw [this]; grind
          · rw [k1 i hi (by have := sBi_2 R i; omega)]; grind), t4_1 (k := j) j4 (fun i hi hik => by
          show cA A z i * w' i = 0
          by_cases h2 : sBi C i = 1
          · rw [k3 i hi h2]; grind
          · rw [e1 i hi (by rw [r3 i hi, if_neg hik]; have := sBi_2 C i; omega)]; grind)] at f1
        have f2 : cA A z j * w' j = 0 := f1.symm
        rcases Rat.mul_eq_zero.mp f2 with h2 | h2
        · rw [h2] at q2; exact absurd q2 (by grind)
        · exact h2
      refine N w' ⟨fun i hi h => ?_, e2, e3⟩
      by_cases e : i = j
      · rw [e]; exact wj
      · exact e1 i hi (by rw [r3 i hi, if_neg e]; exact h)
theorem pRun : ∀ (N R C : Nat) (x : Nat → Rat), sPc R + (4 - sPc C) ≤ N → pV A v m n R C x y → ∃ (R' C' : Nat) (x' : Nat → Rat), pV A v m n R' C' x' y ∧ pN A R' C' ∧ (pN (gT A) C R → pN (gT A) C' R')
  | N, R, C, x, hN, V => by
    by_cases g : pN A R C
    · exact ⟨R, C, x, V, g, fun h => h⟩
    · obtain ⟨z, hz⟩ := Classical.not_forall.mp g
      have hz1 : pK A R C z := Classical.byContradiction (fun h => hz (fun h2 => absurd h2 h))
      have hz2 : ∃ i, i < 4 ∧ ¬ z i = 0 := Classical.byContradiction (fun h => hz (fun _ i hi => Classical.byContradiction (fun h2 => h ⟨i, hi, h2⟩)))
      obtain ⟨R1, C1, x1, V1, l1, p1⟩ := pStep V hz1 hz2
      match N, hN with
      | 0, hN => exact absurd l1 (by omega)
      | N + 1, hN =>
        obtain ⟨R2, C2, x2, V2, n2, p2⟩ := pRun N R1 C1 x1 (by omega) V1
        exact ⟨R2, C2, x2, V2, n2, fun h => p2 (p1 h)⟩
theorem pDone (V : pV A v m n R C x y) : ∃ (R' C' : Nat) (x' y' : Nat → Rat), pV A v m n R' C' x' y' ∧ pN A R' C' ∧ pN (gT A) C' R' := by
  obtain ⟨C1, R1, y1, V1, n1, _⟩ := pRun _ C R y (Nat.le_refl _) (pV_T V)
  have V2 := pV_T V1
  rw [gT_T, Rat.neg_neg] at V2
  obtain ⟨R2, C2, x2, V3, n3, p3⟩ := pRun _ R1 C1 x (Nat.le_refl _) V2
  exact ⟨R2, C2, x2, y1, V3, n3, p3 n1⟩
/-- alike in all the part's columns is enough -/
theorem pC (V : pV A v m n R C x y) (N : pN A R C) {c : Rat} (h1 : ∀ i, i < 4 → sBi R i = 0 → z i = 0) (h2 : t4 z = 0) (h3 : ∀ j, j < 4 → sBi C j = 1 → cA A z j = c) : ∀ i, i < 4 → z i = 0 := by
  obtain ⟨⟨⟨a1, a2⟩, a3, a4⟩, ⟨b1, b2⟩, cc, d⟩ := V
  have f1 := zAw A z y
  have g : ∀ (g h : Nat → Rat), (∀ k, k < 4 → g k = h k) → t4 g = t4 h := fun g h e => by
    unfold t4
    rw [e 0 (by decide), e 1 (by decide), e 2 (by decide), e 3 (by decide)]
  rw [g (fun i => z i * rA A y i) (fun i => z i * v) (fun i hi => by
    show z i * rA A y i = z i * v
    by_cases q : sBi R i = 1
    · rw [(cc i hi).2.2.1 q]
    · rw [h1 i hi (by have := sBi_2 R i; omega)]; grind), g (fun j => cA A z j * y j) (fun j => c * y j) (fun j hj => by
    show cA A z j * y j = c * y j
    by_cases q : sBi C j = 1
    · rw [h3 j hj q]
    · rw [(d j hj).2.1 (by have := sBi_2 C j; omega)]; grind)] at f1
  have e1 : t4 (fun i => z i * v) = t4 z * v := by unfold t4; grind
  have e2 : t4 (fun j => c * y j) = c * t4 y := by unfold t4; grind
  rw [e1, e2, h2, b2] at f1
  have c0 : c = 0 := by grind
  exact N z ⟨h1, h2, fun j hj q => by rw [h3 j hj q]; exact c0⟩
end PR
