/-! elimination without fractions -/
def sMk (k : Nat) (B : Nat → Nat → Int) (i j : Nat) : Int := match k with
  | 0 => B i j
  | 1 => d2 (B 0 0) (B 0 j) (B i 0) (B i j)
  | 2 => d3 (B 0 0) (B 0 1) (B 0 j) (B 1 0) (B 1 1) (B 1 j) (B i 0) (B i 1) (B i j)
  | _ => d4 (B 0 0) (B 0 1) (B 0 2) (B 0 j) (B 1 0) (B 1 1) (B 1 2) (B 1 j) (B 2 0) (B 2 1) (B 2 2) (B 2 j) (B i 0) (B i 1) (B i 2) (B i j)
def sLk (k : Nat) (B : Nat → Nat → Int) : Int := match k with
  | 0 => 1
  | k + 1 => sMk k B k k
def sSp (k b : Nat) (B : Nat → Nat → Int) : Nat → Nat → Int := fun i j => if i = k then B b j else if i = b then B k j else B i j
section EL
variable {B : Nat → Nat → Int} {i j k n b : Nat}
theorem sMk_e (hk : k < 3) : sMk (k + 1) B i j * sLk k B = sMk k B i j * sMk k B k k - sMk k B i k * sMk k B k j := by
  have g : k = 0 ∨ k = 1 ∨ k = 2 := by omega
  rcases g with rfl | rfl | rfl
  · show d2 (B 0 0) (B 0 j) (B i 0) (B i j) * 1 = B i j * B 0 0 - B i 0 * B 0 j
    unfold d2
    grind
  · exact d3_id _ _ _ _ _ _ _ _ _
  · exact d4_id _ _ _ _ _ _ _ _ _ _ _ _ _ _ _ _
theorem sSp_r {r : Nat} (h1 : ¬ r = k) (h2 : ¬ r = b) : sSp k b B r = B r := by
  funext j
  unfold sSp
  rw [if_neg h1, if_neg h2]
theorem sSp_k : sSp k b B k = B b := by
  funext j
  unfold sSp
  rw [if_pos rfl]
theorem sSp_b : sSp k b B b = B k := by
  funext j
  unfold sSp
  by_cases h : b = k
  · rw [if_pos h, h]
  · rw [if_neg h, if_pos rfl]
theorem sDe_sp (hn : n ≤ 4) (hkb : k < b) (hb : b < n) : sDe n (sSp k b B) = -sDe n B := by
  have g : (n = 2 ∧ k = 0 ∧ b = 1) ∨ (n = 3 ∧ k = 0 ∧ b = 1) ∨ (n = 3 ∧ k = 0 ∧ b = 2) ∨ (n = 3 ∧ k = 1 ∧ b = 2) ∨ (n = 4 ∧ k = 0 ∧ b = 1) ∨ (n = 4 ∧ k = 0 ∧ b = 2) ∨ (n = 4 ∧ k = 0 ∧ b = 3) ∨ (n = 4 ∧ k = 1 ∧ b = 2) ∨ (n = 4 ∧ k = 1 ∧ b = 3) ∨ (n = 4 ∧ k = 2 ∧ b = 3) := by omega
  rcases g with ⟨rfl, rfl, rfl⟩ | ⟨rfl, rfl, rfl⟩ | ⟨rfl, rfl, rfl⟩ | ⟨rfl, rfl, rfl⟩ | ⟨rfl, rfl, rfl⟩ | ⟨rfl, rfl, rfl⟩ | ⟨rfl, rfl, rfl⟩ | ⟨rfl, rfl, rfl⟩ | ⟨rfl, rfl, rfl⟩ | ⟨rfl, rfl, rfl⟩
  · show d2 (B 1 0) (B 1 1) (B 0 0) (B 0 1) = -d2 (B 0 0) (B 0 1) (B 1 0) (B 1 1)
    unfold d2
    grind
  · exact d3_01 _ _ _ _ _ _ _ _ _
  · exact d3_02 _ _ _ _ _ _ _ _ _
  · exact d3_12 _ _ _ _ _ _ _ _ _
  · exact d4_01 _ _ _ _ _ _ _ _ _ _ _ _ _ _ _ _
  · exact d4_02 _ _ _ _ _ _ _ _ _ _ _ _ _ _ _ _
  · exact d4_03 _ _ _ _ _ _ _ _ _ _ _ _ _ _ _ _
  · exact d4_12 _ _ _ _ _ _ _ _ _ _ _ _ _ _ _ _
  · exact d4_13 _ _ _ _ _ _ _ _ _ _ _ _ _ _ _ _
  · exact d4_23 _ _ _ _ _ _ _ _ _ _ _ _ _ _ _ _
theorem sMk_sp (hk : k < 4) (hb : k ≤ b) (hi : k ≤ i) : sMk k (sSp k b B) i j = sMk k B (if i = k then b else if i = b then k else i) j := by
  have ei : sSp k b B i = B (if i = k then b else if i = b then k else i) := by
    by_cases h1 : i = k
    · rw [if_pos h1, h1, sSp_k]
    · rw [if_neg h1]
      by_cases h2 : i = b
      · rw [if_pos h2, h2, sSp_b]
      · rw [if_neg h2, sSp_r h1 h2]
  have er : ∀ r, r < k → sSp k b B r = B r := fun r hr => sSp_r (by omega) (by omega)
  have g : k = 0 ∨ k = 1 ∨ k = 2 ∨ k = 3 := by omega
  generalize (if i = k then b else if i = b then k else i) = i' at ei ⊢
  rcases g with rfl | rfl | rfl | rfl
  · simp only [sMk]
    rw [ei]
  · simp only [sMk]
    rw [ei, er 0 (by decide)]
  · simp only [sMk]
    rw [ei, er 0 (by decide), er 1 (by decide)]
  · simp only [sMk]
    rw [ei, er 0 (by decide), er 1 (by decide), er 2 (by decide)]
theorem sLk_sp (hk : k < 4) (hb : k ≤ b) : sLk k (sSp k b B) = sLk k B := by
  have er : ∀ r, r < k → sSp k b B r = B r := fun r hr => sSp_r (by omega) (by omega)
  have g : k = 0 ∨ k = 1 ∨ k = 2 ∨ k = 3 := by omega
  rcases g with rfl | rfl | rfl | rfl
  · rfl
  · simp only [sLk, sMk]
    rw [er 0 (by decide)]
  · simp only [sLk, sMk]
    rw [er 0 (by decide), er 1 (by decide)]
  · simp only [sLk, sMk]
    rw [er 0 (by decide), er 1 (by decide), er 2 (by decide)]
theorem sDe_z (hn : n ≤ 4) (hk : k < n) (hL : ¬ sLk k B = 0) (h : ∀ i, k ≤ i → i < n → sMk k B i k = 0) : sDe n B = 0 := by
  have g : (n = 1 ∧ k = 0) ∨ (n = 2 ∧ k = 0) ∨ (n = 2 ∧ k = 1) ∨ (n = 3 ∧ k = 0) ∨ (n = 3 ∧ k = 1) ∨ (n = 3 ∧ k = 2) ∨ (n = 4 ∧ k = 0) ∨ (n = 4 ∧ k = 1) ∨ (n = 4 ∧ k = 2) ∨ (n = 4 ∧ k = 3) := by omega
  rcases g with ⟨rfl, rfl⟩ | ⟨rfl, rfl⟩ | ⟨rfl, rfl⟩ | ⟨rfl, rfl⟩ | ⟨rfl, rfl⟩ | ⟨rfl, rfl⟩ | ⟨rfl, rfl⟩ | ⟨rfl, rfl⟩ | ⟨rfl, rfl⟩ | ⟨rfl, rfl⟩
  · exact h 0 (by decide) (by decide)
  · have h0 : B 0 0 = 0 := h 0 (by decide) (by decide)
    have h1 : B 1 0 = 0 := h 1 (by decide) (by decide)
    show d2 (B 0 0) (B 0 1) (B 1 0) (B 1 1) = 0
    rw [h0, h1]
    unfold d2
    grind
  · exact h 1 (by decide) (by decide)
  · have h0 : B 0 0 = 0 := h 0 (by decide) (by decide)
    have h1 : B 1 0 = 0 := h 1 (by decide) (by decide)
    have h2 : B 2 0 = 0 := h 2 (by decide) (by decide)
    show d3 (B 0 0) (B 0 1) (B 0 2) (B 1 0) (B 1 1) (B 1 2) (B 2 0) (B 2 1) (B 2 2) = 0
    rw [h0, h1, h2]
    unfold d3 d2
    grind
  · have h1 : d2 (B 0 0) (B 0 1) (B 1 0) (B 1 1) = 0 := h 1 (by decide) (by decide)
    have h2 : d2 (B 0 0) (B 0 1) (B 2 0) (B 2 1) = 0 := h 2 (by decide) (by decide)
    have e := d3_id (B 0 0) (B 0 1) (B 0 2) (B 1 0) (B 1 1) (B 1 2) (B 2 0) (B 2 1) (B 2 2)
    rw [h1, h2, Int.mul_zero, Int.zero_mul, Int.sub_zero] at e
    exact (Int.mul_eq_zero.mp e).resolve_right hL
  · exact h 2 (by decide) (by decide)
  · have h0 : B 0 0 = 0 := h 0 (by decide) (by decide)
    have h1 : B 1 0 = 0 := h 1 (by decide) (by decide)
    have h2 : B 2 0 = 0 := h 2 (by decide) (by decide)
    have h3 : B 3 0 = 0 := h 3 (by decide) (by decide)
    show d4 (B 0 0) (B 0 1) (B 0 2) (B 0 3) (B 1 0) (B 1 1) (B 1 2) (B 1 3) (B 2 0) (B 2 1) (B 2 2) (B 2 3) (B 3 0) (B 3 1) (B 3 2) (B 3 3) = 0
    rw [h0, h1, h2, h3]
    unfold d4 d3 d2
    grind
  · have h1 : d2 (B 0 0) (B 0 1) (B 1 0) (B 1 1) = 0 := h 1 (by decide) (by decide)
    have h2 : d2 (B 0 0) (B 0 1) (B 2 0) (B 2 1) = 0 := h 2 (by decide) (by decide)
    have h3 : d2 (B 0 0) (B 0 1) (B 3 0) (B 3 1) = 0 := h 3 (by decide) (by decide)
    unfold d2 at h1 h2 h3
    have e := d4_p (B 0 0) (B 0 1) (B 0 2) (B 0 3) (B 1 0) (B 1 1) (B 1 2) (B 1 3) (B 2 0) (B 2 1) (B 2 2) (B 2 3) (B 3 0) (B 3 1) (B 3 2) (B 3 3) (by omega) (by omega) (by omega)
    exact (Int.mul_eq_zero.mp e).resolve_left hL
  · have h2 : d3 (B 0 0) (B 0 1) (B 0 2) (B 1 0) (B 1 1) (B 1 2) (B 2 0) (B 2 1) (B 2 2) = 0 := h 2 (by decide) (by decide)
    have h3 : d3 (B 0 0) (B 0 1) (B 0 2) (B 1 0) (B 1 1) (B 1 2) (B 3 0) (B 3 1) (B 3 2) = 0 := h 3 (by decide) (by decide)
    have e := d4_id (B 0 0) (B 0 1) (B 0 2) (B 0 3) (B 1 0) (B 1 1) (B 1 2) (B 1 3) (B 2 0) (B 2 1) (B 2 2) (B 2 3) (B 3 0) (B 3 1) (B 3 2) (B 3 3)
    rw [h2, h3, Int.mul_zero, Int.zero_mul, Int.sub_zero] at e
    exact (Int.mul_eq_zero.mp e).resolve_right hL
  · exact h 3 (by decide) (by decide)
theorem sLk_n (hn : n ≤ 4) : sLk n B = sDe n B := by
  have g : n = 0 ∨ n = 1 ∨ n = 2 ∨ n = 3 ∨ n = 4 := by omega
  rcases g with rfl | rfl | rfl | rfl | rfl <;> rfl
theorem d2_b {a b c d : Int} (ha : -99 ≤ a ∧ a ≤ 99) (hb : -99 ≤ b ∧ b ≤ 99) (hc : -99 ≤ c ∧ c ≤ 99) (hd : -99 ≤ d ∧ d ≤ 99) : -19602 ≤ d2 a b c d ∧ d2 a b c d ≤ 19602 := by
  have h1 := mul_b ha hd (by decide) (by decide)
  have h2 := mul_b hb hc (by decide) (by decide)
  unfold d2
  omega
theorem d3_b {a b c d e f g h i : Int} (ha : -99 ≤ a ∧ a ≤ 99) (hb : -99 ≤ b ∧ b ≤ 99) (hc : -99 ≤ c ∧ c ≤ 99) (hd : -99 ≤ d ∧ d ≤ 99) (he : -99 ≤ e ∧ e ≤ 99) (hf : -99 ≤ f ∧ f ≤ 99) (hg : -99 ≤ g ∧ g ≤ 99) (hh : -99 ≤ h ∧ h ≤ 99) (hi : -99 ≤ i ∧ i ≤ 99) : -5821794 ≤ d3 a b c d e f g h i ∧ d3 a b c d e f g h i ≤ 5821794 := by
  have h1 := mul_b (q := 19602) ha (d2_b he hf hh hi) (by decide) (by decide)
  have h2 := mul_b (q := 19602) hb (d2_b hd hf hg hi) (by decide) (by decide)
  have h3 := mul_b (q := 19602) hc (d2_b hd he hg hh) (by decide) (by decide)
  unfold d3
  omega
theorem d4_bd {a b c d e f g h i j k l m n o p : Int} (ha : -99 ≤ a ∧ a ≤ 99) (hb : -99 ≤ b ∧ b ≤ 99) (hc : -99 ≤ c ∧ c ≤ 99) (hd : -99 ≤ d ∧ d ≤ 99) (he : -99 ≤ e ∧ e ≤ 99) (hf : -99 ≤ f ∧ f ≤ 99) (hg : -99 ≤ g ∧ g ≤ 99) (hh : -99 ≤ h ∧ h ≤ 99) (hi : -99 ≤ i ∧ i ≤ 99) (hj : -99 ≤ j ∧ j ≤ 99) (hk : -99 ≤ k ∧ k ≤ 99) (hl : -99 ≤ l ∧ l ≤ 99) (hm : -99 ≤ m ∧ m ≤ 99) (hn : -99 ≤ n ∧ n ≤ 99) (ho : -99 ≤ o ∧ o ≤ 99) (hp : -99 ≤ p ∧ p ≤ 99) : -3000000000 ≤ d4 a b c d e f g h i j k l m n o p ∧ d4 a b c d e f g h i j k l m n o p ≤ 3000000000 := by
  have h1 := mul_b (q := 5821794) ha (d3_b hf hg hh hj hk hl hn ho hp) (by decide) (by decide)
  have h2 := mul_b (q := 5821794) hb (d3_b he hg hh hi hk hl hm ho hp) (by decide) (by decide)
  have h3 := mul_b (q := 5821794) hc (d3_b he hf hh hi hj hl hm hn hp) (by decide) (by decide)
  have h4 := mul_b (q := 5821794) hd (d3_b he hf hg hi hj hk hm hn ho) (by decide) (by decide)
  unfold d4
  omega
theorem sMk_b (hB : ∀ i j, i < 4 → j < 4 → -99 ≤ B i j ∧ B i j ≤ 99) (hk : k < 4) (hi : i < 4) (hj : j < 4) : -3000000000 ≤ sMk k B i j ∧ sMk k B i j ≤ 3000000000 := by
  have b := fun i j (hi : i < 4) (hj : j < 4) => hB i j hi hj
  have g : k = 0 ∨ k = 1 ∨ k = 2 ∨ k = 3 := by omega
  rcases g with rfl | rfl | rfl | rfl
  · have := hB i j hi hj
    simp only [sMk]
    omega
  · have := d2_b (hB 0 0 (by decide) (by decide)) (hB 0 j (by decide) hj) (hB i 0 hi (by decide)) (hB i j hi hj)
    simp only [sMk]
    omega
  · have := d3_b (hB 0 0 (by decide) (by decide)) (hB 0 1 (by decide) (by decide)) (hB 0 j (by decide) hj) (hB 1 0 (by decide) (by decide)) (hB 1 1 (by decide) (by decide)) (hB 1 j (by decide) hj) (hB i 0 hi (by decide)) (hB i 1 hi (by decide)) (hB i j hi hj)
    simp only [sMk]
    omega
  · exact d4_bd (hB 0 0 (by decide) (by decide)) (hB 0 1 (by decide) (by decide)) (hB 0 2 (by decide) (by decide)) (hB 0 j (by decide) hj) (hB 1 0 (by decide) (by decide)) (hB 1 1 (by decide) (by decide)) (hB 1 2 (by decide) (by decide)) (hB 1 j (by decide) hj) (hB 2 0 (by decide) (by decide)) (hB 2 1 (by decide) (by decide)) (hB 2 2 (by decide) (by decide)) (hB 2 j (by decide) hj) (hB i 0 hi (by decide)) (hB i 1 hi (by decide)) (hB i 2 hi (by decide)) (hB i j hi hj)
end EL
/-- what stands after k steps: w the numbers that are left, s the sign, z the last pivot -/
def sBZ (n k : Nat) (B w : Nat → Nat → Int) (s z : Int) : Prop := ∃ B', (∀ i j, i < 4 → j < 4 → -99 ≤ B' i j ∧ B' i j ≤ 99) ∧ sDe n B = s * sDe n B' ∧ (s = 1 ∨ s = -1) ∧ z = sLk k B' ∧ ¬ z = 0 ∧ ∀ i j, k ≤ i → i < n → k ≤ j → j < n → w i j = sMk k B' i j
section BZ
variable {B w : Nat → Nat → Int} {i j k n b : Nat} {s z : Int}
theorem sBZ_0 (hB : ∀ i j, i < 4 → j < 4 → -99 ≤ B i j ∧ B i j ≤ 99) (h : ∀ i j, i < n → j < n → w i j = B i j) : sBZ n 0 B w 1 1 := ⟨B, hB, (Int.one_mul _).symm, Or.inl rfl, rfl, by decide, fun i j _ hi _ hj => h i j hi hj⟩
theorem sBZ_b (hn : n ≤ 4) (hk : k < 4) (Z : sBZ n k B w s z) (hi : k ≤ i ∧ i < n) (hj : k ≤ j ∧ j < n) : -3000000000 ≤ w i j ∧ w i j ≤ 3000000000 := by
  obtain ⟨B', h1, h2, h3, h4, h5, h6⟩ := Z
  rw [h6 i j hi.1 hi.2 hj.1 hj.2]
  exact sMk_b h1 hk (by omega) (by omega)
theorem sBZ_z (hn : n ≤ 4) (hk : k < n) (Z : sBZ n k B w s z) (h : ∀ i, k ≤ i → i < n → w i k = 0) : sDe n B = 0 := by
  obtain ⟨B', h1, h2, h3, h4, h5, h6⟩ := Z
  rw [h2, sDe_z hn hk (by rw [← h4]; exact h5) (fun i a b => by rw [← h6 i k a b (Nat.le_refl k) hk]; exact h i a b), Int.mul_zero]
theorem sBZ_e (hn : n ≤ 4) (Z : sBZ n n B w s z) : s * z = sDe n B := by
  obtain ⟨B', h1, h2, h3, h4, h5, h6⟩ := Z
  rw [h2, h4, sLk_n hn]
theorem sBZ_s (hn : n ≤ 4) (hk : k < n) (hb : k ≤ b ∧ b < n) (Z : sBZ n k B w s z) (hw : ¬ w b k = 0) {w1 w2 : Nat → Nat → Int} (h1 : ∀ i j, k ≤ i → i < n → k ≤ j → j < n → w1 i j = w (if i = k then b else if i = b then k else i) j) (h2 : ∀ i j, k < i → i < n → k < j → j < n → w2 i j = Int.tdiv (w1 i j * w1 k k - w1 i k * w1 k j) z) : sBZ n (k + 1) B w2 (if b = k then s else -s) (w1 k k) := by
  obtain ⟨B', g1, g2, g3, g4, g5, g6⟩ := Z
  have m1 : ∀ i j, k ≤ i → i < n → k ≤ j → j < n → w1 i j = sMk k (sSp k b B') i j := fun i j a c e f => by
    rw [h1 i j a c e f, sMk_sp (by omega) hb.1 a]
    refine g6 _ j ?_ ?_ e f
    · repeat' split
      all_goals omega
    · repeat' split
      all_goals omega
  refine ⟨sSp k b B', fun i j hi hj => ?_, ?_, ?_, ?_, ?_, fun i j a c e f => ?_⟩
  · unfold sSp
    repeat' split
    · exact g1 b j (by omega) hj
    · exact g1 k j (by omega) hj
    · exact g1 i j hi hj
  · by_cases q : b = k
    · have e : sSp k b B' = B' := by
        funext i j
        unfold sSp
        rw [q]
        by_cases h : i = k
        · rw [if_pos h, h]
        · rw [if_neg h, if_neg h]
      rw [if_pos q, e]
      exact g2
    · rw [if_neg q, sDe_sp hn (by omega) hb.2, g2, Int.neg_mul_neg]
  · split
    · exact g3
    · omega
  · rw [m1 k k (Nat.le_refl k) hk (Nat.le_refl k) hk]
    rfl
  · rw [h1 k k (Nat.le_refl k) hk (Nat.le_refl k) hk, if_pos rfl]
    exact hw
  · have e1 := m1 i j (by omega) c (by omega) f
    have e2 := m1 k k (Nat.le_refl k) hk (Nat.le_refl k) hk
    have e3 := m1 i k (by omega) c (Nat.le_refl k) hk
    have e4 := m1 k j (Nat.le_refl k) hk (by omega) f
    rw [h2 i j (by omega) c (by omega) f, e1, e2, e3, e4, ← sMk_e (by omega), sLk_sp (by omega) hb.1, ← g4]
    exact Int.mul_tdiv_cancel _ g5
end BZ
