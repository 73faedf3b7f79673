/-! what else of the class is wanted -/
section MO
variable {d : Nat} {σ : Nat → Nat → Int} {p n face : Int}
theorem sUn_0 {f : Nat → Int} {p : Nat} (h : f p = 0) : sUn f p face = 0 := by
  unfold sUn
  rw [h]
  simp [m_it]
end MO
theorem m_all1 {P : Nat → Prop} {b : Nat → Int → Int} (hb1 : ∀ k, P k → b k 1 = 1) : ∀ (n k : Nat), (∀ j, k ≤ j → j < k + n → P j) → m_it b k n 1 = 1
  | 0, _, _ => rfl
  | n + 1, k, h => by
    unfold m_it
    rw [hb1 k (h k (Nat.le_refl _) (by omega))]
    exact m_all1 hb1 n (k + 1) (fun j a c => h j (by omega) (by omega))
section MA
variable {d : Nat} {σ : Nat → Nat → Int} {f : Nat → Int} {r c : Int}
end MA
def sZf (f : Nat → Int) : Prop := ∀ k : Nat, (16 ≤ k ∨ f 49 ≤ ((k / 4 : Nat) : Int) ∨ f 50 ≤ ((k % 4 : Nat) : Int)) → f (51 + k) = 0
section FT
variable {d : Nat} {σ s : Nat → Nat → Int} {f g : Nat → Int} {R C sz : Nat} {a : Nat → Nat → Int} {m n : Nat}
end FT
section GM
variable {f E : Nat → Int} {rows cols : Int}
end GM
section SM
variable {d : Nat} {σ : Nat → Nat → Int} {f g t : Nat → Int} {l u : Nat} {h : Nat → Nat → Int}
theorem sHC_f {s : Nat → Nat → Int} (H : sHC σ u h) (hF : ∀ c, 15 ≤ c → c < 73 → s c = σ c) : sHC s u h := by
  obtain ⟨q1, q2, q3⟩ := H
  have e15 := hF 15 (by decide) (by decide)
  refine ⟨by rw [e15]; exact q1, by rw [e15]; exact q2, fun j hj => ?_⟩
  rw [e15]
  exact sTR_fr (fun c a b => hF c (by omega) (by omega)) (q3 j hj)
end SM
section IV
variable {d : Nat} {σ s : Nat → Nat → Int} {f g t : Nat → Int} {l u : Nat} {h : Nat → Nat → Int}
def sRq (f : Nat → Int) : Prop := sWF f ∧ sZf f ∧ (∀ k, 67 ≤ k → f k = 0) ∧ m_in (f 48) ∧ 1 ≤ sAl f
end IV
section LP
variable {d : Nat} {σ σ1 s : Nat → Nat → Int} {f f' g t t' : Nat → Int} {l u l' u' : Nat} {h h' : Nat → Nat → Int}
theorem sTX_e (X : sTX σ l t) (h1 : s 1 = σ 1) (h2 : s 2 = σ 2) : sTX s l t := ⟨by rw [h1]; exact X.1, fun i hi => by rw [h2]; exact X.2 i hi⟩
theorem sZf_g (O : sZf f) (hm : ∀ k, 49 ≤ k → f' k = f k) : sZf f' := by
  intro k z
  rw [hm (51 + k) (by omega)]
  rw [hm 49 (by decide), hm 50 (by decide)] at z
  exact O k z
theorem sAl_1 {p : Nat} (hp : p < 5) (h0 : 0 < f p) : 1 ≤ sAl f := by
  have g : p = 0 ∨ p = 1 ∨ p = 2 ∨ p = 3 ∨ p = 4 := by omega
  unfold sAl
  rcases g with rfl | rfl | rfl | rfl | rfl <;> rw [if_pos h0] <;> repeat' split <;> omega
theorem sAl_x {p : Nat} (ha : 2 ≤ sAl f) : ∃ q, q < 5 ∧ ¬ q = p ∧ 0 < f q := by
  apply Classical.byContradiction
  intro h
  have k : ∀ q, q < 5 → ¬ q = p → ¬ 0 < f q := fun q a b c => h ⟨q, a, b, c⟩
  have k0 := k 0 (by decide)
  have k1 := k 1 (by decide)
  have k2 := k 2 (by decide)
  have k3 := k 3 (by decide)
  have k4 := k 4 (by decide)
  unfold sAl at ha
  by_cases h0 : 0 < f 0
  · rw [if_pos h0, if_neg (fun c => k1 (by omega) c), if_neg (fun c => k2 (by omega) c), if_neg (fun c => k3 (by omega) c), if_neg (fun c => k4 (by omega) c)] at ha
    omega
  · rw [if_neg h0] at ha
    by_cases h1 : 0 < f 1
    · rw [if_pos h1, if_neg (fun c => k2 (by omega) c), if_neg (fun c => k3 (by omega) c), if_neg (fun c => k4 (by omega) c)] at ha
      omega
    · rw [if_neg h1] at ha
      by_cases h2 : 0 < f 2
      · rw [if_pos h2, if_neg (fun c => k3 (by omega) c), if_neg (fun c => k4 (by omega) c)] at ha
        omega
      · rw [if_neg h2] at ha
        repeat' split at ha
        all_goals omega
theorem sAl_2 {p : Nat} (ha : 2 ≤ sAl f) (he : ∀ q, q < 5 → ¬ q = p → f' q = f q) : 1 ≤ sAl f' := by
  obtain ⟨q, a, b, c⟩ := sAl_x (p := p) ha
  exact sAl_1 a (by rw [he q a b]; exact c)
theorem sRq_m (R : sRq f) (W' : sWF f') (hm : ∀ k, 49 ≤ k → f' k = f k) (h48 : m_in (f' 48)) (ha : 1 ≤ sAl f') : sRq f' := ⟨W', sZf_g R.2.1 hm, fun k hk => by rw [hm k (by omega)]; exact R.2.2.1 k hk, h48, ha⟩
theorem sRq_new {P : Int} (R : sRq f) (hP : 2 ≤ P ∧ P ≤ 5) : sRq (gNw f P) ∧ ∀ k, 49 ≤ k → gNw f P k = f k := by
  have hm : ∀ k, 49 ≤ k → gNw f P k = f k := fun k hk => by
    unfold gNw
    rw [if_neg (by omega)]
  refine ⟨sRq_m R (W_new R.1 hP) hm ?_ (sAl_1 (p := 0) (by decide) ?_), hm⟩
  · unfold gNw
    rw [if_pos (by decide), if_neg (by decide), if_neg (by decide), if_neg (by omega)]
    exact m_in0
  · unfold gNw
    rw [if_pos (by decide), if_neg (by decide), if_neg (by decide), if_pos (by omega)]
    decide
theorem sRq_wild {w : Int} (R : sRq f) (hw : w = 0 ∨ w = 1) : sRq (g1 f 46 w) ∧ ∀ k, 49 ≤ k → g1 f 46 w k = f k := by
  have hm : ∀ k, 49 ≤ k → g1 f 46 w k = f k := fun k hk => g1_n (by omega)
  refine ⟨sRq_m R (W_wild R.1 hw) hm ?_ ?_, hm⟩
  · rw [g1_n (by decide)]; exact R.2.2.2.1
  · rw [sAl_c (fun p hp => g1_n (by omega))]; exact R.2.2.2.2
theorem sRq_deal {v : Nat → Int} (R : sRq f) (hc : f 42 = 0 ∧ 2 ≤ sAl f) (hv : ∀ n : Nat, (n : Int) < sDc f → 1 ≤ v n ∧ v n ≤ 6) : sRq (gDl f v) ∧ ∀ k, 49 ≤ k → gDl f v k = f k := by
  have hm : ∀ k, 49 ≤ k → gDl f v k = f k := fun k hk => gDl_e (by omega) (by omega)
  have wn := W_n R.1
  refine ⟨sRq_m R (W_deal R.1 hc.2 hv (by omega)) hm ?_ ?_, hm⟩
  · rw [gDl_e (by decide) (by decide)]; exact R.2.2.2.1
  · rw [sAl_c (fun p hp => gDl_e (by omega) (by omega))]; exact R.2.2.2.2
theorem gCl_x {n a : Int} {k : Nat} (hk : k < 41 ∨ k = 42 ∨ 45 < k) : gCl f n a k = f k := by
  unfold gCl
  rw [g1_n (by omega), g1_n (by omega), g1_n (by omega), g1_n (by omega)]
theorem sRq_claim {n a : Int} (R : sRq f) (hd : f 42 = 1) (hn : 1 ≤ n ∧ n ≤ 25) (hf : 1 ≤ a ∧ a ≤ 6) : sRq (gCl f n a) ∧ ∀ k, 49 ≤ k → gCl f n a k = f k := by
  have hm : ∀ k, 49 ≤ k → gCl f n a k = f k := fun k hk => gCl_x (by omega)
  refine ⟨sRq_m R (W_claim R.1 hd hn hf) hm ?_ ?_, hm⟩
  · rw [gCl_x (by omega)]; exact R.2.2.2.1
  · rw [sAl_c (fun p hp => gCl_x (by omega))]; exact R.2.2.2.2
theorem sRq_doubt (R : sRq f) (hn : ¬ f 43 = -1003) : sRq (gDb f) ∧ ∀ k, 49 ≤ k → gDb f k = f k := by
  have v := sLs_v R.1 hn
  have wp := W_p R.1
  have wn := W_n R.1
  have al := W_al R.1 (by omega)
  have hm : ∀ k, 49 ≤ k → gDb f k = f k := fun k hk => by
    unfold gDb
    rw [gE_e (by omega), gL_e (by omega) (by omega), g1_n (by omega)]
  refine ⟨sRq_m R (W_doubt R.1 hn) hm ?_ ?_, hm⟩
  · unfold gDb
    rw [gE_e (by omega), gL_e (by omega) (by omega), g1_s]
    split
    · exact R.2.2.2.1
    · exact m_inw _
  · unfold gDb
    rw [gE_al]
    exact sAl_2 (p := (sLs f).toNat) al (fun q hq h => by rw [gL_e h (by omega), g1_n (by omega)])
theorem gX0_x {k : Nat} (h1 : ¬ k = (f 41).toNat) (h2 : k < 5 ∨ 40 ≤ k) (h3 : (f 41).toNat < 5) : gX0 f k = f k := by
  unfold gX0
  split
  · unfold gWn
    rw [g1_n (by omega), g1_n h1]
  · rw [gL_e h1 (by omega)]
theorem sRq_exact (R : sRq f) (hn : ¬ f 43 = -1003) : sRq (gEx f) ∧ ∀ k, 49 ≤ k → gEx f k = f k := by
  have wp := W_p R.1
  have wn := W_n R.1
  have al := W_al R.1 (by omega)
  have v := W_t R.1 al
  have hm : ∀ k, 49 ≤ k → gEx f k = f k := fun k hk => by
    unfold gEx
    rw [gE_e (by omega), gX0_x (by omega) (by omega) (by omega)]
  refine ⟨sRq_m R (W_exact R.1 hn) hm ?_ ?_, hm⟩
  · unfold gEx
    rw [gE_e (by omega), gX0_x (by omega) (by omega) (by omega)]
    exact R.2.2.2.1
  · unfold gEx
    rw [gE_al]
    exact sAl_2 (p := (f 41).toNat) al (fun q hq h => gX0_x h (by omega) (by omega))
end LP
