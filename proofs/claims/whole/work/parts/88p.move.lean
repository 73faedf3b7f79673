/-! the law's invariant over a change -/
section LP
variable {d : Nat} {σ σ1 s : Nat → Nat → Int} {f f' g t t' : Nat → Int} {l u l' u' : Nat} {h h' : Nat → Nat → Int}
theorem sMX_e (Y : sMX σ l t) (h4 : s 86 4 = σ 86 4) (h9 : s 89 = σ 89) : sMX s l t := ⟨h4.trans Y.1, fun i hi => by rw [h9]; exact Y.2 i hi⟩
theorem sMH_e (M : sMH σ u h) (h2 : s 86 2 = σ 86 2) (h8 : s 88 = σ 88) : sMH s u h := ⟨h2.trans M.1, fun j k a b => by rw [h8]; exact M.2 j k a b⟩
theorem sTX_e (X : sTX σ l t) (h1 : s 1 = σ 1) (h2 : s 2 = σ 2) : sTX s l t := ⟨by rw [h1]; exact X.1, fun i hi => by rw [h2]; exact X.2 i hi⟩
theorem sSX_e (S : sSX σ) (hc : ∀ c, 74 ≤ c → c < 80 → s c = σ c) : sSX s := by
  obtain ⟨m1, m2, a, b⟩ := S
  refine ⟨m1, m2, ?_, ?_⟩
  · unfold sS1 at a ⊢
    simpa only [hc 74 (by decide) (by decide), hc 75 (by decide) (by decide), hc 76 (by decide) (by decide)] using a
  · unfold sS2 at b ⊢
    simpa only [hc 77 (by decide) (by decide), hc 78 (by decide) (by decide), hc 79 (by decide) (by decide)] using b
theorem sEa_g (hm : ∀ k, 49 ≤ k → f' k = f k) : sEa f' = sEa f := by
  funext r c
  unfold sEa
  exact hm _ (by omega)
theorem sZf_g (O : sZf f) (hm : ∀ k, 49 ≤ k → f' k = f k) : sZf f' := by
  intro k z
  rw [hm (51 + k) (by omega)]
  rw [hm 49 (by decide), hm 50 (by decide)] at z
  exact O k z
theorem sSo_g (O : sSo σ f) (hm : ∀ k, 49 ≤ k → f' k = f k) : sSo σ f' := by
  obtain ⟨z, ⟨a, b⟩, c, x, y, w⟩ := O
  refine ⟨sZf_g z hm, ⟨a.trans (hm 49 (by decide)).symm, b.trans (hm 50 (by decide)).symm⟩, fun r q h1 h2 => ?_, x, ?_, ?_⟩
  · rw [hm 49 (by decide)] at h1
    rw [hm 50 (by decide)] at h2
    rw [hm _ (by omega)]
    exact c r q h1 h2
  · rw [sEa_g hm, hm 49 (by decide), hm 50 (by decide)]
    exact y
  · rw [sEa_g hm]
    exact w
theorem gU_8 (hu : u ≤ 8) : gU u ≤ 8 := by
  unfold gU
  split <;> omega
theorem gH_q (P : ∀ j, j < u → sRq (h j)) (R : sRq f) (hu : u ≤ 8) : ∀ j, j < gU u → sRq (gH u h f j) := by
  intro j hj
  unfold gU at hj
  unfold gH
  by_cases g : u < 8
  · rw [if_pos g] at hj ⊢
    by_cases z : j = u
    · rw [if_pos z]; exact R
    · rw [if_neg z]; exact P j (by omega)
  · rw [if_neg g] at hj ⊢
    by_cases z : j = 7
    · rw [if_pos z]; exact R
    · rw [if_neg z]; exact P (j + 1) (by omega)
theorem sAl_1 {p : Nat} (hp : p < 5) (h0 : 0 < f p) : 1 ≤ sAl f := by
  have g : p = 0 ∨ p = 1 ∨ p = 2 ∨ p = 3 ∨ p = 4 := by omega
  unfold sAl
  rcases g with rfl | rfl | rfl | rfl | rfl <;> rw [if_pos h0] <;> repeat' split <;> omega
theorem sAl_x {p : Nat} (ha : 2 ≤ sAl f) : ∃ q, q < 5 ∧ ¬ q = p ∧ 0 < f q := by
  apply Classical.byContradiction
  intro h
  have k : ∀ q, q < 5 → ¬ q = p → ¬ 0 < f q := fun q a b c => h ⟨q, a, b, c⟩
  have k0 := k 0 (by decide)
  have k1 := k 1 (by decide)
  have k2 := k 2 (by decide)
  have k3 := k 3 (by decide)
  have k4 := k 4 (by decide)
  unfold sAl at ha
  by_cases h0 : 0 < f 0
  · rw [if_pos h0, if_neg (fun c => k1 (by omega) c), if_neg (fun c => k2 (by omega) c), if_neg (fun c => k3 (by omega) c), if_neg (fun c => k4 (by omega) c)] at ha
    omega
  · rw [if_neg h0] at ha
    by_cases h1 : 0 < f 1
    · rw [if_pos h1, if_neg (fun c => k2 (by omega) c), if_neg (fun c => k3 (by omega) c), if_neg (fun c => k4 (by omega) c)] at ha
      omega
    · rw [if_neg h1] at ha
      by_cases h2 : 0 < f 2
      · rw [if_pos h2, if_neg (fun c => k3 (by omega) c), if_neg (fun c => k4 (by omega) c)] at ha
        omega
      · rw [if_neg h2] at ha
        repeat' split at ha
        all_goals omega
theorem sAl_2 {p : Nat} (ha : 2 ≤ sAl f) (he : ∀ q, q < 5 → ¬ q = p → f' q = f q) : 1 ≤ sAl f' := by
  obtain ⟨q, a, b, c⟩ := sAl_x (p := p) ha
  exact sAl_1 a (by rw [he q a b]; exact c)
theorem sRq_m (R : sRq f) (W' : sWF f') (hm : ∀ k, 49 ≤ k → f' k = f k) (h48 : m_in (f' 48)) (ha : 1 ≤ sAl f') : sRq f' := ⟨W', sZf_g R.2.1 hm, fun k hk => by rw [hm k (by omega)]; exact R.2.2.1 k hk, h48, ha⟩
theorem sRq_new {P : Int} (R : sRq f) (hP : 2 ≤ P ∧ P ≤ 5) : sRq (gNw f P) ∧ ∀ k, 49 ≤ k → gNw f P k = f k := by
  have hm : ∀ k, 49 ≤ k → gNw f P k = f k := fun k hk => by
    unfold gNw
    rw [if_neg (by omega)]
  refine ⟨sRq_m R (W_new R.1 hP) hm ?_ (sAl_1 (p := 0) (by decide) ?_), hm⟩
  · unfold gNw
    rw [if_pos (by decide), if_neg (by decide), if_neg (by decide), if_neg (by omega)]
    exact m_in0
  · unfold gNw
    rw [if_pos (by decide), if_neg (by decide), if_neg (by decide), if_pos (by omega)]
    decide
theorem sRq_wild {w : Int} (R : sRq f) (hw : w = 0 ∨ w = 1) : sRq (g1 f 46 w) ∧ ∀ k, 49 ≤ k → g1 f 46 w k = f k := by
  have hm : ∀ k, 49 ≤ k → g1 f 46 w k = f k := fun k hk => g1_n (by omega)
  refine ⟨sRq_m R (W_wild R.1 hw) hm ?_ ?_, hm⟩
  · rw [g1_n (by decide)]; exact R.2.2.2.1
  · rw [sAl_c (fun p hp => g1_n (by omega))]; exact R.2.2.2.2
theorem sRq_deal {v : Nat → Int} (R : sRq f) (hc : f 42 = 0 ∧ 2 ≤ sAl f) (hv : ∀ n : Nat, (n : Int) < sDc f → 1 ≤ v n ∧ v n ≤ 6) : sRq (gDl f v) ∧ ∀ k, 49 ≤ k → gDl f v k = f k := by
  have hm : ∀ k, 49 ≤ k → gDl f v k = f k := fun k hk => gDl_e (by omega) (by omega)
  have wn := W_n R.1
  refine ⟨sRq_m R (W_deal R.1 hc.2 hv (by omega)) hm ?_ ?_, hm⟩
  · rw [gDl_e (by decide) (by decide)]; exact R.2.2.2.1
  · rw [sAl_c (fun p hp => gDl_e (by omega) (by omega))]; exact R.2.2.2.2
theorem gCl_x {n a : Int} {k : Nat} (hk : k < 41 ∨ k = 42 ∨ 45 < k) : gCl f n a k = f k := by
  unfold gCl
  rw [g1_n (by omega), g1_n (by omega), g1_n (by omega), g1_n (by omega)]
theorem sRq_claim {n a : Int} (R : sRq f) (hd : f 42 = 1) (hn : 1 ≤ n ∧ n ≤ 25) (hf : 1 ≤ a ∧ a ≤ 6) : sRq (gCl f n a) ∧ ∀ k, 49 ≤ k → gCl f n a k = f k := by
  have hm : ∀ k, 49 ≤ k → gCl f n a k = f k := fun k hk => gCl_x (by omega)
  refine ⟨sRq_m R (W_claim R.1 hd hn hf) hm ?_ ?_, hm⟩
  · rw [gCl_x (by omega)]; exact R.2.2.2.1
  · rw [sAl_c (fun p hp => gCl_x (by omega))]; exact R.2.2.2.2
theorem sRq_doubt (R : sRq f) (hn : ¬ f 43 = -1003) : sRq (gDb f) ∧ ∀ k, 49 ≤ k → gDb f k = f k := by
  have v := sLs_v R.1 hn
  have wp := W_p R.1
  have wn := W_n R.1
  have al := W_al R.1 (by omega)
  have hm : ∀ k, 49 ≤ k → gDb f k = f k := fun k hk => by
    unfold gDb
    rw [gE_e (by omega), gL_e (by omega) (by omega), g1_n (by omega)]
  refine ⟨sRq_m R (W_doubt R.1 hn) hm ?_ ?_, hm⟩
  · unfold gDb
    rw [gE_e (by omega), gL_e (by omega) (by omega), g1_s]
    split
    · exact R.2.2.2.1
    · exact m_inw _
  · unfold gDb
    rw [gE_al]
    exact sAl_2 (p := (sLs f).toNat) al (fun q hq h => by rw [gL_e h (by omega), g1_n (by omega)])
theorem gX0_x {k : Nat} (h1 : ¬ k = (f 41).toNat) (h2 : k < 5 ∨ 40 ≤ k) (h3 : (f 41).toNat < 5) : gX0 f k = f k := by
  unfold gX0
  split
  · unfold gWn
    rw [g1_n (by omega), g1_n h1]
  · rw [gL_e h1 (by omega)]
theorem sRq_exact (R : sRq f) (hn : ¬ f 43 = -1003) : sRq (gEx f) ∧ ∀ k, 49 ≤ k → gEx f k = f k := by
  have wp := W_p R.1
  have wn := W_n R.1
  have al := W_al R.1 (by omega)
  have v := W_t R.1 al
  have hm : ∀ k, 49 ≤ k → gEx f k = f k := fun k hk => by
    unfold gEx
    rw [gE_e (by omega), gX0_x (by omega) (by omega) (by omega)]
  refine ⟨sRq_m R (W_exact R.1 hn) hm ?_ ?_, hm⟩
  · unfold gEx
    rw [gE_e (by omega), gX0_x (by omega) (by omega) (by omega)]
    exact R.2.2.2.1
  · unfold gEx
    rw [gE_al]
    exact sAl_2 (p := (f 41).toNat) al (fun q hq h => gX0_x h (by omega) (by omega))
theorem sRq_mt {rows cols : Int} {E : Nat → Int} (R : sRq f) (W' : sWF (gMt f rows cols E)) : sRq (gMt f rows cols E) := by
  refine ⟨W', sZf_mt R.2.2.1, fun k hk => by rw [gMt_e (by omega)]; exact R.2.2.1 k hk, ?_, ?_⟩
  · rw [gMt_e (by omega)]; exact R.2.2.2.1
  · rw [sAl_c (fun p hp => gMt_e (by omega))]; exact R.2.2.2.2
theorem sIv_c (V : sIv σ f h t u l) (hx : s 1 = σ 1 ∧ s 2 = σ 2) (h9 : s 89 = σ 89) (h4 : s 86 4 = σ 86 4) (T : sTR s 8 f') (H : sHC s u' h') (M : sMH s u' h') (hu : u' ≤ 8) (P : ∀ j, j < u' → sRq (h' j)) (e : s 87 = f') (R : sRq f') (S : sSX s) (O : sSo s f') : sIv s f' h' t u' l := by
  obtain ⟨_, _, _, _, ⟨X, Y, l60, L⟩, _, _⟩ := V
  exact ⟨R, T, e, ⟨H, M, hu, P⟩, ⟨sTX_e X hx.1 hx.2, sMX_e Y h4 h9, l60, L⟩, S, O⟩
theorem sIv_d (V : sIv σ f h t u l) (F1 : ∀ c, c < 3 ∨ 73 ≤ c → σ1 c = σ c) (T1 : sTR σ1 8 f') (H1 : sHC σ1 (gU u) (gH u h f)) (F2 : ∀ c, ¬ c = 86 → ¬ c = 87 → ¬ c = 88 → ¬ c = 90 → s c = σ1 c) (h4 : s 86 4 = σ1 86 4) (e : s 87 = f') (M : sMH s (gU u) (gH u h f)) (R : sRq f' ∧ ∀ k, 49 ≤ k → f' k = f k) : sIv s f' (gH u h f) t (gU u) l := by
  have u8 := V.2.2.2.1.2.2.1
  refine sIv_c V ⟨by rw [F2 1 (by decide) (by decide) (by decide) (by decide), F1 1 (by decide)], by rw [F2 2 (by decide) (by decide) (by decide) (by decide), F1 2 (by decide)]⟩ (by rw [F2 89 (by decide) (by decide) (by decide) (by decide), F1 89 (by decide)]) (by rw [h4, F1 86 (by decide)]) (sTR_fr (fun c a b => F2 c (by omega) (by omega) (by omega) (by omega)) T1) (sHC_f H1 (fun c a b => F2 c (by omega) (by omega) (by omega) (by omega))) M (gU_8 u8) (gH_q V.2.2.2.1.2.2.2 V.1 u8) e R.1 (sSX_e V.2.2.2.2.2.1 (fun c a b => by rw [F2 c (by omega) (by omega) (by omega) (by omega), F1 c (by omega)])) (sSo_f (sSo_g V.2.2.2.2.2.2 R.2) (fun c a b => by rw [F2 c (by omega) (by omega) (by omega) (by omega), F1 c (by omega)]))
/-- nothing of the state changed -/
theorem sIv_n (V : sIv σ f h t u l) (F1 : ∀ c, c < 3 ∨ 8 ≤ c → σ1 c = σ c) (F2 : ∀ c, ¬ c = 86 → ¬ c = 90 → s c = σ1 c) (h2 : s 86 2 = σ1 86 2) (h4 : s 86 4 = σ1 86 4) : sIv s f h t u l := by
  obtain ⟨W, T, R, ⟨C, M, u8, P⟩, ⟨X, Y, l60, hL⟩, S, O⟩ := id V
  have e : ∀ c, c < 3 ∨ 8 ≤ c → ¬ c = 86 → ¬ c = 90 → s c = σ c := fun c a b d => (F2 c b d).trans (F1 c a)
  exact sIv_c V ⟨e 1 (by decide) (by decide) (by decide), e 2 (by decide) (by decide) (by decide)⟩ (e 89 (by decide) (by decide) (by decide)) (by rw [h4, F1 86 (by decide)]) (sTR_fr (fun c a b => e c (by omega) (by omega) (by omega)) T) (sHC_f C (fun c a b => e c (by omega) (by omega) (by omega))) (sMH_e M (by rw [h2, F1 86 (by decide)]) (e 88 (by decide) (by decide) (by decide))) u8 P (by rw [e 87 (by decide) (by decide) (by decide)]; exact R) W (sSX_e S (fun c a b => e c (by omega) (by omega) (by omega))) (sSo_f O (fun c a b => e c (by omega) (by omega) (by omega)))
theorem sIv_B (V : sIv σ f h t u l) : ∀ q, q < 5 → sBe f q = -1003 ∨ ∃ n a, sIn n a ∧ sBe f q = 10 * n + a := fun q hq => by
  obtain ⟨_, _, _, _, k⟩ := c_bco (d := 0) (p := q) V.2.1 V.1.1 hq V.2.2.2.2.2.1
  exact k
end LP
