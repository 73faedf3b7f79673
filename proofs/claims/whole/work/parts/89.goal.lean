/-! the law's own run on the pure machine -/
theorem m_law_ok (L : Nat) (xs : Nat → Int) (hL : L ≤ 2560) (hxs : ∀ j, m_in (xs j)) : ∃ μ' : m_M, m_e (some (L, xs)) (m_ev 9) 197 (m_blk 197 0) (m_en (m_ml 197) [m_S]) [] ([], fun _ _ => 0) = some (some (m_I 1), μ') ∧ μ'.1.length ≤ 600000 ∧ m_sz μ'.1 ≤ 7302250 := w_law sol_ex L xs hL
