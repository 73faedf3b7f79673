/-! arrays by their cells; small numbers -/
section AR
variable {X : Option (Nat × (Nat → Int))} {f : m_C} {y : Nat} {is : List m_P} {ls r : List m_V} {σ : Nat → Nat → Int} {a b : Nat} {z : Int}
theorem a_2 {i : Int} (h : 0 ≤ i ∧ i < 60) : m_e X f y ((61, a, b, z) :: is) ls (m_I i :: m_R 2 :: r) (m_G0, σ) = m_e X f y is ls (m_I (σ 2 i.toNat) :: r) (m_G0, σ) := e_ba rfl h.1 h.2
theorem u_2 {i x : Int} (h : 0 ≤ i ∧ i < 60) : m_e X f y ((65, a, b, z) :: is) ls (m_I x :: m_I i :: m_R 2 :: r) (m_G0, σ) = m_e X f y is ls r (m_G0, m_up σ 2 i.toNat (m_b x)) := e_bas rfl h.1 h.2
theorem l_2 : m_e X f y ((58, a, b, z) :: is) ls (m_R 2 :: r) (m_G0, σ) = m_e X f y is ls (m_I 60 :: r) (m_G0, σ) := e_len ⟨Nat.le_of_ble_eq_true rfl, Nat.le_of_ble_eq_true rfl⟩
theorem a_4 {i : Int} (h : 0 ≤ i ∧ i < 25) : m_e X f y ((59, a, b, z) :: is) ls (m_I i :: m_R 4 :: r) (m_G0, σ) = m_e X f y is ls (m_I (σ 4 i.toNat) :: r) (m_G0, σ) := e_ia rfl h.1 h.2
theorem u_4 {i x : Int} (h : 0 ≤ i ∧ i < 25) : m_e X f y ((63, a, b, z) :: is) ls (m_I x :: m_I i :: m_R 4 :: r) (m_G0, σ) = m_e X f y is ls r (m_G0, m_up σ 4 i.toNat (x)) := e_ias rfl h.1 h.2
theorem l_4 : m_e X f y ((58, a, b, z) :: is) ls (m_R 4 :: r) (m_G0, σ) = m_e X f y is ls (m_I 25 :: r) (m_G0, σ) := e_len ⟨Nat.le_of_ble_eq_true rfl, Nat.le_of_ble_eq_true rfl⟩
theorem a_7 {i : Int} (h : 0 ≤ i ∧ i < 16) : m_e X f y ((59, a, b, z) :: is) ls (m_I i :: m_R 7 :: r) (m_G0, σ) = m_e X f y is ls (m_I (σ 7 i.toNat) :: r) (m_G0, σ) := e_ia rfl h.1 h.2
theorem u_7 {i x : Int} (h : 0 ≤ i ∧ i < 16) : m_e X f y ((63, a, b, z) :: is) ls (m_I x :: m_I i :: m_R 7 :: r) (m_G0, σ) = m_e X f y is ls r (m_G0, m_up σ 7 i.toNat (x)) := e_ias rfl h.1 h.2
theorem l_7 : m_e X f y ((58, a, b, z) :: is) ls (m_R 7 :: r) (m_G0, σ) = m_e X f y is ls (m_I 16 :: r) (m_G0, σ) := e_len ⟨Nat.le_of_ble_eq_true rfl, Nat.le_of_ble_eq_true rfl⟩
theorem a_9 {i : Int} (h : 0 ≤ i ∧ i < 5) : m_e X f y ((59, a, b, z) :: is) ls (m_I i :: m_R 9 :: r) (m_G0, σ) = m_e X f y is ls (m_I (σ 9 i.toNat) :: r) (m_G0, σ) := e_ia rfl h.1 h.2
theorem u_9 {i x : Int} (h : 0 ≤ i ∧ i < 5) : m_e X f y ((63, a, b, z) :: is) ls (m_I x :: m_I i :: m_R 9 :: r) (m_G0, σ) = m_e X f y is ls r (m_G0, m_up σ 9 i.toNat (x)) := e_ias rfl h.1 h.2
theorem l_9 : m_e X f y ((58, a, b, z) :: is) ls (m_R 9 :: r) (m_G0, σ) = m_e X f y is ls (m_I 5 :: r) (m_G0, σ) := e_len ⟨Nat.le_of_ble_eq_true rfl, Nat.le_of_ble_eq_true rfl⟩
theorem a_10 {i : Int} (h : 0 ≤ i ∧ i < 5) : m_e X f y ((59, a, b, z) :: is) ls (m_I i :: m_R 10 :: r) (m_G0, σ) = m_e X f y is ls (m_I (σ 10 i.toNat) :: r) (m_G0, σ) := e_ia rfl h.1 h.2
theorem u_10 {i x : Int} (h : 0 ≤ i ∧ i < 5) : m_e X f y ((63, a, b, z) :: is) ls (m_I x :: m_I i :: m_R 10 :: r) (m_G0, σ) = m_e X f y is ls r (m_G0, m_up σ 10 i.toNat (x)) := e_ias rfl h.1 h.2
theorem l_10 : m_e X f y ((58, a, b, z) :: is) ls (m_R 10 :: r) (m_G0, σ) = m_e X f y is ls (m_I 5 :: r) (m_G0, σ) := e_len ⟨Nat.le_of_ble_eq_true rfl, Nat.le_of_ble_eq_true rfl⟩
theorem a_11 {i : Int} (h : 0 ≤ i ∧ i < 5) : m_e X f y ((59, a, b, z) :: is) ls (m_I i :: m_R 11 :: r) (m_G0, σ) = m_e X f y is ls (m_I (σ 11 i.toNat) :: r) (m_G0, σ) := e_ia rfl h.1 h.2
theorem u_11 {i x : Int} (h : 0 ≤ i ∧ i < 5) : m_e X f y ((63, a, b, z) :: is) ls (m_I x :: m_I i :: m_R 11 :: r) (m_G0, σ) = m_e X f y is ls r (m_G0, m_up σ 11 i.toNat (x)) := e_ias rfl h.1 h.2
theorem l_11 : m_e X f y ((58, a, b, z) :: is) ls (m_R 11 :: r) (m_G0, σ) = m_e X f y is ls (m_I 5 :: r) (m_G0, σ) := e_len ⟨Nat.le_of_ble_eq_true rfl, Nat.le_of_ble_eq_true rfl⟩
theorem a_12 {i : Int} (h : 0 ≤ i ∧ i < 25) : m_e X f y ((59, a, b, z) :: is) ls (m_I i :: m_R 12 :: r) (m_G0, σ) = m_e X f y is ls (m_I (σ 12 i.toNat) :: r) (m_G0, σ) := e_ia rfl h.1 h.2
theorem u_12 {i x : Int} (h : 0 ≤ i ∧ i < 25) : m_e X f y ((63, a, b, z) :: is) ls (m_I x :: m_I i :: m_R 12 :: r) (m_G0, σ) = m_e X f y is ls r (m_G0, m_up σ 12 i.toNat (x)) := e_ias rfl h.1 h.2
theorem l_12 : m_e X f y ((58, a, b, z) :: is) ls (m_R 12 :: r) (m_G0, σ) = m_e X f y is ls (m_I 25 :: r) (m_G0, σ) := e_len ⟨Nat.le_of_ble_eq_true rfl, Nat.le_of_ble_eq_true rfl⟩
theorem a_14 {i : Int} (h : 0 ≤ i ∧ i < 16) : m_e X f y ((59, a, b, z) :: is) ls (m_I i :: m_R 14 :: r) (m_G0, σ) = m_e X f y is ls (m_I (σ 14 i.toNat) :: r) (m_G0, σ) := e_ia rfl h.1 h.2
theorem u_14 {i x : Int} (h : 0 ≤ i ∧ i < 16) : m_e X f y ((63, a, b, z) :: is) ls (m_I x :: m_I i :: m_R 14 :: r) (m_G0, σ) = m_e X f y is ls r (m_G0, m_up σ 14 i.toNat (x)) := e_ias rfl h.1 h.2
theorem l_14 : m_e X f y ((58, a, b, z) :: is) ls (m_R 14 :: r) (m_G0, σ) = m_e X f y is ls (m_I 16 :: r) (m_G0, σ) := e_len ⟨Nat.le_of_ble_eq_true rfl, Nat.le_of_ble_eq_true rfl⟩
theorem a_75 {i : Int} (h : 0 ≤ i ∧ i < 21) : m_e X f y ((60, a, b, z) :: is) ls (m_I i :: m_R 75 :: r) (m_G0, σ) = m_e X f y is ls (m_J (σ 75 i.toNat) :: r) (m_G0, σ) := e_la rfl h.1 h.2
theorem u_75 {i x : Int} (h : 0 ≤ i ∧ i < 21) : m_e X f y ((64, a, b, z) :: is) ls (m_J x :: m_I i :: m_R 75 :: r) (m_G0, σ) = m_e X f y is ls r (m_G0, m_up σ 75 i.toNat (x)) := e_las rfl h.1 h.2
theorem l_75 : m_e X f y ((58, a, b, z) :: is) ls (m_R 75 :: r) (m_G0, σ) = m_e X f y is ls (m_I 21 :: r) (m_G0, σ) := e_len ⟨Nat.le_of_ble_eq_true rfl, Nat.le_of_ble_eq_true rfl⟩
theorem a_76 {i : Int} (h : 0 ≤ i ∧ i < 22) : m_e X f y ((60, a, b, z) :: is) ls (m_I i :: m_R 76 :: r) (m_G0, σ) = m_e X f y is ls (m_J (σ 76 i.toNat) :: r) (m_G0, σ) := e_la rfl h.1 h.2
theorem u_76 {i x : Int} (h : 0 ≤ i ∧ i < 22) : m_e X f y ((64, a, b, z) :: is) ls (m_J x :: m_I i :: m_R 76 :: r) (m_G0, σ) = m_e X f y is ls r (m_G0, m_up σ 76 i.toNat (x)) := e_las rfl h.1 h.2
theorem l_76 : m_e X f y ((58, a, b, z) :: is) ls (m_R 76 :: r) (m_G0, σ) = m_e X f y is ls (m_I 22 :: r) (m_G0, σ) := e_len ⟨Nat.le_of_ble_eq_true rfl, Nat.le_of_ble_eq_true rfl⟩
theorem a_78 {i : Int} (h : 0 ≤ i ∧ i < 21) : m_e X f y ((60, a, b, z) :: is) ls (m_I i :: m_R 78 :: r) (m_G0, σ) = m_e X f y is ls (m_J (σ 78 i.toNat) :: r) (m_G0, σ) := e_la rfl h.1 h.2
theorem u_78 {i x : Int} (h : 0 ≤ i ∧ i < 21) : m_e X f y ((64, a, b, z) :: is) ls (m_J x :: m_I i :: m_R 78 :: r) (m_G0, σ) = m_e X f y is ls r (m_G0, m_up σ 78 i.toNat (x)) := e_las rfl h.1 h.2
theorem l_78 : m_e X f y ((58, a, b, z) :: is) ls (m_R 78 :: r) (m_G0, σ) = m_e X f y is ls (m_I 21 :: r) (m_G0, σ) := e_len ⟨Nat.le_of_ble_eq_true rfl, Nat.le_of_ble_eq_true rfl⟩
theorem a_79 {i : Int} (h : 0 ≤ i ∧ i < 22) : m_e X f y ((60, a, b, z) :: is) ls (m_I i :: m_R 79 :: r) (m_G0, σ) = m_e X f y is ls (m_J (σ 79 i.toNat) :: r) (m_G0, σ) := e_la rfl h.1 h.2
theorem u_79 {i x : Int} (h : 0 ≤ i ∧ i < 22) : m_e X f y ((64, a, b, z) :: is) ls (m_J x :: m_I i :: m_R 79 :: r) (m_G0, σ) = m_e X f y is ls r (m_G0, m_up σ 79 i.toNat (x)) := e_las rfl h.1 h.2
theorem l_79 : m_e X f y ((58, a, b, z) :: is) ls (m_R 79 :: r) (m_G0, σ) = m_e X f y is ls (m_I 22 :: r) (m_G0, σ) := e_len ⟨Nat.le_of_ble_eq_true rfl, Nat.le_of_ble_eq_true rfl⟩
theorem a_81 {i : Int} (h : 0 ≤ i ∧ i < 256) : m_e X f y ((60, a, b, z) :: is) ls (m_I i :: m_R 81 :: r) (m_G0, σ) = m_e X f y is ls (m_J (σ 81 i.toNat) :: r) (m_G0, σ) := e_la rfl h.1 h.2
theorem u_81 {i x : Int} (h : 0 ≤ i ∧ i < 256) : m_e X f y ((64, a, b, z) :: is) ls (m_J x :: m_I i :: m_R 81 :: r) (m_G0, σ) = m_e X f y is ls r (m_G0, m_up σ 81 i.toNat (x)) := e_las rfl h.1 h.2
theorem l_81 : m_e X f y ((58, a, b, z) :: is) ls (m_R 81 :: r) (m_G0, σ) = m_e X f y is ls (m_I 256 :: r) (m_G0, σ) := e_len ⟨Nat.le_of_ble_eq_true rfl, Nat.le_of_ble_eq_true rfl⟩
theorem a_82 {i : Int} (h : 0 ≤ i ∧ i < 4) : m_e X f y ((60, a, b, z) :: is) ls (m_I i :: m_R 82 :: r) (m_G0, σ) = m_e X f y is ls (m_J (σ 82 i.toNat) :: r) (m_G0, σ) := e_la rfl h.1 h.2
theorem u_82 {i x : Int} (h : 0 ≤ i ∧ i < 4) : m_e X f y ((64, a, b, z) :: is) ls (m_J x :: m_I i :: m_R 82 :: r) (m_G0, σ) = m_e X f y is ls r (m_G0, m_up σ 82 i.toNat (x)) := e_las rfl h.1 h.2
theorem l_82 : m_e X f y ((58, a, b, z) :: is) ls (m_R 82 :: r) (m_G0, σ) = m_e X f y is ls (m_I 4 :: r) (m_G0, σ) := e_len ⟨Nat.le_of_ble_eq_true rfl, Nat.le_of_ble_eq_true rfl⟩
theorem a_83 {i : Int} (h : 0 ≤ i ∧ i < 4) : m_e X f y ((60, a, b, z) :: is) ls (m_I i :: m_R 83 :: r) (m_G0, σ) = m_e X f y is ls (m_J (σ 83 i.toNat) :: r) (m_G0, σ) := e_la rfl h.1 h.2
theorem u_83 {i x : Int} (h : 0 ≤ i ∧ i < 4) : m_e X f y ((64, a, b, z) :: is) ls (m_J x :: m_I i :: m_R 83 :: r) (m_G0, σ) = m_e X f y is ls r (m_G0, m_up σ 83 i.toNat (x)) := e_las rfl h.1 h.2
theorem l_83 : m_e X f y ((58, a, b, z) :: is) ls (m_R 83 :: r) (m_G0, σ) = m_e X f y is ls (m_I 4 :: r) (m_G0, σ) := e_len ⟨Nat.le_of_ble_eq_true rfl, Nat.le_of_ble_eq_true rfl⟩
theorem a_85 {i : Int} (h : 0 ≤ i ∧ i < 16) : m_e X f y ((59, a, b, z) :: is) ls (m_I i :: m_R 85 :: r) (m_G0, σ) = m_e X f y is ls (m_I (σ 85 i.toNat) :: r) (m_G0, σ) := e_ia rfl h.1 h.2
theorem u_85 {i x : Int} (h : 0 ≤ i ∧ i < 16) : m_e X f y ((63, a, b, z) :: is) ls (m_I x :: m_I i :: m_R 85 :: r) (m_G0, σ) = m_e X f y is ls r (m_G0, m_up σ 85 i.toNat (x)) := e_ias rfl h.1 h.2
theorem l_85 : m_e X f y ((58, a, b, z) :: is) ls (m_R 85 :: r) (m_G0, σ) = m_e X f y is ls (m_I 16 :: r) (m_G0, σ) := e_len ⟨Nat.le_of_ble_eq_true rfl, Nat.le_of_ble_eq_true rfl⟩
theorem a_86 {i : Int} (h : 0 ≤ i ∧ i < 64) : m_e X f y ((59, a, b, z) :: is) ls (m_I i :: m_R 86 :: r) (m_G0, σ) = m_e X f y is ls (m_I (σ 86 i.toNat) :: r) (m_G0, σ) := e_ia rfl h.1 h.2
theorem u_86 {i x : Int} (h : 0 ≤ i ∧ i < 64) : m_e X f y ((63, a, b, z) :: is) ls (m_I x :: m_I i :: m_R 86 :: r) (m_G0, σ) = m_e X f y is ls r (m_G0, m_up σ 86 i.toNat (x)) := e_ias rfl h.1 h.2
theorem l_86 : m_e X f y ((58, a, b, z) :: is) ls (m_R 86 :: r) (m_G0, σ) = m_e X f y is ls (m_I 64 :: r) (m_G0, σ) := e_len ⟨Nat.le_of_ble_eq_true rfl, Nat.le_of_ble_eq_true rfl⟩
end AR
theorem w_n1 : m_w (-1) = -1 := by decide
theorem w_0 : m_w 0 = 0 := by decide
theorem w_1 : m_w 1 = 1 := by decide
theorem w_2 : m_w 2 = 2 := by decide
theorem w_3 : m_w 3 = 3 := by decide
theorem w_4 : m_w 4 = 4 := by decide
theorem w_5 : m_w 5 = 5 := by decide
theorem w_6 : m_w 6 = 6 := by decide
theorem w_7 : m_w 7 = 7 := by decide
theorem w_8 : m_w 8 = 8 := by decide
theorem w_9 : m_w 9 = 9 := by decide
theorem w_10 : m_w 10 = 10 := by decide
theorem w_11 : m_w 11 = 11 := by decide
theorem w_12 : m_w 12 = 12 := by decide
theorem w_13 : m_w 13 = 13 := by decide
theorem w_14 : m_w 14 = 14 := by decide
theorem w_15 : m_w 15 = 15 := by decide
theorem w_16 : m_w 16 = 16 := by decide
theorem w_17 : m_w 17 = 17 := by decide
theorem w_18 : m_w 18 = 18 := by decide
theorem w_19 : m_w 19 = 19 := by decide
theorem w_20 : m_w 20 = 20 := by decide
theorem w_21 : m_w 21 = 21 := by decide
theorem w_22 : m_w 22 = 22 := by decide
theorem w_23 : m_w 23 = 23 := by decide
theorem w_24 : m_w 24 = 24 := by decide
theorem w_25 : m_w 25 = 25 := by decide
theorem w_26 : m_w 26 = 26 := by decide
theorem w_27 : m_w 27 = 27 := by decide
theorem w_28 : m_w 28 = 28 := by decide
theorem w_29 : m_w 29 = 29 := by decide
theorem w_30 : m_w 30 = 30 := by decide
theorem w_31 : m_w 31 = 31 := by decide
theorem w_32 : m_w 32 = 32 := by decide
theorem w_33 : m_w 33 = 33 := by decide
theorem w_34 : m_w 34 = 34 := by decide
theorem w_35 : m_w 35 = 35 := by decide
theorem w_36 : m_w 36 = 36 := by decide
theorem w_37 : m_w 37 = 37 := by decide
theorem w_38 : m_w 38 = 38 := by decide
theorem w_39 : m_w 39 = 39 := by decide
theorem w_40 : m_w 40 = 40 := by decide
theorem w_41 : m_w 41 = 41 := by decide
theorem w_42 : m_w 42 = 42 := by decide
theorem w_43 : m_w 43 = 43 := by decide
theorem w_44 : m_w 44 = 44 := by decide
theorem w_45 : m_w 45 = 45 := by decide
theorem w_46 : m_w 46 = 46 := by decide
theorem w_47 : m_w 47 = 47 := by decide
theorem w_48 : m_w 48 = 48 := by decide
theorem w_49 : m_w 49 = 49 := by decide
theorem w_50 : m_w 50 = 50 := by decide
theorem w_51 : m_w 51 = 51 := by decide
theorem w_52 : m_w 52 = 52 := by decide
theorem w_53 : m_w 53 = 53 := by decide
theorem w_54 : m_w 54 = 54 := by decide
theorem w_55 : m_w 55 = 55 := by decide
theorem w_56 : m_w 56 = 56 := by decide
theorem w_57 : m_w 57 = 57 := by decide
theorem w_58 : m_w 58 = 58 := by decide
theorem w_59 : m_w 59 = 59 := by decide
theorem w_60 : m_w 60 = 60 := by decide
theorem w_61 : m_w 61 = 61 := by decide
theorem w_62 : m_w 62 = 62 := by decide
theorem w_63 : m_w 63 = 63 := by decide
theorem w_64 : m_w 64 = 64 := by decide
theorem w_65 : m_w 65 = 65 := by decide
theorem w_66 : m_w 66 = 66 := by decide
theorem w_67 : m_w 67 = 67 := by decide
theorem w_68 : m_w 68 = 68 := by decide
theorem w_69 : m_w 69 = 69 := by decide
theorem w_n1000 : m_w (-1000) = -1000 := by decide
theorem w_n1001 : m_w (-1001) = -1001 := by decide
theorem w_n1002 : m_w (-1002) = -1002 := by decide
theorem w_n1003 : m_w (-1003) = -1003 := by decide
theorem w_65536 : m_w 65536 = 65536 := by decide
theorem w_1103 : m_w 1103 = 1103 := by decide
theorem w_377 : m_w 377 = 377 := by decide
theorem w_127 : m_w 127 = 127 := by decide
theorem w_126 : m_w 126 = 126 := by decide
theorem w_128 : m_w 128 = 128 := by decide
theorem w_65535 : m_w 65535 = 65535 := by decide
theorem w_2147483647 : m_w 2147483647 = 2147483647 := by decide
theorem w_795577677 : m_w 795577677 = 795577677 := by decide
