/-! the cells behind the constructors -/
def m_G0 : List m_G := [((0, 9), [some 1, some 3, some 5, some 8, some 15, some 73, some 80]), ((0, 8), [some 2, none]), ((3, 60), []), ((0, 1), [some 4, none, none]), ((1, 25), []), ((0, 4), [some 6, none, none, none, none, none, none]), ((0, 3), [none, none, some 7]), ((1, 16), []), ((0, 7), [none, none, none, none, none, none, none, none, none, some 9, some 10, some 11, some 12, some 13]), ((1, 5), []), ((1, 5), []), ((1, 5), []), ((1, 25), []), ((0, 3), [none, none, some 14]), ((1, 16), []), ((0, 2), [some 16, none, none]), ((4, 8), [some 17, some 24, some 31, some 38, some 45, some 52, some 59, some 66]), ((0, 7), [none, none, none, none, none, none, none, none, none, some 18, some 19, some 20, some 21, some 22]), ((1, 5), []), ((1, 5), []), ((1, 5), []), ((1, 25), []), ((0, 3), [none, none, some 23]), ((1, 16), []), ((0, 7), [none, none, none, none, none, none, none, none, none, some 25, some 26, some 27, some 28, some 29]), ((1, 5), []), ((1, 5), []), ((1, 5), []), ((1, 25), []), ((0, 3), [none, none, some 30]), ((1, 16), []), ((0, 7), [none, none, none, none, none, none, none, none, none, some 32, some 33, some 34, some 35, some 36]), ((1, 5), []), ((1, 5), []), ((1, 5), []), ((1, 25), []), ((0, 3), [none, none, some 37]), ((1, 16), []), ((0, 7), [none, none, none, none, none, none, none, none, none, some 39, some 40, some 41, some 42, some 43]), ((1, 5), []), ((1, 5), []), ((1, 5), []), ((1, 25), []), ((0, 3), [none, none, some 44]), ((1, 16), []), ((0, 7), [none, none, none, none, none, none, none, none, none, some 46, some 47, some 48, some 49, some 50]), ((1, 5), []), ((1, 5), []), ((1, 5), []), ((1, 25), []), ((0, 3), [none, none, some 51]), ((1, 16), []), ((0, 7), [none, none, none, none, none, none, none, none, none, some 53, some 54, some 55, some 56, some 57]), ((1, 5), []), ((1, 5), []), ((1, 5), []), ((1, 25), []), ((0, 3), [none, none, some 58]), ((1, 16), []), ((0, 7), [none, none, none, none, none, none, none, none, none, some 60, some 61, some 62, some 63, some 64]), ((1, 5), []), ((1, 5), []), ((1, 5), []), ((1, 25), []), ((0, 3), [none, none, some 65]), ((1, 16), []), ((0, 7), [none, none, none, none, none, none, none, none, none, some 67, some 68, some 69, some 70, some 71]), ((1, 5), []), ((1, 5), []), ((1, 5), []), ((1, 25), []), ((0, 3), [none, none, some 72]), ((1, 16), []), ((0, 0), [some 74, some 77]), ((0, 6), [none, none, some 75, some 76]), ((2, 21), []), ((2, 22), []), ((0, 6), [none, none, some 78, some 79]), ((2, 21), []), ((2, 22), []), ((0, 5), [some 81, some 82, some 83, some 84, none, none]), ((2, 256), []), ((2, 4), []), ((2, 4), []), ((0, 3), [none, none, some 85]), ((1, 16), []), ((1, 64), [])]
theorem k_0 (σ : Nat → Nat → Int) : m_gk (m_G0, σ) 0 = (0, 9) := rfl
theorem r_0_0 (σ : Nat → Nat → Int) : m_gr (m_G0, σ) 0 0 = some 1 := rfl
theorem r_0_1 (σ : Nat → Nat → Int) : m_gr (m_G0, σ) 0 1 = some 3 := rfl
theorem r_0_2 (σ : Nat → Nat → Int) : m_gr (m_G0, σ) 0 2 = some 5 := rfl
theorem r_0_3 (σ : Nat → Nat → Int) : m_gr (m_G0, σ) 0 3 = some 8 := rfl
theorem r_0_4 (σ : Nat → Nat → Int) : m_gr (m_G0, σ) 0 4 = some 15 := rfl
theorem r_0_5 (σ : Nat → Nat → Int) : m_gr (m_G0, σ) 0 5 = some 73 := rfl
theorem r_0_6 (σ : Nat → Nat → Int) : m_gr (m_G0, σ) 0 6 = some 80 := rfl
theorem k_1 (σ : Nat → Nat → Int) : m_gk (m_G0, σ) 1 = (0, 8) := rfl
theorem r_1_0 (σ : Nat → Nat → Int) : m_gr (m_G0, σ) 1 0 = some 2 := rfl
theorem k_2 (σ : Nat → Nat → Int) : m_gk (m_G0, σ) 2 = (3, 60) := rfl
theorem k_3 (σ : Nat → Nat → Int) : m_gk (m_G0, σ) 3 = (0, 1) := rfl
theorem r_3_0 (σ : Nat → Nat → Int) : m_gr (m_G0, σ) 3 0 = some 4 := rfl
theorem k_4 (σ : Nat → Nat → Int) : m_gk (m_G0, σ) 4 = (1, 25) := rfl
theorem k_5 (σ : Nat → Nat → Int) : m_gk (m_G0, σ) 5 = (0, 4) := rfl
theorem r_5_0 (σ : Nat → Nat → Int) : m_gr (m_G0, σ) 5 0 = some 6 := rfl
theorem k_6 (σ : Nat → Nat → Int) : m_gk (m_G0, σ) 6 = (0, 3) := rfl
theorem r_6_2 (σ : Nat → Nat → Int) : m_gr (m_G0, σ) 6 2 = some 7 := rfl
theorem k_7 (σ : Nat → Nat → Int) : m_gk (m_G0, σ) 7 = (1, 16) := rfl
theorem k_8 (σ : Nat → Nat → Int) : m_gk (m_G0, σ) 8 = (0, 7) := rfl
theorem r_8_9 (σ : Nat → Nat → Int) : m_gr (m_G0, σ) 8 9 = some 9 := rfl
theorem r_8_10 (σ : Nat → Nat → Int) : m_gr (m_G0, σ) 8 10 = some 10 := rfl
theorem r_8_11 (σ : Nat → Nat → Int) : m_gr (m_G0, σ) 8 11 = some 11 := rfl
theorem r_8_12 (σ : Nat → Nat → Int) : m_gr (m_G0, σ) 8 12 = some 12 := rfl
theorem r_8_13 (σ : Nat → Nat → Int) : m_gr (m_G0, σ) 8 13 = some 13 := rfl
theorem k_9 (σ : Nat → Nat → Int) : m_gk (m_G0, σ) 9 = (1, 5) := rfl
theorem k_10 (σ : Nat → Nat → Int) : m_gk (m_G0, σ) 10 = (1, 5) := rfl
theorem k_11 (σ : Nat → Nat → Int) : m_gk (m_G0, σ) 11 = (1, 5) := rfl
theorem k_12 (σ : Nat → Nat → Int) : m_gk (m_G0, σ) 12 = (1, 25) := rfl
theorem k_13 (σ : Nat → Nat → Int) : m_gk (m_G0, σ) 13 = (0, 3) := rfl
theorem r_13_2 (σ : Nat → Nat → Int) : m_gr (m_G0, σ) 13 2 = some 14 := rfl
theorem k_14 (σ : Nat → Nat → Int) : m_gk (m_G0, σ) 14 = (1, 16) := rfl
theorem k_15 (σ : Nat → Nat → Int) : m_gk (m_G0, σ) 15 = (0, 2) := rfl
theorem r_15_0 (σ : Nat → Nat → Int) : m_gr (m_G0, σ) 15 0 = some 16 := rfl
theorem k_16 (σ : Nat → Nat → Int) : m_gk (m_G0, σ) 16 = (4, 8) := rfl
theorem k_17 (σ : Nat → Nat → Int) : m_gk (m_G0, σ) 17 = (0, 7) := rfl
theorem r_17_9 (σ : Nat → Nat → Int) : m_gr (m_G0, σ) 17 9 = some 18 := rfl
theorem r_17_10 (σ : Nat → Nat → Int) : m_gr (m_G0, σ) 17 10 = some 19 := rfl
theorem r_17_11 (σ : Nat → Nat → Int) : m_gr (m_G0, σ) 17 11 = some 20 := rfl
theorem r_17_12 (σ : Nat → Nat → Int) : m_gr (m_G0, σ) 17 12 = some 21 := rfl
theorem r_17_13 (σ : Nat → Nat → Int) : m_gr (m_G0, σ) 17 13 = some 22 := rfl
theorem k_18 (σ : Nat → Nat → Int) : m_gk (m_G0, σ) 18 = (1, 5) := rfl
theorem k_19 (σ : Nat → Nat → Int) : m_gk (m_G0, σ) 19 = (1, 5) := rfl
theorem k_20 (σ : Nat → Nat → Int) : m_gk (m_G0, σ) 20 = (1, 5) := rfl
theorem k_21 (σ : Nat → Nat → Int) : m_gk (m_G0, σ) 21 = (1, 25) := rfl
theorem k_22 (σ : Nat → Nat → Int) : m_gk (m_G0, σ) 22 = (0, 3) := rfl
theorem r_22_2 (σ : Nat → Nat → Int) : m_gr (m_G0, σ) 22 2 = some 23 := rfl
theorem k_23 (σ : Nat → Nat → Int) : m_gk (m_G0, σ) 23 = (1, 16) := rfl
theorem k_24 (σ : Nat → Nat → Int) : m_gk (m_G0, σ) 24 = (0, 7) := rfl
theorem r_24_9 (σ : Nat → Nat → Int) : m_gr (m_G0, σ) 24 9 = some 25 := rfl
theorem r_24_10 (σ : Nat → Nat → Int) : m_gr (m_G0, σ) 24 10 = some 26 := rfl
theorem r_24_11 (σ : Nat → Nat → Int) : m_gr (m_G0, σ) 24 11 = some 27 := rfl
theorem r_24_12 (σ : Nat → Nat → Int) : m_gr (m_G0, σ) 24 12 = some 28 := rfl
theorem r_24_13 (σ : Nat → Nat → Int) : m_gr (m_G0, σ) 24 13 = some 29 := rfl
theorem k_25 (σ : Nat → Nat → Int) : m_gk (m_G0, σ) 25 = (1, 5) := rfl
theorem k_26 (σ : Nat → Nat → Int) : m_gk (m_G0, σ) 26 = (1, 5) := rfl
theorem k_27 (σ : Nat → Nat → Int) : m_gk (m_G0, σ) 27 = (1, 5) := rfl
theorem k_28 (σ : Nat → Nat → Int) : m_gk (m_G0, σ) 28 = (1, 25) := rfl
theorem k_29 (σ : Nat → Nat → Int) : m_gk (m_G0, σ) 29 = (0, 3) := rfl
theorem r_29_2 (σ : Nat → Nat → Int) : m_gr (m_G0, σ) 29 2 = some 30 := rfl
theorem k_30 (σ : Nat → Nat → Int) : m_gk (m_G0, σ) 30 = (1, 16) := rfl
theorem k_31 (σ : Nat → Nat → Int) : m_gk (m_G0, σ) 31 = (0, 7) := rfl
theorem r_31_9 (σ : Nat → Nat → Int) : m_gr (m_G0, σ) 31 9 = some 32 := rfl
theorem r_31_10 (σ : Nat → Nat → Int) : m_gr (m_G0, σ) 31 10 = some 33 := rfl
theorem r_31_11 (σ : Nat → Nat → Int) : m_gr (m_G0, σ) 31 11 = some 34 := rfl
theorem r_31_12 (σ : Nat → Nat → Int) : m_gr (m_G0, σ) 31 12 = some 35 := rfl
theorem r_31_13 (σ : Nat → Nat → Int) : m_gr (m_G0, σ) 31 13 = some 36 := rfl
theorem k_32 (σ : Nat → Nat → Int) : m_gk (m_G0, σ) 32 = (1, 5) := rfl
theorem k_33 (σ : Nat → Nat → Int) : m_gk (m_G0, σ) 33 = (1, 5) := rfl
theorem k_34 (σ : Nat → Nat → Int) : m_gk (m_G0, σ) 34 = (1, 5) := rfl
theorem k_35 (σ : Nat → Nat → Int) : m_gk (m_G0, σ) 35 = (1, 25) := rfl
theorem k_36 (σ : Nat → Nat → Int) : m_gk (m_G0, σ) 36 = (0, 3) := rfl
theorem r_36_2 (σ : Nat → Nat → Int) : m_gr (m_G0, σ) 36 2 = some 37 := rfl
theorem k_37 (σ : Nat → Nat → Int) : m_gk (m_G0, σ) 37 = (1, 16) := rfl
theorem k_38 (σ : Nat → Nat → Int) : m_gk (m_G0, σ) 38 = (0, 7) := rfl
theorem r_38_9 (σ : Nat → Nat → Int) : m_gr (m_G0, σ) 38 9 = some 39 := rfl
theorem r_38_10 (σ : Nat → Nat → Int) : m_gr (m_G0, σ) 38 10 = some 40 := rfl
theorem r_38_11 (σ : Nat → Nat → Int) : m_gr (m_G0, σ) 38 11 = some 41 := rfl
theorem r_38_12 (σ : Nat → Nat → Int) : m_gr (m_G0, σ) 38 12 = some 42 := rfl
theorem r_38_13 (σ : Nat → Nat → Int) : m_gr (m_G0, σ) 38 13 = some 43 := rfl
theorem k_39 (σ : Nat → Nat → Int) : m_gk (m_G0, σ) 39 = (1, 5) := rfl
theorem k_40 (σ : Nat → Nat → Int) : m_gk (m_G0, σ) 40 = (1, 5) := rfl
theorem k_41 (σ : Nat → Nat → Int) : m_gk (m_G0, σ) 41 = (1, 5) := rfl
theorem k_42 (σ : Nat → Nat → Int) : m_gk (m_G0, σ) 42 = (1, 25) := rfl
theorem k_43 (σ : Nat → Nat → Int) : m_gk (m_G0, σ) 43 = (0, 3) := rfl
theorem r_43_2 (σ : Nat → Nat → Int) : m_gr (m_G0, σ) 43 2 = some 44 := rfl
theorem k_44 (σ : Nat → Nat → Int) : m_gk (m_G0, σ) 44 = (1, 16) := rfl
theorem k_45 (σ : Nat → Nat → Int) : m_gk (m_G0, σ) 45 = (0, 7) := rfl
theorem r_45_9 (σ : Nat → Nat → Int) : m_gr (m_G0, σ) 45 9 = some 46 := rfl
theorem r_45_10 (σ : Nat → Nat → Int) : m_gr (m_G0, σ) 45 10 = some 47 := rfl
theorem r_45_11 (σ : Nat → Nat → Int) : m_gr (m_G0, σ) 45 11 = some 48 := rfl
theorem r_45_12 (σ : Nat → Nat → Int) : m_gr (m_G0, σ) 45 12 = some 49 := rfl
theorem r_45_13 (σ : Nat → Nat → Int) : m_gr (m_G0, σ) 45 13 = some 50 := rfl
theorem k_46 (σ : Nat → Nat → Int) : m_gk (m_G0, σ) 46 = (1, 5) := rfl
theorem k_47 (σ : Nat → Nat → Int) : m_gk (m_G0, σ) 47 = (1, 5) := rfl
theorem k_48 (σ : Nat → Nat → Int) : m_gk (m_G0, σ) 48 = (1, 5) := rfl
theorem k_49 (σ : Nat → Nat → Int) : m_gk (m_G0, σ) 49 = (1, 25) := rfl
theorem k_50 (σ : Nat → Nat → Int) : m_gk (m_G0, σ) 50 = (0, 3) := rfl
theorem r_50_2 (σ : Nat → Nat → Int) : m_gr (m_G0, σ) 50 2 = some 51 := rfl
theorem k_51 (σ : Nat → Nat → Int) : m_gk (m_G0, σ) 51 = (1, 16) := rfl
theorem k_52 (σ : Nat → Nat → Int) : m_gk (m_G0, σ) 52 = (0, 7) := rfl
theorem r_52_9 (σ : Nat → Nat → Int) : m_gr (m_G0, σ) 52 9 = some 53 := rfl
theorem r_52_10 (σ : Nat → Nat → Int) : m_gr (m_G0, σ) 52 10 = some 54 := rfl
theorem r_52_11 (σ : Nat → Nat → Int) : m_gr (m_G0, σ) 52 11 = some 55 := rfl
theorem r_52_12 (σ : Nat → Nat → Int) : m_gr (m_G0, σ) 52 12 = some 56 := rfl
theorem r_52_13 (σ : Nat → Nat → Int) : m_gr (m_G0, σ) 52 13 = some 57 := rfl
theorem k_53 (σ : Nat → Nat → Int) : m_gk (m_G0, σ) 53 = (1, 5) := rfl
theorem k_54 (σ : Nat → Nat → Int) : m_gk (m_G0, σ) 54 = (1, 5) := rfl
theorem k_55 (σ : Nat → Nat → Int) : m_gk (m_G0, σ) 55 = (1, 5) := rfl
theorem k_56 (σ : Nat → Nat → Int) : m_gk (m_G0, σ) 56 = (1, 25) := rfl
theorem k_57 (σ : Nat → Nat → Int) : m_gk (m_G0, σ) 57 = (0, 3) := rfl
theorem r_57_2 (σ : Nat → Nat → Int) : m_gr (m_G0, σ) 57 2 = some 58 := rfl
theorem k_58 (σ : Nat → Nat → Int) : m_gk (m_G0, σ) 58 = (1, 16) := rfl
theorem k_59 (σ : Nat → Nat → Int) : m_gk (m_G0, σ) 59 = (0, 7) := rfl
theorem r_59_9 (σ : Nat → Nat → Int) : m_gr (m_G0, σ) 59 9 = some 60 := rfl
theorem r_59_10 (σ : Nat → Nat → Int) : m_gr (m_G0, σ) 59 10 = some 61 := rfl
theorem r_59_11 (σ : Nat → Nat → Int) : m_gr (m_G0, σ) 59 11 = some 62 := rfl
theorem r_59_12 (σ : Nat → Nat → Int) : m_gr (m_G0, σ) 59 12 = some 63 := rfl
theorem r_59_13 (σ : Nat → Nat → Int) : m_gr (m_G0, σ) 59 13 = some 64 := rfl
theorem k_60 (σ : Nat → Nat → Int) : m_gk (m_G0, σ) 60 = (1, 5) := rfl
theorem k_61 (σ : Nat → Nat → Int) : m_gk (m_G0, σ) 61 = (1, 5) := rfl
theorem k_62 (σ : Nat → Nat → Int) : m_gk (m_G0, σ) 62 = (1, 5) := rfl
theorem k_63 (σ : Nat → Nat → Int) : m_gk (m_G0, σ) 63 = (1, 25) := rfl
theorem k_64 (σ : Nat → Nat → Int) : m_gk (m_G0, σ) 64 = (0, 3) := rfl
theorem r_64_2 (σ : Nat → Nat → Int) : m_gr (m_G0, σ) 64 2 = some 65 := rfl
theorem k_65 (σ : Nat → Nat → Int) : m_gk (m_G0, σ) 65 = (1, 16) := rfl
theorem k_66 (σ : Nat → Nat → Int) : m_gk (m_G0, σ) 66 = (0, 7) := rfl
theorem r_66_9 (σ : Nat → Nat → Int) : m_gr (m_G0, σ) 66 9 = some 67 := rfl
theorem r_66_10 (σ : Nat → Nat → Int) : m_gr (m_G0, σ) 66 10 = some 68 := rfl
theorem r_66_11 (σ : Nat → Nat → Int) : m_gr (m_G0, σ) 66 11 = some 69 := rfl
theorem r_66_12 (σ : Nat → Nat → Int) : m_gr (m_G0, σ) 66 12 = some 70 := rfl
theorem r_66_13 (σ : Nat → Nat → Int) : m_gr (m_G0, σ) 66 13 = some 71 := rfl
theorem k_67 (σ : Nat → Nat → Int) : m_gk (m_G0, σ) 67 = (1, 5) := rfl
theorem k_68 (σ : Nat → Nat → Int) : m_gk (m_G0, σ) 68 = (1, 5) := rfl
theorem k_69 (σ : Nat → Nat → Int) : m_gk (m_G0, σ) 69 = (1, 5) := rfl
theorem k_70 (σ : Nat → Nat → Int) : m_gk (m_G0, σ) 70 = (1, 25) := rfl
theorem k_71 (σ : Nat → Nat → Int) : m_gk (m_G0, σ) 71 = (0, 3) := rfl
theorem r_71_2 (σ : Nat → Nat → Int) : m_gr (m_G0, σ) 71 2 = some 72 := rfl
theorem k_72 (σ : Nat → Nat → Int) : m_gk (m_G0, σ) 72 = (1, 16) := rfl
theorem k_73 (σ : Nat → Nat → Int) : m_gk (m_G0, σ) 73 = (0, 0) := rfl
theorem r_73_0 (σ : Nat → Nat → Int) : m_gr (m_G0, σ) 73 0 = some 74 := rfl
theorem r_73_1 (σ : Nat → Nat → Int) : m_gr (m_G0, σ) 73 1 = some 77 := rfl
theorem k_74 (σ : Nat → Nat → Int) : m_gk (m_G0, σ) 74 = (0, 6) := rfl
theorem r_74_2 (σ : Nat → Nat → Int) : m_gr (m_G0, σ) 74 2 = some 75 := rfl
theorem r_74_3 (σ : Nat → Nat → Int) : m_gr (m_G0, σ) 74 3 = some 76 := rfl
theorem k_75 (σ : Nat → Nat → Int) : m_gk (m_G0, σ) 75 = (2, 21) := rfl
theorem k_76 (σ : Nat → Nat → Int) : m_gk (m_G0, σ) 76 = (2, 22) := rfl
theorem k_77 (σ : Nat → Nat → Int) : m_gk (m_G0, σ) 77 = (0, 6) := rfl
theorem r_77_2 (σ : Nat → Nat → Int) : m_gr (m_G0, σ) 77 2 = some 78 := rfl
theorem r_77_3 (σ : Nat → Nat → Int) : m_gr (m_G0, σ) 77 3 = some 79 := rfl
theorem k_78 (σ : Nat → Nat → Int) : m_gk (m_G0, σ) 78 = (2, 21) := rfl
theorem k_79 (σ : Nat → Nat → Int) : m_gk (m_G0, σ) 79 = (2, 22) := rfl
theorem k_80 (σ : Nat → Nat → Int) : m_gk (m_G0, σ) 80 = (0, 5) := rfl
theorem r_80_0 (σ : Nat → Nat → Int) : m_gr (m_G0, σ) 80 0 = some 81 := rfl
theorem r_80_1 (σ : Nat → Nat → Int) : m_gr (m_G0, σ) 80 1 = some 82 := rfl
theorem r_80_2 (σ : Nat → Nat → Int) : m_gr (m_G0, σ) 80 2 = some 83 := rfl
theorem r_80_3 (σ : Nat → Nat → Int) : m_gr (m_G0, σ) 80 3 = some 84 := rfl
theorem k_81 (σ : Nat → Nat → Int) : m_gk (m_G0, σ) 81 = (2, 256) := rfl
theorem k_82 (σ : Nat → Nat → Int) : m_gk (m_G0, σ) 82 = (2, 4) := rfl
theorem k_83 (σ : Nat → Nat → Int) : m_gk (m_G0, σ) 83 = (2, 4) := rfl
theorem k_84 (σ : Nat → Nat → Int) : m_gk (m_G0, σ) 84 = (0, 3) := rfl
theorem r_84_2 (σ : Nat → Nat → Int) : m_gr (m_G0, σ) 84 2 = some 85 := rfl
theorem k_85 (σ : Nat → Nat → Int) : m_gk (m_G0, σ) 85 = (1, 16) := rfl
theorem k_86 (σ : Nat → Nat → Int) : m_gk (m_G0, σ) 86 = (1, 64) := rfl
def m_I0 : m_M := ([((0, 9), [none, none, none, none, none, none, none])], m_zr (fun _ _ => 0) 0)
def m_M1 : m_M := match m_go 3000 9 0 [m_R 0] m_I0 with
  | some q => q.2
  | none => ([], fun _ _ => 0)
def m_M2 : m_M := (m_M1.1 ++ [((1, 64), [])], m_zr m_M1.2 86)
theorem m_M1_len : m_M1.1.length = 86 := by decide +kernel
theorem m_M2_G : m_M2.1 = m_G0 := by decide +kernel
theorem m_M1_some : (m_go 3000 9 0 [m_R 0] m_I0).isSome = true := by decide +kernel
/-- what the places hold then: as this list says, else 0 -/
def m_V0 : List (Nat × Nat × Int) := [(6, 0, 1), (6, 1, 1), (8, 0, 2), (8, 1, 1), (9, 0, 5), (9, 1, 5), (13, 0, 1), (13, 1, 1), (17, 0, 2), (17, 1, 1), (18, 0, 5), (18, 1, 5), (22, 0, 1), (22, 1, 1), (24, 0, 2), (24, 1, 1), (25, 0, 5), (25, 1, 5), (29, 0, 1), (29, 1, 1), (31, 0, 2), (31, 1, 1), (32, 0, 5), (32, 1, 5), (36, 0, 1), (36, 1, 1), (38, 0, 2), (38, 1, 1), (39, 0, 5), (39, 1, 5), (43, 0, 1), (43, 1, 1), (45, 0, 2), (45, 1, 1), (46, 0, 5), (46, 1, 5), (50, 0, 1), (50, 1, 1), (52, 0, 2), (52, 1, 1), (53, 0, 5), (53, 1, 5), (57, 0, 1), (57, 1, 1), (59, 0, 2), (59, 1, 1), (60, 0, 5), (60, 1, 5), (64, 0, 1), (64, 1, 1), (66, 0, 2), (66, 1, 1), (67, 0, 5), (67, 1, 5), (71, 0, 1), (71, 1, 1), (74, 0, 1), (75, 0, 1), (76, 0, 1), (77, 0, 2), (78, 0, 1), (79, 0, 1), (80, 5, 1), (82, 0, 1), (83, 0, 1), (84, 0, 1), (84, 1, 1)]
def m_v0 (c k : Nat) : Int := match m_V0.find? (fun q => q.1 == c && q.2.1 == k) with
  | some q => q.2.2
  | none => 0
def m_P0 : List (Nat × Nat) := [(1, 1), (3, 1), (3, 2), (5, 1), (5, 2), (5, 3), (5, 4), (5, 5), (5, 6), (6, 0), (6, 1), (7, 0), (7, 1), (7, 2), (7, 3), (7, 4), (7, 5), (7, 6), (7, 7), (7, 8), (7, 9), (7, 10), (7, 11), (7, 12), (7, 13), (7, 14), (7, 15), (8, 0), (8, 1), (8, 2), (8, 3), (8, 4), (8, 5), (8, 6), (8, 7), (8, 8), (9, 0), (9, 1), (9, 2), (9, 3), (9, 4), (10, 0), (10, 1), (10, 2), (10, 3), (10, 4), (11, 0), (11, 1), (11, 2), (11, 3), (11, 4), (12, 0), (12, 1), (12, 2), (12, 3), (12, 4), (12, 5), (12, 6), (12, 7), (12, 8), (12, 9), (12, 10), (12, 11), (12, 12), (12, 13), (12, 14), (12, 15), (12, 16), (12, 17), (12, 18), (12, 19), (12, 20), (12, 21), (12, 22), (12, 23), (12, 24), (13, 0), (13, 1), (14, 0), (14, 1), (14, 2), (14, 3), (14, 4), (14, 5), (14, 6), (14, 7), (14, 8), (14, 9), (14, 10), (14, 11), (14, 12), (14, 13), (14, 14), (14, 15), (15, 1), (15, 2), (17, 0), (17, 1), (17, 2), (17, 3), (17, 4), (17, 5), (17, 6), (17, 7), (17, 8), (18, 0), (18, 1), (18, 2), (18, 3), (18, 4), (19, 0), (19, 1), (19, 2), (19, 3), (19, 4), (20, 0), (20, 1), (20, 2), (20, 3), (20, 4), (21, 0), (21, 1), (21, 2), (21, 3), (21, 4), (21, 5), (21, 6), (21, 7), (21, 8), (21, 9), (21, 10), (21, 11), (21, 12), (21, 13), (21, 14), (21, 15), (21, 16), (21, 17), (21, 18), (21, 19), (21, 20), (21, 21), (21, 22), (21, 23), (21, 24), (22, 0), (22, 1), (23, 0), (23, 1), (23, 2), (23, 3), (23, 4), (23, 5), (23, 6), (23, 7), (23, 8), (23, 9), (23, 10), (23, 11), (23, 12), (23, 13), (23, 14), (23, 15), (24, 0), (24, 1), (24, 2), (24, 3), (24, 4), (24, 5), (24, 6), (24, 7), (24, 8), (25, 0), (25, 1), (25, 2), (25, 3), (25, 4), (26, 0), (26, 1), (26, 2), (26, 3), (26, 4), (27, 0), (27, 1), (27, 2), (27, 3), (27, 4), (28, 0), (28, 1), (28, 2), (28, 3), (28, 4), (28, 5), (28, 6), (28, 7), (28, 8), (28, 9), (28, 10), (28, 11), (28, 12), (28, 13), (28, 14), (28, 15), (28, 16), (28, 17), (28, 18), (28, 19), (28, 20), (28, 21), (28, 22), (28, 23), (28, 24), (29, 0), (29, 1), (30, 0), (30, 1), (30, 2), (30, 3), (30, 4), (30, 5), (30, 6), (30, 7), (30, 8), (30, 9), (30, 10), (30, 11), (30, 12), (30, 13), (30, 14), (30, 15), (31, 0), (31, 1), (31, 2), (31, 3), (31, 4), (31, 5), (31, 6), (31, 7), (31, 8), (32, 0), (32, 1), (32, 2), (32, 3), (32, 4), (33, 0), (33, 1), (33, 2), (33, 3), (33, 4), (34, 0), (34, 1), (34, 2), (34, 3), (34, 4), (35, 0), (35, 1), (35, 2), (35, 3), (35, 4), (35, 5), (35, 6), (35, 7), (35, 8), (35, 9), (35, 10), (35, 11), (35, 12), (35, 13), (35, 14), (35, 15), (35, 16), (35, 17), (35, 18), (35, 19), (35, 20), (35, 21), (35, 22), (35, 23), (35, 24), (36, 0), (36, 1), (37, 0), (37, 1), (37, 2), (37, 3), (37, 4), (37, 5), (37, 6), (37, 7), (37, 8), (37, 9), (37, 10), (37, 11), (37, 12), (37, 13), (37, 14), (37, 15), (38, 0), (38, 1), (38, 2), (38, 3), (38, 4), (38, 5), (38, 6), (38, 7), (38, 8), (39, 0), (39, 1), (39, 2), (39, 3), (39, 4), (40, 0), (40, 1), (40, 2), (40, 3), (40, 4), (41, 0), (41, 1), (41, 2), (41, 3), (41, 4), (42, 0), (42, 1), (42, 2), (42, 3), (42, 4), (42, 5), (42, 6), (42, 7), (42, 8), (42, 9), (42, 10), (42, 11), (42, 12), (42, 13), (42, 14), (42, 15), (42, 16), (42, 17), (42, 18), (42, 19), (42, 20), (42, 21), (42, 22), (42, 23), (42, 24), (43, 0), (43, 1), (44, 0), (44, 1), (44, 2), (44, 3), (44, 4), (44, 5), (44, 6), (44, 7), (44, 8), (44, 9), (44, 10), (44, 11), (44, 12), (44, 13), (44, 14), (44, 15), (45, 0), (45, 1), (45, 2), (45, 3), (45, 4), (45, 5), (45, 6), (45, 7), (45, 8), (46, 0), (46, 1), (46, 2), (46, 3), (46, 4), (47, 0), (47, 1), (47, 2), (47, 3), (47, 4), (48, 0), (48, 1), (48, 2), (48, 3), (48, 4), (49, 0), (49, 1), (49, 2), (49, 3), (49, 4), (49, 5), (49, 6), (49, 7), (49, 8), (49, 9), (49, 10), (49, 11), (49, 12), (49, 13), (49, 14), (49, 15), (49, 16), (49, 17), (49, 18), (49, 19), (49, 20), (49, 21), (49, 22), (49, 23), (49, 24), (50, 0), (50, 1), (51, 0), (51, 1), (51, 2), (51, 3), (51, 4), (51, 5), (51, 6), (51, 7), (51, 8), (51, 9), (51, 10), (51, 11), (51, 12), (51, 13), (51, 14), (51, 15), (52, 0), (52, 1), (52, 2), (52, 3), (52, 4), (52, 5), (52, 6), (52, 7), (52, 8), (53, 0), (53, 1), (53, 2), (53, 3), (53, 4), (54, 0), (54, 1), (54, 2), (54, 3), (54, 4), (55, 0), (55, 1), (55, 2), (55, 3), (55, 4), (56, 0), (56, 1), (56, 2), (56, 3), (56, 4), (56, 5), (56, 6), (56, 7), (56, 8), (56, 9), (56, 10), (56, 11), (56, 12), (56, 13), (56, 14), (56, 15), (56, 16), (56, 17), (56, 18), (56, 19), (56, 20), (56, 21), (56, 22), (56, 23), (56, 24), (57, 0), (57, 1), (58, 0), (58, 1), (58, 2), (58, 3), (58, 4), (58, 5), (58, 6), (58, 7), (58, 8), (58, 9), (58, 10), (58, 11), (58, 12), (58, 13), (58, 14), (58, 15), (59, 0), (59, 1), (59, 2), (59, 3), (59, 4), (59, 5), (59, 6), (59, 7), (59, 8), (60, 0), (60, 1), (60, 2), (60, 3), (60, 4), (61, 0), (61, 1), (61, 2), (61, 3), (61, 4), (62, 0), (62, 1), (62, 2), (62, 3), (62, 4), (63, 0), (63, 1), (63, 2), (63, 3), (63, 4), (63, 5), (63, 6), (63, 7), (63, 8), (63, 9), (63, 10), (63, 11), (63, 12), (63, 13), (63, 14), (63, 15), (63, 16), (63, 17), (63, 18), (63, 19), (63, 20), (63, 21), (63, 22), (63, 23), (63, 24), (64, 0), (64, 1), (65, 0), (65, 1), (65, 2), (65, 3), (65, 4), (65, 5), (65, 6), (65, 7), (65, 8), (65, 9), (65, 10), (65, 11), (65, 12), (65, 13), (65, 14), (65, 15), (66, 0), (66, 1), (66, 2), (66, 3), (66, 4), (66, 5), (66, 6), (66, 7), (66, 8), (67, 0), (67, 1), (67, 2), (67, 3), (67, 4), (68, 0), (68, 1), (68, 2), (68, 3), (68, 4), (69, 0), (69, 1), (69, 2), (69, 3), (69, 4), (70, 0), (70, 1), (70, 2), (70, 3), (70, 4), (70, 5), (70, 6), (70, 7), (70, 8), (70, 9), (70, 10), (70, 11), (70, 12), (70, 13), (70, 14), (70, 15), (70, 16), (70, 17), (70, 18), (70, 19), (70, 20), (70, 21), (70, 22), (70, 23), (70, 24), (71, 0), (71, 1), (72, 0), (72, 1), (72, 2), (72, 3), (72, 4), (72, 5), (72, 6), (72, 7), (72, 8), (72, 9), (72, 10), (72, 11), (72, 12), (72, 13), (72, 14), (72, 15), (74, 0), (74, 1), (75, 0), (75, 1), (75, 2), (75, 3), (75, 4), (75, 5), (75, 6), (75, 7), (75, 8), (75, 9), (75, 10), (75, 11), (75, 12), (75, 13), (75, 14), (75, 15), (75, 16), (75, 17), (75, 18), (75, 19), (75, 20), (76, 0), (76, 1), (76, 2), (76, 3), (76, 4), (76, 5), (76, 6), (76, 7), (76, 8), (76, 9), (76, 10), (76, 11), (76, 12), (76, 13), (76, 14), (76, 15), (76, 16), (76, 17), (76, 18), (76, 19), (76, 20), (76, 21), (77, 0), (77, 1), (78, 0), (78, 1), (78, 2), (78, 3), (78, 4), (78, 5), (78, 6), (78, 7), (78, 8), (78, 9), (78, 10), (78, 11), (78, 12), (78, 13), (78, 14), (78, 15), (78, 16), (78, 17), (78, 18), (78, 19), (78, 20), (79, 0), (79, 1), (79, 2), (79, 3), (79, 4), (79, 5), (79, 6), (79, 7), (79, 8), (79, 9), (79, 10), (79, 11), (79, 12), (79, 13), (79, 14), (79, 15), (79, 16), (79, 17), (79, 18), (79, 19), (79, 20), (79, 21), (80, 4), (80, 5), (82, 0), (82, 1), (82, 2), (82, 3), (83, 0), (83, 1), (83, 2), (83, 3), (84, 0), (84, 1), (85, 0), (85, 1), (85, 2), (85, 3), (85, 4), (85, 5), (85, 6), (85, 7), (85, 8), (85, 9), (85, 10), (85, 11), (85, 12), (85, 13), (85, 14), (85, 15), (86, 0), (86, 1), (86, 2), (86, 3), (86, 4), (86, 5), (86, 6), (86, 7), (86, 8), (86, 9), (86, 10), (86, 11), (86, 12), (86, 13), (86, 14), (86, 15), (86, 16), (86, 17), (86, 18), (86, 19), (86, 20), (86, 21), (86, 22), (86, 23), (86, 24), (86, 25), (86, 26), (86, 27), (86, 28), (86, 29), (86, 30), (86, 31), (86, 32), (86, 33), (86, 34), (86, 35), (86, 36), (86, 37), (86, 38), (86, 39), (86, 40), (86, 41), (86, 42), (86, 43), (86, 44), (86, 45), (86, 46), (86, 47), (86, 48), (86, 49), (86, 50), (86, 51), (86, 52), (86, 53), (86, 54), (86, 55), (86, 56), (86, 57), (86, 58), (86, 59), (86, 60), (86, 61), (86, 62), (86, 63)]
theorem m_M2_v : m_P0.all (fun q => decide (m_M2.2 q.1 q.2 = m_v0 q.1 q.2)) = true := by decide +kernel
