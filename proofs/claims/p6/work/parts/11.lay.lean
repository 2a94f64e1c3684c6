/-! the cells that both constructors make, in their order: kinds, lengths, which field holds which -/
def fixS : List (Nat × Nat) := [(23, 21), (23, 7), (8, 0), (21, 700), (5, 0), (23, 701), (22, 701), (24, 16), (22, 4), (3, 0), (22, 20), (22, 20), (22, 20), (22, 20), (22, 20), (20, 20), (6, 0), (22, 60), (22, 60), (22, 60), (22, 60), (7, 0), (22, 10), (22, 10), (22, 10), (22, 10), (25, 20), (2, 0), (22, 60), (22, 60), (22, 60), (22, 4), (22, 7), (9, 0), (21, 720), (21, 700), (22, 16), (22, 16), (22, 4), (22, 17), (22, 204), (22, 17), (22, 272), (22, 272), (22, 272), (22, 272), (22, 68), (22, 17), (22, 17), (22, 17), (22, 17), (22, 11900), (22, 11900), (23, 204), (20, 17), (20, 17), (20, 17), (22, 60), (22, 20), (22, 20), (22, 20), (22, 20), (22, 60), (22, 60), (22, 60), (22, 60), (22, 10), (22, 10), (22, 10), (22, 10), (22, 20), (22, 20), (22, 20), (22, 20), (22, 20), (22, 20), (22, 20), (22, 20), (22, 20), (23, 20), (20, 20), (22, 7), (22, 70), (22, 4), (22, 60), (22, 60), (22, 60)]
def fixR : List ((Nat × Nat) × Nat) := [((2, 0), 3), ((2, 2), 4), ((2, 3), 7), ((2, 4), 8), ((2, 8), 9), ((2, 9), 16), ((2, 10), 21), ((2, 11), 26), ((2, 13), 27), ((2, 14), 31), ((2, 16), 32), ((4, 0), 5), ((4, 1), 6), ((9, 0), 10), ((9, 1), 11), ((9, 2), 12), ((9, 3), 13), ((9, 4), 14), ((9, 5), 15), ((16, 0), 17), ((16, 1), 18), ((16, 2), 19), ((16, 3), 20), ((21, 0), 22), ((21, 1), 23), ((21, 2), 24), ((21, 3), 25), ((27, 0), 28), ((27, 1), 29), ((27, 2), 30), ((33, 0), 34), ((33, 1), 35), ((33, 12), 36), ((33, 13), 37), ((33, 14), 38), ((33, 15), 39), ((33, 16), 40), ((33, 17), 41), ((33, 18), 42), ((33, 19), 43), ((33, 20), 44), ((33, 21), 45), ((33, 22), 46), ((33, 23), 47), ((33, 24), 48), ((33, 25), 49), ((33, 26), 50), ((33, 27), 51), ((33, 28), 52), ((33, 29), 53), ((33, 30), 54), ((33, 31), 55), ((33, 32), 56), ((33, 37), 57), ((33, 40), 58), ((33, 41), 59), ((33, 42), 60), ((33, 43), 61), ((33, 44), 62), ((33, 45), 63), ((33, 46), 64), ((33, 47), 65), ((33, 48), 66), ((33, 49), 67), ((33, 50), 68), ((33, 51), 69), ((33, 55), 70), ((33, 56), 71), ((33, 57), 72), ((33, 58), 73), ((33, 59), 74), ((33, 60), 75), ((33, 61), 76), ((33, 62), 77), ((33, 63), 78), ((33, 64), 79), ((33, 65), 80), ((33, 67), 81), ((33, 68), 82), ((33, 69), 83), ((33, 70), 84), ((33, 71), 85), ((33, 72), 86)]
def Lay (σ : VH) : Prop := 87 ≤ hN σ ∧ (∀ v, v < 87 → hS σ v = fixS.getD v (0, 0)) ∧ ∀ q ∈ fixR, hR σ q.1.1 q.1.2 = some q.2
theorem jo_2 {σ : VH} (J : Lay σ) : Is σ 2 8 := ⟨by decide, Nat.lt_of_lt_of_le (by decide) J.1, by rw [J.2.1 2 (by decide)]; rfl⟩
theorem ja_3 {σ : VH} (J : Lay σ) : Ar σ 3 21 700 := ⟨by decide, Nat.lt_of_lt_of_le (by decide) J.1, by rw [J.2.1 3 (by decide)]; rfl⟩
theorem jo_4 {σ : VH} (J : Lay σ) : Is σ 4 5 := ⟨by decide, Nat.lt_of_lt_of_le (by decide) J.1, by rw [J.2.1 4 (by decide)]; rfl⟩
theorem ja_5 {σ : VH} (J : Lay σ) : Ar σ 5 23 701 := ⟨by decide, Nat.lt_of_lt_of_le (by decide) J.1, by rw [J.2.1 5 (by decide)]; rfl⟩
theorem ja_6 {σ : VH} (J : Lay σ) : Ar σ 6 22 701 := ⟨by decide, Nat.lt_of_lt_of_le (by decide) J.1, by rw [J.2.1 6 (by decide)]; rfl⟩
theorem ja_7 {σ : VH} (J : Lay σ) : Ar σ 7 24 16 := ⟨by decide, Nat.lt_of_lt_of_le (by decide) J.1, by rw [J.2.1 7 (by decide)]; rfl⟩
theorem ja_8 {σ : VH} (J : Lay σ) : Ar σ 8 22 4 := ⟨by decide, Nat.lt_of_lt_of_le (by decide) J.1, by rw [J.2.1 8 (by decide)]; rfl⟩
theorem jo_9 {σ : VH} (J : Lay σ) : Is σ 9 3 := ⟨by decide, Nat.lt_of_lt_of_le (by decide) J.1, by rw [J.2.1 9 (by decide)]; rfl⟩
theorem ja_10 {σ : VH} (J : Lay σ) : Ar σ 10 22 20 := ⟨by decide, Nat.lt_of_lt_of_le (by decide) J.1, by rw [J.2.1 10 (by decide)]; rfl⟩
theorem ja_11 {σ : VH} (J : Lay σ) : Ar σ 11 22 20 := ⟨by decide, Nat.lt_of_lt_of_le (by decide) J.1, by rw [J.2.1 11 (by decide)]; rfl⟩
theorem ja_12 {σ : VH} (J : Lay σ) : Ar σ 12 22 20 := ⟨by decide, Nat.lt_of_lt_of_le (by decide) J.1, by rw [J.2.1 12 (by decide)]; rfl⟩
theorem ja_13 {σ : VH} (J : Lay σ) : Ar σ 13 22 20 := ⟨by decide, Nat.lt_of_lt_of_le (by decide) J.1, by rw [J.2.1 13 (by decide)]; rfl⟩
theorem ja_14 {σ : VH} (J : Lay σ) : Ar σ 14 22 20 := ⟨by decide, Nat.lt_of_lt_of_le (by decide) J.1, by rw [J.2.1 14 (by decide)]; rfl⟩
theorem ja_15 {σ : VH} (J : Lay σ) : Ar σ 15 20 20 := ⟨by decide, Nat.lt_of_lt_of_le (by decide) J.1, by rw [J.2.1 15 (by decide)]; rfl⟩
theorem jo_16 {σ : VH} (J : Lay σ) : Is σ 16 6 := ⟨by decide, Nat.lt_of_lt_of_le (by decide) J.1, by rw [J.2.1 16 (by decide)]; rfl⟩
theorem ja_17 {σ : VH} (J : Lay σ) : Ar σ 17 22 60 := ⟨by decide, Nat.lt_of_lt_of_le (by decide) J.1, by rw [J.2.1 17 (by decide)]; rfl⟩
theorem ja_18 {σ : VH} (J : Lay σ) : Ar σ 18 22 60 := ⟨by decide, Nat.lt_of_lt_of_le (by decide) J.1, by rw [J.2.1 18 (by decide)]; rfl⟩
theorem ja_19 {σ : VH} (J : Lay σ) : Ar σ 19 22 60 := ⟨by decide, Nat.lt_of_lt_of_le (by decide) J.1, by rw [J.2.1 19 (by decide)]; rfl⟩
theorem ja_20 {σ : VH} (J : Lay σ) : Ar σ 20 22 60 := ⟨by decide, Nat.lt_of_lt_of_le (by decide) J.1, by rw [J.2.1 20 (by decide)]; rfl⟩
theorem jo_21 {σ : VH} (J : Lay σ) : Is σ 21 7 := ⟨by decide, Nat.lt_of_lt_of_le (by decide) J.1, by rw [J.2.1 21 (by decide)]; rfl⟩
theorem ja_22 {σ : VH} (J : Lay σ) : Ar σ 22 22 10 := ⟨by decide, Nat.lt_of_lt_of_le (by decide) J.1, by rw [J.2.1 22 (by decide)]; rfl⟩
theorem ja_23 {σ : VH} (J : Lay σ) : Ar σ 23 22 10 := ⟨by decide, Nat.lt_of_lt_of_le (by decide) J.1, by rw [J.2.1 23 (by decide)]; rfl⟩
theorem ja_24 {σ : VH} (J : Lay σ) : Ar σ 24 22 10 := ⟨by decide, Nat.lt_of_lt_of_le (by decide) J.1, by rw [J.2.1 24 (by decide)]; rfl⟩
theorem ja_25 {σ : VH} (J : Lay σ) : Ar σ 25 22 10 := ⟨by decide, Nat.lt_of_lt_of_le (by decide) J.1, by rw [J.2.1 25 (by decide)]; rfl⟩
theorem ja_26 {σ : VH} (J : Lay σ) : Ar σ 26 25 20 := ⟨by decide, Nat.lt_of_lt_of_le (by decide) J.1, by rw [J.2.1 26 (by decide)]; rfl⟩
theorem jo_27 {σ : VH} (J : Lay σ) : Is σ 27 2 := ⟨by decide, Nat.lt_of_lt_of_le (by decide) J.1, by rw [J.2.1 27 (by decide)]; rfl⟩
theorem ja_28 {σ : VH} (J : Lay σ) : Ar σ 28 22 60 := ⟨by decide, Nat.lt_of_lt_of_le (by decide) J.1, by rw [J.2.1 28 (by decide)]; rfl⟩
theorem ja_29 {σ : VH} (J : Lay σ) : Ar σ 29 22 60 := ⟨by decide, Nat.lt_of_lt_of_le (by decide) J.1, by rw [J.2.1 29 (by decide)]; rfl⟩
theorem ja_30 {σ : VH} (J : Lay σ) : Ar σ 30 22 60 := ⟨by decide, Nat.lt_of_lt_of_le (by decide) J.1, by rw [J.2.1 30 (by decide)]; rfl⟩
theorem ja_31 {σ : VH} (J : Lay σ) : Ar σ 31 22 4 := ⟨by decide, Nat.lt_of_lt_of_le (by decide) J.1, by rw [J.2.1 31 (by decide)]; rfl⟩
theorem ja_32 {σ : VH} (J : Lay σ) : Ar σ 32 22 7 := ⟨by decide, Nat.lt_of_lt_of_le (by decide) J.1, by rw [J.2.1 32 (by decide)]; rfl⟩
theorem jo_33 {σ : VH} (J : Lay σ) : Is σ 33 9 := ⟨by decide, Nat.lt_of_lt_of_le (by decide) J.1, by rw [J.2.1 33 (by decide)]; rfl⟩
theorem ja_34 {σ : VH} (J : Lay σ) : Ar σ 34 21 720 := ⟨by decide, Nat.lt_of_lt_of_le (by decide) J.1, by rw [J.2.1 34 (by decide)]; rfl⟩
theorem ja_35 {σ : VH} (J : Lay σ) : Ar σ 35 21 700 := ⟨by decide, Nat.lt_of_lt_of_le (by decide) J.1, by rw [J.2.1 35 (by decide)]; rfl⟩
theorem ja_36 {σ : VH} (J : Lay σ) : Ar σ 36 22 16 := ⟨by decide, Nat.lt_of_lt_of_le (by decide) J.1, by rw [J.2.1 36 (by decide)]; rfl⟩
theorem ja_37 {σ : VH} (J : Lay σ) : Ar σ 37 22 16 := ⟨by decide, Nat.lt_of_lt_of_le (by decide) J.1, by rw [J.2.1 37 (by decide)]; rfl⟩
theorem ja_38 {σ : VH} (J : Lay σ) : Ar σ 38 22 4 := ⟨by decide, Nat.lt_of_lt_of_le (by decide) J.1, by rw [J.2.1 38 (by decide)]; rfl⟩
theorem ja_39 {σ : VH} (J : Lay σ) : Ar σ 39 22 17 := ⟨by decide, Nat.lt_of_lt_of_le (by decide) J.1, by rw [J.2.1 39 (by decide)]; rfl⟩
theorem ja_40 {σ : VH} (J : Lay σ) : Ar σ 40 22 204 := ⟨by decide, Nat.lt_of_lt_of_le (by decide) J.1, by rw [J.2.1 40 (by decide)]; rfl⟩
theorem ja_41 {σ : VH} (J : Lay σ) : Ar σ 41 22 17 := ⟨by decide, Nat.lt_of_lt_of_le (by decide) J.1, by rw [J.2.1 41 (by decide)]; rfl⟩
theorem ja_42 {σ : VH} (J : Lay σ) : Ar σ 42 22 272 := ⟨by decide, Nat.lt_of_lt_of_le (by decide) J.1, by rw [J.2.1 42 (by decide)]; rfl⟩
theorem ja_43 {σ : VH} (J : Lay σ) : Ar σ 43 22 272 := ⟨by decide, Nat.lt_of_lt_of_le (by decide) J.1, by rw [J.2.1 43 (by decide)]; rfl⟩
theorem ja_44 {σ : VH} (J : Lay σ) : Ar σ 44 22 272 := ⟨by decide, Nat.lt_of_lt_of_le (by decide) J.1, by rw [J.2.1 44 (by decide)]; rfl⟩
theorem ja_45 {σ : VH} (J : Lay σ) : Ar σ 45 22 272 := ⟨by decide, Nat.lt_of_lt_of_le (by decide) J.1, by rw [J.2.1 45 (by decide)]; rfl⟩
theorem ja_46 {σ : VH} (J : Lay σ) : Ar σ 46 22 68 := ⟨by decide, Nat.lt_of_lt_of_le (by decide) J.1, by rw [J.2.1 46 (by decide)]; rfl⟩
theorem ja_47 {σ : VH} (J : Lay σ) : Ar σ 47 22 17 := ⟨by decide, Nat.lt_of_lt_of_le (by decide) J.1, by rw [J.2.1 47 (by decide)]; rfl⟩
theorem ja_48 {σ : VH} (J : Lay σ) : Ar σ 48 22 17 := ⟨by decide, Nat.lt_of_lt_of_le (by decide) J.1, by rw [J.2.1 48 (by decide)]; rfl⟩
theorem ja_49 {σ : VH} (J : Lay σ) : Ar σ 49 22 17 := ⟨by decide, Nat.lt_of_lt_of_le (by decide) J.1, by rw [J.2.1 49 (by decide)]; rfl⟩
theorem ja_50 {σ : VH} (J : Lay σ) : Ar σ 50 22 17 := ⟨by decide, Nat.lt_of_lt_of_le (by decide) J.1, by rw [J.2.1 50 (by decide)]; rfl⟩
theorem ja_51 {σ : VH} (J : Lay σ) : Ar σ 51 22 11900 := ⟨by decide, Nat.lt_of_lt_of_le (by decide) J.1, by rw [J.2.1 51 (by decide)]; rfl⟩
theorem ja_52 {σ : VH} (J : Lay σ) : Ar σ 52 22 11900 := ⟨by decide, Nat.lt_of_lt_of_le (by decide) J.1, by rw [J.2.1 52 (by decide)]; rfl⟩
theorem ja_53 {σ : VH} (J : Lay σ) : Ar σ 53 23 204 := ⟨by decide, Nat.lt_of_lt_of_le (by decide) J.1, by rw [J.2.1 53 (by decide)]; rfl⟩
theorem ja_54 {σ : VH} (J : Lay σ) : Ar σ 54 20 17 := ⟨by decide, Nat.lt_of_lt_of_le (by decide) J.1, by rw [J.2.1 54 (by decide)]; rfl⟩
theorem ja_55 {σ : VH} (J : Lay σ) : Ar σ 55 20 17 := ⟨by decide, Nat.lt_of_lt_of_le (by decide) J.1, by rw [J.2.1 55 (by decide)]; rfl⟩
theorem ja_56 {σ : VH} (J : Lay σ) : Ar σ 56 20 17 := ⟨by decide, Nat.lt_of_lt_of_le (by decide) J.1, by rw [J.2.1 56 (by decide)]; rfl⟩
theorem ja_57 {σ : VH} (J : Lay σ) : Ar σ 57 22 60 := ⟨by decide, Nat.lt_of_lt_of_le (by decide) J.1, by rw [J.2.1 57 (by decide)]; rfl⟩
theorem ja_58 {σ : VH} (J : Lay σ) : Ar σ 58 22 20 := ⟨by decide, Nat.lt_of_lt_of_le (by decide) J.1, by rw [J.2.1 58 (by decide)]; rfl⟩
theorem ja_59 {σ : VH} (J : Lay σ) : Ar σ 59 22 20 := ⟨by decide, Nat.lt_of_lt_of_le (by decide) J.1, by rw [J.2.1 59 (by decide)]; rfl⟩
theorem ja_60 {σ : VH} (J : Lay σ) : Ar σ 60 22 20 := ⟨by decide, Nat.lt_of_lt_of_le (by decide) J.1, by rw [J.2.1 60 (by decide)]; rfl⟩
theorem ja_61 {σ : VH} (J : Lay σ) : Ar σ 61 22 20 := ⟨by decide, Nat.lt_of_lt_of_le (by decide) J.1, by rw [J.2.1 61 (by decide)]; rfl⟩
theorem ja_62 {σ : VH} (J : Lay σ) : Ar σ 62 22 60 := ⟨by decide, Nat.lt_of_lt_of_le (by decide) J.1, by rw [J.2.1 62 (by decide)]; rfl⟩
theorem ja_63 {σ : VH} (J : Lay σ) : Ar σ 63 22 60 := ⟨by decide, Nat.lt_of_lt_of_le (by decide) J.1, by rw [J.2.1 63 (by decide)]; rfl⟩
theorem ja_64 {σ : VH} (J : Lay σ) : Ar σ 64 22 60 := ⟨by decide, Nat.lt_of_lt_of_le (by decide) J.1, by rw [J.2.1 64 (by decide)]; rfl⟩
theorem ja_65 {σ : VH} (J : Lay σ) : Ar σ 65 22 60 := ⟨by decide, Nat.lt_of_lt_of_le (by decide) J.1, by rw [J.2.1 65 (by decide)]; rfl⟩
theorem ja_66 {σ : VH} (J : Lay σ) : Ar σ 66 22 10 := ⟨by decide, Nat.lt_of_lt_of_le (by decide) J.1, by rw [J.2.1 66 (by decide)]; rfl⟩
theorem ja_67 {σ : VH} (J : Lay σ) : Ar σ 67 22 10 := ⟨by decide, Nat.lt_of_lt_of_le (by decide) J.1, by rw [J.2.1 67 (by decide)]; rfl⟩
theorem ja_68 {σ : VH} (J : Lay σ) : Ar σ 68 22 10 := ⟨by decide, Nat.lt_of_lt_of_le (by decide) J.1, by rw [J.2.1 68 (by decide)]; rfl⟩
theorem ja_69 {σ : VH} (J : Lay σ) : Ar σ 69 22 10 := ⟨by decide, Nat.lt_of_lt_of_le (by decide) J.1, by rw [J.2.1 69 (by decide)]; rfl⟩
theorem ja_70 {σ : VH} (J : Lay σ) : Ar σ 70 22 20 := ⟨by decide, Nat.lt_of_lt_of_le (by decide) J.1, by rw [J.2.1 70 (by decide)]; rfl⟩
theorem ja_71 {σ : VH} (J : Lay σ) : Ar σ 71 22 20 := ⟨by decide, Nat.lt_of_lt_of_le (by decide) J.1, by rw [J.2.1 71 (by decide)]; rfl⟩
theorem ja_72 {σ : VH} (J : Lay σ) : Ar σ 72 22 20 := ⟨by decide, Nat.lt_of_lt_of_le (by decide) J.1, by rw [J.2.1 72 (by decide)]; rfl⟩
theorem ja_73 {σ : VH} (J : Lay σ) : Ar σ 73 22 20 := ⟨by decide, Nat.lt_of_lt_of_le (by decide) J.1, by rw [J.2.1 73 (by decide)]; rfl⟩
theorem ja_74 {σ : VH} (J : Lay σ) : Ar σ 74 22 20 := ⟨by decide, Nat.lt_of_lt_of_le (by decide) J.1, by rw [J.2.1 74 (by decide)]; rfl⟩
theorem ja_75 {σ : VH} (J : Lay σ) : Ar σ 75 22 20 := ⟨by decide, Nat.lt_of_lt_of_le (by decide) J.1, by rw [J.2.1 75 (by decide)]; rfl⟩
theorem ja_76 {σ : VH} (J : Lay σ) : Ar σ 76 22 20 := ⟨by decide, Nat.lt_of_lt_of_le (by decide) J.1, by rw [J.2.1 76 (by decide)]; rfl⟩
theorem ja_77 {σ : VH} (J : Lay σ) : Ar σ 77 22 20 := ⟨by decide, Nat.lt_of_lt_of_le (by decide) J.1, by rw [J.2.1 77 (by decide)]; rfl⟩
theorem ja_78 {σ : VH} (J : Lay σ) : Ar σ 78 22 20 := ⟨by decide, Nat.lt_of_lt_of_le (by decide) J.1, by rw [J.2.1 78 (by decide)]; rfl⟩
theorem ja_79 {σ : VH} (J : Lay σ) : Ar σ 79 23 20 := ⟨by decide, Nat.lt_of_lt_of_le (by decide) J.1, by rw [J.2.1 79 (by decide)]; rfl⟩
theorem ja_80 {σ : VH} (J : Lay σ) : Ar σ 80 20 20 := ⟨by decide, Nat.lt_of_lt_of_le (by decide) J.1, by rw [J.2.1 80 (by decide)]; rfl⟩
theorem ja_81 {σ : VH} (J : Lay σ) : Ar σ 81 22 7 := ⟨by decide, Nat.lt_of_lt_of_le (by decide) J.1, by rw [J.2.1 81 (by decide)]; rfl⟩
theorem ja_82 {σ : VH} (J : Lay σ) : Ar σ 82 22 70 := ⟨by decide, Nat.lt_of_lt_of_le (by decide) J.1, by rw [J.2.1 82 (by decide)]; rfl⟩
theorem ja_83 {σ : VH} (J : Lay σ) : Ar σ 83 22 4 := ⟨by decide, Nat.lt_of_lt_of_le (by decide) J.1, by rw [J.2.1 83 (by decide)]; rfl⟩
theorem ja_84 {σ : VH} (J : Lay σ) : Ar σ 84 22 60 := ⟨by decide, Nat.lt_of_lt_of_le (by decide) J.1, by rw [J.2.1 84 (by decide)]; rfl⟩
theorem ja_85 {σ : VH} (J : Lay σ) : Ar σ 85 22 60 := ⟨by decide, Nat.lt_of_lt_of_le (by decide) J.1, by rw [J.2.1 85 (by decide)]; rfl⟩
theorem ja_86 {σ : VH} (J : Lay σ) : Ar σ 86 22 60 := ⟨by decide, Nat.lt_of_lt_of_le (by decide) J.1, by rw [J.2.1 86 (by decide)]; rfl⟩
theorem jr_2_0 {σ : VH} (J : Lay σ) : hR σ 2 0 = some 3 := J.2.2 ((2, 0), 3) (List.mem_of_getElem? (i := 0) rfl)
theorem jr_2_2 {σ : VH} (J : Lay σ) : hR σ 2 2 = some 4 := J.2.2 ((2, 2), 4) (List.mem_of_getElem? (i := 1) rfl)
theorem jr_2_3 {σ : VH} (J : Lay σ) : hR σ 2 3 = some 7 := J.2.2 ((2, 3), 7) (List.mem_of_getElem? (i := 2) rfl)
theorem jr_2_4 {σ : VH} (J : Lay σ) : hR σ 2 4 = some 8 := J.2.2 ((2, 4), 8) (List.mem_of_getElem? (i := 3) rfl)
theorem jr_2_8 {σ : VH} (J : Lay σ) : hR σ 2 8 = some 9 := J.2.2 ((2, 8), 9) (List.mem_of_getElem? (i := 4) rfl)
theorem jr_2_9 {σ : VH} (J : Lay σ) : hR σ 2 9 = some 16 := J.2.2 ((2, 9), 16) (List.mem_of_getElem? (i := 5) rfl)
theorem jr_2_10 {σ : VH} (J : Lay σ) : hR σ 2 10 = some 21 := J.2.2 ((2, 10), 21) (List.mem_of_getElem? (i := 6) rfl)
theorem jr_2_11 {σ : VH} (J : Lay σ) : hR σ 2 11 = some 26 := J.2.2 ((2, 11), 26) (List.mem_of_getElem? (i := 7) rfl)
theorem jr_2_13 {σ : VH} (J : Lay σ) : hR σ 2 13 = some 27 := J.2.2 ((2, 13), 27) (List.mem_of_getElem? (i := 8) rfl)
theorem jr_2_14 {σ : VH} (J : Lay σ) : hR σ 2 14 = some 31 := J.2.2 ((2, 14), 31) (List.mem_of_getElem? (i := 9) rfl)
theorem jr_2_16 {σ : VH} (J : Lay σ) : hR σ 2 16 = some 32 := J.2.2 ((2, 16), 32) (List.mem_of_getElem? (i := 10) rfl)
theorem jr_4_0 {σ : VH} (J : Lay σ) : hR σ 4 0 = some 5 := J.2.2 ((4, 0), 5) (List.mem_of_getElem? (i := 11) rfl)
theorem jr_4_1 {σ : VH} (J : Lay σ) : hR σ 4 1 = some 6 := J.2.2 ((4, 1), 6) (List.mem_of_getElem? (i := 12) rfl)
theorem jr_9_0 {σ : VH} (J : Lay σ) : hR σ 9 0 = some 10 := J.2.2 ((9, 0), 10) (List.mem_of_getElem? (i := 13) rfl)
theorem jr_9_1 {σ : VH} (J : Lay σ) : hR σ 9 1 = some 11 := J.2.2 ((9, 1), 11) (List.mem_of_getElem? (i := 14) rfl)
theorem jr_9_2 {σ : VH} (J : Lay σ) : hR σ 9 2 = some 12 := J.2.2 ((9, 2), 12) (List.mem_of_getElem? (i := 15) rfl)
theorem jr_9_3 {σ : VH} (J : Lay σ) : hR σ 9 3 = some 13 := J.2.2 ((9, 3), 13) (List.mem_of_getElem? (i := 16) rfl)
theorem jr_9_4 {σ : VH} (J : Lay σ) : hR σ 9 4 = some 14 := J.2.2 ((9, 4), 14) (List.mem_of_getElem? (i := 17) rfl)
theorem jr_9_5 {σ : VH} (J : Lay σ) : hR σ 9 5 = some 15 := J.2.2 ((9, 5), 15) (List.mem_of_getElem? (i := 18) rfl)
theorem jr_16_0 {σ : VH} (J : Lay σ) : hR σ 16 0 = some 17 := J.2.2 ((16, 0), 17) (List.mem_of_getElem? (i := 19) rfl)
theorem jr_16_1 {σ : VH} (J : Lay σ) : hR σ 16 1 = some 18 := J.2.2 ((16, 1), 18) (List.mem_of_getElem? (i := 20) rfl)
theorem jr_16_2 {σ : VH} (J : Lay σ) : hR σ 16 2 = some 19 := J.2.2 ((16, 2), 19) (List.mem_of_getElem? (i := 21) rfl)
theorem jr_16_3 {σ : VH} (J : Lay σ) : hR σ 16 3 = some 20 := J.2.2 ((16, 3), 20) (List.mem_of_getElem? (i := 22) rfl)
theorem jr_21_0 {σ : VH} (J : Lay σ) : hR σ 21 0 = some 22 := J.2.2 ((21, 0), 22) (List.mem_of_getElem? (i := 23) rfl)
theorem jr_21_1 {σ : VH} (J : Lay σ) : hR σ 21 1 = some 23 := J.2.2 ((21, 1), 23) (List.mem_of_getElem? (i := 24) rfl)
theorem jr_21_2 {σ : VH} (J : Lay σ) : hR σ 21 2 = some 24 := J.2.2 ((21, 2), 24) (List.mem_of_getElem? (i := 25) rfl)
theorem jr_21_3 {σ : VH} (J : Lay σ) : hR σ 21 3 = some 25 := J.2.2 ((21, 3), 25) (List.mem_of_getElem? (i := 26) rfl)
theorem jr_27_0 {σ : VH} (J : Lay σ) : hR σ 27 0 = some 28 := J.2.2 ((27, 0), 28) (List.mem_of_getElem? (i := 27) rfl)
theorem jr_27_1 {σ : VH} (J : Lay σ) : hR σ 27 1 = some 29 := J.2.2 ((27, 1), 29) (List.mem_of_getElem? (i := 28) rfl)
theorem jr_27_2 {σ : VH} (J : Lay σ) : hR σ 27 2 = some 30 := J.2.2 ((27, 2), 30) (List.mem_of_getElem? (i := 29) rfl)
theorem jr_33_0 {σ : VH} (J : Lay σ) : hR σ 33 0 = some 34 := J.2.2 ((33, 0), 34) (List.mem_of_getElem? (i := 30) rfl)
theorem jr_33_1 {σ : VH} (J : Lay σ) : hR σ 33 1 = some 35 := J.2.2 ((33, 1), 35) (List.mem_of_getElem? (i := 31) rfl)
theorem jr_33_12 {σ : VH} (J : Lay σ) : hR σ 33 12 = some 36 := J.2.2 ((33, 12), 36) (List.mem_of_getElem? (i := 32) rfl)
theorem jr_33_13 {σ : VH} (J : Lay σ) : hR σ 33 13 = some 37 := J.2.2 ((33, 13), 37) (List.mem_of_getElem? (i := 33) rfl)
theorem jr_33_14 {σ : VH} (J : Lay σ) : hR σ 33 14 = some 38 := J.2.2 ((33, 14), 38) (List.mem_of_getElem? (i := 34) rfl)
theorem jr_33_15 {σ : VH} (J : Lay σ) : hR σ 33 15 = some 39 := J.2.2 ((33, 15), 39) (List.mem_of_getElem? (i := 35) rfl)
theorem jr_33_16 {σ : VH} (J : Lay σ) : hR σ 33 16 = some 40 := J.2.2 ((33, 16), 40) (List.mem_of_getElem? (i := 36) rfl)
theorem jr_33_17 {σ : VH} (J : Lay σ) : hR σ 33 17 = some 41 := J.2.2 ((33, 17), 41) (List.mem_of_getElem? (i := 37) rfl)
theorem jr_33_18 {σ : VH} (J : Lay σ) : hR σ 33 18 = some 42 := J.2.2 ((33, 18), 42) (List.mem_of_getElem? (i := 38) rfl)
theorem jr_33_19 {σ : VH} (J : Lay σ) : hR σ 33 19 = some 43 := J.2.2 ((33, 19), 43) (List.mem_of_getElem? (i := 39) rfl)
theorem jr_33_20 {σ : VH} (J : Lay σ) : hR σ 33 20 = some 44 := J.2.2 ((33, 20), 44) (List.mem_of_getElem? (i := 40) rfl)
theorem jr_33_21 {σ : VH} (J : Lay σ) : hR σ 33 21 = some 45 := J.2.2 ((33, 21), 45) (List.mem_of_getElem? (i := 41) rfl)
theorem jr_33_22 {σ : VH} (J : Lay σ) : hR σ 33 22 = some 46 := J.2.2 ((33, 22), 46) (List.mem_of_getElem? (i := 42) rfl)
theorem jr_33_23 {σ : VH} (J : Lay σ) : hR σ 33 23 = some 47 := J.2.2 ((33, 23), 47) (List.mem_of_getElem? (i := 43) rfl)
theorem jr_33_24 {σ : VH} (J : Lay σ) : hR σ 33 24 = some 48 := J.2.2 ((33, 24), 48) (List.mem_of_getElem? (i := 44) rfl)
theorem jr_33_25 {σ : VH} (J : Lay σ) : hR σ 33 25 = some 49 := J.2.2 ((33, 25), 49) (List.mem_of_getElem? (i := 45) rfl)
theorem jr_33_26 {σ : VH} (J : Lay σ) : hR σ 33 26 = some 50 := J.2.2 ((33, 26), 50) (List.mem_of_getElem? (i := 46) rfl)
theorem jr_33_27 {σ : VH} (J : Lay σ) : hR σ 33 27 = some 51 := J.2.2 ((33, 27), 51) (List.mem_of_getElem? (i := 47) rfl)
theorem jr_33_28 {σ : VH} (J : Lay σ) : hR σ 33 28 = some 52 := J.2.2 ((33, 28), 52) (List.mem_of_getElem? (i := 48) rfl)
theorem jr_33_29 {σ : VH} (J : Lay σ) : hR σ 33 29 = some 53 := J.2.2 ((33, 29), 53) (List.mem_of_getElem? (i := 49) rfl)
theorem jr_33_30 {σ : VH} (J : Lay σ) : hR σ 33 30 = some 54 := J.2.2 ((33, 30), 54) (List.mem_of_getElem? (i := 50) rfl)
theorem jr_33_31 {σ : VH} (J : Lay σ) : hR σ 33 31 = some 55 := J.2.2 ((33, 31), 55) (List.mem_of_getElem? (i := 51) rfl)
theorem jr_33_32 {σ : VH} (J : Lay σ) : hR σ 33 32 = some 56 := J.2.2 ((33, 32), 56) (List.mem_of_getElem? (i := 52) rfl)
theorem jr_33_37 {σ : VH} (J : Lay σ) : hR σ 33 37 = some 57 := J.2.2 ((33, 37), 57) (List.mem_of_getElem? (i := 53) rfl)
theorem jr_33_40 {σ : VH} (J : Lay σ) : hR σ 33 40 = some 58 := J.2.2 ((33, 40), 58) (List.mem_of_getElem? (i := 54) rfl)
theorem jr_33_41 {σ : VH} (J : Lay σ) : hR σ 33 41 = some 59 := J.2.2 ((33, 41), 59) (List.mem_of_getElem? (i := 55) rfl)
theorem jr_33_42 {σ : VH} (J : Lay σ) : hR σ 33 42 = some 60 := J.2.2 ((33, 42), 60) (List.mem_of_getElem? (i := 56) rfl)
theorem jr_33_43 {σ : VH} (J : Lay σ) : hR σ 33 43 = some 61 := J.2.2 ((33, 43), 61) (List.mem_of_getElem? (i := 57) rfl)
theorem jr_33_44 {σ : VH} (J : Lay σ) : hR σ 33 44 = some 62 := J.2.2 ((33, 44), 62) (List.mem_of_getElem? (i := 58) rfl)
theorem jr_33_45 {σ : VH} (J : Lay σ) : hR σ 33 45 = some 63 := J.2.2 ((33, 45), 63) (List.mem_of_getElem? (i := 59) rfl)
theorem jr_33_46 {σ : VH} (J : Lay σ) : hR σ 33 46 = some 64 := J.2.2 ((33, 46), 64) (List.mem_of_getElem? (i := 60) rfl)
theorem jr_33_47 {σ : VH} (J : Lay σ) : hR σ 33 47 = some 65 := J.2.2 ((33, 47), 65) (List.mem_of_getElem? (i := 61) rfl)
theorem jr_33_48 {σ : VH} (J : Lay σ) : hR σ 33 48 = some 66 := J.2.2 ((33, 48), 66) (List.mem_of_getElem? (i := 62) rfl)
theorem jr_33_49 {σ : VH} (J : Lay σ) : hR σ 33 49 = some 67 := J.2.2 ((33, 49), 67) (List.mem_of_getElem? (i := 63) rfl)
theorem jr_33_50 {σ : VH} (J : Lay σ) : hR σ 33 50 = some 68 := J.2.2 ((33, 50), 68) (List.mem_of_getElem? (i := 64) rfl)
theorem jr_33_51 {σ : VH} (J : Lay σ) : hR σ 33 51 = some 69 := J.2.2 ((33, 51), 69) (List.mem_of_getElem? (i := 65) rfl)
theorem jr_33_55 {σ : VH} (J : Lay σ) : hR σ 33 55 = some 70 := J.2.2 ((33, 55), 70) (List.mem_of_getElem? (i := 66) rfl)
theorem jr_33_56 {σ : VH} (J : Lay σ) : hR σ 33 56 = some 71 := J.2.2 ((33, 56), 71) (List.mem_of_getElem? (i := 67) rfl)
theorem jr_33_57 {σ : VH} (J : Lay σ) : hR σ 33 57 = some 72 := J.2.2 ((33, 57), 72) (List.mem_of_getElem? (i := 68) rfl)
theorem jr_33_58 {σ : VH} (J : Lay σ) : hR σ 33 58 = some 73 := J.2.2 ((33, 58), 73) (List.mem_of_getElem? (i := 69) rfl)
theorem jr_33_59 {σ : VH} (J : Lay σ) : hR σ 33 59 = some 74 := J.2.2 ((33, 59), 74) (List.mem_of_getElem? (i := 70) rfl)
theorem jr_33_60 {σ : VH} (J : Lay σ) : hR σ 33 60 = some 75 := J.2.2 ((33, 60), 75) (List.mem_of_getElem? (i := 71) rfl)
theorem jr_33_61 {σ : VH} (J : Lay σ) : hR σ 33 61 = some 76 := J.2.2 ((33, 61), 76) (List.mem_of_getElem? (i := 72) rfl)
theorem jr_33_62 {σ : VH} (J : Lay σ) : hR σ 33 62 = some 77 := J.2.2 ((33, 62), 77) (List.mem_of_getElem? (i := 73) rfl)
theorem jr_33_63 {σ : VH} (J : Lay σ) : hR σ 33 63 = some 78 := J.2.2 ((33, 63), 78) (List.mem_of_getElem? (i := 74) rfl)
theorem jr_33_64 {σ : VH} (J : Lay σ) : hR σ 33 64 = some 79 := J.2.2 ((33, 64), 79) (List.mem_of_getElem? (i := 75) rfl)
theorem jr_33_65 {σ : VH} (J : Lay σ) : hR σ 33 65 = some 80 := J.2.2 ((33, 65), 80) (List.mem_of_getElem? (i := 76) rfl)
theorem jr_33_67 {σ : VH} (J : Lay σ) : hR σ 33 67 = some 81 := J.2.2 ((33, 67), 81) (List.mem_of_getElem? (i := 77) rfl)
theorem jr_33_68 {σ : VH} (J : Lay σ) : hR σ 33 68 = some 82 := J.2.2 ((33, 68), 82) (List.mem_of_getElem? (i := 78) rfl)
theorem jr_33_69 {σ : VH} (J : Lay σ) : hR σ 33 69 = some 83 := J.2.2 ((33, 69), 83) (List.mem_of_getElem? (i := 79) rfl)
theorem jr_33_70 {σ : VH} (J : Lay σ) : hR σ 33 70 = some 84 := J.2.2 ((33, 70), 84) (List.mem_of_getElem? (i := 80) rfl)
theorem jr_33_71 {σ : VH} (J : Lay σ) : hR σ 33 71 = some 85 := J.2.2 ((33, 71), 85) (List.mem_of_getElem? (i := 81) rfl)
theorem jr_33_72 {σ : VH} (J : Lay σ) : hR σ 33 72 = some 86 := J.2.2 ((33, 72), 86) (List.mem_of_getElem? (i := 82) rfl)
def bI (b : Bool) : Int32 := if b then 1 else 0
theorem bI_0 {b : Bool} : bI b = 0 ↔ b = false := by cases b <;> simp [bI]
theorem bI_t : bI true = 1 := rfl
theorem bI_f : bI false = 0 := rfl
theorem bI_nar (b : Bool) : narrow .boolean (.int (bI b)) = .int (bI b) := by cases b <;> rfl
