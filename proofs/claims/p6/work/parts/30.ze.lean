set_option maxHeartbeats 4000000 in
set_option maxRecDepth 20000 in
theorem k5_sortOf2 (l : Launch) (σ : VH) (c : Int) (rc : (-2147483648 ≤ c ∧ c < 2147483648)) : Ct l yX5_sortOf cX5_sortOf 1 (some .int) 1 0 0 [.int (iz c)] σ (fun r τ => ∃ z : Int, r = some (.int (iz z)) ∧ (-2147483648 ≤ z ∧ z < 2147483648) ∧ ((z = 1 ∧ 97 ≤ c ∧ c ≤ 122) ∨ (z = 2 ∧ 48 ≤ c ∧ c ≤ 57) ∨ (z = 3 ∧ (c = 59 ∨ c = 40 ∨ c = 41 ∨ c = 60 ∨ c = 62 ∨ c = 61)) ∨ (z = 4 ∧ (c = 32 ∨ c = 10)) ∨ (z = 5 ∧ ¬ (97 ≤ c ∧ c ≤ 122) ∧ ¬ (48 ≤ c ∧ c ≤ 57) ∧ ¬ (c = 32 ∨ c = 10) ∧ ¬ (c = 59 ∨ c = 40 ∨ c = 41 ∨ c = 60 ∨ c = 62 ∨ c = 61))) ∧ (σ = τ)) := by
  refine Ct.enter rfl (Nat.le_of_ble_eq_true rfl) ?_
  intro κ γ hκ O hrc hrs
  subst hκ
  refine z_iload_n (pc := 0) O dX5_sortOf_0 rfl ?_
  refine z_callSN (pc := 1) O cl_X5_42 (k8_isLetter _ _ c (by omega)) (by decide) rfl rfl (Nat.le_of_ble_eq_true rfl) ⟨Nat.zero_le _, Nat.zero_le _⟩ dX5_sortOf_1 (fun r τ1 hp => ?_)
  obtain ⟨z2, rfl, fτ1_0, fτ1_1, rfl⟩ := hp
  refine zi_if_eq (pc := 4) (tgt := 9) O dX5_sortOf_4 (by decide) (by omega) (fun h4 => ?_) (fun h4 => ?_)
  · refine z_iload_n (pc := 9) O dX5_sortOf_9 rfl ?_
    refine z_bipush (pc := 10) (v := iz (48)) O dX5_sortOf_10 (by decide) ?_
    refine zi_icmp_lt (pc := 12) (tgt := 23) O dX5_sortOf_12 (by decide) (by omega) (by decide) (fun h12 => ?_) (fun h12 => ?_)
    · refine z_iload_n (pc := 23) O dX5_sortOf_23 rfl ?_
      refine z_i2l (pc := 24) O dX5_sortOf_24 ?_
      refine z_topl (pc := 25) (fun w3 ew3 => ?_)
      refine z_ldc2 (pc := 25) O tw_238 dX5_sortOf_25 ?_
      refine z_lcmp (pc := 28) O dX5_sortOf_28 ?_
      refine zi_lc_eq (pc := 29) (tgt := 77) O dX5_sortOf_29 (by decide) (fun h29 => ?_) (fun h29 => ?_)
      · refine z_iconst (pc := 77) (v := iz (3)) O dX5_sortOf_77 (by decide) ?_
        refine z_iret (pc := 78) O dX5_sortOf_78 ?_
        exact ⟨3, rfl, (by decide), (by have n1 := lc_to 59 (by omega) ew3 h29 (by decide); omega), rfl⟩
      · refine z_iload_n (pc := 32) O dX5_sortOf_32 rfl ?_
        refine z_i2l (pc := 33) O dX5_sortOf_33 ?_
        refine z_topl (pc := 34) (fun w4 ew4 => ?_)
        refine z_ldc2 (pc := 34) O tw_239 dX5_sortOf_34 ?_
        refine z_lcmp (pc := 37) O dX5_sortOf_37 ?_
        refine zi_lc_eq (pc := 38) (tgt := 77) O dX5_sortOf_38 (by decide) (fun h38 => ?_) (fun h38 => ?_)
        · refine z_iconst (pc := 77) (v := iz (3)) O dX5_sortOf_77 (by decide) ?_
          refine z_iret (pc := 78) O dX5_sortOf_78 ?_
          exact ⟨3, rfl, (by decide), (by have n1 := lc_to 40 (by omega) ew4 h38 (by decide); omega), rfl⟩
        · refine z_iload_n (pc := 41) O dX5_sortOf_41 rfl ?_
          refine z_i2l (pc := 42) O dX5_sortOf_42 ?_
          refine z_topl (pc := 43) (fun w5 ew5 => ?_)
          refine z_ldc2 (pc := 43) O tw_240 dX5_sortOf_43 ?_
          refine z_lcmp (pc := 46) O dX5_sortOf_46 ?_
          refine zi_lc_eq (pc := 47) (tgt := 77) O dX5_sortOf_47 (by decide) (fun h47 => ?_) (fun h47 => ?_)
          · refine z_iconst (pc := 77) (v := iz (3)) O dX5_sortOf_77 (by decide) ?_
            refine z_iret (pc := 78) O dX5_sortOf_78 ?_
            exact ⟨3, rfl, (by decide), (by have n1 := lc_to 41 (by omega) ew5 h47 (by decide); omega), rfl⟩
          · refine z_iload_n (pc := 50) O dX5_sortOf_50 rfl ?_
            refine z_i2l (pc := 51) O dX5_sortOf_51 ?_
            refine z_topl (pc := 52) (fun w6 ew6 => ?_)
            refine z_ldc2 (pc := 52) O tw_241 dX5_sortOf_52 ?_
            refine z_lcmp (pc := 55) O dX5_sortOf_55 ?_
            refine zi_lc_eq (pc := 56) (tgt := 77) O dX5_sortOf_56 (by decide) (fun h56 => ?_) (fun h56 => ?_)
            · refine z_iconst (pc := 77) (v := iz (3)) O dX5_sortOf_77 (by decide) ?_
              refine z_iret (pc := 78) O dX5_sortOf_78 ?_
              exact ⟨3, rfl, (by decide), (by have n1 := lc_to 60 (by omega) ew6 h56 (by decide); omega), rfl⟩
            · refine z_iload_n (pc := 59) O dX5_sortOf_59 rfl ?_
              refine z_i2l (pc := 60) O dX5_sortOf_60 ?_
              refine z_topl (pc := 61) (fun w7 ew7 => ?_)
              refine z_ldc2 (pc := 61) O tw_242 dX5_sortOf_61 ?_
              refine z_lcmp (pc := 64) O dX5_sortOf_64 ?_
              refine zi_lc_eq (pc := 65) (tgt := 77) O dX5_sortOf_65 (by decide) (fun h65 => ?_) (fun h65 => ?_)
              · refine z_iconst (pc := 77) (v := iz (3)) O dX5_sortOf_77 (by decide) ?_
                refine z_iret (pc := 78) O dX5_sortOf_78 ?_
                exact ⟨3, rfl, (by decide), (by have n1 := lc_to 62 (by omega) ew7 h65 (by decide); omega), rfl⟩
              · refine z_iload_n (pc := 68) O dX5_sortOf_68 rfl ?_
                refine z_i2l (pc := 69) O dX5_sortOf_69 ?_
                refine z_topl (pc := 70) (fun w8 ew8 => ?_)
                refine z_ldc2 (pc := 70) O tw_243 dX5_sortOf_70 ?_
                refine z_lcmp (pc := 73) O dX5_sortOf_73 ?_
                refine zi_lc_ne (pc := 74) (tgt := 79) O dX5_sortOf_74 (by decide) (fun h74 => ?_) (fun h74 => ?_)
                · refine z_iload_n (pc := 79) O dX5_sortOf_79 rfl ?_
                  refine z_bipush (pc := 80) (v := iz (32)) O dX5_sortOf_80 (by decide) ?_
                  refine zi_icmp_eq (pc := 82) (tgt := 91) O dX5_sortOf_82 (by decide) (by omega) (by decide) (fun h82 => ?_) (fun h82 => ?_)
                  · refine z_iconst (pc := 91) (v := iz (4)) O dX5_sortOf_91 (by decide) ?_
                    refine z_goto (pc := 92) (tgt := 96) O dX5_sortOf_92 (by decide) ?_
                    refine z_iret (pc := 96) O dX5_sortOf_96 ?_
                    exact ⟨4, rfl, (by decide), (by omega), rfl⟩
                  · refine z_iload_n (pc := 85) O dX5_sortOf_85 rfl ?_
                    refine z_bipush (pc := 86) (v := iz (10)) O dX5_sortOf_86 (by decide) ?_
                    refine zi_icmp_ne (pc := 88) (tgt := 95) O dX5_sortOf_88 (by decide) (by omega) (by decide) (fun h88 => ?_) (fun h88 => ?_)
                    · refine z_iconst (pc := 95) (v := iz (5)) O dX5_sortOf_95 (by decide) ?_
                      refine z_iret (pc := 96) O dX5_sortOf_96 ?_
                      exact ⟨5, rfl, (by decide), (by have n29 := lc_no 59 (by omega) ew3 h29 (by decide); have n38 := lc_no 40 (by omega) ew4 h38 (by decide); have n47 := lc_no 41 (by omega) ew5 h47 (by decide); have n56 := lc_no 60 (by omega) ew6 h56 (by decide); have n65 := lc_no 62 (by omega) ew7 h65 (by decide); have n74 := lc_no 61 (by omega) ew8 h74 (by decide); omega), rfl⟩
                    · refine z_iconst (pc := 91) (v := iz (4)) O dX5_sortOf_91 (by decide) ?_
                      refine z_goto (pc := 92) (tgt := 96) O dX5_sortOf_92 (by decide) ?_
                      refine z_iret (pc := 96) O dX5_sortOf_96 ?_
                      exact ⟨4, rfl, (by decide), (by omega), rfl⟩
                · refine z_iconst (pc := 77) (v := iz (3)) O dX5_sortOf_77 (by decide) ?_
                  refine z_iret (pc := 78) O dX5_sortOf_78 ?_
                  exact ⟨3, rfl, (by decide), (by have n1 := lc_to 61 (by omega) ew8 h74 (by decide); omega), rfl⟩
    · refine z_iload_n (pc := 15) O dX5_sortOf_15 rfl ?_
      refine z_bipush (pc := 16) (v := iz (57)) O dX5_sortOf_16 (by decide) ?_
      refine zi_icmp_gt (pc := 18) (tgt := 23) O dX5_sortOf_18 (by decide) (by omega) (by decide) (fun h18 => ?_) (fun h18 => ?_)
      · refine z_iload_n (pc := 23) O dX5_sortOf_23 rfl ?_
        refine z_i2l (pc := 24) O dX5_sortOf_24 ?_
        refine z_topl (pc := 25) (fun w9 ew9 => ?_)
        refine z_ldc2 (pc := 25) O tw_238 dX5_sortOf_25 ?_
        refine z_lcmp (pc := 28) O dX5_sortOf_28 ?_
        refine zi_lc_eq (pc := 29) (tgt := 77) O dX5_sortOf_29 (by decide) (fun h29 => ?_) (fun h29 => ?_)
        · refine z_iconst (pc := 77) (v := iz (3)) O dX5_sortOf_77 (by decide) ?_
          refine z_iret (pc := 78) O dX5_sortOf_78 ?_
          exact ⟨3, rfl, (by decide), (by have n1 := lc_to 59 (by omega) ew9 h29 (by decide); omega), rfl⟩
        · refine z_iload_n (pc := 32) O dX5_sortOf_32 rfl ?_
          refine z_i2l (pc := 33) O dX5_sortOf_33 ?_
          refine z_topl (pc := 34) (fun w10 ew10 => ?_)
          refine z_ldc2 (pc := 34) O tw_239 dX5_sortOf_34 ?_
          refine z_lcmp (pc := 37) O dX5_sortOf_37 ?_
          refine zi_lc_eq (pc := 38) (tgt := 77) O dX5_sortOf_38 (by decide) (fun h38 => ?_) (fun h38 => ?_)
          · refine z_iconst (pc := 77) (v := iz (3)) O dX5_sortOf_77 (by decide) ?_
            refine z_iret (pc := 78) O dX5_sortOf_78 ?_
            exact ⟨3, rfl, (by decide), (by have n1 := lc_to 40 (by omega) ew10 h38 (by decide); omega), rfl⟩
          · refine z_iload_n (pc := 41) O dX5_sortOf_41 rfl ?_
            refine z_i2l (pc := 42) O dX5_sortOf_42 ?_
            refine z_topl (pc := 43) (fun w11 ew11 => ?_)
            refine z_ldc2 (pc := 43) O tw_240 dX5_sortOf_43 ?_
            refine z_lcmp (pc := 46) O dX5_sortOf_46 ?_
            refine zi_lc_eq (pc := 47) (tgt := 77) O dX5_sortOf_47 (by decide) (fun h47 => ?_) (fun h47 => ?_)
            · refine z_iconst (pc := 77) (v := iz (3)) O dX5_sortOf_77 (by decide) ?_
              refine z_iret (pc := 78) O dX5_sortOf_78 ?_
              exact ⟨3, rfl, (by decide), (by have n1 := lc_to 41 (by omega) ew11 h47 (by decide); omega), rfl⟩
            · refine z_iload_n (pc := 50) O dX5_sortOf_50 rfl ?_
              refine z_i2l (pc := 51) O dX5_sortOf_51 ?_
              refine z_topl (pc := 52) (fun w12 ew12 => ?_)
              refine z_ldc2 (pc := 52) O tw_241 dX5_sortOf_52 ?_
              refine z_lcmp (pc := 55) O dX5_sortOf_55 ?_
              refine zi_lc_eq (pc := 56) (tgt := 77) O dX5_sortOf_56 (by decide) (fun h56 => ?_) (fun h56 => ?_)
              · refine z_iconst (pc := 77) (v := iz (3)) O dX5_sortOf_77 (by decide) ?_
                refine z_iret (pc := 78) O dX5_sortOf_78 ?_
                exact ⟨3, rfl, (by decide), (by have n1 := lc_to 60 (by omega) ew12 h56 (by decide); omega), rfl⟩
              · refine z_iload_n (pc := 59) O dX5_sortOf_59 rfl ?_
                refine z_i2l (pc := 60) O dX5_sortOf_60 ?_
                refine z_topl (pc := 61) (fun w13 ew13 => ?_)
                refine z_ldc2 (pc := 61) O tw_242 dX5_sortOf_61 ?_
                refine z_lcmp (pc := 64) O dX5_sortOf_64 ?_
                refine zi_lc_eq (pc := 65) (tgt := 77) O dX5_sortOf_65 (by decide) (fun h65 => ?_) (fun h65 => ?_)
                · refine z_iconst (pc := 77) (v := iz (3)) O dX5_sortOf_77 (by decide) ?_
                  refine z_iret (pc := 78) O dX5_sortOf_78 ?_
                  exact ⟨3, rfl, (by decide), (by have n1 := lc_to 62 (by omega) ew13 h65 (by decide); omega), rfl⟩
                · refine z_iload_n (pc := 68) O dX5_sortOf_68 rfl ?_
                  refine z_i2l (pc := 69) O dX5_sortOf_69 ?_
                  refine z_topl (pc := 70) (fun w14 ew14 => ?_)
                  refine z_ldc2 (pc := 70) O tw_243 dX5_sortOf_70 ?_
                  refine z_lcmp (pc := 73) O dX5_sortOf_73 ?_
                  refine zi_lc_ne (pc := 74) (tgt := 79) O dX5_sortOf_74 (by decide) (fun h74 => ?_) (fun h74 => ?_)
                  · refine z_iload_n (pc := 79) O dX5_sortOf_79 rfl ?_
                    refine z_bipush (pc := 80) (v := iz (32)) O dX5_sortOf_80 (by decide) ?_
                    refine zi_icmp_eq (pc := 82) (tgt := 91) O dX5_sortOf_82 (by decide) (by omega) (by decide) (fun h82 => ?_) (fun h82 => ?_)
                    · refine z_iconst (pc := 91) (v := iz (4)) O dX5_sortOf_91 (by decide) ?_
                      refine z_goto (pc := 92) (tgt := 96) O dX5_sortOf_92 (by decide) ?_
                      refine z_iret (pc := 96) O dX5_sortOf_96 ?_
                      exact ⟨4, rfl, (by decide), (by omega), rfl⟩
                    · refine z_iload_n (pc := 85) O dX5_sortOf_85 rfl ?_
                      refine z_bipush (pc := 86) (v := iz (10)) O dX5_sortOf_86 (by decide) ?_
                      refine zi_icmp_ne (pc := 88) (tgt := 95) O dX5_sortOf_88 (by decide) (by omega) (by decide) (fun h88 => ?_) (fun h88 => ?_)
                      · refine z_iconst (pc := 95) (v := iz (5)) O dX5_sortOf_95 (by decide) ?_
                        refine z_iret (pc := 96) O dX5_sortOf_96 ?_
                        exact ⟨5, rfl, (by decide), (by have n29 := lc_no 59 (by omega) ew9 h29 (by decide); have n38 := lc_no 40 (by omega) ew10 h38 (by decide); have n47 := lc_no 41 (by omega) ew11 h47 (by decide); have n56 := lc_no 60 (by omega) ew12 h56 (by decide); have n65 := lc_no 62 (by omega) ew13 h65 (by decide); have n74 := lc_no 61 (by omega) ew14 h74 (by decide); omega), rfl⟩
                      · refine z_iconst (pc := 91) (v := iz (4)) O dX5_sortOf_91 (by decide) ?_
                        refine z_goto (pc := 92) (tgt := 96) O dX5_sortOf_92 (by decide) ?_
                        refine z_iret (pc := 96) O dX5_sortOf_96 ?_
                        exact ⟨4, rfl, (by decide), (by omega), rfl⟩
                  · refine z_iconst (pc := 77) (v := iz (3)) O dX5_sortOf_77 (by decide) ?_
                    refine z_iret (pc := 78) O dX5_sortOf_78 ?_
                    exact ⟨3, rfl, (by decide), (by have n1 := lc_to 61 (by omega) ew14 h74 (by decide); omega), rfl⟩
      · refine z_iconst (pc := 21) (v := iz (2)) O dX5_sortOf_21 (by decide) ?_
        refine z_iret (pc := 22) O dX5_sortOf_22 ?_
        exact ⟨2, rfl, (by decide), (by omega), rfl⟩
  · refine z_iconst (pc := 7) (v := iz (1)) O dX5_sortOf_7 (by decide) ?_
    refine z_iret (pc := 8) O dX5_sortOf_8 ?_
    exact ⟨1, rfl, (by decide), (by omega), rfl⟩
set_option maxHeartbeats 4000000 in
set_option maxRecDepth 20000 in
theorem k5_firstOf2 (l : Launch) (σ : VH) (s : Int) (rs : (-2147483648 ≤ s ∧ s < 2147483648)) (c : Int) (rc : (-2147483648 ≤ c ∧ c < 2147483648)) (hcc : 0 ≤ c ∧ c ≤ 255) : Ct l yX5_firstOf cX5_firstOf 2 (some .long) 0 0 0 [.int (iz s), .int (iz c)] σ (fun r τ => ∃ z : Int64, r = some (.long z) ∧ ((s = 5 ∧ (z).toInt = 0) ∨ (s = 2 ∧ (z).toInt = -1 - (c - 48)) ∨ (¬ s = 5 ∧ ¬ s = 2 ∧ (z).toInt = c)) ∧ (σ = τ)) := by
  refine Ct.enter rfl (Nat.le_of_ble_eq_true rfl) ?_
  intro κ γ hκ O hrc hrs
  subst hκ
  refine z_iload_n (pc := 0) O dX5_firstOf_0 rfl ?_
  refine z_iconst (pc := 1) (v := iz (5)) O dX5_firstOf_1 (by decide) ?_
  refine zi_icmp_ne (pc := 2) (tgt := 7) O dX5_firstOf_2 (by decide) (by omega) (by decide) (fun h2 => ?_) (fun h2 => ?_)
  · refine z_iload_n (pc := 7) O dX5_firstOf_7 rfl ?_
    refine z_iconst (pc := 8) (v := iz (2)) O dX5_firstOf_8 (by decide) ?_
    refine zi_icmp_ne (pc := 9) (tgt := 24) O dX5_firstOf_9 (by decide) (by omega) (by decide) (fun h9 => ?_) (fun h9 => ?_)
    · refine z_iload_n (pc := 24) O dX5_firstOf_24 rfl ?_
      refine z_i2l (pc := 25) O dX5_firstOf_25 ?_
      refine z_topl (pc := 26) (fun w1 ew1 => ?_)
      refine z_lret (pc := 26) O dX5_firstOf_26 ?_
      exact ⟨w1, rfl, (Or.inr (Or.inr ⟨by omega, by omega, by rw [ew1, l_iz (by omega)]⟩)), rfl⟩
    · refine z_iload_n (pc := 12) O dX5_firstOf_12 rfl ?_
      refine z_bipush (pc := 13) (v := iz (48)) O dX5_firstOf_13 (by decide) ?_
      refine zi_isub (pc := 15) O dX5_firstOf_15 ?_
      refine z_i2l (pc := 16) O dX5_firstOf_16 ?_
      refine z_topl (pc := 17) (fun w2 ew2 => ?_)
      refine z_ldc2 (pc := 17) O tw_252 dX5_firstOf_17 ?_
      refine z_lxor (pc := 20) O dX5_firstOf_20 ?_
      refine z_topl (pc := 21) (fun w3 ew3 => ?_)
      refine z_goto (pc := 21) (tgt := 26) O dX5_firstOf_21 (by decide) ?_
      refine z_lret (pc := 26) O dX5_firstOf_26 ?_
      exact ⟨w3, rfl, (Or.inr (Or.inl ⟨by omega, by rw [ew3, xorm, ew2, l_iz (by omega)]⟩)), rfl⟩
  · refine z_lconst (pc := 5) (v := 0) O dX5_firstOf_5 (by decide) ?_
    refine z_lret (pc := 6) O dX5_firstOf_6 ?_
    exact ⟨0, rfl, (Or.inl ⟨by omega, by decide⟩), rfl⟩
set_option maxHeartbeats 4000000 in
set_option maxRecDepth 20000 in
theorem k5_begin2 (l : Launch) (σ : VH) (v : Int64) (k : Int) (rk : (-2147483648 ≤ k ∧ k < 2147483648)) (J : Lay σ) (hct : 0 ≤ gI σ 4 2 ∧ gI σ 4 2 < 701) : Ct l yX5_begin cX5_begin 4 none 0 0 0 [.ref 4, .long v, .int (iz k)] σ (fun r τ => r = none ∧ (Fr [(5, 99999), (6, 99999), (4, 2), (4, 3)] σ τ) ∧ (gI τ 4 2 = gI σ 4 2 + 1 ∧ gI τ 4 3 = 1) ∧ (∀ j : Nat, gI τ 6 j = if (j : Int) = gI σ 4 2 then k else gI σ 6 j) ∧ (∀ j : Nat, tkr τ j = if (j : Int) = gI σ 4 2 then v.toInt else tkr σ j)) := by
  refine Ct.enter rfl (Nat.le_of_ble_eq_true rfl) ?_
  intro κ γ hκ O hrc hrs
  subst hκ
  refine z_aload_n (pc := 0) O dX5_begin_0 rfl ?_
  refine zi_getv (pc := 1) (gI σ 4 2) O fl_X5_19 rfl (jo_4 J) (izg σ 4 2) dX5_begin_1 ?_
  have := rgI σ 4 2
  refine z_aload_n (pc := 4) O dX5_begin_4 rfl ?_
  refine z_getR (pc := 5) 5 O fl_X5_9 rfl (jo_4 J) (jr_4_0 J) dX5_begin_5 ?_
  refine z_alenL (pc := 8) (n := iz 701) O (Or.inl (ja_5 J)) (by decide) dX5_begin_8 ?_
  refine zi_icmp_ge (pc := 9) (tgt := 47) O dX5_begin_9 (by decide) (by omega) (by decide) (fun h9 => ?_) (fun h9 => ?_)
  · refine z_vret (pc := 47) O dX5_begin_47 ?_
    exact ⟨rfl, (Fr.rf [(5, 99999), (6, 99999), (4, 2), (4, 3)] σ), (by omega), (fun j => by exfalso; omega), (fun j => by exfalso; omega)⟩
  · refine z_aload_n (pc := 12) O dX5_begin_12 rfl ?_
    refine z_getR (pc := 13) 5 O fl_X5_9 rfl (jo_4 J) (jr_4_0 J) dX5_begin_13 ?_
    refine z_aload_n (pc := 16) O dX5_begin_16 rfl ?_
    refine zi_getv (pc := 17) (gI σ 4 2) O fl_X5_19 rfl (jo_4 J) (izg σ 4 2) dX5_begin_17 ?_
    refine z_lload_n (pc := 20) O dX5_begin_20 rfl ?_
    refine zi_last (pc := 21) ((gI σ 4 2).toNat) O (ja_5 J) (by omega) (by omega) (by omega) dX5_begin_21 ?_
    refine z_aload_n (pc := 22) O dX5_begin_22 rfl ?_
    refine z_getR (pc := 23) 6 O fl_X5_15 rfl (jo_4 J) (jr_4_1 J) dX5_begin_23 ?_
    refine z_aload_n (pc := 26) O dX5_begin_26 rfl ?_
    refine zi_getv (pc := 27) (gI σ 4 2) O fl_X5_19 rfl (jo_4 J) (skL (izg σ 4 2)) dX5_begin_27 ?_
    refine z_iload_n (pc := 30) O dX5_begin_30 rfl ?_
    refine zi_iast (pc := 31) ((gI σ 4 2).toNat) O (ja_6 J) (by omega) (by omega) (by omega) dX5_begin_31 ?_
    refine z_aload_n (pc := 32) O dX5_begin_32 rfl ?_
    refine z_dup (pc := 33) O dX5_begin_33 rfl ?_
    refine zi_getv (pc := 34) (gI σ 4 2) O fl_X5_19 rfl (jo_4 J) (sk1t (by decide) (skL (izg σ 4 2))) dX5_begin_34 ?_
    refine z_iconst (pc := 37) (v := iz (1)) O dX5_begin_37 (by decide) ?_
    refine zi_iadd (pc := 38) O dX5_begin_38 ?_
    refine z_putI (pc := 39) O fl_X5_19 rfl ⟨rfl, rfl⟩ (jo_4 J) dX5_begin_39 ?_
    refine z_aload_n (pc := 42) O dX5_begin_42 rfl ?_
    refine z_iconst (pc := 43) (v := iz (1)) O dX5_begin_43 (by decide) ?_
    refine z_putI (pc := 44) O fl_X5_60 rfl ⟨rfl, rfl⟩ (jo_4 J) dX5_begin_44 ?_
    refine z_vret (pc := 47) O dX5_begin_47 ?_
    exact ⟨rfl, (((((Fr.rf [(5, 99999), (6, 99999), (4, 2), (4, 3)] σ).pL rfl).pI rfl).pI rfl).pI rfl), (by have : gI (sI (sI (sI (sL σ 5 ((gI σ 4 2).toNat) v) 6 ((gI σ 4 2).toNat) (iz k)) 4 2 (iz ((gI σ 4 2) + 1))) 4 3 (iz 1)) 4 2 = (gI σ 4 2) + 1 := gI_iz (sk2t (by decide) (hI_at _ _ _ _)) (by omega); have : gI (sI (sI (sI (sL σ 5 ((gI σ 4 2).toNat) v) 6 ((gI σ 4 2).toNat) (iz k)) 4 2 (iz ((gI σ 4 2) + 1))) 4 3 (iz 1)) 4 3 = 1 := gI_iz (hI_at _ _ _ _) (by omega); omega), (fun j => by by_cases hk9 : j = ((gI σ 4 2).toNat); (rw [if_pos (by omega), hk9]; exact gI_iz (sk1t (by decide) (sk1t (by decide) (hI_at _ _ _ _))) (by omega)); (exact (gI_eq (sk1t (by decide) (sk1t (by decide) (sk2t hk9 (skL rfl))))).trans (if_neg (by omega)).symm)), (fun j => by show (hL (sL σ 5 ((gI σ 4 2).toNat) v) 5 j).toInt = _; rw [hL_sL]; by_cases hk9 : j = ((gI σ 4 2).toNat); (rw [if_pos ⟨rfl, hk9⟩, if_pos (by omega)]); (rw [if_neg (fun e => hk9 e.2), if_neg (by omega)]; rfl))⟩
set_option maxHeartbeats 4000000 in
set_option maxRecDepth 20000 in
theorem k5_spoilLast2 (l : Launch) (σ : VH) (J : Lay σ) (hct : 1 ≤ gI σ 4 2 ∧ gI σ 4 2 ≤ 701) : Ct l yX5_spoilLast cX5_spoilLast 1 none 0 0 0 [.ref 4] σ (fun r τ => r = none ∧ (Fr [(5, 99999)] σ τ) ∧ (∀ j : Nat, tkr τ j = if (j : Int) + 1 = gI σ 4 2 then 0 else tkr σ j)) := by
  refine Ct.enter rfl (Nat.le_of_ble_eq_true rfl) ?_
  intro κ γ hκ O hrc hrs
  subst hκ
  refine z_aload_n (pc := 0) O dX5_spoilLast_0 rfl ?_
  refine zi_getv (pc := 1) (gI σ 4 2) O fl_X5_19 rfl (jo_4 J) (izg σ 4 2) dX5_spoilLast_1 ?_
  have := rgI σ 4 2
  refine zi_if_le (pc := 4) (tgt := 19) O dX5_spoilLast_4 (by decide) (by omega) (fun h4 => ?_) (fun h4 => ?_)
  · refine z_vret (pc := 19) O dX5_spoilLast_19 ?_
    exact ⟨rfl, (Fr.rf [(5, 99999)] σ), (fun j => by exfalso; omega)⟩
  · refine z_aload_n (pc := 7) O dX5_spoilLast_7 rfl ?_
    refine z_getR (pc := 8) 5 O fl_X5_9 rfl (jo_4 J) (jr_4_0 J) dX5_spoilLast_8 ?_
    refine z_aload_n (pc := 11) O dX5_spoilLast_11 rfl ?_
    refine zi_getv (pc := 12) (gI σ 4 2) O fl_X5_19 rfl (jo_4 J) (izg σ 4 2) dX5_spoilLast_12 ?_
    refine z_iconst (pc := 15) (v := iz (1)) O dX5_spoilLast_15 (by decide) ?_
    refine zi_isub (pc := 16) O dX5_spoilLast_16 ?_
    refine z_lconst (pc := 17) (v := 0) O dX5_spoilLast_17 (by decide) ?_
    refine zi_last (pc := 18) (((gI σ 4 2) - 1).toNat) O (ja_5 J) (by omega) (by omega) (by omega) dX5_spoilLast_18 ?_
    refine z_vret (pc := 19) O dX5_spoilLast_19 ?_
    exact ⟨rfl, ((Fr.rf [(5, 99999)] σ).pL rfl), (fun j => by show (hL (sL σ 5 (((gI σ 4 2) - 1).toNat) 0) 5 j).toInt = _; rw [hL_sL]; by_cases hk9 : j = (((gI σ 4 2) - 1).toNat); (rw [if_pos ⟨rfl, hk9⟩, if_pos (by omega)]; rfl); (rw [if_neg (fun e => hk9 e.2), if_neg (by omega)]; rfl))⟩
set_option maxHeartbeats 4000000 in
set_option maxRecDepth 20000 in
theorem k5_lengthenLast2 (l : Launch) (σ : VH) (s : Int) (rs : (-2147483648 ≤ s ∧ s < 2147483648)) (c : Int) (rc : (-2147483648 ≤ c ∧ c < 2147483648)) (J : Lay σ) (hct : 1 ≤ gI σ 4 2 ∧ gI σ 4 2 ≤ 701) (hs : s = 1 ∨ s = 2) (hcc : 0 ≤ c ∧ c ≤ 255) (hln : 1 ≤ gI σ 4 3 ∧ gI σ 4 3 ≤ 700) (hl1 : s = 1 → gI σ 4 3 < 8 → 0 ≤ tkr σ ((gI σ 4 2 - 1).toNat) ∧ tkr σ ((gI σ 4 2 - 1).toNat) < 36028797018963968) (hl2 : s = 2 → gI σ 4 3 < 6 → 0 ≤ -1 - tkr σ ((gI σ 4 2 - 1).toNat) ∧ -1 - tkr σ ((gI σ 4 2 - 1).toNat) < 1000000) : Ct l yX5_lengthenLast cX5_lengthenLast 5 none 1 0 0 [.ref 4, .int (iz s), .int (iz c)] σ (fun r τ => r = none ∧ (Fr [(5, 99999), (4, 3)] σ τ) ∧ (gI τ 4 3 = gI σ 4 3 + 1) ∧ (∀ j : Nat, ¬ (j : Int) + 1 = gI σ 4 2 → tkr τ j = tkr σ j) ∧ ((s = 1 ∧ 8 < gI σ 4 3 + 1 ∧ tkr τ ((gI σ 4 2 - 1).toNat) = 0) ∨ (s = 1 ∧ gI σ 4 3 + 1 ≤ 8 ∧ tkr τ ((gI σ 4 2 - 1).toNat) = 256 * tkr σ ((gI σ 4 2 - 1).toNat) + c) ∨ (s = 2 ∧ 6 < gI σ 4 3 + 1 ∧ tkr τ ((gI σ 4 2 - 1).toNat) = 0) ∨ (s = 2 ∧ gI σ 4 3 + 1 ≤ 6 ∧ tkr τ ((gI σ 4 2 - 1).toNat) = -1 - (10 * (-1 - tkr σ ((gI σ 4 2 - 1).toNat)) + (c - 48))))) := by
  refine Ct.enter rfl (Nat.le_of_ble_eq_true rfl) ?_
  intro κ γ hκ O hrc hrs
  subst hκ
  refine z_aload_n (pc := 0) O dX5_lengthenLast_0 rfl ?_
  refine z_dup (pc := 1) O dX5_lengthenLast_1 rfl ?_
  refine zi_getv (pc := 2) (gI σ 4 3) O fl_X5_60 rfl (jo_4 J) (izg σ 4 3) dX5_lengthenLast_2 ?_
  have := rgI σ 4 3
  refine z_iconst (pc := 5) (v := iz (1)) O dX5_lengthenLast_5 (by decide) ?_
  refine zi_iadd (pc := 6) O dX5_lengthenLast_6 ?_
  refine z_putI (pc := 7) O fl_X5_60 rfl ⟨rfl, rfl⟩ (jo_4 J) dX5_lengthenLast_7 ?_
  refine z_aload_n (pc := 10) O dX5_lengthenLast_10 rfl ?_
  refine zi_getv (pc := 11) ((gI σ 4 3) + 1) O fl_X5_60 rfl (jo_4 J) (hI_at _ _ _ _) dX5_lengthenLast_11 ?_
  refine z_iload_n (pc := 14) O dX5_lengthenLast_14 rfl ?_
  refine z_iconst (pc := 15) (v := iz (1)) O dX5_lengthenLast_15 (by decide) ?_
  refine zi_icmp_ne (pc := 16) (tgt := 24) O dX5_lengthenLast_16 (by decide) (by omega) (by decide) (fun h16 => ?_) (fun h16 => ?_)
  · refine z_bipush (pc := 24) (v := iz (6)) O dX5_lengthenLast_24 (by decide) ?_
    refine zi_icmp_le (pc := 26) (tgt := 36) O dX5_lengthenLast_26 (by decide) (by omega) (by decide) (fun h26 => ?_) (fun h26 => ?_)
    · refine z_aload_n (pc := 36) O dX5_lengthenLast_36 rfl ?_
      refine zi_getv (pc := 37) (gI σ 4 2) O fl_X5_19 rfl (jo_4 J) (sk2t (by decide) (izg σ 4 2)) dX5_lengthenLast_37 ?_
      have := rgI σ 4 2
      refine zi_if_le (pc := 40) (tgt := 100) O dX5_lengthenLast_40 (by decide) (by omega) (fun h40 => ?_) (fun h40 => ?_)
      · refine z_vret (pc := 100) O dX5_lengthenLast_100 ?_
        exfalso; omega
      · refine z_aload_n (pc := 43) O dX5_lengthenLast_43 rfl ?_
        refine z_getR (pc := 44) 5 O fl_X5_9 rfl (jo_4 J) (jr_4_0 J) dX5_lengthenLast_44 ?_
        refine z_aload_n (pc := 47) O dX5_lengthenLast_47 rfl ?_
        refine zi_getv (pc := 48) (gI σ 4 2) O fl_X5_19 rfl (jo_4 J) (sk2t (by decide) (izg σ 4 2)) dX5_lengthenLast_48 ?_
        refine z_iconst (pc := 51) (v := iz (1)) O dX5_lengthenLast_51 (by decide) ?_
        refine zi_isub (pc := 52) O dX5_lengthenLast_52 ?_
        refine zi_lald (pc := 53) (((gI σ 4 2) - 1).toNat) O (Or.inl (ja_5 J)) (by omega) (by omega) (by omega) dX5_lengthenLast_53 ?_
        refine z_topl (pc := 54) (fun w1 ew1 => ?_)
        refine z_lstore_n (pc := 54) [(0, .ref 4), (1, .int (iz s)), (2, .int (iz c)), (3, .long w1)] O dX5_lengthenLast_54 (by decide) rfl ?_
        refine z_aload_n (pc := 55) O dX5_lengthenLast_55 rfl ?_
        refine z_getR (pc := 56) 5 O fl_X5_9 rfl (jo_4 J) (jr_4_0 J) dX5_lengthenLast_56 ?_
        refine z_aload_n (pc := 59) O dX5_lengthenLast_59 rfl ?_
        refine zi_getv (pc := 60) (gI σ 4 2) O fl_X5_19 rfl (jo_4 J) (sk2t (by decide) (izg σ 4 2)) dX5_lengthenLast_60 ?_
        refine z_iconst (pc := 63) (v := iz (1)) O dX5_lengthenLast_63 (by decide) ?_
        refine zi_isub (pc := 64) O dX5_lengthenLast_64 ?_
        refine z_iload_n (pc := 65) O dX5_lengthenLast_65 rfl ?_
        refine z_iconst (pc := 66) (v := iz (1)) O dX5_lengthenLast_66 (by decide) ?_
        refine zi_icmp_ne (pc := 67) (tgt := 80) O dX5_lengthenLast_67 (by decide) (by omega) (by decide) (fun h67 => ?_) (fun h67 => ?_)
        · refine z_lload_n (pc := 80) O dX5_lengthenLast_80 rfl ?_
          refine z_ldc2 (pc := 81) O tw_252 dX5_lengthenLast_81 ?_
          refine z_lxor (pc := 84) O dX5_lengthenLast_84 ?_
          refine z_topl (pc := 85) (fun w2 ew2 => ?_)
          refine z_ldc2 (pc := 85) O tw_253 dX5_lengthenLast_85 ?_
          refine z_lmul (pc := 88) O dX5_lengthenLast_88 ?_
          refine z_topl (pc := 89) (fun w3 ew3 => ?_)
          refine z_iload_n (pc := 89) O dX5_lengthenLast_89 rfl ?_
          refine z_bipush (pc := 90) (v := iz (48)) O dX5_lengthenLast_90 (by decide) ?_
          refine zi_isub (pc := 92) O dX5_lengthenLast_92 ?_
          refine z_i2l (pc := 93) O dX5_lengthenLast_93 ?_
          refine z_topl (pc := 94) (fun w4 ew4 => ?_)
          refine z_ladd (pc := 94) O dX5_lengthenLast_94 ?_
          refine z_topl (pc := 95) (fun w5 ew5 => ?_)
          refine z_ldc2 (pc := 95) O tw_252 dX5_lengthenLast_95 ?_
          refine z_lxor (pc := 98) O dX5_lengthenLast_98 ?_
          refine z_topl (pc := 99) (fun w6 ew6 => ?_)
          refine zi_last (pc := 99) (((gI σ 4 2) - 1).toNat) O (ja_5 J) (by omega) (by omega) (by omega) dX5_lengthenLast_99 ?_
          refine z_vret (pc := 100) O dX5_lengthenLast_100 ?_
          have hv : tkr (sL (sI σ 4 3 (iz ((gI σ 4 3) + 1))) 5 (((gI σ 4 2) - 1).toNat) w6) ((gI σ 4 2 - 1).toNat) = -1 - (10 * (-1 - tkr σ ((gI σ 4 2 - 1).toNat)) + (c - 48)) := by
            show (hL (sL (sI σ 4 3 (iz ((gI σ 4 3) + 1))) 5 (((gI σ 4 2) - 1).toNat) w6) 5 ((gI σ 4 2 - 1).toNat)).toInt = _
            rw [hL_sL, if_pos ⟨rfl, rfl⟩, ew6, ew5, ew3, ew2, ew1, ew4]
            exact dstep (d := -1 - tkr σ ((gI σ 4 2 - 1).toNat)) (by show tkr σ ((gI σ 4 2 - 1).toNat) = _; omega) (by have := hl2 (by omega) (by omega); omega) (by omega)
          exact ⟨rfl, (((Fr.rf [(5, 99999), (4, 3)] σ).pI rfl).pL rfl), (by have : gI (sL (sI σ 4 3 (iz ((gI σ 4 3) + 1))) 5 (((gI σ 4 2) - 1).toNat) w6) 4 3 = (gI σ 4 3) + 1 := gI_iz (skL (hI_at _ _ _ _)) (by omega); omega), (fun j hj => by show (hL (sL (sI σ 4 3 (iz ((gI σ 4 3) + 1))) 5 (((gI σ 4 2) - 1).toNat) w6) 5 j).toInt = _; rw [hL_sL, if_neg (fun e => by omega)]; rfl), (by omega)⟩
        · refine z_lload_n (pc := 70) O dX5_lengthenLast_70 rfl ?_
          refine z_bipush (pc := 71) (v := iz (8)) O dX5_lengthenLast_71 (by decide) ?_
          refine z_lshl (pc := 73) O dX5_lengthenLast_73 ?_
          refine z_topl (pc := 74) (fun w7 ew7 => ?_)
          refine z_iload_n (pc := 74) O dX5_lengthenLast_74 rfl ?_
          refine z_i2l (pc := 75) O dX5_lengthenLast_75 ?_
          refine z_topl (pc := 76) (fun w8 ew8 => ?_)
          refine z_lor (pc := 76) O dX5_lengthenLast_76 ?_
          refine z_topl (pc := 77) (fun w9 ew9 => ?_)
          refine z_goto (pc := 77) (tgt := 99) O dX5_lengthenLast_77 (by decide) ?_
          refine zi_last (pc := 99) (((gI σ 4 2) - 1).toNat) O (ja_5 J) (by omega) (by omega) (by omega) dX5_lengthenLast_99 ?_
          refine z_vret (pc := 100) O dX5_lengthenLast_100 ?_
          have hv : tkr (sL (sI σ 4 3 (iz ((gI σ 4 3) + 1))) 5 (((gI σ 4 2) - 1).toNat) w9) ((gI σ 4 2 - 1).toNat) = 256 * tkr σ ((gI σ 4 2 - 1).toNat) + c := by
            show (hL (sL (sI σ 4 3 (iz ((gI σ 4 3) + 1))) 5 (((gI σ 4 2) - 1).toNat) w9) 5 ((gI σ 4 2 - 1).toNat)).toInt = _
            rw [hL_sL, if_pos ⟨rfl, rfl⟩, ew9, ew7, ew1, ew8]
            exact wstep rfl (hl1 (by omega) (by omega)) (by omega)
          exact ⟨rfl, (((Fr.rf [(5, 99999), (4, 3)] σ).pI rfl).pL rfl), (by have : gI (sL (sI σ 4 3 (iz ((gI σ 4 3) + 1))) 5 (((gI σ 4 2) - 1).toNat) w9) 4 3 = (gI σ 4 3) + 1 := gI_iz (skL (hI_at _ _ _ _)) (by omega); omega), (fun j hj => by show (hL (sL (sI σ 4 3 (iz ((gI σ 4 3) + 1))) 5 (((gI σ 4 2) - 1).toNat) w9) 5 j).toInt = _; rw [hL_sL, if_neg (fun e => by omega)]; rfl), (by omega)⟩
    · refine z_aload_n (pc := 29) O dX5_lengthenLast_29 rfl ?_
      refine z_callV (pc := 30) O cl_X5_27 (k5_spoilLast2 _ _ J (by have : gI (sI σ 4 3 (iz ((gI σ 4 3) + 1))) 4 2 = gI σ 4 2 := gI_iz (sk2t (by decide) (izg σ 4 2)) (rgI _ _ _); omega)) (by decide) (jo_4 J) kc_5 rfl rfl (Nat.le_of_ble_eq_true rfl) ⟨Nat.zero_le _, Nat.zero_le _⟩ dX5_lengthenLast_30 (fun r τ10 hp => ?_)
      obtain ⟨rfl, frτ10, eτ10_0⟩ := hp
      refine z_goto (pc := 33) (tgt := 100) O dX5_lengthenLast_33 (by decide) ?_
      refine z_vret (pc := 100) O dX5_lengthenLast_100 ?_
      have q42 : gI (sI σ 4 3 (iz ((gI σ 4 3) + 1))) 4 2 = gI σ 4 2 := gI_iz (sk2t (by decide) (izg σ 4 2)) (rgI _ _ _)
      have hv := eτ10_0 ((gI σ 4 2 - 1).toNat)
      rw [if_pos (by omega)] at hv
      exact ⟨rfl, (((Fr.rf [(5, 99999), (4, 3)] σ).pI rfl).tr (frτ10.mono (V := [(5, 99999), (4, 3)]) rfl)), (by have : gI τ10 4 3 = (gI σ 4 3) + 1 := gI_iz (Fr.it frτ10 rfl (hI_at _ _ _ _)) (by omega); omega), (fun j hj => by have h9 := eτ10_0 j; rw [if_neg (by omega)] at h9; exact h9), (by omega)⟩
  · refine z_bipush (pc := 19) (v := iz (8)) O dX5_lengthenLast_19 (by decide) ?_
    refine z_goto (pc := 21) (tgt := 26) O dX5_lengthenLast_21 (by decide) ?_
    refine zi_icmp_le (pc := 26) (tgt := 36) O dX5_lengthenLast_26 (by decide) (by omega) (by decide) (fun h26 => ?_) (fun h26 => ?_)
    · refine z_aload_n (pc := 36) O dX5_lengthenLast_36 rfl ?_
      refine zi_getv (pc := 37) (gI σ 4 2) O fl_X5_19 rfl (jo_4 J) (sk2t (by decide) (izg σ 4 2)) dX5_lengthenLast_37 ?_
      have := rgI σ 4 2
      refine zi_if_le (pc := 40) (tgt := 100) O dX5_lengthenLast_40 (by decide) (by omega) (fun h40 => ?_) (fun h40 => ?_)
      · refine z_vret (pc := 100) O dX5_lengthenLast_100 ?_
        exfalso; omega
      · refine z_aload_n (pc := 43) O dX5_lengthenLast_43 rfl ?_
        refine z_getR (pc := 44) 5 O fl_X5_9 rfl (jo_4 J) (jr_4_0 J) dX5_lengthenLast_44 ?_
        refine z_aload_n (pc := 47) O dX5_lengthenLast_47 rfl ?_
        refine zi_getv (pc := 48) (gI σ 4 2) O fl_X5_19 rfl (jo_4 J) (sk2t (by decide) (izg σ 4 2)) dX5_lengthenLast_48 ?_
        refine z_iconst (pc := 51) (v := iz (1)) O dX5_lengthenLast_51 (by decide) ?_
        refine zi_isub (pc := 52) O dX5_lengthenLast_52 ?_
        refine zi_lald (pc := 53) (((gI σ 4 2) - 1).toNat) O (Or.inl (ja_5 J)) (by omega) (by omega) (by omega) dX5_lengthenLast_53 ?_
        refine z_topl (pc := 54) (fun w12 ew12 => ?_)
        refine z_lstore_n (pc := 54) [(0, .ref 4), (1, .int (iz s)), (2, .int (iz c)), (3, .long w12)] O dX5_lengthenLast_54 (by decide) rfl ?_
        refine z_aload_n (pc := 55) O dX5_lengthenLast_55 rfl ?_
        refine z_getR (pc := 56) 5 O fl_X5_9 rfl (jo_4 J) (jr_4_0 J) dX5_lengthenLast_56 ?_
        refine z_aload_n (pc := 59) O dX5_lengthenLast_59 rfl ?_
        refine zi_getv (pc := 60) (gI σ 4 2) O fl_X5_19 rfl (jo_4 J) (sk2t (by decide) (izg σ 4 2)) dX5_lengthenLast_60 ?_
        refine z_iconst (pc := 63) (v := iz (1)) O dX5_lengthenLast_63 (by decide) ?_
        refine zi_isub (pc := 64) O dX5_lengthenLast_64 ?_
        refine z_iload_n (pc := 65) O dX5_lengthenLast_65 rfl ?_
        refine z_iconst (pc := 66) (v := iz (1)) O dX5_lengthenLast_66 (by decide) ?_
        refine zi_icmp_ne (pc := 67) (tgt := 80) O dX5_lengthenLast_67 (by decide) (by omega) (by decide) (fun h67 => ?_) (fun h67 => ?_)
        · refine z_lload_n (pc := 80) O dX5_lengthenLast_80 rfl ?_
          refine z_ldc2 (pc := 81) O tw_252 dX5_lengthenLast_81 ?_
          refine z_lxor (pc := 84) O dX5_lengthenLast_84 ?_
          refine z_topl (pc := 85) (fun w13 ew13 => ?_)
          refine z_ldc2 (pc := 85) O tw_253 dX5_lengthenLast_85 ?_
          refine z_lmul (pc := 88) O dX5_lengthenLast_88 ?_
          refine z_topl (pc := 89) (fun w14 ew14 => ?_)
          refine z_iload_n (pc := 89) O dX5_lengthenLast_89 rfl ?_
          refine z_bipush (pc := 90) (v := iz (48)) O dX5_lengthenLast_90 (by decide) ?_
          refine zi_isub (pc := 92) O dX5_lengthenLast_92 ?_
          refine z_i2l (pc := 93) O dX5_lengthenLast_93 ?_
          refine z_topl (pc := 94) (fun w15 ew15 => ?_)
          refine z_ladd (pc := 94) O dX5_lengthenLast_94 ?_
          refine z_topl (pc := 95) (fun w16 ew16 => ?_)
          refine z_ldc2 (pc := 95) O tw_252 dX5_lengthenLast_95 ?_
          refine z_lxor (pc := 98) O dX5_lengthenLast_98 ?_
          refine z_topl (pc := 99) (fun w17 ew17 => ?_)
          refine zi_last (pc := 99) (((gI σ 4 2) - 1).toNat) O (ja_5 J) (by omega) (by omega) (by omega) dX5_lengthenLast_99 ?_
          refine z_vret (pc := 100) O dX5_lengthenLast_100 ?_
          have hv : tkr (sL (sI σ 4 3 (iz ((gI σ 4 3) + 1))) 5 (((gI σ 4 2) - 1).toNat) w17) ((gI σ 4 2 - 1).toNat) = -1 - (10 * (-1 - tkr σ ((gI σ 4 2 - 1).toNat)) + (c - 48)) := by
            show (hL (sL (sI σ 4 3 (iz ((gI σ 4 3) + 1))) 5 (((gI σ 4 2) - 1).toNat) w17) 5 ((gI σ 4 2 - 1).toNat)).toInt = _
            rw [hL_sL, if_pos ⟨rfl, rfl⟩, ew17, ew16, ew14, ew13, ew12, ew15]
            exact dstep (d := -1 - tkr σ ((gI σ 4 2 - 1).toNat)) (by show tkr σ ((gI σ 4 2 - 1).toNat) = _; omega) (by have := hl2 (by omega) (by omega); omega) (by omega)
          exact ⟨rfl, (((Fr.rf [(5, 99999), (4, 3)] σ).pI rfl).pL rfl), (by have : gI (sL (sI σ 4 3 (iz ((gI σ 4 3) + 1))) 5 (((gI σ 4 2) - 1).toNat) w17) 4 3 = (gI σ 4 3) + 1 := gI_iz (skL (hI_at _ _ _ _)) (by omega); omega), (fun j hj => by show (hL (sL (sI σ 4 3 (iz ((gI σ 4 3) + 1))) 5 (((gI σ 4 2) - 1).toNat) w17) 5 j).toInt = _; rw [hL_sL, if_neg (fun e => by omega)]; rfl), (by omega)⟩
        · refine z_lload_n (pc := 70) O dX5_lengthenLast_70 rfl ?_
          refine z_bipush (pc := 71) (v := iz (8)) O dX5_lengthenLast_71 (by decide) ?_
          refine z_lshl (pc := 73) O dX5_lengthenLast_73 ?_
          refine z_topl (pc := 74) (fun w18 ew18 => ?_)
          refine z_iload_n (pc := 74) O dX5_lengthenLast_74 rfl ?_
          refine z_i2l (pc := 75) O dX5_lengthenLast_75 ?_
          refine z_topl (pc := 76) (fun w19 ew19 => ?_)
          refine z_lor (pc := 76) O dX5_lengthenLast_76 ?_
          refine z_topl (pc := 77) (fun w20 ew20 => ?_)
          refine z_goto (pc := 77) (tgt := 99) O dX5_lengthenLast_77 (by decide) ?_
          refine zi_last (pc := 99) (((gI σ 4 2) - 1).toNat) O (ja_5 J) (by omega) (by omega) (by omega) dX5_lengthenLast_99 ?_
          refine z_vret (pc := 100) O dX5_lengthenLast_100 ?_
          have hv : tkr (sL (sI σ 4 3 (iz ((gI σ 4 3) + 1))) 5 (((gI σ 4 2) - 1).toNat) w20) ((gI σ 4 2 - 1).toNat) = 256 * tkr σ ((gI σ 4 2 - 1).toNat) + c := by
            show (hL (sL (sI σ 4 3 (iz ((gI σ 4 3) + 1))) 5 (((gI σ 4 2) - 1).toNat) w20) 5 ((gI σ 4 2 - 1).toNat)).toInt = _
            rw [hL_sL, if_pos ⟨rfl, rfl⟩, ew20, ew18, ew12, ew19]
            exact wstep rfl (hl1 (by omega) (by omega)) (by omega)
          exact ⟨rfl, (((Fr.rf [(5, 99999), (4, 3)] σ).pI rfl).pL rfl), (by have : gI (sL (sI σ 4 3 (iz ((gI σ 4 3) + 1))) 5 (((gI σ 4 2) - 1).toNat) w20) 4 3 = (gI σ 4 3) + 1 := gI_iz (skL (hI_at _ _ _ _)) (by omega); omega), (fun j hj => by show (hL (sL (sI σ 4 3 (iz ((gI σ 4 3) + 1))) 5 (((gI σ 4 2) - 1).toNat) w20) 5 j).toInt = _; rw [hL_sL, if_neg (fun e => by omega)]; rfl), (by omega)⟩
    · refine z_aload_n (pc := 29) O dX5_lengthenLast_29 rfl ?_
      refine z_callV (pc := 30) O cl_X5_27 (k5_spoilLast2 _ _ J (by have : gI (sI σ 4 3 (iz ((gI σ 4 3) + 1))) 4 2 = gI σ 4 2 := gI_iz (sk2t (by decide) (izg σ 4 2)) (rgI _ _ _); omega)) (by decide) (jo_4 J) kc_5 rfl rfl (Nat.le_of_ble_eq_true rfl) ⟨Nat.zero_le _, Nat.zero_le _⟩ dX5_lengthenLast_30 (fun r τ21 hp => ?_)
      obtain ⟨rfl, frτ21, eτ21_0⟩ := hp
      refine z_goto (pc := 33) (tgt := 100) O dX5_lengthenLast_33 (by decide) ?_
      refine z_vret (pc := 100) O dX5_lengthenLast_100 ?_
      have q42 : gI (sI σ 4 3 (iz ((gI σ 4 3) + 1))) 4 2 = gI σ 4 2 := gI_iz (sk2t (by decide) (izg σ 4 2)) (rgI _ _ _)
      have hv := eτ21_0 ((gI σ 4 2 - 1).toNat)
      rw [if_pos (by omega)] at hv
      exact ⟨rfl, (((Fr.rf [(5, 99999), (4, 3)] σ).pI rfl).tr (frτ21.mono (V := [(5, 99999), (4, 3)]) rfl)), (by have : gI τ21 4 3 = (gI σ 4 3) + 1 := gI_iz (Fr.it frτ21 rfl (hI_at _ _ _ _)) (by omega); omega), (fun j hj => by have h9 := eτ21_0 j; rw [if_neg (by omega)] at h9; exact h9), (by omega)⟩
