set_option maxHeartbeats 4000000 in
set_option maxRecDepth 20000 in
theorem k5_sortOf (l : Launch) (σ : VH) (c : Int) (rc : (-2147483648 ≤ c ∧ c < 2147483648)) : Ct l yX5_sortOf cX5_sortOf 1 (some .int) 1 0 0 [.int (iz c)] σ (fun r τ => ∃ z : Int, r = some (.int (iz z)) ∧ (-2147483648 ≤ z ∧ z < 2147483648) ∧ (1 ≤ z ∧ z ≤ 5) ∧ (σ = τ)) := by
  refine Ct.enter rfl (Nat.le_of_ble_eq_true rfl) ?_
  intro κ γ hκ O hrc hrs
  subst hκ
  refine z_iload_n (pc := 0) O dX5_sortOf_0 rfl ?_
  refine z_callSN (pc := 1) O cl_X5_42 (k8_isLetter _ _ c (by omega)) (by decide) rfl rfl (Nat.le_of_ble_eq_true rfl) ⟨Nat.zero_le _, Nat.zero_le _⟩ dX5_sortOf_1 (fun r τ1 hp => ?_)
  obtain ⟨z2, rfl, fτ1_0, fτ1_1, rfl⟩ := hp
  refine zi_if_eq (pc := 4) (tgt := 9) O dX5_sortOf_4 (by decide) (by omega) (fun h4 => ?_) (fun h4 => ?_)
  · refine z_iload_n (pc := 9) O dX5_sortOf_9 rfl ?_
    refine z_bipush (pc := 10) (v := iz (48)) O dX5_sortOf_10 (by decide) ?_
    refine zi_icmp_lt (pc := 12) (tgt := 23) O dX5_sortOf_12 (by decide) (by omega) (by decide) (fun h12 => ?_) (fun h12 => ?_)
    · refine z_iload_n (pc := 23) O dX5_sortOf_23 rfl ?_
      refine z_i2l (pc := 24) O dX5_sortOf_24 ?_
      refine z_topl (pc := 25) (fun w3 ew3 => ?_)
      refine z_ldc2 (pc := 25) O tw_238 dX5_sortOf_25 ?_
      refine z_lcmp (pc := 28) O dX5_sortOf_28 ?_
      refine zi_lc_eq (pc := 29) (tgt := 77) O dX5_sortOf_29 (by decide) (fun h29 => ?_) (fun h29 => ?_)
      · refine z_iconst (pc := 77) (v := iz (3)) O dX5_sortOf_77 (by decide) ?_
        refine z_iret (pc := 78) O dX5_sortOf_78 ?_
        exact ⟨3, rfl, (by decide), (by omega), rfl⟩
      · refine z_iload_n (pc := 32) O dX5_sortOf_32 rfl ?_
        refine z_i2l (pc := 33) O dX5_sortOf_33 ?_
        refine z_topl (pc := 34) (fun w4 ew4 => ?_)
        refine z_ldc2 (pc := 34) O tw_239 dX5_sortOf_34 ?_
        refine z_lcmp (pc := 37) O dX5_sortOf_37 ?_
        refine zi_lc_eq (pc := 38) (tgt := 77) O dX5_sortOf_38 (by decide) (fun h38 => ?_) (fun h38 => ?_)
        · refine z_iconst (pc := 77) (v := iz (3)) O dX5_sortOf_77 (by decide) ?_
          refine z_iret (pc := 78) O dX5_sortOf_78 ?_
          exact ⟨3, rfl, (by decide), (by omega), rfl⟩
        · refine z_iload_n (pc := 41) O dX5_sortOf_41 rfl ?_
          refine z_i2l (pc := 42) O dX5_sortOf_42 ?_
          refine z_topl (pc := 43) (fun w5 ew5 => ?_)
          refine z_ldc2 (pc := 43) O tw_240 dX5_sortOf_43 ?_
          refine z_lcmp (pc := 46) O dX5_sortOf_46 ?_
          refine zi_lc_eq (pc := 47) (tgt := 77) O dX5_sortOf_47 (by decide) (fun h47 => ?_) (fun h47 => ?_)
          · refine z_iconst (pc := 77) (v := iz (3)) O dX5_sortOf_77 (by decide) ?_
            refine z_iret (pc := 78) O dX5_sortOf_78 ?_
            exact ⟨3, rfl, (by decide), (by omega), rfl⟩
          · refine z_iload_n (pc := 50) O dX5_sortOf_50 rfl ?_
            refine z_i2l (pc := 51) O dX5_sortOf_51 ?_
            refine z_topl (pc := 52) (fun w6 ew6 => ?_)
            refine z_ldc2 (pc := 52) O tw_241 dX5_sortOf_52 ?_
            refine z_lcmp (pc := 55) O dX5_sortOf_55 ?_
            refine zi_lc_eq (pc := 56) (tgt := 77) O dX5_sortOf_56 (by decide) (fun h56 => ?_) (fun h56 => ?_)
            · refine z_iconst (pc := 77) (v := iz (3)) O dX5_sortOf_77 (by decide) ?_
              refine z_iret (pc := 78) O dX5_sortOf_78 ?_
              exact ⟨3, rfl, (by decide), (by omega), rfl⟩
            · refine z_iload_n (pc := 59) O dX5_sortOf_59 rfl ?_
              refine z_i2l (pc := 60) O dX5_sortOf_60 ?_
              refine z_topl (pc := 61) (fun w7 ew7 => ?_)
              refine z_ldc2 (pc := 61) O tw_242 dX5_sortOf_61 ?_
              refine z_lcmp (pc := 64) O dX5_sortOf_64 ?_
              refine zi_lc_eq (pc := 65) (tgt := 77) O dX5_sortOf_65 (by decide) (fun h65 => ?_) (fun h65 => ?_)
              · refine z_iconst (pc := 77) (v := iz (3)) O dX5_sortOf_77 (by decide) ?_
                refine z_iret (pc := 78) O dX5_sortOf_78 ?_
                exact ⟨3, rfl, (by decide), (by omega), rfl⟩
              · refine z_iload_n (pc := 68) O dX5_sortOf_68 rfl ?_
                refine z_i2l (pc := 69) O dX5_sortOf_69 ?_
                refine z_topl (pc := 70) (fun w8 ew8 => ?_)
                refine z_ldc2 (pc := 70) O tw_243 dX5_sortOf_70 ?_
                refine z_lcmp (pc := 73) O dX5_sortOf_73 ?_
                refine zi_lc_ne (pc := 74) (tgt := 79) O dX5_sortOf_74 (by decide) (fun h74 => ?_) (fun h74 => ?_)
                · refine z_iload_n (pc := 79) O dX5_sortOf_79 rfl ?_
                  refine z_bipush (pc := 80) (v := iz (32)) O dX5_sortOf_80 (by decide) ?_
                  refine zi_icmp_eq (pc := 82) (tgt := 91) O dX5_sortOf_82 (by decide) (by omega) (by decide) (fun h82 => ?_) (fun h82 => ?_)
                  · refine z_iconst (pc := 91) (v := iz (4)) O dX5_sortOf_91 (by decide) ?_
                    refine z_goto (pc := 92) (tgt := 96) O dX5_sortOf_92 (by decide) ?_
                    refine z_iret (pc := 96) O dX5_sortOf_96 ?_
                    exact ⟨4, rfl, (by decide), (by omega), rfl⟩
                  · refine z_iload_n (pc := 85) O dX5_sortOf_85 rfl ?_
                    refine z_bipush (pc := 86) (v := iz (10)) O dX5_sortOf_86 (by decide) ?_
                    refine zi_icmp_ne (pc := 88) (tgt := 95) O dX5_sortOf_88 (by decide) (by omega) (by decide) (fun h88 => ?_) (fun h88 => ?_)
                    · refine z_iconst (pc := 95) (v := iz (5)) O dX5_sortOf_95 (by decide) ?_
                      refine z_iret (pc := 96) O dX5_sortOf_96 ?_
                      exact ⟨5, rfl, (by decide), (by omega), rfl⟩
                    · refine z_iconst (pc := 91) (v := iz (4)) O dX5_sortOf_91 (by decide) ?_
                      refine z_goto (pc := 92) (tgt := 96) O dX5_sortOf_92 (by decide) ?_
                      refine z_iret (pc := 96) O dX5_sortOf_96 ?_
                      exact ⟨4, rfl, (by decide), (by omega), rfl⟩
                · refine z_iconst (pc := 77) (v := iz (3)) O dX5_sortOf_77 (by decide) ?_
                  refine z_iret (pc := 78) O dX5_sortOf_78 ?_
                  exact ⟨3, rfl, (by decide), (by omega), rfl⟩
    · refine z_iload_n (pc := 15) O dX5_sortOf_15 rfl ?_
      refine z_bipush (pc := 16) (v := iz (57)) O dX5_sortOf_16 (by decide) ?_
      refine zi_icmp_gt (pc := 18) (tgt := 23) O dX5_sortOf_18 (by decide) (by omega) (by decide) (fun h18 => ?_) (fun h18 => ?_)
      · refine z_iload_n (pc := 23) O dX5_sortOf_23 rfl ?_
        refine z_i2l (pc := 24) O dX5_sortOf_24 ?_
        refine z_topl (pc := 25) (fun w9 ew9 => ?_)
        refine z_ldc2 (pc := 25) O tw_238 dX5_sortOf_25 ?_
        refine z_lcmp (pc := 28) O dX5_sortOf_28 ?_
        refine zi_lc_eq (pc := 29) (tgt := 77) O dX5_sortOf_29 (by decide) (fun h29 => ?_) (fun h29 => ?_)
        · refine z_iconst (pc := 77) (v := iz (3)) O dX5_sortOf_77 (by decide) ?_
          refine z_iret (pc := 78) O dX5_sortOf_78 ?_
          exact ⟨3, rfl, (by decide), (by omega), rfl⟩
        · refine z_iload_n (pc := 32) O dX5_sortOf_32 rfl ?_
          refine z_i2l (pc := 33) O dX5_sortOf_33 ?_
          refine z_topl (pc := 34) (fun w10 ew10 => ?_)
          refine z_ldc2 (pc := 34) O tw_239 dX5_sortOf_34 ?_
          refine z_lcmp (pc := 37) O dX5_sortOf_37 ?_
          refine zi_lc_eq (pc := 38) (tgt := 77) O dX5_sortOf_38 (by decide) (fun h38 => ?_) (fun h38 => ?_)
          · refine z_iconst (pc := 77) (v := iz (3)) O dX5_sortOf_77 (by decide) ?_
            refine z_iret (pc := 78) O dX5_sortOf_78 ?_
            exact ⟨3, rfl, (by decide), (by omega), rfl⟩
          · refine z_iload_n (pc := 41) O dX5_sortOf_41 rfl ?_
            refine z_i2l (pc := 42) O dX5_sortOf_42 ?_
            refine z_topl (pc := 43) (fun w11 ew11 => ?_)
            refine z_ldc2 (pc := 43) O tw_240 dX5_sortOf_43 ?_
            refine z_lcmp (pc := 46) O dX5_sortOf_46 ?_
            refine zi_lc_eq (pc := 47) (tgt := 77) O dX5_sortOf_47 (by decide) (fun h47 => ?_) (fun h47 => ?_)
            · refine z_iconst (pc := 77) (v := iz (3)) O dX5_sortOf_77 (by decide) ?_
              refine z_iret (pc := 78) O dX5_sortOf_78 ?_
              exact ⟨3, rfl, (by decide), (by omega), rfl⟩
            · refine z_iload_n (pc := 50) O dX5_sortOf_50 rfl ?_
              refine z_i2l (pc := 51) O dX5_sortOf_51 ?_
              refine z_topl (pc := 52) (fun w12 ew12 => ?_)
              refine z_ldc2 (pc := 52) O tw_241 dX5_sortOf_52 ?_
              refine z_lcmp (pc := 55) O dX5_sortOf_55 ?_
              refine zi_lc_eq (pc := 56) (tgt := 77) O dX5_sortOf_56 (by decide) (fun h56 => ?_) (fun h56 => ?_)
              · refine z_iconst (pc := 77) (v := iz (3)) O dX5_sortOf_77 (by decide) ?_
                refine z_iret (pc := 78) O dX5_sortOf_78 ?_
                exact ⟨3, rfl, (by decide), (by omega), rfl⟩
              · refine z_iload_n (pc := 59) O dX5_sortOf_59 rfl ?_
                refine z_i2l (pc := 60) O dX5_sortOf_60 ?_
                refine z_topl (pc := 61) (fun w13 ew13 => ?_)
                refine z_ldc2 (pc := 61) O tw_242 dX5_sortOf_61 ?_
                refine z_lcmp (pc := 64) O dX5_sortOf_64 ?_
                refine zi_lc_eq (pc := 65) (tgt := 77) O dX5_sortOf_65 (by decide) (fun h65 => ?_) (fun h65 => ?_)
                · refine z_iconst (pc := 77) (v := iz (3)) O dX5_sortOf_77 (by decide) ?_
                  refine z_iret (pc := 78) O dX5_sortOf_78 ?_
                  exact ⟨3, rfl, (by decide), (by omega), rfl⟩
                · refine z_iload_n (pc := 68) O dX5_sortOf_68 rfl ?_
                  refine z_i2l (pc := 69) O dX5_sortOf_69 ?_
                  refine z_topl (pc := 70) (fun w14 ew14 => ?_)
                  refine z_ldc2 (pc := 70) O tw_243 dX5_sortOf_70 ?_
                  refine z_lcmp (pc := 73) O dX5_sortOf_73 ?_
                  refine zi_lc_ne (pc := 74) (tgt := 79) O dX5_sortOf_74 (by decide) (fun h74 => ?_) (fun h74 => ?_)
                  · refine z_iload_n (pc := 79) O dX5_sortOf_79 rfl ?_
                    refine z_bipush (pc := 80) (v := iz (32)) O dX5_sortOf_80 (by decide) ?_
                    refine zi_icmp_eq (pc := 82) (tgt := 91) O dX5_sortOf_82 (by decide) (by omega) (by decide) (fun h82 => ?_) (fun h82 => ?_)
                    · refine z_iconst (pc := 91) (v := iz (4)) O dX5_sortOf_91 (by decide) ?_
                      refine z_goto (pc := 92) (tgt := 96) O dX5_sortOf_92 (by decide) ?_
                      refine z_iret (pc := 96) O dX5_sortOf_96 ?_
                      exact ⟨4, rfl, (by decide), (by omega), rfl⟩
                    · refine z_iload_n (pc := 85) O dX5_sortOf_85 rfl ?_
                      refine z_bipush (pc := 86) (v := iz (10)) O dX5_sortOf_86 (by decide) ?_
                      refine zi_icmp_ne (pc := 88) (tgt := 95) O dX5_sortOf_88 (by decide) (by omega) (by decide) (fun h88 => ?_) (fun h88 => ?_)
                      · refine z_iconst (pc := 95) (v := iz (5)) O dX5_sortOf_95 (by decide) ?_
                        refine z_iret (pc := 96) O dX5_sortOf_96 ?_
                        exact ⟨5, rfl, (by decide), (by omega), rfl⟩
                      · refine z_iconst (pc := 91) (v := iz (4)) O dX5_sortOf_91 (by decide) ?_
                        refine z_goto (pc := 92) (tgt := 96) O dX5_sortOf_92 (by decide) ?_
                        refine z_iret (pc := 96) O dX5_sortOf_96 ?_
                        exact ⟨4, rfl, (by decide), (by omega), rfl⟩
                  · refine z_iconst (pc := 77) (v := iz (3)) O dX5_sortOf_77 (by decide) ?_
                    refine z_iret (pc := 78) O dX5_sortOf_78 ?_
                    exact ⟨3, rfl, (by decide), (by omega), rfl⟩
      · refine z_iconst (pc := 21) (v := iz (2)) O dX5_sortOf_21 (by decide) ?_
        refine z_iret (pc := 22) O dX5_sortOf_22 ?_
        exact ⟨2, rfl, (by decide), (by omega), rfl⟩
  · refine z_iconst (pc := 7) (v := iz (1)) O dX5_sortOf_7 (by decide) ?_
    refine z_iret (pc := 8) O dX5_sortOf_8 ?_
    exact ⟨1, rfl, (by decide), (by omega), rfl⟩
set_option maxHeartbeats 4000000 in
set_option maxRecDepth 20000 in
theorem k5_firstOf (l : Launch) (σ : VH) (s : Int) (rs : (-2147483648 ≤ s ∧ s < 2147483648)) (c : Int) (rc : (-2147483648 ≤ c ∧ c < 2147483648)) : Ct l yX5_firstOf cX5_firstOf 2 (some .long) 0 0 0 [.int (iz s), .int (iz c)] σ (fun r τ => ∃ z : Int64, r = some (.long z) ∧ (σ = τ)) := by
  refine Ct.enter rfl (Nat.le_of_ble_eq_true rfl) ?_
  intro κ γ hκ O hrc hrs
  subst hκ
  refine z_iload_n (pc := 0) O dX5_firstOf_0 rfl ?_
  refine z_iconst (pc := 1) (v := iz (5)) O dX5_firstOf_1 (by decide) ?_
  refine zi_icmp_ne (pc := 2) (tgt := 7) O dX5_firstOf_2 (by decide) (by omega) (by decide) (fun h2 => ?_) (fun h2 => ?_)
  · refine z_iload_n (pc := 7) O dX5_firstOf_7 rfl ?_
    refine z_iconst (pc := 8) (v := iz (2)) O dX5_firstOf_8 (by decide) ?_
    refine zi_icmp_ne (pc := 9) (tgt := 24) O dX5_firstOf_9 (by decide) (by omega) (by decide) (fun h9 => ?_) (fun h9 => ?_)
    · refine z_iload_n (pc := 24) O dX5_firstOf_24 rfl ?_
      refine z_i2l (pc := 25) O dX5_firstOf_25 ?_
      refine z_topl (pc := 26) (fun w1 ew1 => ?_)
      refine z_lret (pc := 26) O dX5_firstOf_26 ?_
      exact ⟨w1, rfl, rfl⟩
    · refine z_iload_n (pc := 12) O dX5_firstOf_12 rfl ?_
      refine z_bipush (pc := 13) (v := iz (48)) O dX5_firstOf_13 (by decide) ?_
      refine zi_isub (pc := 15) O dX5_firstOf_15 ?_
      refine z_i2l (pc := 16) O dX5_firstOf_16 ?_
      refine z_topl (pc := 17) (fun w2 ew2 => ?_)
      refine z_ldc2 (pc := 17) O tw_252 dX5_firstOf_17 ?_
      refine z_lxor (pc := 20) O dX5_firstOf_20 ?_
      refine z_topl (pc := 21) (fun w3 ew3 => ?_)
      refine z_goto (pc := 21) (tgt := 26) O dX5_firstOf_21 (by decide) ?_
      refine z_lret (pc := 26) O dX5_firstOf_26 ?_
      exact ⟨w3, rfl, rfl⟩
  · refine z_lconst (pc := 5) (v := 0) O dX5_firstOf_5 (by decide) ?_
    refine z_lret (pc := 6) O dX5_firstOf_6 ?_
    exact ⟨0, rfl, rfl⟩
set_option maxHeartbeats 4000000 in
set_option maxRecDepth 20000 in
theorem k5_begin (l : Launch) (σ : VH) (v : Int64) (k : Int) (rk : (-2147483648 ≤ k ∧ k < 2147483648)) (J : Lay σ) (hct : 0 ≤ gI σ 4 2 ∧ gI σ 4 2 ≤ 701) : Ct l yX5_begin cX5_begin 4 none 0 0 0 [.ref 4, .long v, .int (iz k)] σ (fun r τ => r = none ∧ (Fr [(5, 99999), (6, 99999), (4, 2), (4, 3)] σ τ) ∧ ((gI σ 4 2 < 701 ∧ gI τ 4 2 = gI σ 4 2 + 1) ∨ (gI σ 4 2 = 701 ∧ gI τ 4 2 = 701))) := by
  refine Ct.enter rfl (Nat.le_of_ble_eq_true rfl) ?_
  intro κ γ hκ O hrc hrs
  subst hκ
  refine z_aload_n (pc := 0) O dX5_begin_0 rfl ?_
  refine zi_getv (pc := 1) (gI σ 4 2) O fl_X5_19 rfl (jo_4 J) (izg σ 4 2) dX5_begin_1 ?_
  have := rgI σ 4 2
  refine z_aload_n (pc := 4) O dX5_begin_4 rfl ?_
  refine z_getR (pc := 5) 5 O fl_X5_9 rfl (jo_4 J) (jr_4_0 J) dX5_begin_5 ?_
  refine z_alenL (pc := 8) (n := iz 701) O (Or.inl (ja_5 J)) (by decide) dX5_begin_8 ?_
  refine zi_icmp_ge (pc := 9) (tgt := 47) O dX5_begin_9 (by decide) (by omega) (by decide) (fun h9 => ?_) (fun h9 => ?_)
  · refine z_vret (pc := 47) O dX5_begin_47 ?_
    exact ⟨rfl, (Fr.rf [(5, 99999), (6, 99999), (4, 2), (4, 3)] σ), (by omega)⟩
  · refine z_aload_n (pc := 12) O dX5_begin_12 rfl ?_
    refine z_getR (pc := 13) 5 O fl_X5_9 rfl (jo_4 J) (jr_4_0 J) dX5_begin_13 ?_
    refine z_aload_n (pc := 16) O dX5_begin_16 rfl ?_
    refine zi_getv (pc := 17) (gI σ 4 2) O fl_X5_19 rfl (jo_4 J) (izg σ 4 2) dX5_begin_17 ?_
    refine z_lload_n (pc := 20) O dX5_begin_20 rfl ?_
    refine zi_last (pc := 21) ((gI σ 4 2).toNat) O (ja_5 J) (by omega) (by omega) (by omega) dX5_begin_21 ?_
    refine z_aload_n (pc := 22) O dX5_begin_22 rfl ?_
    refine z_getR (pc := 23) 6 O fl_X5_15 rfl (jo_4 J) (jr_4_1 J) dX5_begin_23 ?_
    refine z_aload_n (pc := 26) O dX5_begin_26 rfl ?_
    refine zi_getv (pc := 27) (gI σ 4 2) O fl_X5_19 rfl (jo_4 J) (skL (izg σ 4 2)) dX5_begin_27 ?_
    refine z_iload_n (pc := 30) O dX5_begin_30 rfl ?_
    refine zi_iast (pc := 31) ((gI σ 4 2).toNat) O (ja_6 J) (by omega) (by omega) (by omega) dX5_begin_31 ?_
    refine z_aload_n (pc := 32) O dX5_begin_32 rfl ?_
    refine z_dup (pc := 33) O dX5_begin_33 rfl ?_
    refine zi_getv (pc := 34) (gI σ 4 2) O fl_X5_19 rfl (jo_4 J) (sk1t (by decide) (skL (izg σ 4 2))) dX5_begin_34 ?_
    refine z_iconst (pc := 37) (v := iz (1)) O dX5_begin_37 (by decide) ?_
    refine zi_iadd (pc := 38) O dX5_begin_38 ?_
    refine z_putI (pc := 39) O fl_X5_19 rfl ⟨rfl, rfl⟩ (jo_4 J) dX5_begin_39 ?_
    refine z_aload_n (pc := 42) O dX5_begin_42 rfl ?_
    refine z_iconst (pc := 43) (v := iz (1)) O dX5_begin_43 (by decide) ?_
    refine z_putI (pc := 44) O fl_X5_60 rfl ⟨rfl, rfl⟩ (jo_4 J) dX5_begin_44 ?_
    refine z_vret (pc := 47) O dX5_begin_47 ?_
    exact ⟨rfl, (((((Fr.rf [(5, 99999), (6, 99999), (4, 2), (4, 3)] σ).pL rfl).pI rfl).pI rfl).pI rfl), (by have : gI (sI (sI (sI (sL σ 5 ((gI σ 4 2).toNat) v) 6 ((gI σ 4 2).toNat) (iz k)) 4 2 (iz ((gI σ 4 2) + 1))) 4 3 (iz 1)) 4 2 = (gI σ 4 2) + 1 := gI_iz (sk2t (by decide) (hI_at _ _ _ _)) (by omega); omega)⟩
set_option maxHeartbeats 4000000 in
set_option maxRecDepth 20000 in
theorem k5_spoilLast (l : Launch) (σ : VH) (J : Lay σ) (hct : 0 ≤ gI σ 4 2 ∧ gI σ 4 2 ≤ 701) : Ct l yX5_spoilLast cX5_spoilLast 1 none 0 0 0 [.ref 4] σ (fun r τ => r = none ∧ (Fr [(5, 99999)] σ τ)) := by
  refine Ct.enter rfl (Nat.le_of_ble_eq_true rfl) ?_
  intro κ γ hκ O hrc hrs
  subst hκ
  refine z_aload_n (pc := 0) O dX5_spoilLast_0 rfl ?_
  refine zi_getv (pc := 1) (gI σ 4 2) O fl_X5_19 rfl (jo_4 J) (izg σ 4 2) dX5_spoilLast_1 ?_
  have := rgI σ 4 2
  refine zi_if_le (pc := 4) (tgt := 19) O dX5_spoilLast_4 (by decide) (by omega) (fun h4 => ?_) (fun h4 => ?_)
  · refine z_vret (pc := 19) O dX5_spoilLast_19 ?_
    exact ⟨rfl, (Fr.rf [(5, 99999)] σ)⟩
  · refine z_aload_n (pc := 7) O dX5_spoilLast_7 rfl ?_
    refine z_getR (pc := 8) 5 O fl_X5_9 rfl (jo_4 J) (jr_4_0 J) dX5_spoilLast_8 ?_
    refine z_aload_n (pc := 11) O dX5_spoilLast_11 rfl ?_
    refine zi_getv (pc := 12) (gI σ 4 2) O fl_X5_19 rfl (jo_4 J) (izg σ 4 2) dX5_spoilLast_12 ?_
    refine z_iconst (pc := 15) (v := iz (1)) O dX5_spoilLast_15 (by decide) ?_
    refine zi_isub (pc := 16) O dX5_spoilLast_16 ?_
    refine z_lconst (pc := 17) (v := 0) O dX5_spoilLast_17 (by decide) ?_
    refine zi_last (pc := 18) (((gI σ 4 2) - 1).toNat) O (ja_5 J) (by omega) (by omega) (by omega) dX5_spoilLast_18 ?_
    refine z_vret (pc := 19) O dX5_spoilLast_19 ?_
    exact ⟨rfl, ((Fr.rf [(5, 99999)] σ).pL rfl)⟩
set_option maxHeartbeats 4000000 in
set_option maxRecDepth 20000 in
theorem k5_lengthenLast (l : Launch) (σ : VH) (s : Int) (rs : (-2147483648 ≤ s ∧ s < 2147483648)) (c : Int) (rc : (-2147483648 ≤ c ∧ c < 2147483648)) (J : Lay σ) (hct : 0 ≤ gI σ 4 2 ∧ gI σ 4 2 ≤ 701) : Ct l yX5_lengthenLast cX5_lengthenLast 5 none 1 0 0 [.ref 4, .int (iz s), .int (iz c)] σ (fun r τ => r = none ∧ (Fr [(5, 99999), (4, 3)] σ τ)) := by
  refine Ct.enter rfl (Nat.le_of_ble_eq_true rfl) ?_
  intro κ γ hκ O hrc hrs
  subst hκ
  refine z_aload_n (pc := 0) O dX5_lengthenLast_0 rfl ?_
  refine z_dup (pc := 1) O dX5_lengthenLast_1 rfl ?_
  refine zi_getv (pc := 2) (gI σ 4 3) O fl_X5_60 rfl (jo_4 J) (izg σ 4 3) dX5_lengthenLast_2 ?_
  have := rgI σ 4 3
  refine z_iconst (pc := 5) (v := iz (1)) O dX5_lengthenLast_5 (by decide) ?_
  refine zi_iadd (pc := 6) O dX5_lengthenLast_6 ?_
  refine zi_any (fun z1 rz1 ez1 => ?_)
  refine z_putI (pc := 7) O fl_X5_60 rfl ⟨rfl, rfl⟩ (jo_4 J) dX5_lengthenLast_7 ?_
  refine z_aload_n (pc := 10) O dX5_lengthenLast_10 rfl ?_
  refine zi_getv (pc := 11) (z1) O fl_X5_60 rfl (jo_4 J) (hI_at _ _ _ _) dX5_lengthenLast_11 ?_
  refine z_iload_n (pc := 14) O dX5_lengthenLast_14 rfl ?_
  refine z_iconst (pc := 15) (v := iz (1)) O dX5_lengthenLast_15 (by decide) ?_
  refine zi_icmp_ne (pc := 16) (tgt := 24) O dX5_lengthenLast_16 (by decide) (by omega) (by decide) (fun h16 => ?_) (fun h16 => ?_)
  · refine z_bipush (pc := 24) (v := iz (6)) O dX5_lengthenLast_24 (by decide) ?_
    refine zi_icmp_le (pc := 26) (tgt := 36) O dX5_lengthenLast_26 (by decide) (by omega) (by decide) (fun h26 => ?_) (fun h26 => ?_)
    · refine z_aload_n (pc := 36) O dX5_lengthenLast_36 rfl ?_
      refine zi_getv (pc := 37) (gI σ 4 2) O fl_X5_19 rfl (jo_4 J) (sk2t (by decide) (izg σ 4 2)) dX5_lengthenLast_37 ?_
      have := rgI σ 4 2
      refine zi_if_le (pc := 40) (tgt := 100) O dX5_lengthenLast_40 (by decide) (by omega) (fun h40 => ?_) (fun h40 => ?_)
      · refine z_vret (pc := 100) O dX5_lengthenLast_100 ?_
        exact ⟨rfl, ((Fr.rf [(5, 99999), (4, 3)] σ).pI rfl)⟩
      · refine z_aload_n (pc := 43) O dX5_lengthenLast_43 rfl ?_
        refine z_getR (pc := 44) 5 O fl_X5_9 rfl (jo_4 J) (jr_4_0 J) dX5_lengthenLast_44 ?_
        refine z_aload_n (pc := 47) O dX5_lengthenLast_47 rfl ?_
        refine zi_getv (pc := 48) (gI σ 4 2) O fl_X5_19 rfl (jo_4 J) (sk2t (by decide) (izg σ 4 2)) dX5_lengthenLast_48 ?_
        refine z_iconst (pc := 51) (v := iz (1)) O dX5_lengthenLast_51 (by decide) ?_
        refine zi_isub (pc := 52) O dX5_lengthenLast_52 ?_
        refine zi_lald (pc := 53) (((gI σ 4 2) - 1).toNat) O (Or.inl (ja_5 J)) (by omega) (by omega) (by omega) dX5_lengthenLast_53 ?_
        refine z_topl (pc := 54) (fun w2 ew2 => ?_)
        refine z_lstore_n (pc := 54) [(0, .ref 4), (1, .int (iz s)), (2, .int (iz c)), (3, .long w2)] O dX5_lengthenLast_54 (by decide) rfl ?_
        refine z_aload_n (pc := 55) O dX5_lengthenLast_55 rfl ?_
        refine z_getR (pc := 56) 5 O fl_X5_9 rfl (jo_4 J) (jr_4_0 J) dX5_lengthenLast_56 ?_
        refine z_aload_n (pc := 59) O dX5_lengthenLast_59 rfl ?_
        refine zi_getv (pc := 60) (gI σ 4 2) O fl_X5_19 rfl (jo_4 J) (sk2t (by decide) (izg σ 4 2)) dX5_lengthenLast_60 ?_
        refine z_iconst (pc := 63) (v := iz (1)) O dX5_lengthenLast_63 (by decide) ?_
        refine zi_isub (pc := 64) O dX5_lengthenLast_64 ?_
        refine z_iload_n (pc := 65) O dX5_lengthenLast_65 rfl ?_
        refine z_iconst (pc := 66) (v := iz (1)) O dX5_lengthenLast_66 (by decide) ?_
        refine zi_icmp_ne (pc := 67) (tgt := 80) O dX5_lengthenLast_67 (by decide) (by omega) (by decide) (fun h67 => ?_) (fun h67 => ?_)
        · refine z_lload_n (pc := 80) O dX5_lengthenLast_80 rfl ?_
          refine z_ldc2 (pc := 81) O tw_252 dX5_lengthenLast_81 ?_
          refine z_lxor (pc := 84) O dX5_lengthenLast_84 ?_
          refine z_topl (pc := 85) (fun w3 ew3 => ?_)
          refine z_ldc2 (pc := 85) O tw_253 dX5_lengthenLast_85 ?_
          refine z_lmul (pc := 88) O dX5_lengthenLast_88 ?_
          refine z_topl (pc := 89) (fun w4 ew4 => ?_)
          refine z_iload_n (pc := 89) O dX5_lengthenLast_89 rfl ?_
          refine z_bipush (pc := 90) (v := iz (48)) O dX5_lengthenLast_90 (by decide) ?_
          refine zi_isub (pc := 92) O dX5_lengthenLast_92 ?_
          refine z_i2l (pc := 93) O dX5_lengthenLast_93 ?_
          refine z_topl (pc := 94) (fun w5 ew5 => ?_)
          refine z_ladd (pc := 94) O dX5_lengthenLast_94 ?_
          refine z_topl (pc := 95) (fun w6 ew6 => ?_)
          refine z_ldc2 (pc := 95) O tw_252 dX5_lengthenLast_95 ?_
          refine z_lxor (pc := 98) O dX5_lengthenLast_98 ?_
          refine z_topl (pc := 99) (fun w7 ew7 => ?_)
          refine zi_last (pc := 99) (((gI σ 4 2) - 1).toNat) O (ja_5 J) (by omega) (by omega) (by omega) dX5_lengthenLast_99 ?_
          refine z_vret (pc := 100) O dX5_lengthenLast_100 ?_
          exact ⟨rfl, (((Fr.rf [(5, 99999), (4, 3)] σ).pI rfl).pL rfl)⟩
        · refine z_lload_n (pc := 70) O dX5_lengthenLast_70 rfl ?_
          refine z_bipush (pc := 71) (v := iz (8)) O dX5_lengthenLast_71 (by decide) ?_
          refine z_lshl (pc := 73) O dX5_lengthenLast_73 ?_
          refine z_topl (pc := 74) (fun w8 ew8 => ?_)
          refine z_iload_n (pc := 74) O dX5_lengthenLast_74 rfl ?_
          refine z_i2l (pc := 75) O dX5_lengthenLast_75 ?_
          refine z_topl (pc := 76) (fun w9 ew9 => ?_)
          refine z_lor (pc := 76) O dX5_lengthenLast_76 ?_
          refine z_topl (pc := 77) (fun w10 ew10 => ?_)
          refine z_goto (pc := 77) (tgt := 99) O dX5_lengthenLast_77 (by decide) ?_
          refine zi_last (pc := 99) (((gI σ 4 2) - 1).toNat) O (ja_5 J) (by omega) (by omega) (by omega) dX5_lengthenLast_99 ?_
          refine z_vret (pc := 100) O dX5_lengthenLast_100 ?_
          exact ⟨rfl, (((Fr.rf [(5, 99999), (4, 3)] σ).pI rfl).pL rfl)⟩
    · refine z_aload_n (pc := 29) O dX5_lengthenLast_29 rfl ?_
      refine z_callV (pc := 30) O cl_X5_27 (k5_spoilLast _ _ J (by have : gI (sI σ 4 3 (iz z1)) 4 2 = gI σ 4 2 := gI_iz (sk2t (by decide) (izg σ 4 2)) (rgI _ _ _); omega)) (by decide) (jo_4 J) kc_5 rfl rfl (Nat.le_of_ble_eq_true rfl) ⟨Nat.zero_le _, Nat.zero_le _⟩ dX5_lengthenLast_30 (fun r τ11 hp => ?_)
      obtain ⟨rfl, frτ11⟩ := hp
      refine z_goto (pc := 33) (tgt := 100) O dX5_lengthenLast_33 (by decide) ?_
      refine z_vret (pc := 100) O dX5_lengthenLast_100 ?_
      exact ⟨rfl, (((Fr.rf [(5, 99999), (4, 3)] σ).pI rfl).tr (frτ11.mono (V := [(5, 99999), (4, 3)]) rfl))⟩
  · refine z_bipush (pc := 19) (v := iz (8)) O dX5_lengthenLast_19 (by decide) ?_
    refine z_goto (pc := 21) (tgt := 26) O dX5_lengthenLast_21 (by decide) ?_
    refine zi_icmp_le (pc := 26) (tgt := 36) O dX5_lengthenLast_26 (by decide) (by omega) (by decide) (fun h26 => ?_) (fun h26 => ?_)
    · refine z_aload_n (pc := 36) O dX5_lengthenLast_36 rfl ?_
      refine zi_getv (pc := 37) (gI σ 4 2) O fl_X5_19 rfl (jo_4 J) (sk2t (by decide) (izg σ 4 2)) dX5_lengthenLast_37 ?_
      have := rgI σ 4 2
      refine zi_if_le (pc := 40) (tgt := 100) O dX5_lengthenLast_40 (by decide) (by omega) (fun h40 => ?_) (fun h40 => ?_)
      · refine z_vret (pc := 100) O dX5_lengthenLast_100 ?_
        exact ⟨rfl, ((Fr.rf [(5, 99999), (4, 3)] σ).pI rfl)⟩
      · refine z_aload_n (pc := 43) O dX5_lengthenLast_43 rfl ?_
        refine z_getR (pc := 44) 5 O fl_X5_9 rfl (jo_4 J) (jr_4_0 J) dX5_lengthenLast_44 ?_
        refine z_aload_n (pc := 47) O dX5_lengthenLast_47 rfl ?_
        refine zi_getv (pc := 48) (gI σ 4 2) O fl_X5_19 rfl (jo_4 J) (sk2t (by decide) (izg σ 4 2)) dX5_lengthenLast_48 ?_
        refine z_iconst (pc := 51) (v := iz (1)) O dX5_lengthenLast_51 (by decide) ?_
        refine zi_isub (pc := 52) O dX5_lengthenLast_52 ?_
        refine zi_lald (pc := 53) (((gI σ 4 2) - 1).toNat) O (Or.inl (ja_5 J)) (by omega) (by omega) (by omega) dX5_lengthenLast_53 ?_
        refine z_topl (pc := 54) (fun w13 ew13 => ?_)
        refine z_lstore_n (pc := 54) [(0, .ref 4), (1, .int (iz s)), (2, .int (iz c)), (3, .long w13)] O dX5_lengthenLast_54 (by decide) rfl ?_
        refine z_aload_n (pc := 55) O dX5_lengthenLast_55 rfl ?_
        refine z_getR (pc := 56) 5 O fl_X5_9 rfl (jo_4 J) (jr_4_0 J) dX5_lengthenLast_56 ?_
        refine z_aload_n (pc := 59) O dX5_lengthenLast_59 rfl ?_
        refine zi_getv (pc := 60) (gI σ 4 2) O fl_X5_19 rfl (jo_4 J) (sk2t (by decide) (izg σ 4 2)) dX5_lengthenLast_60 ?_
        refine z_iconst (pc := 63) (v := iz (1)) O dX5_lengthenLast_63 (by decide) ?_
        refine zi_isub (pc := 64) O dX5_lengthenLast_64 ?_
        refine z_iload_n (pc := 65) O dX5_lengthenLast_65 rfl ?_
        refine z_iconst (pc := 66) (v := iz (1)) O dX5_lengthenLast_66 (by decide) ?_
        refine zi_icmp_ne (pc := 67) (tgt := 80) O dX5_lengthenLast_67 (by decide) (by omega) (by decide) (fun h67 => ?_) (fun h67 => ?_)
        · refine z_lload_n (pc := 80) O dX5_lengthenLast_80 rfl ?_
          refine z_ldc2 (pc := 81) O tw_252 dX5_lengthenLast_81 ?_
          refine z_lxor (pc := 84) O dX5_lengthenLast_84 ?_
          refine z_topl (pc := 85) (fun w14 ew14 => ?_)
          refine z_ldc2 (pc := 85) O tw_253 dX5_lengthenLast_85 ?_
          refine z_lmul (pc := 88) O dX5_lengthenLast_88 ?_
          refine z_topl (pc := 89) (fun w15 ew15 => ?_)
          refine z_iload_n (pc := 89) O dX5_lengthenLast_89 rfl ?_
          refine z_bipush (pc := 90) (v := iz (48)) O dX5_lengthenLast_90 (by decide) ?_
          refine zi_isub (pc := 92) O dX5_lengthenLast_92 ?_
          refine z_i2l (pc := 93) O dX5_lengthenLast_93 ?_
          refine z_topl (pc := 94) (fun w16 ew16 => ?_)
          refine z_ladd (pc := 94) O dX5_lengthenLast_94 ?_
          refine z_topl (pc := 95) (fun w17 ew17 => ?_)
          refine z_ldc2 (pc := 95) O tw_252 dX5_lengthenLast_95 ?_
          refine z_lxor (pc := 98) O dX5_lengthenLast_98 ?_
          refine z_topl (pc := 99) (fun w18 ew18 => ?_)
          refine zi_last (pc := 99) (((gI σ 4 2) - 1).toNat) O (ja_5 J) (by omega) (by omega) (by omega) dX5_lengthenLast_99 ?_
          refine z_vret (pc := 100) O dX5_lengthenLast_100 ?_
          exact ⟨rfl, (((Fr.rf [(5, 99999), (4, 3)] σ).pI rfl).pL rfl)⟩
        · refine z_lload_n (pc := 70) O dX5_lengthenLast_70 rfl ?_
          refine z_bipush (pc := 71) (v := iz (8)) O dX5_lengthenLast_71 (by decide) ?_
          refine z_lshl (pc := 73) O dX5_lengthenLast_73 ?_
          refine z_topl (pc := 74) (fun w19 ew19 => ?_)
          refine z_iload_n (pc := 74) O dX5_lengthenLast_74 rfl ?_
          refine z_i2l (pc := 75) O dX5_lengthenLast_75 ?_
          refine z_topl (pc := 76) (fun w20 ew20 => ?_)
          refine z_lor (pc := 76) O dX5_lengthenLast_76 ?_
          refine z_topl (pc := 77) (fun w21 ew21 => ?_)
          refine z_goto (pc := 77) (tgt := 99) O dX5_lengthenLast_77 (by decide) ?_
          refine zi_last (pc := 99) (((gI σ 4 2) - 1).toNat) O (ja_5 J) (by omega) (by omega) (by omega) dX5_lengthenLast_99 ?_
          refine z_vret (pc := 100) O dX5_lengthenLast_100 ?_
          exact ⟨rfl, (((Fr.rf [(5, 99999), (4, 3)] σ).pI rfl).pL rfl)⟩
    · refine z_aload_n (pc := 29) O dX5_lengthenLast_29 rfl ?_
      refine z_callV (pc := 30) O cl_X5_27 (k5_spoilLast _ _ J (by have : gI (sI σ 4 3 (iz z1)) 4 2 = gI σ 4 2 := gI_iz (sk2t (by decide) (izg σ 4 2)) (rgI _ _ _); omega)) (by decide) (jo_4 J) kc_5 rfl rfl (Nat.le_of_ble_eq_true rfl) ⟨Nat.zero_le _, Nat.zero_le _⟩ dX5_lengthenLast_30 (fun r τ22 hp => ?_)
      obtain ⟨rfl, frτ22⟩ := hp
      refine z_goto (pc := 33) (tgt := 100) O dX5_lengthenLast_33 (by decide) ?_
      refine z_vret (pc := 100) O dX5_lengthenLast_100 ?_
      exact ⟨rfl, (((Fr.rf [(5, 99999), (4, 3)] σ).pI rfl).tr (frτ22.mono (V := [(5, 99999), (4, 3)]) rfl))⟩
set_option maxHeartbeats 4000000 in
set_option maxRecDepth 20000 in
theorem k5_split (l : Launch) (σ : VH) (n : Int) (rn : (-2147483648 ≤ n ∧ n < 2147483648)) (J : Lay σ) : Ct l yX5_split cX5_split 7 none 2 0 0 [.ref 4, .ref 3, .int (iz n)] σ (fun r τ => r = none ∧ (Fr [(5, 99999), (6, 99999), (4, 2), (4, 3)] σ τ) ∧ (1 ≤ gI τ 4 2 ∧ gI τ 4 2 ≤ 701)) := by
  refine Ct.enter rfl (Nat.le_of_ble_eq_true rfl) ?_
  intro κ γ hκ O hrc hrs
  subst hκ
  refine z_aload_n (pc := 0) O dX5_split_0 rfl ?_
  refine z_iconst (pc := 1) (v := iz (0)) O dX5_split_1 (by decide) ?_
  refine z_putI (pc := 2) O fl_X5_19 rfl ⟨rfl, rfl⟩ (jo_4 J) dX5_split_2 ?_
  refine z_iconst (pc := 5) (v := iz (4)) O dX5_split_5 (by decide) ?_
  refine z_istore_n (pc := 6) [(0, .ref 4), (1, .ref 3), (2, .int (iz n)), (3, .int (iz 4))] O dX5_split_6 (by decide) rfl ?_
  refine z_iconst (pc := 7) (v := iz (0)) O dX5_split_7 (by decide) ?_
  refine z_istore (pc := 8) [(0, .ref 4), (1, .ref 3), (2, .int (iz n)), (3, .int (iz 4)), (4, .int (iz 0))] O dX5_split_8 (by decide) rfl ?_
  have cut10 : ∀ (mu10 : Nat) (bf : Int) (k : Int) (ρ10 : VH), (mu10 = (700 - k).toNat) → (-2147483648 ≤ bf ∧ bf < 2147483648) → (-2147483648 ≤ k ∧ k < 2147483648) → (0 ≤ k ∧ k ≤ 700) → (0 ≤ gI ρ10 4 2 ∧ gI ρ10 4 2 ≤ k) → (Fr [(5, 99999), (6, 99999), (4, 2), (4, 3)] (sI σ 4 2 (iz 0)) ρ10) → Z κ γ 7 ρ10 0 0 (QM κ γ (fun r τ => r = none ∧ (Fr [(5, 99999), (6, 99999), (4, 2), (4, 3)] σ τ) ∧ (1 ≤ gI τ 4 2 ∧ gI τ 4 2 ≤ 701)) 0 0) 10 [(0, .ref 4), (1, .ref 3), (2, .int (iz n)), (3, .int (iz bf)), (4, .int (iz k))] [] := by
    intro mu10
    induction mu10 using Nat.strongRecOn with
    | ind mu10 ih10 =>
    intro bf k ρ10 hmu10 rr10_0 rr10_1 ff10_0 ff10_1 frρ10
    refine z_iload (pc := 10) O dX5_split_10 rfl ?_
    refine z_iload_n (pc := 12) O dX5_split_12 rfl ?_
    refine zi_icmp_ge (pc := 13) (tgt := 112) O dX5_split_13 (by decide) (by omega) (by omega) (fun h13 => ?_) (fun h13 => ?_)
    · refine z_aload_n (pc := 112) O dX5_split_112 rfl ?_
      refine z_lconst (pc := 113) (v := 1) O dX5_split_113 (by decide) ?_
      refine z_iload_n (pc := 114) O dX5_split_114 rfl ?_
      refine z_callV (pc := 115) O cl_X5_38 (k5_begin _ _ 1 n (by omega) (frρ10.lay J) (by omega)) (by decide) (jo_4 (frρ10.lay J)) kc_5 rfl rfl (Nat.le_of_ble_eq_true rfl) ⟨Nat.zero_le _, Nat.zero_le _⟩ dX5_split_115 (fun r τ1 hp => ?_)
      obtain ⟨rfl, frτ1, eτ1_0⟩ := hp
      refine z_vret (pc := 118) O dX5_split_118 ?_
      exact ⟨rfl, ((((Fr.rf [(5, 99999), (6, 99999), (4, 2), (4, 3)] σ).pI rfl).tr frρ10).tr frτ1), (by omega)⟩
    · refine z_iload (pc := 16) O dX5_split_16 rfl ?_
      refine z_aload_n (pc := 18) O dX5_split_18 rfl ?_
      refine z_alen (pc := 19) (t0 := 1) (n := iz 700) O (ja_3 (frρ10.lay J)) (by decide) rfl (by decide) dX5_split_19 ?_
      refine zi_icmp_ge (pc := 20) (tgt := 112) O dX5_split_20 (by decide) (by omega) (by decide) (fun h20 => ?_) (fun h20 => ?_)
      · refine z_aload_n (pc := 112) O dX5_split_112 rfl ?_
        refine z_lconst (pc := 113) (v := 1) O dX5_split_113 (by decide) ?_
        refine z_iload_n (pc := 114) O dX5_split_114 rfl ?_
        refine z_callV (pc := 115) O cl_X5_38 (k5_begin _ _ 1 n (by omega) (frρ10.lay J) (by omega)) (by decide) (jo_4 (frρ10.lay J)) kc_5 rfl rfl (Nat.le_of_ble_eq_true rfl) ⟨Nat.zero_le _, Nat.zero_le _⟩ dX5_split_115 (fun r τ3 hp => ?_)
        obtain ⟨rfl, frτ3, eτ3_0⟩ := hp
        refine z_vret (pc := 118) O dX5_split_118 ?_
        exact ⟨rfl, ((((Fr.rf [(5, 99999), (6, 99999), (4, 2), (4, 3)] σ).pI rfl).tr frρ10).tr frτ3), (by omega)⟩
      · refine z_aload_n (pc := 23) O dX5_split_23 rfl ?_
        refine z_iload (pc := 24) O dX5_split_24 rfl ?_
        refine zi_baldv (pc := 26) (k.toNat) (gI σ 3 (k.toNat)) O (ja_3 (frρ10.lay J)) (by omega) (by omega) (by omega) (Fr.it frρ10 rfl (sk1t (by decide) (izg σ 3 (k.toNat)))) dX5_split_26 ?_
        have := rgI σ 3 (k.toNat)
        refine z_sipush (pc := 27) (v := iz (255)) O dX5_split_27 (by decide) ?_
        refine z_iand (pc := 30) O dX5_split_30 ?_
        refine zi_any (fun z5 rz5 ez5 => ?_)
        refine z_istore (pc := 31) [(0, .ref 4), (1, .ref 3), (2, .int (iz n)), (3, .int (iz bf)), (4, .int (iz k)), (5, .int (iz z5))] O dX5_split_31 (by decide) rfl ?_
        refine z_iload (pc := 33) O dX5_split_33 rfl ?_
        refine z_callS (pc := 35) O cl_X5_23 (k5_sortOf _ _ z5 (by omega)) (by decide) rfl rfl (Nat.le_of_ble_eq_true rfl) ⟨Nat.zero_le _, Nat.zero_le _⟩ dX5_split_35 (fun r τ6 hp => ?_)
        obtain ⟨z7, rfl, fτ6_0, fτ6_1, rfl⟩ := hp
        refine z_istore (pc := 38) [(0, .ref 4), (1, .ref 3), (2, .int (iz n)), (3, .int (iz bf)), (4, .int (iz k)), (5, .int (iz z5)), (6, .int (iz z7))] O dX5_split_38 (by decide) rfl ?_
        have cut55 : ∀ (ρ55 : VH), (Fr [(5, 99999)] ρ10 ρ55) → Z κ γ 7 ρ55 0 0 (QM κ γ (fun r τ => r = none ∧ (Fr [(5, 99999), (6, 99999), (4, 2), (4, 3)] σ τ) ∧ (1 ≤ gI τ 4 2 ∧ gI τ 4 2 ≤ 701)) 0 0) 55 [(0, .ref 4), (1, .ref 3), (2, .int (iz n)), (3, .int (iz bf)), (4, .int (iz k)), (5, .int (iz z5)), (6, .int (iz z7))] [] := by
          intro ρ55 frρ55
          refine z_iload (pc := 55) O dX5_split_55 rfl ?_
          refine z_iload_n (pc := 57) O dX5_split_57 rfl ?_
          refine zi_icmp_ne (pc := 58) (tgt := 84) O dX5_split_58 (by decide) (by omega) (by omega) (fun h58 => ?_) (fun h58 => ?_)
          · refine z_iload (pc := 84) O dX5_split_84 rfl ?_
            refine z_iconst (pc := 86) (v := iz (4)) O dX5_split_86 (by decide) ?_
            refine zi_icmp_eq (pc := 87) (tgt := 103) O dX5_split_87 (by decide) (by omega) (by decide) (fun h87 => ?_) (fun h87 => ?_)
            · refine z_iload (pc := 103) O dX5_split_103 rfl ?_
              refine z_istore_n (pc := 105) [(0, .ref 4), (1, .ref 3), (2, .int (iz n)), (3, .int (iz z7)), (4, .int (iz k)), (5, .int (iz z5)), (6, .int (iz z7))] O dX5_split_105 (by decide) rfl ?_
              refine zi_iinc (pc := 106) (k + 1) [(0, .ref 4), (1, .ref 3), (2, .int (iz n)), (3, .int (iz z7)), (4, .int (iz (k + 1))), (5, .int (iz z5)), (6, .int (iz z7))] O dX5_split_106 rfl (by omega) (by decide) rfl ?_
              refine z_goto (pc := 109) (tgt := 10) O dX5_split_109 (by decide) ?_
              refine z_lk [(0, .ref 4), (1, .ref 3), (2, .int (iz n)), (3, .int (iz z7)), (4, .int (iz (k + 1)))] ⟨rfl, rfl, rfl, rfl, rfl, trivial⟩ ?_
              exact ih10 _ (by omega) z7 (k + 1) ρ55 rfl (by omega) (by omega) (by omega) (by have : gI ρ55 4 2 = gI ρ10 4 2 := gI_iz (Fr.it frρ55 rfl (izg ρ10 4 2)) (rgI _ _ _); omega) (frρ10.tr (frρ55.mono (V := [(5, 99999), (6, 99999), (4, 2), (4, 3)]) rfl))
            · refine z_aload_n (pc := 90) O dX5_split_90 rfl ?_
              refine z_iload (pc := 91) O dX5_split_91 rfl ?_
              refine z_iload (pc := 93) O dX5_split_93 rfl ?_
              refine z_callS (pc := 95) O cl_X5_34 (k5_firstOf _ _ z7 (by omega) z5 (by omega)) (by decide) rfl rfl (Nat.le_of_ble_eq_true rfl) ⟨Nat.zero_le _, Nat.zero_le _⟩ dX5_split_95 (fun r τ8 hp => ?_)
              obtain ⟨z9, rfl, rfl⟩ := hp
              refine z_iload (pc := 98) O dX5_split_98 rfl ?_
              refine z_callV (pc := 100) O cl_X5_38 (k5_begin _ _ z9 k (by omega) (frρ55.lay (frρ10.lay J)) (by have : gI ρ55 4 2 = gI ρ10 4 2 := gI_iz (Fr.it frρ55 rfl (izg ρ10 4 2)) (rgI _ _ _); omega)) (by decide) (jo_4 (frρ55.lay (frρ10.lay J))) kc_5 rfl rfl (Nat.le_of_ble_eq_true rfl) ⟨Nat.zero_le _, Nat.zero_le _⟩ dX5_split_100 (fun r τ10 hp => ?_)
              obtain ⟨rfl, frτ10, eτ10_0⟩ := hp
              have : gI ρ55 4 2 = gI ρ10 4 2 := gI_iz (Fr.it frρ55 rfl (izg ρ10 4 2)) (rgI _ _ _)
              refine z_iload (pc := 103) O dX5_split_103 rfl ?_
              refine z_istore_n (pc := 105) [(0, .ref 4), (1, .ref 3), (2, .int (iz n)), (3, .int (iz z7)), (4, .int (iz k)), (5, .int (iz z5)), (6, .int (iz z7))] O dX5_split_105 (by decide) rfl ?_
              refine zi_iinc (pc := 106) (k + 1) [(0, .ref 4), (1, .ref 3), (2, .int (iz n)), (3, .int (iz z7)), (4, .int (iz (k + 1))), (5, .int (iz z5)), (6, .int (iz z7))] O dX5_split_106 rfl (by omega) (by decide) rfl ?_
              refine z_goto (pc := 109) (tgt := 10) O dX5_split_109 (by decide) ?_
              refine z_lk [(0, .ref 4), (1, .ref 3), (2, .int (iz n)), (3, .int (iz z7)), (4, .int (iz (k + 1)))] ⟨rfl, rfl, rfl, rfl, rfl, trivial⟩ ?_
              exact ih10 _ (by omega) z7 (k + 1) τ10 rfl (by omega) (by omega) (by omega) (by omega) ((frρ10.tr (frρ55.mono (V := [(5, 99999), (6, 99999), (4, 2), (4, 3)]) rfl)).tr frτ10)
          · refine z_iload (pc := 61) O dX5_split_61 rfl ?_
            refine z_iconst (pc := 63) (v := iz (1)) O dX5_split_63 (by decide) ?_
            refine zi_icmp_eq (pc := 64) (tgt := 73) O dX5_split_64 (by decide) (by omega) (by decide) (fun h64 => ?_) (fun h64 => ?_)
            · refine z_aload_n (pc := 73) O dX5_split_73 rfl ?_
              refine z_iload (pc := 74) O dX5_split_74 rfl ?_
              refine z_iload (pc := 76) O dX5_split_76 rfl ?_
              refine z_callV (pc := 78) O cl_X5_30 (k5_lengthenLast _ _ z7 (by omega) z5 (by omega) (frρ55.lay (frρ10.lay J)) (by have : gI ρ55 4 2 = gI ρ10 4 2 := gI_iz (Fr.it frρ55 rfl (izg ρ10 4 2)) (rgI _ _ _); omega)) (by decide) (jo_4 (frρ55.lay (frρ10.lay J))) kc_5 rfl rfl (Nat.le_of_ble_eq_true rfl) ⟨Nat.zero_le _, Nat.zero_le _⟩ dX5_split_78 (fun r τ12 hp => ?_)
              obtain ⟨rfl, frτ12⟩ := hp
              refine z_goto (pc := 81) (tgt := 103) O dX5_split_81 (by decide) ?_
              refine z_iload (pc := 103) O dX5_split_103 rfl ?_
              refine z_istore_n (pc := 105) [(0, .ref 4), (1, .ref 3), (2, .int (iz n)), (3, .int (iz z7)), (4, .int (iz k)), (5, .int (iz z5)), (6, .int (iz z7))] O dX5_split_105 (by decide) rfl ?_
              refine zi_iinc (pc := 106) (k + 1) [(0, .ref 4), (1, .ref 3), (2, .int (iz n)), (3, .int (iz z7)), (4, .int (iz (k + 1))), (5, .int (iz z5)), (6, .int (iz z7))] O dX5_split_106 rfl (by omega) (by decide) rfl ?_
              refine z_goto (pc := 109) (tgt := 10) O dX5_split_109 (by decide) ?_
              refine z_lk [(0, .ref 4), (1, .ref 3), (2, .int (iz n)), (3, .int (iz z7)), (4, .int (iz (k + 1)))] ⟨rfl, rfl, rfl, rfl, rfl, trivial⟩ ?_
              exact ih10 _ (by omega) z7 (k + 1) τ12 rfl (by omega) (by omega) (by omega) (by have : gI τ12 4 2 = gI ρ10 4 2 := gI_iz (Fr.it frτ12 rfl (Fr.it frρ55 rfl (izg ρ10 4 2))) (rgI _ _ _); omega) ((frρ10.tr (frρ55.mono (V := [(5, 99999), (6, 99999), (4, 2), (4, 3)]) rfl)).tr (frτ12.mono (V := [(5, 99999), (6, 99999), (4, 2), (4, 3)]) rfl))
            · refine z_iload (pc := 67) O dX5_split_67 rfl ?_
              refine z_iconst (pc := 69) (v := iz (2)) O dX5_split_69 (by decide) ?_
              refine zi_icmp_ne (pc := 70) (tgt := 84) O dX5_split_70 (by decide) (by omega) (by decide) (fun h70 => ?_) (fun h70 => ?_)
              · refine z_iload (pc := 84) O dX5_split_84 rfl ?_
                refine z_iconst (pc := 86) (v := iz (4)) O dX5_split_86 (by decide) ?_
                refine zi_icmp_eq (pc := 87) (tgt := 103) O dX5_split_87 (by decide) (by omega) (by decide) (fun h87 => ?_) (fun h87 => ?_)
                · refine z_iload (pc := 103) O dX5_split_103 rfl ?_
                  refine z_istore_n (pc := 105) [(0, .ref 4), (1, .ref 3), (2, .int (iz n)), (3, .int (iz z7)), (4, .int (iz k)), (5, .int (iz z5)), (6, .int (iz z7))] O dX5_split_105 (by decide) rfl ?_
                  refine zi_iinc (pc := 106) (k + 1) [(0, .ref 4), (1, .ref 3), (2, .int (iz n)), (3, .int (iz z7)), (4, .int (iz (k + 1))), (5, .int (iz z5)), (6, .int (iz z7))] O dX5_split_106 rfl (by omega) (by decide) rfl ?_
                  refine z_goto (pc := 109) (tgt := 10) O dX5_split_109 (by decide) ?_
                  refine z_lk [(0, .ref 4), (1, .ref 3), (2, .int (iz n)), (3, .int (iz z7)), (4, .int (iz (k + 1)))] ⟨rfl, rfl, rfl, rfl, rfl, trivial⟩ ?_
                  exact ih10 _ (by omega) z7 (k + 1) ρ55 rfl (by omega) (by omega) (by omega) (by have : gI ρ55 4 2 = gI ρ10 4 2 := gI_iz (Fr.it frρ55 rfl (izg ρ10 4 2)) (rgI _ _ _); omega) (frρ10.tr (frρ55.mono (V := [(5, 99999), (6, 99999), (4, 2), (4, 3)]) rfl))
                · refine z_aload_n (pc := 90) O dX5_split_90 rfl ?_
                  refine z_iload (pc := 91) O dX5_split_91 rfl ?_
                  refine z_iload (pc := 93) O dX5_split_93 rfl ?_
                  refine z_callS (pc := 95) O cl_X5_34 (k5_firstOf _ _ z7 (by omega) z5 (by omega)) (by decide) rfl rfl (Nat.le_of_ble_eq_true rfl) ⟨Nat.zero_le _, Nat.zero_le _⟩ dX5_split_95 (fun r τ14 hp => ?_)
                  obtain ⟨z15, rfl, rfl⟩ := hp
                  refine z_iload (pc := 98) O dX5_split_98 rfl ?_
                  refine z_callV (pc := 100) O cl_X5_38 (k5_begin _ _ z15 k (by omega) (frρ55.lay (frρ10.lay J)) (by have : gI ρ55 4 2 = gI ρ10 4 2 := gI_iz (Fr.it frρ55 rfl (izg ρ10 4 2)) (rgI _ _ _); omega)) (by decide) (jo_4 (frρ55.lay (frρ10.lay J))) kc_5 rfl rfl (Nat.le_of_ble_eq_true rfl) ⟨Nat.zero_le _, Nat.zero_le _⟩ dX5_split_100 (fun r τ16 hp => ?_)
                  obtain ⟨rfl, frτ16, eτ16_0⟩ := hp
                  have : gI ρ55 4 2 = gI ρ10 4 2 := gI_iz (Fr.it frρ55 rfl (izg ρ10 4 2)) (rgI _ _ _)
                  refine z_iload (pc := 103) O dX5_split_103 rfl ?_
                  refine z_istore_n (pc := 105) [(0, .ref 4), (1, .ref 3), (2, .int (iz n)), (3, .int (iz z7)), (4, .int (iz k)), (5, .int (iz z5)), (6, .int (iz z7))] O dX5_split_105 (by decide) rfl ?_
                  refine zi_iinc (pc := 106) (k + 1) [(0, .ref 4), (1, .ref 3), (2, .int (iz n)), (3, .int (iz z7)), (4, .int (iz (k + 1))), (5, .int (iz z5)), (6, .int (iz z7))] O dX5_split_106 rfl (by omega) (by decide) rfl ?_
                  refine z_goto (pc := 109) (tgt := 10) O dX5_split_109 (by decide) ?_
                  refine z_lk [(0, .ref 4), (1, .ref 3), (2, .int (iz n)), (3, .int (iz z7)), (4, .int (iz (k + 1)))] ⟨rfl, rfl, rfl, rfl, rfl, trivial⟩ ?_
                  exact ih10 _ (by omega) z7 (k + 1) τ16 rfl (by omega) (by omega) (by omega) (by omega) ((frρ10.tr (frρ55.mono (V := [(5, 99999), (6, 99999), (4, 2), (4, 3)]) rfl)).tr frτ16)
              · refine z_aload_n (pc := 73) O dX5_split_73 rfl ?_
                refine z_iload (pc := 74) O dX5_split_74 rfl ?_
                refine z_iload (pc := 76) O dX5_split_76 rfl ?_
                refine z_callV (pc := 78) O cl_X5_30 (k5_lengthenLast _ _ z7 (by omega) z5 (by omega) (frρ55.lay (frρ10.lay J)) (by have : gI ρ55 4 2 = gI ρ10 4 2 := gI_iz (Fr.it frρ55 rfl (izg ρ10 4 2)) (rgI _ _ _); omega)) (by decide) (jo_4 (frρ55.lay (frρ10.lay J))) kc_5 rfl rfl (Nat.le_of_ble_eq_true rfl) ⟨Nat.zero_le _, Nat.zero_le _⟩ dX5_split_78 (fun r τ18 hp => ?_)
                obtain ⟨rfl, frτ18⟩ := hp
                refine z_goto (pc := 81) (tgt := 103) O dX5_split_81 (by decide) ?_
                refine z_iload (pc := 103) O dX5_split_103 rfl ?_
                refine z_istore_n (pc := 105) [(0, .ref 4), (1, .ref 3), (2, .int (iz n)), (3, .int (iz z7)), (4, .int (iz k)), (5, .int (iz z5)), (6, .int (iz z7))] O dX5_split_105 (by decide) rfl ?_
                refine zi_iinc (pc := 106) (k + 1) [(0, .ref 4), (1, .ref 3), (2, .int (iz n)), (3, .int (iz z7)), (4, .int (iz (k + 1))), (5, .int (iz z5)), (6, .int (iz z7))] O dX5_split_106 rfl (by omega) (by decide) rfl ?_
                refine z_goto (pc := 109) (tgt := 10) O dX5_split_109 (by decide) ?_
                refine z_lk [(0, .ref 4), (1, .ref 3), (2, .int (iz n)), (3, .int (iz z7)), (4, .int (iz (k + 1)))] ⟨rfl, rfl, rfl, rfl, rfl, trivial⟩ ?_
                exact ih10 _ (by omega) z7 (k + 1) τ18 rfl (by omega) (by omega) (by omega) (by have : gI τ18 4 2 = gI ρ10 4 2 := gI_iz (Fr.it frτ18 rfl (Fr.it frρ55 rfl (izg ρ10 4 2))) (rgI _ _ _); omega) ((frρ10.tr (frρ55.mono (V := [(5, 99999), (6, 99999), (4, 2), (4, 3)]) rfl)).tr (frτ18.mono (V := [(5, 99999), (6, 99999), (4, 2), (4, 3)]) rfl))
        have cut103 : ∀ (ρ103 : VH), (0 ≤ gI ρ103 4 2 ∧ gI ρ103 4 2 ≤ k + 1) → (Fr [(5, 99999), (6, 99999), (4, 2), (4, 3)] ρ10 ρ103) → Z κ γ 7 ρ103 0 0 (QM κ γ (fun r τ => r = none ∧ (Fr [(5, 99999), (6, 99999), (4, 2), (4, 3)] σ τ) ∧ (1 ≤ gI τ 4 2 ∧ gI τ 4 2 ≤ 701)) 0 0) 103 [(0, .ref 4), (1, .ref 3), (2, .int (iz n)), (3, .int (iz bf)), (4, .int (iz k)), (5, .int (iz z5)), (6, .int (iz z7))] [] := by
          intro ρ103 ff103_0 frρ103
          refine z_iload (pc := 103) O dX5_split_103 rfl ?_
          refine z_istore_n (pc := 105) [(0, .ref 4), (1, .ref 3), (2, .int (iz n)), (3, .int (iz z7)), (4, .int (iz k)), (5, .int (iz z5)), (6, .int (iz z7))] O dX5_split_105 (by decide) rfl ?_
          refine zi_iinc (pc := 106) (k + 1) [(0, .ref 4), (1, .ref 3), (2, .int (iz n)), (3, .int (iz z7)), (4, .int (iz (k + 1))), (5, .int (iz z5)), (6, .int (iz z7))] O dX5_split_106 rfl (by omega) (by decide) rfl ?_
          refine z_goto (pc := 109) (tgt := 10) O dX5_split_109 (by decide) ?_
          refine z_lk [(0, .ref 4), (1, .ref 3), (2, .int (iz n)), (3, .int (iz z7)), (4, .int (iz (k + 1)))] ⟨rfl, rfl, rfl, rfl, rfl, trivial⟩ ?_
          exact ih10 _ (by omega) z7 (k + 1) ρ103 rfl (by omega) (by omega) (by omega) (by omega) (frρ10.tr frρ103)
        refine z_iload_n (pc := 40) O dX5_split_40 rfl ?_
        refine z_iconst (pc := 41) (v := iz (2)) O dX5_split_41 (by decide) ?_
        refine zi_icmp_ne (pc := 42) (tgt := 55) O dX5_split_42 (by decide) (by omega) (by decide) (fun h42 => ?_) (fun h42 => ?_)
        · refine z_lk [(0, .ref 4), (1, .ref 3), (2, .int (iz n)), (3, .int (iz bf)), (4, .int (iz k)), (5, .int (iz z5)), (6, .int (iz z7))] ⟨rfl, rfl, rfl, rfl, rfl, rfl, rfl, trivial⟩ ?_
          exact cut55 ρ10 (Fr.rf [(5, 99999)] ρ10)
        · refine z_iload (pc := 45) O dX5_split_45 rfl ?_
          refine z_iconst (pc := 47) (v := iz (1)) O dX5_split_47 (by decide) ?_
          refine zi_icmp_ne (pc := 48) (tgt := 55) O dX5_split_48 (by decide) (by omega) (by decide) (fun h48 => ?_) (fun h48 => ?_)
          · refine z_lk [(0, .ref 4), (1, .ref 3), (2, .int (iz n)), (3, .int (iz bf)), (4, .int (iz k)), (5, .int (iz z5)), (6, .int (iz z7))] ⟨rfl, rfl, rfl, rfl, rfl, rfl, rfl, trivial⟩ ?_
            exact cut55 ρ10 (Fr.rf [(5, 99999)] ρ10)
          · refine z_aload_n (pc := 51) O dX5_split_51 rfl ?_
            refine z_callV (pc := 52) O cl_X5_27 (k5_spoilLast _ _ (frρ10.lay J) (by omega)) (by decide) (jo_4 (frρ10.lay J)) kc_5 rfl rfl (Nat.le_of_ble_eq_true rfl) ⟨Nat.zero_le _, Nat.zero_le _⟩ dX5_split_52 (fun r τ20 hp => ?_)
            obtain ⟨rfl, frτ20⟩ := hp
            refine z_lk [(0, .ref 4), (1, .ref 3), (2, .int (iz n)), (3, .int (iz bf)), (4, .int (iz k)), (5, .int (iz z5)), (6, .int (iz z7))] ⟨rfl, rfl, rfl, rfl, rfl, rfl, rfl, trivial⟩ ?_
            exact cut55 τ20 frτ20
  refine z_lk [(0, .ref 4), (1, .ref 3), (2, .int (iz n)), (3, .int (iz 4)), (4, .int (iz 0))] ⟨rfl, rfl, rfl, rfl, rfl, trivial⟩ ?_
  exact cut10 _ 4 0 (sI σ 4 2 (iz 0)) rfl (by omega) (by omega) (by omega) (by have : gI (sI σ 4 2 (iz 0)) 4 2 = 0 := gI_iz (hI_at _ _ _ _) (by omega); omega) (Fr.rf [(5, 99999), (6, 99999), (4, 2), (4, 3)] (sI σ 4 2 (iz 0)))
set_option maxHeartbeats 4000000 in
set_option maxRecDepth 20000 in
theorem k4_deedOf (l : Launch) (σ : VH) (v : Int64) : Ct l yX4_deedOf cX4_deedOf 2 (some .int) 0 0 0 [.long v] σ (fun r τ => ∃ z : Int, r = some (.int (iz z)) ∧ (-2147483648 ≤ z ∧ z < 2147483648) ∧ (-1 ≤ z ∧ z ≤ 3) ∧ (σ = τ)) := by
  refine Ct.enter rfl (Nat.le_of_ble_eq_true rfl) ?_
  intro κ γ hκ O hrc hrs
  subst hκ
  refine z_lload_n (pc := 0) O dX4_deedOf_0 rfl ?_
  refine z_ldc2 (pc := 1) O tw_451 dX4_deedOf_1 ?_
  refine z_lcmp (pc := 4) O dX4_deedOf_4 ?_
  refine zi_lc_ne (pc := 5) (tgt := 10) O dX4_deedOf_5 (by decide) (fun h5 => ?_) (fun h5 => ?_)
  · refine z_lload_n (pc := 10) O dX4_deedOf_10 rfl ?_
    refine z_ldc2 (pc := 11) O tw_452 dX4_deedOf_11 ?_
    refine z_lcmp (pc := 14) O dX4_deedOf_14 ?_
    refine zi_lc_ne (pc := 15) (tgt := 20) O dX4_deedOf_15 (by decide) (fun h15 => ?_) (fun h15 => ?_)
    · refine z_lload_n (pc := 20) O dX4_deedOf_20 rfl ?_
      refine z_ldc2 (pc := 21) O tw_453 dX4_deedOf_21 ?_
      refine z_lcmp (pc := 24) O dX4_deedOf_24 ?_
      refine zi_lc_ne (pc := 25) (tgt := 30) O dX4_deedOf_25 (by decide) (fun h25 => ?_) (fun h25 => ?_)
      · refine z_lload_n (pc := 30) O dX4_deedOf_30 rfl ?_
        refine z_ldc2 (pc := 31) O tw_454 dX4_deedOf_31 ?_
        refine z_lcmp (pc := 34) O dX4_deedOf_34 ?_
        refine zi_lc_ne (pc := 35) (tgt := 42) O dX4_deedOf_35 (by decide) (fun h35 => ?_) (fun h35 => ?_)
        · refine z_iconst (pc := 42) (v := iz (-1)) O dX4_deedOf_42 (by decide) ?_
          refine z_iret (pc := 43) O dX4_deedOf_43 ?_
          exact ⟨(-1), rfl, (by decide), (by omega), rfl⟩
        · refine z_iconst (pc := 38) (v := iz (3)) O dX4_deedOf_38 (by decide) ?_
          refine z_goto (pc := 39) (tgt := 43) O dX4_deedOf_39 (by decide) ?_
          refine z_iret (pc := 43) O dX4_deedOf_43 ?_
          exact ⟨3, rfl, (by decide), (by omega), rfl⟩
      · refine z_iconst (pc := 28) (v := iz (2)) O dX4_deedOf_28 (by decide) ?_
        refine z_iret (pc := 29) O dX4_deedOf_29 ?_
        exact ⟨2, rfl, (by decide), (by omega), rfl⟩
    · refine z_iconst (pc := 18) (v := iz (1)) O dX4_deedOf_18 (by decide) ?_
      refine z_iret (pc := 19) O dX4_deedOf_19 ?_
      exact ⟨1, rfl, (by decide), (by omega), rfl⟩
  · refine z_iconst (pc := 8) (v := iz (0)) O dX4_deedOf_8 (by decide) ?_
    refine z_iret (pc := 9) O dX4_deedOf_9 ?_
    exact ⟨0, rfl, (by decide), (by omega), rfl⟩
set_option maxHeartbeats 4000000 in
set_option maxRecDepth 20000 in
theorem k4_comparisonOf (l : Launch) (σ : VH) (v : Int64) : Ct l yX4_comparisonOf cX4_comparisonOf 2 (some .int) 0 0 0 [.long v] σ (fun r τ => ∃ z : Int, r = some (.int (iz z)) ∧ (-2147483648 ≤ z ∧ z < 2147483648) ∧ (σ = τ)) := by
  refine Ct.enter rfl (Nat.le_of_ble_eq_true rfl) ?_
  intro κ γ hκ O hrc hrs
  subst hκ
  refine z_lload_n (pc := 0) O dX4_comparisonOf_0 rfl ?_
  refine z_ldc2 (pc := 1) O tw_442 dX4_comparisonOf_1 ?_
  refine z_lcmp (pc := 4) O dX4_comparisonOf_4 ?_
  refine zi_lc_ne (pc := 5) (tgt := 11) O dX4_comparisonOf_5 (by decide) (fun h5 => ?_) (fun h5 => ?_)
  · refine z_lload_n (pc := 11) O dX4_comparisonOf_11 rfl ?_
    refine z_ldc2 (pc := 12) O tw_443 dX4_comparisonOf_12 ?_
    refine z_lcmp (pc := 15) O dX4_comparisonOf_15 ?_
    refine zi_lc_ne (pc := 16) (tgt := 22) O dX4_comparisonOf_16 (by decide) (fun h16 => ?_) (fun h16 => ?_)
    · refine z_lload_n (pc := 22) O dX4_comparisonOf_22 rfl ?_
      refine z_ldc2 (pc := 23) O tw_444 dX4_comparisonOf_23 ?_
      refine z_lcmp (pc := 26) O dX4_comparisonOf_26 ?_
      refine zi_lc_ne (pc := 27) (tgt := 35) O dX4_comparisonOf_27 (by decide) (fun h27 => ?_) (fun h27 => ?_)
      · refine z_iconst (pc := 35) (v := iz (-1)) O dX4_comparisonOf_35 (by decide) ?_
        refine z_iret (pc := 36) O dX4_comparisonOf_36 ?_
        exact ⟨(-1), rfl, (by decide), rfl⟩
      · refine z_bipush (pc := 30) (v := iz (-16)) O dX4_comparisonOf_30 (by decide) ?_
        refine z_goto (pc := 32) (tgt := 36) O dX4_comparisonOf_32 (by decide) ?_
        refine z_iret (pc := 36) O dX4_comparisonOf_36 ?_
        exact ⟨(-16), rfl, (by decide), rfl⟩
    · refine z_bipush (pc := 19) (v := iz (-15)) O dX4_comparisonOf_19 (by decide) ?_
      refine z_iret (pc := 21) O dX4_comparisonOf_21 ?_
      exact ⟨(-15), rfl, (by decide), rfl⟩
  · refine z_bipush (pc := 8) (v := iz (-14)) O dX4_comparisonOf_8 (by decide) ?_
    refine z_iret (pc := 10) O dX4_comparisonOf_10 ?_
    exact ⟨(-14), rfl, (by decide), rfl⟩
