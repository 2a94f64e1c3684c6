set_option maxHeartbeats 4000000 in
set_option maxRecDepth 20000 in
theorem k9_sign (l : Launch) (σ : VH) (k : Int) (rk : (-2147483648 ≤ k ∧ k < 2147483648)) (J : Lay σ) (hz : 0 ≤ gI σ 33 3 ∧ gI σ 33 3 ≤ 700) (hk : 0 ≤ k) : Ct l yX9_sign cX9_sign 2 (some .int) 0 0 0 [.ref 33, .int (iz k)] σ (fun r τ => ∃ z : Int, r = some (.int (iz z)) ∧ (-2147483648 ≤ z ∧ z < 2147483648) ∧ (z = sg σ k) ∧ (k < gI σ 33 3 ∨ z = 0) ∧ (σ = τ)) := by
  refine Ct.enter rfl (Nat.le_of_ble_eq_true rfl) ?_
  intro κ γ hκ O hrc hrs
  subst hκ
  refine z_iload_n (pc := 0) O dX9_sign_0 rfl ?_
  refine z_aload_n (pc := 1) O dX9_sign_1 rfl ?_
  refine zi_getv (pc := 2) (gI σ 33 3) O fl_X9_176 rfl (jo_33 J) (izg σ 33 3) dX9_sign_2 ?_
  have := rgI σ 33 3
  refine zi_icmp_ge (pc := 5) (tgt := 21) O dX9_sign_5 (by decide) (by omega) (by omega) (fun h5 => ?_) (fun h5 => ?_)
  · refine z_iconst (pc := 21) (v := iz (0)) O dX9_sign_21 (by decide) ?_
    refine z_iret (pc := 22) O dX9_sign_22 ?_
    exact ⟨0, rfl, (by decide), (by unfold sg; rw [if_neg (by omega)]), (by omega), rfl⟩
  · refine z_aload_n (pc := 8) O dX9_sign_8 rfl ?_
    refine z_getR (pc := 9) 35 O fl_X9_13 rfl (jo_33 J) (jr_33_1 J) dX9_sign_9 ?_
    refine z_iload_n (pc := 12) O dX9_sign_12 rfl ?_
    refine zi_baldv (pc := 13) (k.toNat) (gI σ 35 (k.toNat)) O (ja_35 J) (by omega) (by omega) (by omega) (izg σ 35 (k.toNat)) dX9_sign_13 ?_
    have := rgI σ 35 (k.toNat)
    refine z_sipush (pc := 14) (v := iz (255)) O dX9_sign_14 (by decide) ?_
    refine z_iand (pc := 17) O dX9_sign_17 ?_
    refine zi_any (fun z1 rz1 ez1 => ?_)
    refine z_goto (pc := 18) (tgt := 22) O dX9_sign_18 (by decide) ?_
    refine z_iret (pc := 22) O dX9_sign_22 ?_
    exact ⟨z1, rfl, (by omega), (by unfold sg; rw [if_pos (by omega), izg σ 35, show (255 : Int32) = iz 255 from rfl, ez1, izt rz1]), (by omega), rfl⟩
set_option maxHeartbeats 4000000 in
set_option maxRecDepth 20000 in
theorem k9_isGood (l : Launch) (σ : VH) (J : Lay σ) : Ct l yX9_isGood cX9_isGood 1 (some .boolean) 0 0 0 [.ref 33] σ (fun r τ => ∃ z : Int, r = some (.int (iz z)) ∧ (z = 0 ∨ z = 1) ∧ (z = 1 ↔ gI σ 33 4 = 0) ∧ (σ = τ)) := by
  refine Ct.enter rfl (Nat.le_of_ble_eq_true rfl) ?_
  intro κ γ hκ O hrc hrs
  subst hκ
  refine z_aload_n (pc := 0) O dX9_isGood_0 rfl ?_
  refine zi_getv (pc := 1) (gI σ 33 4) O fl_X9_179 rfl (jo_33 J) (izg σ 33 4) dX9_isGood_1 ?_
  have := rgI σ 33 4
  refine zi_if_ne (pc := 4) (tgt := 11) O dX9_isGood_4 (by decide) (by omega) (fun h4 => ?_) (fun h4 => ?_)
  · refine z_iconst (pc := 11) (v := iz (0)) O dX9_isGood_11 (by decide) ?_
    refine z_zret (pc := 12) O dX9_isGood_12 rfl ?_
    exact ⟨0, rfl, (by decide), (by omega), rfl⟩
  · refine z_iconst (pc := 7) (v := iz (1)) O dX9_isGood_7 (by decide) ?_
    refine z_goto (pc := 8) (tgt := 12) O dX9_isGood_8 (by decide) ?_
    refine z_zret (pc := 12) O dX9_isGood_12 rfl ?_
    exact ⟨1, rfl, (by decide), (by omega), rfl⟩
set_option maxHeartbeats 4000000 in
set_option maxRecDepth 20000 in
theorem k9_fails (l : Launch) (σ : VH) (y : Int) (ry : (-2147483648 ≤ y ∧ y < 2147483648)) (p : Int) (rp : (-2147483648 ≤ p ∧ p < 2147483648)) (J : Lay σ) : Ct l yX9_fails cX9_fails 3 none 0 0 0 [.ref 33, .int (iz y), .int (iz p)] σ (fun r τ => r = none ∧ (Fr [(33, 4), (33, 5)] σ τ) ∧ ((0 < gI σ 33 4 ∧ gI τ 33 4 = gI σ 33 4 ∧ gI τ 33 5 = gI σ 33 5) ∨ (gI σ 33 4 ≤ 0 ∧ gI τ 33 4 = y ∧ gI τ 33 5 = p))) := by
  refine Ct.enter rfl (Nat.le_of_ble_eq_true rfl) ?_
  intro κ γ hκ O hrc hrs
  subst hκ
  refine z_aload_n (pc := 0) O dX9_fails_0 rfl ?_
  refine zi_getv (pc := 1) (gI σ 33 4) O fl_X9_179 rfl (jo_33 J) (izg σ 33 4) dX9_fails_1 ?_
  have := rgI σ 33 4
  refine zi_if_le (pc := 4) (tgt := 8) O dX9_fails_4 (by decide) (by omega) (fun h4 => ?_) (fun h4 => ?_)
  · refine z_aload_n (pc := 8) O dX9_fails_8 rfl ?_
    refine z_iload_n (pc := 9) O dX9_fails_9 rfl ?_
    refine z_putI (pc := 10) O fl_X9_179 rfl ⟨rfl, rfl⟩ (jo_33 J) dX9_fails_10 ?_
    refine z_aload_n (pc := 13) O dX9_fails_13 rfl ?_
    refine z_iload_n (pc := 14) O dX9_fails_14 rfl ?_
    refine z_putI (pc := 15) O fl_X9_16 rfl ⟨rfl, rfl⟩ (jo_33 J) dX9_fails_15 ?_
    refine z_vret (pc := 18) O dX9_fails_18 ?_
    exact ⟨rfl, (((Fr.rf [(33, 4), (33, 5)] σ).pI rfl).pI rfl), (by have : gI (sI (sI σ 33 4 (iz y)) 33 5 (iz p)) 33 4 = y := gI_iz (sk2t (by decide) (hI_at _ _ _ _)) (by omega); have : gI (sI (sI σ 33 4 (iz y)) 33 5 (iz p)) 33 5 = p := gI_iz (hI_at _ _ _ _) (by omega); omega)⟩
  · refine z_vret (pc := 7) O dX9_fails_7 ?_
    exact ⟨rfl, (Fr.rf [(33, 4), (33, 5)] σ), (by omega)⟩
set_option maxHeartbeats 4000000 in
set_option maxRecDepth 20000 in
theorem k9_wrong (l : Launch) (σ : VH) (J : Lay σ) : Ct l yX9_wrong cX9_wrong 1 none 1 0 0 [.ref 33] σ (fun r τ => r = none ∧ (Fr [(33, 4), (33, 5)] σ τ) ∧ ((0 < gI σ 33 4 ∧ gI τ 33 4 = gI σ 33 4 ∧ gI τ 33 5 = gI σ 33 5) ∨ (gI σ 33 4 ≤ 0 ∧ gI τ 33 5 = gI σ 33 7 ∧ ((gI σ 33 9 = 1 ∧ gI τ 33 4 = 1) ∨ (¬ gI σ 33 9 = 1 ∧ gI τ 33 4 = 2))))) := by
  refine Ct.enter rfl (Nat.le_of_ble_eq_true rfl) ?_
  intro κ γ hκ O hrc hrs
  subst hκ
  refine z_aload_n (pc := 0) O dX9_wrong_0 rfl ?_
  refine z_aload_n (pc := 1) O dX9_wrong_1 rfl ?_
  refine zi_getv (pc := 2) (gI σ 33 9) O fl_X9_238 rfl (jo_33 J) (izg σ 33 9) dX9_wrong_2 ?_
  have := rgI σ 33 9
  refine z_iconst (pc := 5) (v := iz (1)) O dX9_wrong_5 (by decide) ?_
  refine zi_icmp_ne (pc := 6) (tgt := 13) O dX9_wrong_6 (by decide) (by omega) (by decide) (fun h6 => ?_) (fun h6 => ?_)
  · refine z_iconst (pc := 13) (v := iz (2)) O dX9_wrong_13 (by decide) ?_
    refine z_aload_n (pc := 14) O dX9_wrong_14 rfl ?_
    refine zi_getv (pc := 15) (gI σ 33 7) O fl_X9_231 rfl (jo_33 J) (izg σ 33 7) dX9_wrong_15 ?_
    have := rgI σ 33 7
    refine z_callV (pc := 18) O cl_X9_259 (k9_fails _ _ 2 (by decide) (gI σ 33 7) (by omega) J) (by decide) (jo_33 J) kc_9 rfl rfl (Nat.le_of_ble_eq_true rfl) ⟨Nat.zero_le _, Nat.zero_le _⟩ dX9_wrong_18 (fun r τ1 hp => ?_)
    obtain ⟨rfl, frτ1, eτ1_0⟩ := hp
    refine z_vret (pc := 21) O dX9_wrong_21 ?_
    exact ⟨rfl, frτ1, (by omega)⟩
  · refine z_iconst (pc := 9) (v := iz (1)) O dX9_wrong_9 (by decide) ?_
    refine z_goto (pc := 10) (tgt := 14) O dX9_wrong_10 (by decide) ?_
    refine z_aload_n (pc := 14) O dX9_wrong_14 rfl ?_
    refine zi_getv (pc := 15) (gI σ 33 7) O fl_X9_231 rfl (jo_33 J) (izg σ 33 7) dX9_wrong_15 ?_
    have := rgI σ 33 7
    refine z_callV (pc := 18) O cl_X9_259 (k9_fails _ _ 1 (by decide) (gI σ 33 7) (by omega) J) (by decide) (jo_33 J) kc_9 rfl rfl (Nat.le_of_ble_eq_true rfl) ⟨Nat.zero_le _, Nat.zero_le _⟩ dX9_wrong_18 (fun r τ3 hp => ?_)
    obtain ⟨rfl, frτ3, eτ3_0⟩ := hp
    refine z_vret (pc := 21) O dX9_wrong_21 ?_
    exact ⟨rfl, frτ3, (by omega)⟩
set_option maxHeartbeats 4000000 in
set_option maxRecDepth 20000 in
theorem k9_meaning (l : Launch) (σ : VH) (v : Int64) : Ct l yX9_meaning cX9_meaning 2 (some .int) 0 0 0 [.long v] σ (fun r τ => ∃ z : Int, r = some (.int (iz z)) ∧ (-2147483648 ≤ z ∧ z < 2147483648) ∧ (-1 ≤ z ∧ z ≤ 6) ∧ (σ = τ)) := by
  refine Ct.enter rfl (Nat.le_of_ble_eq_true rfl) ?_
  intro κ γ hκ O hrc hrs
  subst hκ
  refine z_lload_n (pc := 0) O dX9_meaning_0 rfl ?_
  refine z_ldc2 (pc := 1) O tw_1007 dX9_meaning_1 ?_
  refine z_lcmp (pc := 4) O dX9_meaning_4 ?_
  refine zi_lc_ne (pc := 5) (tgt := 12) O dX9_meaning_5 (by decide) (fun h5 => ?_) (fun h5 => ?_)
  · refine z_lload_n (pc := 12) O dX9_meaning_12 rfl ?_
    refine z_ldc2 (pc := 13) O tw_1008 dX9_meaning_13 ?_
    refine z_lcmp (pc := 16) O dX9_meaning_16 ?_
    refine zi_lc_ne (pc := 17) (tgt := 24) O dX9_meaning_17 (by decide) (fun h17 => ?_) (fun h17 => ?_)
    · refine z_lload_n (pc := 24) O dX9_meaning_24 rfl ?_
      refine z_ldc2 (pc := 25) O tw_1009 dX9_meaning_25 ?_
      refine z_lcmp (pc := 28) O dX9_meaning_28 ?_
      refine zi_lc_ne (pc := 29) (tgt := 36) O dX9_meaning_29 (by decide) (fun h29 => ?_) (fun h29 => ?_)
      · refine z_lload_n (pc := 36) O dX9_meaning_36 rfl ?_
        refine z_ldc2 (pc := 37) O tw_1010 dX9_meaning_37 ?_
        refine z_lcmp (pc := 40) O dX9_meaning_40 ?_
        refine zi_lc_ne (pc := 41) (tgt := 48) O dX9_meaning_41 (by decide) (fun h41 => ?_) (fun h41 => ?_)
        · refine z_lload_n (pc := 48) O dX9_meaning_48 rfl ?_
          refine z_ldc2 (pc := 49) O tw_1011 dX9_meaning_49 ?_
          refine z_lcmp (pc := 52) O dX9_meaning_52 ?_
          refine zi_lc_ne (pc := 53) (tgt := 60) O dX9_meaning_53 (by decide) (fun h53 => ?_) (fun h53 => ?_)
          · refine z_lload_n (pc := 60) O dX9_meaning_60 rfl ?_
            refine z_ldc2 (pc := 61) O tw_1012 dX9_meaning_61 ?_
            refine z_lcmp (pc := 64) O dX9_meaning_64 ?_
            refine zi_lc_ne (pc := 65) (tgt := 72) O dX9_meaning_65 (by decide) (fun h65 => ?_) (fun h65 => ?_)
            · refine z_lload_n (pc := 72) O dX9_meaning_72 rfl ?_
              refine z_ldc2 (pc := 73) O tw_1013 dX9_meaning_73 ?_
              refine z_lcmp (pc := 76) O dX9_meaning_76 ?_
              refine zi_lc_ne (pc := 77) (tgt := 85) O dX9_meaning_77 (by decide) (fun h77 => ?_) (fun h77 => ?_)
              · refine z_iconst (pc := 85) (v := iz (-1)) O dX9_meaning_85 (by decide) ?_
                refine z_iret (pc := 86) O dX9_meaning_86 ?_
                exact ⟨(-1), rfl, (by decide), (by omega), rfl⟩
              · refine z_bipush (pc := 80) (v := iz (6)) O dX9_meaning_80 (by decide) ?_
                refine z_goto (pc := 82) (tgt := 86) O dX9_meaning_82 (by decide) ?_
                refine z_iret (pc := 86) O dX9_meaning_86 ?_
                exact ⟨6, rfl, (by decide), (by omega), rfl⟩
            · refine z_iconst (pc := 68) (v := iz (5)) O dX9_meaning_68 (by decide) ?_
              refine z_goto (pc := 69) (tgt := 86) O dX9_meaning_69 (by decide) ?_
              refine z_iret (pc := 86) O dX9_meaning_86 ?_
              exact ⟨5, rfl, (by decide), (by omega), rfl⟩
          · refine z_iconst (pc := 56) (v := iz (4)) O dX9_meaning_56 (by decide) ?_
            refine z_goto (pc := 57) (tgt := 86) O dX9_meaning_57 (by decide) ?_
            refine z_iret (pc := 86) O dX9_meaning_86 ?_
            exact ⟨4, rfl, (by decide), (by omega), rfl⟩
        · refine z_iconst (pc := 44) (v := iz (3)) O dX9_meaning_44 (by decide) ?_
          refine z_goto (pc := 45) (tgt := 86) O dX9_meaning_45 (by decide) ?_
          refine z_iret (pc := 86) O dX9_meaning_86 ?_
          exact ⟨3, rfl, (by decide), (by omega), rfl⟩
      · refine z_iconst (pc := 32) (v := iz (2)) O dX9_meaning_32 (by decide) ?_
        refine z_goto (pc := 33) (tgt := 86) O dX9_meaning_33 (by decide) ?_
        refine z_iret (pc := 86) O dX9_meaning_86 ?_
        exact ⟨2, rfl, (by decide), (by omega), rfl⟩
    · refine z_iconst (pc := 20) (v := iz (1)) O dX9_meaning_20 (by decide) ?_
      refine z_goto (pc := 21) (tgt := 86) O dX9_meaning_21 (by decide) ?_
      refine z_iret (pc := 86) O dX9_meaning_86 ?_
      exact ⟨1, rfl, (by decide), (by omega), rfl⟩
  · refine z_iconst (pc := 8) (v := iz (0)) O dX9_meaning_8 (by decide) ?_
    refine z_goto (pc := 9) (tgt := 86) O dX9_meaning_9 (by decide) ?_
    refine z_iret (pc := 86) O dX9_meaning_86 ?_
    exact ⟨0, rfl, (by decide), (by omega), rfl⟩
set_option maxHeartbeats 4000000 in
set_option maxRecDepth 20000 in
theorem k9_isKept (l : Launch) (σ : VH) (v : Int64) : Ct l yX9_isKept cX9_isKept 2 (some .boolean) 1 0 0 [.long v] σ (fun r τ => ∃ z : Int, r = some (.int (iz z)) ∧ (z = 0 ∨ z = 1) ∧ (σ = τ)) := by
  refine Ct.enter rfl (Nat.le_of_ble_eq_true rfl) ?_
  intro κ γ hκ O hrc hrs
  subst hκ
  refine z_lload_n (pc := 0) O dX9_isKept_0 rfl ?_
  refine z_callS (pc := 1) O cl_X9_196 (k9_meaning _ _ v) (by decide) rfl rfl (Nat.le_of_ble_eq_true rfl) ⟨Nat.zero_le _, Nat.zero_le _⟩ dX9_isKept_1 (fun r τ1 hp => ?_)
  obtain ⟨z2, rfl, fτ1_0, fτ1_1, rfl⟩ := hp
  refine zi_if_ge (pc := 4) (tgt := 119) O dX9_isKept_4 (by decide) (by omega) (fun h4 => ?_) (fun h4 => ?_)
  · refine z_iconst (pc := 119) (v := iz (1)) O dX9_isKept_119 (by decide) ?_
    refine z_goto (pc := 120) (tgt := 124) O dX9_isKept_120 (by decide) ?_
    refine z_zret (pc := 124) O dX9_isKept_124 rfl ?_
    exact ⟨1, rfl, (by decide), rfl⟩
  · refine z_lload_n (pc := 7) O dX9_isKept_7 rfl ?_
    refine z_ldc2 (pc := 8) O tw_1014 dX9_isKept_8 ?_
    refine z_lcmp (pc := 11) O dX9_isKept_11 ?_
    refine zi_lc_eq (pc := 12) (tgt := 119) O dX9_isKept_12 (by decide) (fun h12 => ?_) (fun h12 => ?_)
    · refine z_iconst (pc := 119) (v := iz (1)) O dX9_isKept_119 (by decide) ?_
      refine z_goto (pc := 120) (tgt := 124) O dX9_isKept_120 (by decide) ?_
      refine z_zret (pc := 124) O dX9_isKept_124 rfl ?_
      exact ⟨1, rfl, (by decide), rfl⟩
    · refine z_lload_n (pc := 15) O dX9_isKept_15 rfl ?_
      refine z_ldc2 (pc := 16) O tw_1015 dX9_isKept_16 ?_
      refine z_lcmp (pc := 19) O dX9_isKept_19 ?_
      refine zi_lc_eq (pc := 20) (tgt := 119) O dX9_isKept_20 (by decide) (fun h20 => ?_) (fun h20 => ?_)
      · refine z_iconst (pc := 119) (v := iz (1)) O dX9_isKept_119 (by decide) ?_
        refine z_goto (pc := 120) (tgt := 124) O dX9_isKept_120 (by decide) ?_
        refine z_zret (pc := 124) O dX9_isKept_124 rfl ?_
        exact ⟨1, rfl, (by decide), rfl⟩
      · refine z_lload_n (pc := 23) O dX9_isKept_23 rfl ?_
        refine z_ldc2 (pc := 24) O tw_1016 dX9_isKept_24 ?_
        refine z_lcmp (pc := 27) O dX9_isKept_27 ?_
        refine zi_lc_eq (pc := 28) (tgt := 119) O dX9_isKept_28 (by decide) (fun h28 => ?_) (fun h28 => ?_)
        · refine z_iconst (pc := 119) (v := iz (1)) O dX9_isKept_119 (by decide) ?_
          refine z_goto (pc := 120) (tgt := 124) O dX9_isKept_120 (by decide) ?_
          refine z_zret (pc := 124) O dX9_isKept_124 rfl ?_
          exact ⟨1, rfl, (by decide), rfl⟩
        · refine z_lload_n (pc := 31) O dX9_isKept_31 rfl ?_
          refine z_ldc2 (pc := 32) O tw_1017 dX9_isKept_32 ?_
          refine z_lcmp (pc := 35) O dX9_isKept_35 ?_
          refine zi_lc_eq (pc := 36) (tgt := 119) O dX9_isKept_36 (by decide) (fun h36 => ?_) (fun h36 => ?_)
          · refine z_iconst (pc := 119) (v := iz (1)) O dX9_isKept_119 (by decide) ?_
            refine z_goto (pc := 120) (tgt := 124) O dX9_isKept_120 (by decide) ?_
            refine z_zret (pc := 124) O dX9_isKept_124 rfl ?_
            exact ⟨1, rfl, (by decide), rfl⟩
          · refine z_lload_n (pc := 39) O dX9_isKept_39 rfl ?_
            refine z_ldc2 (pc := 40) O tw_1018 dX9_isKept_40 ?_
            refine z_lcmp (pc := 43) O dX9_isKept_43 ?_
            refine zi_lc_eq (pc := 44) (tgt := 119) O dX9_isKept_44 (by decide) (fun h44 => ?_) (fun h44 => ?_)
            · refine z_iconst (pc := 119) (v := iz (1)) O dX9_isKept_119 (by decide) ?_
              refine z_goto (pc := 120) (tgt := 124) O dX9_isKept_120 (by decide) ?_
              refine z_zret (pc := 124) O dX9_isKept_124 rfl ?_
              exact ⟨1, rfl, (by decide), rfl⟩
            · refine z_lload_n (pc := 47) O dX9_isKept_47 rfl ?_
              refine z_ldc2 (pc := 48) O tw_1019 dX9_isKept_48 ?_
              refine z_lcmp (pc := 51) O dX9_isKept_51 ?_
              refine zi_lc_eq (pc := 52) (tgt := 119) O dX9_isKept_52 (by decide) (fun h52 => ?_) (fun h52 => ?_)
              · refine z_iconst (pc := 119) (v := iz (1)) O dX9_isKept_119 (by decide) ?_
                refine z_goto (pc := 120) (tgt := 124) O dX9_isKept_120 (by decide) ?_
                refine z_zret (pc := 124) O dX9_isKept_124 rfl ?_
                exact ⟨1, rfl, (by decide), rfl⟩
              · refine z_lload_n (pc := 55) O dX9_isKept_55 rfl ?_
                refine z_ldc2 (pc := 56) O tw_1020 dX9_isKept_56 ?_
                refine z_lcmp (pc := 59) O dX9_isKept_59 ?_
                refine zi_lc_eq (pc := 60) (tgt := 119) O dX9_isKept_60 (by decide) (fun h60 => ?_) (fun h60 => ?_)
                · refine z_iconst (pc := 119) (v := iz (1)) O dX9_isKept_119 (by decide) ?_
                  refine z_goto (pc := 120) (tgt := 124) O dX9_isKept_120 (by decide) ?_
                  refine z_zret (pc := 124) O dX9_isKept_124 rfl ?_
                  exact ⟨1, rfl, (by decide), rfl⟩
                · refine z_lload_n (pc := 63) O dX9_isKept_63 rfl ?_
                  refine z_ldc2 (pc := 64) O tw_1021 dX9_isKept_64 ?_
                  refine z_lcmp (pc := 67) O dX9_isKept_67 ?_
                  refine zi_lc_eq (pc := 68) (tgt := 119) O dX9_isKept_68 (by decide) (fun h68 => ?_) (fun h68 => ?_)
                  · refine z_iconst (pc := 119) (v := iz (1)) O dX9_isKept_119 (by decide) ?_
                    refine z_goto (pc := 120) (tgt := 124) O dX9_isKept_120 (by decide) ?_
                    refine z_zret (pc := 124) O dX9_isKept_124 rfl ?_
                    exact ⟨1, rfl, (by decide), rfl⟩
                  · refine z_lload_n (pc := 71) O dX9_isKept_71 rfl ?_
                    refine z_ldc2 (pc := 72) O tw_1022 dX9_isKept_72 ?_
                    refine z_lcmp (pc := 75) O dX9_isKept_75 ?_
                    refine zi_lc_eq (pc := 76) (tgt := 119) O dX9_isKept_76 (by decide) (fun h76 => ?_) (fun h76 => ?_)
                    · refine z_iconst (pc := 119) (v := iz (1)) O dX9_isKept_119 (by decide) ?_
                      refine z_goto (pc := 120) (tgt := 124) O dX9_isKept_120 (by decide) ?_
                      refine z_zret (pc := 124) O dX9_isKept_124 rfl ?_
                      exact ⟨1, rfl, (by decide), rfl⟩
                    · refine z_lload_n (pc := 79) O dX9_isKept_79 rfl ?_
                      refine z_ldc2 (pc := 80) O tw_1023 dX9_isKept_80 ?_
                      refine z_lcmp (pc := 83) O dX9_isKept_83 ?_
                      refine zi_lc_eq (pc := 84) (tgt := 119) O dX9_isKept_84 (by decide) (fun h84 => ?_) (fun h84 => ?_)
                      · refine z_iconst (pc := 119) (v := iz (1)) O dX9_isKept_119 (by decide) ?_
                        refine z_goto (pc := 120) (tgt := 124) O dX9_isKept_120 (by decide) ?_
                        refine z_zret (pc := 124) O dX9_isKept_124 rfl ?_
                        exact ⟨1, rfl, (by decide), rfl⟩
                      · refine z_lload_n (pc := 87) O dX9_isKept_87 rfl ?_
                        refine z_ldc2 (pc := 88) O tw_1024 dX9_isKept_88 ?_
                        refine z_lcmp (pc := 91) O dX9_isKept_91 ?_
                        refine zi_lc_eq (pc := 92) (tgt := 119) O dX9_isKept_92 (by decide) (fun h92 => ?_) (fun h92 => ?_)
                        · refine z_iconst (pc := 119) (v := iz (1)) O dX9_isKept_119 (by decide) ?_
                          refine z_goto (pc := 120) (tgt := 124) O dX9_isKept_120 (by decide) ?_
                          refine z_zret (pc := 124) O dX9_isKept_124 rfl ?_
                          exact ⟨1, rfl, (by decide), rfl⟩
                        · refine z_lload_n (pc := 95) O dX9_isKept_95 rfl ?_
                          refine z_ldc2 (pc := 96) O tw_1025 dX9_isKept_96 ?_
                          refine z_lcmp (pc := 99) O dX9_isKept_99 ?_
                          refine zi_lc_eq (pc := 100) (tgt := 119) O dX9_isKept_100 (by decide) (fun h100 => ?_) (fun h100 => ?_)
                          · refine z_iconst (pc := 119) (v := iz (1)) O dX9_isKept_119 (by decide) ?_
                            refine z_goto (pc := 120) (tgt := 124) O dX9_isKept_120 (by decide) ?_
                            refine z_zret (pc := 124) O dX9_isKept_124 rfl ?_
                            exact ⟨1, rfl, (by decide), rfl⟩
                          · refine z_lload_n (pc := 103) O dX9_isKept_103 rfl ?_
                            refine z_ldc2 (pc := 104) O tw_1026 dX9_isKept_104 ?_
                            refine z_lcmp (pc := 107) O dX9_isKept_107 ?_
                            refine zi_lc_eq (pc := 108) (tgt := 119) O dX9_isKept_108 (by decide) (fun h108 => ?_) (fun h108 => ?_)
                            · refine z_iconst (pc := 119) (v := iz (1)) O dX9_isKept_119 (by decide) ?_
                              refine z_goto (pc := 120) (tgt := 124) O dX9_isKept_120 (by decide) ?_
                              refine z_zret (pc := 124) O dX9_isKept_124 rfl ?_
                              exact ⟨1, rfl, (by decide), rfl⟩
                            · refine z_lload_n (pc := 111) O dX9_isKept_111 rfl ?_
                              refine z_ldc2 (pc := 112) O tw_1027 dX9_isKept_112 ?_
                              refine z_lcmp (pc := 115) O dX9_isKept_115 ?_
                              refine zi_lc_ne (pc := 116) (tgt := 123) O dX9_isKept_116 (by decide) (fun h116 => ?_) (fun h116 => ?_)
                              · refine z_iconst (pc := 123) (v := iz (0)) O dX9_isKept_123 (by decide) ?_
                                refine z_zret (pc := 124) O dX9_isKept_124 rfl ?_
                                exact ⟨0, rfl, (by decide), rfl⟩
                              · refine z_iconst (pc := 119) (v := iz (1)) O dX9_isKept_119 (by decide) ?_
                                refine z_goto (pc := 120) (tgt := 124) O dX9_isKept_120 (by decide) ?_
                                refine z_zret (pc := 124) O dX9_isKept_124 rfl ?_
                                exact ⟨1, rfl, (by decide), rfl⟩
set_option maxHeartbeats 4000000 in
set_option maxRecDepth 20000 in
theorem k9_is (l : Launch) (σ : VH) (c : Int) (rc : (-2147483648 ≤ c ∧ c < 2147483648)) (J : Lay σ) (hz : 0 ≤ gI σ 33 3 ∧ gI σ 33 3 ≤ 700) (ha : 0 ≤ gI σ 33 7) : Ct l yX9_is cX9_is 2 (some .boolean) 1 0 0 [.ref 33, .int (iz c)] σ (fun r τ => ∃ z : Int, r = some (.int (iz z)) ∧ (z = 0 ∨ z = 1) ∧ (z = 0 ∨ (gI σ 33 9 = 5 ∧ sg σ (gI σ 33 7) = c)) ∧ (σ = τ)) := by
  refine Ct.enter rfl (Nat.le_of_ble_eq_true rfl) ?_
  intro κ γ hκ O hrc hrs
  subst hκ
  refine z_aload_n (pc := 0) O dX9_is_0 rfl ?_
  refine zi_getv (pc := 1) (gI σ 33 9) O fl_X9_238 rfl (jo_33 J) (izg σ 33 9) dX9_is_1 ?_
  have := rgI σ 33 9
  refine z_iconst (pc := 4) (v := iz (5)) O dX9_is_4 (by decide) ?_
  refine zi_icmp_ne (pc := 5) (tgt := 24) O dX9_is_5 (by decide) (by omega) (by decide) (fun h5 => ?_) (fun h5 => ?_)
  · refine z_iconst (pc := 24) (v := iz (0)) O dX9_is_24 (by decide) ?_
    refine z_zret (pc := 25) O dX9_is_25 rfl ?_
    exact ⟨0, rfl, (by decide), (by omega), rfl⟩
  · refine z_aload_n (pc := 8) O dX9_is_8 rfl ?_
    refine z_aload_n (pc := 9) O dX9_is_9 rfl ?_
    refine zi_getv (pc := 10) (gI σ 33 7) O fl_X9_231 rfl (jo_33 J) (izg σ 33 7) dX9_is_10 ?_
    have := rgI σ 33 7
    refine z_callV (pc := 13) O cl_X9_234 (k9_sign _ _ (gI σ 33 7) (by omega) J (by omega) (by omega)) (by decide) (jo_33 J) kc_9 rfl rfl (Nat.le_of_ble_eq_true rfl) ⟨Nat.zero_le _, Nat.zero_le _⟩ dX9_is_13 (fun r τ1 hp => ?_)
    obtain ⟨z2, rfl, fτ1_0, fτ1_1, fτ1_2, rfl⟩ := hp
    refine z_iload_n (pc := 16) O dX9_is_16 rfl ?_
    refine zi_icmp_ne (pc := 17) (tgt := 24) O dX9_is_17 (by decide) (by omega) (by omega) (fun h17 => ?_) (fun h17 => ?_)
    · refine z_iconst (pc := 24) (v := iz (0)) O dX9_is_24 (by decide) ?_
      refine z_zret (pc := 25) O dX9_is_25 rfl ?_
      exact ⟨0, rfl, (by decide), (by omega), rfl⟩
    · refine z_iconst (pc := 20) (v := iz (1)) O dX9_is_20 (by decide) ?_
      refine z_goto (pc := 21) (tgt := 25) O dX9_is_21 (by decide) ?_
      refine z_zret (pc := 25) O dX9_is_25 rfl ?_
      exact ⟨1, rfl, (by decide), (by omega), rfl⟩
set_option maxHeartbeats 4000000 in
set_option maxRecDepth 20000 in
theorem k9_isWord (l : Launch) (σ : VH) (v : Int64) (J : Lay σ) : Ct l yX9_isWord cX9_isWord 3 (some .boolean) 0 0 0 [.ref 33, .long v] σ (fun r τ => ∃ z : Int, r = some (.int (iz z)) ∧ (z = 0 ∨ z = 1) ∧ (z = 0 ∨ gI σ 33 9 = 3) ∧ (σ = τ)) := by
  refine Ct.enter rfl (Nat.le_of_ble_eq_true rfl) ?_
  intro κ γ hκ O hrc hrs
  subst hκ
  refine z_aload_n (pc := 0) O dX9_isWord_0 rfl ?_
  refine zi_getv (pc := 1) (gI σ 33 9) O fl_X9_238 rfl (jo_33 J) (izg σ 33 9) dX9_isWord_1 ?_
  have := rgI σ 33 9
  refine z_iconst (pc := 4) (v := iz (3)) O dX9_isWord_4 (by decide) ?_
  refine zi_icmp_ne (pc := 5) (tgt := 21) O dX9_isWord_5 (by decide) (by omega) (by decide) (fun h5 => ?_) (fun h5 => ?_)
  · refine z_iconst (pc := 21) (v := iz (0)) O dX9_isWord_21 (by decide) ?_
    refine z_zret (pc := 22) O dX9_isWord_22 rfl ?_
    exact ⟨0, rfl, (by decide), (by omega), rfl⟩
  · refine z_aload_n (pc := 8) O dX9_isWord_8 rfl ?_
    refine zi_getLv (pc := 9) (hL σ 33 11) O fl_X9_245 rfl (jo_33 J) rfl dX9_isWord_9 ?_
    refine z_lload_n (pc := 12) O dX9_isWord_12 rfl ?_
    refine z_lcmp (pc := 13) O dX9_isWord_13 ?_
    refine zi_lc_ne (pc := 14) (tgt := 21) O dX9_isWord_14 (by decide) (fun h14 => ?_) (fun h14 => ?_)
    · refine z_iconst (pc := 21) (v := iz (0)) O dX9_isWord_21 (by decide) ?_
      refine z_zret (pc := 22) O dX9_isWord_22 rfl ?_
      exact ⟨0, rfl, (by decide), (by omega), rfl⟩
    · refine z_iconst (pc := 17) (v := iz (1)) O dX9_isWord_17 (by decide) ?_
      refine z_goto (pc := 18) (tgt := 22) O dX9_isWord_18 (by decide) ?_
      refine z_zret (pc := 22) O dX9_isWord_22 rfl ?_
      exact ⟨1, rfl, (by decide), (by omega), rfl⟩
