set_option maxHeartbeats 4000000 in
set_option maxRecDepth 20000 in
theorem k4_expect (l : Launch) (σ : VH) (b : Nat) (v : Int64) (J : Lay σ) (R : RdX σ b) : Ct l yX4_expect cX4_expect 3 (some .boolean) 1 0 0 [.ref (b + 9), .long v] σ (fun r τ => ∃ z : Int, r = some (.int (iz z)) ∧ (z = 0 ∨ z = 1) ∧ (FrD b σ τ) ∧ (RdX τ b)) := by
  refine Ct.enter rfl (Nat.le_of_ble_eq_true rfl) ?_
  intro κ γ hκ O hrc hrs
  subst hκ
  have hR0 := R.1.1
  have hR4 := R.2.2.2.1
  have hR5 := R.2.2.2.2
  have hR6 := R.1.2.2.2.2.1
  have hR7 := R.1.2.2.2.2.2.1
  refine z_aload_n (pc := 0) O dX4_expect_0 rfl ?_
  refine zi_getLv (pc := 1) (hL σ (b + 9) 3) O fl_X4_29 rfl (R).2.1 rfl dX4_expect_1 ?_
  refine z_lload_n (pc := 4) O dX4_expect_4 rfl ?_
  refine z_lcmp (pc := 5) O dX4_expect_5 ?_
  refine zi_lc_eq (pc := 6) (tgt := 15) O dX4_expect_6 (by decide) (fun h6 => ?_) (fun h6 => ?_)
  · refine z_aload_n (pc := 15) O dX4_expect_15 rfl ?_
    refine z_callV (pc := 16) O cl_X4_68 (k4_advance _ _ b J R) (by decide) (R).2.1 kc_4 rfl rfl (Nat.le_of_ble_eq_true rfl) ⟨Nat.zero_le _, Nat.zero_le _⟩ dX4_expect_16 (fun r τ1 hp => ?_)
    obtain ⟨rfl, frτ1, ivτ1_RdX⟩ := hp
    have := (ivτ1_RdX).2.2.2.1
    have := (ivτ1_RdX).2.2.2.2
    have := (ivτ1_RdX).1.2.2.2.2.1
    have := (ivτ1_RdX).1.2.2.2.2.2.1
    have : gI τ1 4 2 = gI σ 4 2 := gI_iz (FrD.it frτ1 (by omega) (izg σ 4 2)) (rgI _ _ _)
    refine z_iconst (pc := 19) (v := iz (1)) O dX4_expect_19 (by decide) ?_
    refine z_zret (pc := 20) O dX4_expect_20 rfl ?_
    exact ⟨1, rfl, (by decide), ((FrD.rf b σ).tr frτ1), ivτ1_RdX⟩
  · refine z_aload_n (pc := 9) O dX4_expect_9 rfl ?_
    refine z_iconst (pc := 10) (v := iz (2)) O dX4_expect_10 (by decide) ?_
    refine z_callV (pc := 11) O cl_X4_59 (k4_refuse _ _ b 2 (by decide) J R) (by decide) (R).2.1 kc_4 rfl rfl (Nat.le_of_ble_eq_true rfl) ⟨Nat.zero_le _, Nat.zero_le _⟩ dX4_expect_11 (fun r τ3 hp => ?_)
    obtain ⟨z4, rfl, fτ3_0, frτ3, ivτ3_RdX⟩ := hp
    have := (ivτ3_RdX).2.2.2.1
    have := (ivτ3_RdX).2.2.2.2
    have := (ivτ3_RdX).1.2.2.2.2.1
    have := (ivτ3_RdX).1.2.2.2.2.2.1
    have : gI τ3 4 2 = gI σ 4 2 := gI_iz (FrD.it frτ3 (by omega) (izg σ 4 2)) (rgI _ _ _)
    refine z_zret (pc := 14) O dX4_expect_14 (nar_z (by omega)) ?_
    exact ⟨z4, rfl, (by omega), ((FrD.rf b σ).tr frτ3), ivτ3_RdX⟩
set_option maxHeartbeats 4000000 in
set_option maxRecDepth 20000 in
theorem k4_readNumber (l : Launch) (σ : VH) (b : Nat) (y : Int) (ry : (-2147483648 ≤ y ∧ y < 2147483648)) (x : Int) (rx : (-2147483648 ≤ x ∧ x < 2147483648)) (J : Lay σ) (R : RdX σ b) : Ct l yX4_readNumber cX4_readNumber 4 (some .int) 1 0 0 [.ref (b + 9), .int (iz y), .int (iz x)] σ (fun r τ => ∃ z : Int, r = some (.int (iz z)) ∧ (-2147483648 ≤ z ∧ z < 2147483648) ∧ (FrD b σ τ) ∧ (RdX τ b)) := by
  refine Ct.enter rfl (Nat.le_of_ble_eq_true rfl) ?_
  intro κ γ hκ O hrc hrs
  subst hκ
  have hR0 := R.1.1
  have hR4 := R.2.2.2.1
  have hR5 := R.2.2.2.2
  have hR6 := R.1.2.2.2.2.1
  have hR7 := R.1.2.2.2.2.2.1
  refine z_aload_n (pc := 0) O dX4_readNumber_0 rfl ?_
  refine zi_getLv (pc := 1) (hL σ (b + 9) 3) O fl_X4_29 rfl (R).2.1 rfl dX4_readNumber_1 ?_
  refine z_lconst (pc := 4) (v := 0) O dX4_readNumber_4 (by decide) ?_
  refine z_lcmp (pc := 5) O dX4_readNumber_5 ?_
  refine zi_lc_lt (pc := 6) (tgt := 17) O dX4_readNumber_6 (by decide) (fun h6 => ?_) (fun h6 => ?_)
  · refine z_aload_n (pc := 17) O dX4_readNumber_17 rfl ?_
    refine zi_getLv (pc := 18) (hL σ (b + 9) 3) O fl_X4_29 rfl (R).2.1 rfl dX4_readNumber_18 ?_
    refine z_ldc2 (pc := 21) O tw_399 dX4_readNumber_21 ?_
    refine z_lxor (pc := 24) O dX4_readNumber_24 ?_
    refine z_topl (pc := 25) (fun w1 ew1 => ?_)
    refine z_l2i (pc := 25) O dX4_readNumber_25 ?_
    refine zi_any (fun z2 rz2 ez2 => ?_)
    refine z_istore_n (pc := 26) [(0, .ref (b + 9)), (1, .int (iz y)), (2, .int (iz x)), (3, .int (iz z2))] O dX4_readNumber_26 (by decide) rfl ?_
    refine z_iload_n (pc := 27) O dX4_readNumber_27 rfl ?_
    refine z_iload_n (pc := 28) O dX4_readNumber_28 rfl ?_
    refine zi_icmp_lt (pc := 29) (tgt := 37) O dX4_readNumber_29 (by decide) (by omega) (by omega) (fun h29 => ?_) (fun h29 => ?_)
    · refine z_aload_n (pc := 37) O dX4_readNumber_37 rfl ?_
      refine z_iconst (pc := 38) (v := iz (4)) O dX4_readNumber_38 (by decide) ?_
      refine z_callV (pc := 39) O cl_X4_59 (k4_refuse _ _ b 4 (by decide) J R) (by decide) (R).2.1 kc_4 rfl rfl (Nat.le_of_ble_eq_true rfl) ⟨Nat.zero_le _, Nat.zero_le _⟩ dX4_readNumber_39 (fun r τ3 hp => ?_)
      obtain ⟨z4, rfl, fτ3_0, frτ3, ivτ3_RdX⟩ := hp
      have := (ivτ3_RdX).2.2.2.1
      have := (ivτ3_RdX).2.2.2.2
      have := (ivτ3_RdX).1.2.2.2.2.1
      have := (ivτ3_RdX).1.2.2.2.2.2.1
      have : gI τ3 4 2 = gI σ 4 2 := gI_iz (FrD.it frτ3 (by omega) (izg σ 4 2)) (rgI _ _ _)
      refine z_pop (pc := 42) O dX4_readNumber_42 rfl ?_
      refine z_iconst (pc := 43) (v := iz (-1)) O dX4_readNumber_43 (by decide) ?_
      refine z_iret (pc := 44) O dX4_readNumber_44 ?_
      exact ⟨(-1), rfl, (by decide), ((FrD.rf b σ).tr frτ3), ivτ3_RdX⟩
    · refine z_iload_n (pc := 32) O dX4_readNumber_32 rfl ?_
      refine z_iload_n (pc := 33) O dX4_readNumber_33 rfl ?_
      refine zi_icmp_le (pc := 34) (tgt := 45) O dX4_readNumber_34 (by decide) (by omega) (by omega) (fun h34 => ?_) (fun h34 => ?_)
      · refine z_aload_n (pc := 45) O dX4_readNumber_45 rfl ?_
        refine z_callV (pc := 46) O cl_X4_68 (k4_advance _ _ b J R) (by decide) (R).2.1 kc_4 rfl rfl (Nat.le_of_ble_eq_true rfl) ⟨Nat.zero_le _, Nat.zero_le _⟩ dX4_readNumber_46 (fun r τ5 hp => ?_)
        obtain ⟨rfl, frτ5, ivτ5_RdX⟩ := hp
        have := (ivτ5_RdX).2.2.2.1
        have := (ivτ5_RdX).2.2.2.2
        have := (ivτ5_RdX).1.2.2.2.2.1
        have := (ivτ5_RdX).1.2.2.2.2.2.1
        have : gI τ5 4 2 = gI σ 4 2 := gI_iz (FrD.it frτ5 (by omega) (izg σ 4 2)) (rgI _ _ _)
        refine z_iload_n (pc := 49) O dX4_readNumber_49 rfl ?_
        refine z_iret (pc := 50) O dX4_readNumber_50 ?_
        exact ⟨z2, rfl, (by omega), ((FrD.rf b σ).tr frτ5), ivτ5_RdX⟩
      · refine z_aload_n (pc := 37) O dX4_readNumber_37 rfl ?_
        refine z_iconst (pc := 38) (v := iz (4)) O dX4_readNumber_38 (by decide) ?_
        refine z_callV (pc := 39) O cl_X4_59 (k4_refuse _ _ b 4 (by decide) J R) (by decide) (R).2.1 kc_4 rfl rfl (Nat.le_of_ble_eq_true rfl) ⟨Nat.zero_le _, Nat.zero_le _⟩ dX4_readNumber_39 (fun r τ7 hp => ?_)
        obtain ⟨z8, rfl, fτ7_0, frτ7, ivτ7_RdX⟩ := hp
        have := (ivτ7_RdX).2.2.2.1
        have := (ivτ7_RdX).2.2.2.2
        have := (ivτ7_RdX).1.2.2.2.2.1
        have := (ivτ7_RdX).1.2.2.2.2.2.1
        have : gI τ7 4 2 = gI σ 4 2 := gI_iz (FrD.it frτ7 (by omega) (izg σ 4 2)) (rgI _ _ _)
        refine z_pop (pc := 42) O dX4_readNumber_42 rfl ?_
        refine z_iconst (pc := 43) (v := iz (-1)) O dX4_readNumber_43 (by decide) ?_
        refine z_iret (pc := 44) O dX4_readNumber_44 ?_
        exact ⟨(-1), rfl, (by decide), ((FrD.rf b σ).tr frτ7), ivτ7_RdX⟩
  · refine z_aload_n (pc := 9) O dX4_readNumber_9 rfl ?_
    refine z_iconst (pc := 10) (v := iz (2)) O dX4_readNumber_10 (by decide) ?_
    refine z_callV (pc := 11) O cl_X4_59 (k4_refuse _ _ b 2 (by decide) J R) (by decide) (R).2.1 kc_4 rfl rfl (Nat.le_of_ble_eq_true rfl) ⟨Nat.zero_le _, Nat.zero_le _⟩ dX4_readNumber_11 (fun r τ9 hp => ?_)
    obtain ⟨z10, rfl, fτ9_0, frτ9, ivτ9_RdX⟩ := hp
    have := (ivτ9_RdX).2.2.2.1
    have := (ivτ9_RdX).2.2.2.2
    have := (ivτ9_RdX).1.2.2.2.2.1
    have := (ivτ9_RdX).1.2.2.2.2.2.1
    have : gI τ9 4 2 = gI σ 4 2 := gI_iz (FrD.it frτ9 (by omega) (izg σ 4 2)) (rgI _ _ _)
    refine z_pop (pc := 14) O dX4_readNumber_14 rfl ?_
    refine z_iconst (pc := 15) (v := iz (-1)) O dX4_readNumber_15 (by decide) ?_
    refine z_iret (pc := 16) O dX4_readNumber_16 ?_
    exact ⟨(-1), rfl, (by decide), ((FrD.rf b σ).tr frτ9), ivτ9_RdX⟩
set_option maxHeartbeats 4000000 in
set_option maxRecDepth 20000 in
theorem k4_readHurt (l : Launch) (σ : VH) (b : Nat) (J : Lay σ) (R : RdX σ b) : Ct l yX4_readHurt cX4_readHurt 4 (some .boolean) 2 0 0 [.ref (b + 9)] σ (fun r τ => ∃ z : Int, r = some (.int (iz z)) ∧ (z = 0 ∨ z = 1) ∧ (FrD b σ τ) ∧ (RdX τ b)) := by
  refine Ct.enter rfl (Nat.le_of_ble_eq_true rfl) ?_
  intro κ γ hκ O hrc hrs
  subst hκ
  have hR0 := R.1.1
  have hR4 := R.2.2.2.1
  have hR5 := R.2.2.2.2
  have hR6 := R.1.2.2.2.2.1
  have hR7 := R.1.2.2.2.2.2.1
  refine z_aload_n (pc := 0) O dX4_readHurt_0 rfl ?_
  refine z_getR (pc := 1) b O fl_X4_19 rfl (R).2.1 (R).2.2.1.2 dX4_readHurt_1 ?_
  refine zi_getv (pc := 4) (gI σ b 3) O fl_X4_63 rfl (R).1.2.1 (izg σ b 3) dX4_readHurt_4 ?_
  have := rgI σ b 3
  refine z_bipush (pc := 7) (v := iz (12)) O dX4_readHurt_7 (by decide) ?_
  refine zi_icmp_lt (pc := 9) (tgt := 18) O dX4_readHurt_9 (by decide) (by omega) (by decide) (fun h9 => ?_) (fun h9 => ?_)
  · refine z_aload_n (pc := 18) O dX4_readHurt_18 rfl ?_
    refine z_callV (pc := 19) O cl_X4_68 (k4_advance _ _ b J R) (by decide) (R).2.1 kc_4 rfl rfl (Nat.le_of_ble_eq_true rfl) ⟨Nat.zero_le _, Nat.zero_le _⟩ dX4_readHurt_19 (fun r τ1 hp => ?_)
    obtain ⟨rfl, frτ1, ivτ1_RdX⟩ := hp
    have := (ivτ1_RdX).2.2.2.1
    have := (ivτ1_RdX).2.2.2.2
    have := (ivτ1_RdX).1.2.2.2.2.1
    have := (ivτ1_RdX).1.2.2.2.2.2.1
    have : gI τ1 4 2 = gI σ 4 2 := gI_iz (FrD.it frτ1 (by omega) (izg σ 4 2)) (rgI _ _ _)
    refine z_aload_n (pc := 22) O dX4_readHurt_22 rfl ?_
    refine zi_getLv (pc := 23) (hL τ1 (b + 9) 3) O fl_X4_29 rfl (ivτ1_RdX).2.1 rfl dX4_readHurt_23 ?_
    refine z_topl (pc := 26) (fun w3 ew3 => ?_)
    refine z_lstore_n (pc := 26) [(0, .ref (b + 9)), (1, .long w3)] O dX4_readHurt_26 (by decide) rfl ?_
    refine z_lload_n (pc := 27) O dX4_readHurt_27 rfl ?_
    refine z_callSN (pc := 28) O cl_X4_71 (k8_isName _ _ w3) (by decide) rfl rfl (Nat.le_of_ble_eq_true rfl) ⟨Nat.zero_le _, Nat.zero_le _⟩ dX4_readHurt_28 (fun r τ4 hp => ?_)
    obtain ⟨z5, rfl, fτ4_0, rfl⟩ := hp
    refine zi_if_ne (pc := 31) (tgt := 40) O dX4_readHurt_31 (by decide) (by omega) (fun h31 => ?_) (fun h31 => ?_)
    · refine z_aload_n (pc := 40) O dX4_readHurt_40 rfl ?_
      refine z_getR (pc := 41) b O fl_X4_19 rfl (ivτ1_RdX).2.1 (ivτ1_RdX).2.2.1.2 dX4_readHurt_41 ?_
      refine z_getR (pc := 44) (b + 1) O fl_X4_75 rfl (ivτ1_RdX).1.2.1 (ivτ1_RdX).1.2.2.1.1 dX4_readHurt_44 ?_
      refine z_lload_n (pc := 47) O dX4_readHurt_47 rfl ?_
      refine z_callSN (pc := 48) O cl_X4_78 (k8_placeIn _ _ (b + 1) w3 12 (Or.inl (ivτ1_RdX).1.2.2.2.1.1) (by decide)) (by decide) rfl rfl (Nat.le_of_ble_eq_true rfl) ⟨Nat.zero_le _, Nat.zero_le _⟩ dX4_readHurt_48 (fun r τ6 hp => ?_)
      obtain ⟨z7, rfl, fτ6_0, fτ6_1, rfl⟩ := hp
      refine z_iconst (pc := 51) (v := iz (-1)) O dX4_readHurt_51 (by decide) ?_
      refine zi_icmp_eq (pc := 52) (tgt := 61) O dX4_readHurt_52 (by decide) (by omega) (by decide) (fun h52 => ?_) (fun h52 => ?_)
      · refine z_aload_n (pc := 61) O dX4_readHurt_61 rfl ?_
        refine z_callV (pc := 62) O cl_X4_68 (k4_advance _ _ b (frτ1.lay J) ivτ1_RdX) (by decide) (ivτ1_RdX).2.1 kc_4 rfl rfl (Nat.le_of_ble_eq_true rfl) ⟨Nat.zero_le _, Nat.zero_le _⟩ dX4_readHurt_62 (fun r τ8 hp => ?_)
        obtain ⟨rfl, frτ8, ivτ8_RdX⟩ := hp
        have := (ivτ8_RdX).2.2.2.1
        have := (ivτ8_RdX).2.2.2.2
        have := (ivτ8_RdX).1.2.2.2.2.1
        have := (ivτ8_RdX).1.2.2.2.2.2.1
        have : gI τ8 4 2 = gI σ 4 2 := gI_iz (FrD.it frτ8 (by omega) (FrD.it frτ1 (by omega) (izg σ 4 2))) (rgI _ _ _)
        refine z_aload_n (pc := 65) O dX4_readHurt_65 rfl ?_
        refine z_iconst (pc := 66) (v := iz (0)) O dX4_readHurt_66 (by decide) ?_
        refine z_ldc (pc := 67) O tw_394 dX4_readHurt_67 ?_
        refine zi_val (100000) (by decide) ?_
        refine z_callV (pc := 69) O cl_X4_83 (k4_readNumber _ _ b 0 (by decide) 100000 (by decide) (frτ8.lay (frτ1.lay J)) ivτ8_RdX) (by decide) (ivτ8_RdX).2.1 kc_4 rfl rfl (Nat.le_of_ble_eq_true rfl) ⟨Nat.zero_le _, Nat.zero_le _⟩ dX4_readHurt_69 (fun r τ10 hp => ?_)
        obtain ⟨z11, rfl, fτ10_0, frτ10, ivτ10_RdX⟩ := hp
        have := (ivτ10_RdX).2.2.2.1
        have := (ivτ10_RdX).2.2.2.2
        have := (ivτ10_RdX).1.2.2.2.2.1
        have := (ivτ10_RdX).1.2.2.2.2.2.1
        have : gI τ10 4 2 = gI σ 4 2 := gI_iz (FrD.it frτ10 (by omega) (FrD.it frτ8 (by omega) (FrD.it frτ1 (by omega) (izg σ 4 2)))) (rgI _ _ _)
        refine z_istore_n (pc := 72) [(0, .ref (b + 9)), (1, .long w3), (3, .int (iz z11))] O dX4_readHurt_72 (by decide) rfl ?_
        refine z_iload_n (pc := 73) O dX4_readHurt_73 rfl ?_
        refine z_iconst (pc := 74) (v := iz (-1)) O dX4_readHurt_74 (by decide) ?_
        refine zi_icmp_eq (pc := 75) (tgt := 88) O dX4_readHurt_75 (by decide) (by omega) (by decide) (fun h75 => ?_) (fun h75 => ?_)
        · refine z_iconst (pc := 88) (v := iz (0)) O dX4_readHurt_88 (by decide) ?_
          refine z_zret (pc := 89) O dX4_readHurt_89 rfl ?_
          exact ⟨0, rfl, (by decide), ((((FrD.rf b σ).tr frτ1).tr frτ8).tr frτ10), ivτ10_RdX⟩
        · refine z_aload_n (pc := 78) O dX4_readHurt_78 rfl ?_
          refine z_ldc2 (pc := 79) O tw_400 dX4_readHurt_79 ?_
          refine z_callV (pc := 82) O cl_X4_89 (k4_expect _ _ b 59 (frτ10.lay (frτ8.lay (frτ1.lay J))) ivτ10_RdX) (by decide) (ivτ10_RdX).2.1 kc_4 rfl rfl (Nat.le_of_ble_eq_true rfl) ⟨Nat.zero_le _, Nat.zero_le _⟩ dX4_readHurt_82 (fun r τ12 hp => ?_)
          obtain ⟨z13, rfl, fτ12_0, frτ12, ivτ12_RdX⟩ := hp
          have := (ivτ12_RdX).2.2.2.1
          have := (ivτ12_RdX).2.2.2.2
          have := (ivτ12_RdX).1.2.2.2.2.1
          have := (ivτ12_RdX).1.2.2.2.2.2.1
          have : gI τ12 4 2 = gI σ 4 2 := gI_iz (FrD.it frτ12 (by omega) (FrD.it frτ10 (by omega) (FrD.it frτ8 (by omega) (FrD.it frτ1 (by omega) (izg σ 4 2))))) (rgI _ _ _)
          refine zi_if_ne (pc := 85) (tgt := 90) O dX4_readHurt_85 (by decide) (by omega) (fun h85 => ?_) (fun h85 => ?_)
          · refine z_aload_n (pc := 90) O dX4_readHurt_90 rfl ?_
            refine z_getR (pc := 91) b O fl_X4_19 rfl (ivτ12_RdX).2.1 (ivτ12_RdX).2.2.1.2 dX4_readHurt_91 ?_
            refine z_lload_n (pc := 94) O dX4_readHurt_94 rfl ?_
            refine z_iload_n (pc := 95) O dX4_readHurt_95 rfl ?_
            refine z_callV (pc := 96) O cl_X4_92 (k1_addHurt _ _ b w3 z11 (by omega) (frτ12.lay (frτ10.lay (frτ8.lay (frτ1.lay J)))) ivτ12_RdX) (by decide) (ivτ12_RdX).1.2.1 kc_1 rfl rfl (Nat.le_of_ble_eq_true rfl) ⟨Nat.zero_le _, Nat.zero_le _⟩ dX4_readHurt_96 (fun r τ14 hp => ?_)
            obtain ⟨rfl, frτ14, ivτ14_RdX⟩ := hp
            have := (ivτ14_RdX).2.2.2.1
            have := (ivτ14_RdX).2.2.2.2
            have := (ivτ14_RdX).1.2.2.2.2.1
            have := (ivτ14_RdX).1.2.2.2.2.2.1
            have : gI τ14 4 2 = gI σ 4 2 := gI_iz (FrD.it frτ14 (by omega) (FrD.it frτ12 (by omega) (FrD.it frτ10 (by omega) (FrD.it frτ8 (by omega) (FrD.it frτ1 (by omega) (izg σ 4 2)))))) (rgI _ _ _)
            refine z_iconst (pc := 99) (v := iz (1)) O dX4_readHurt_99 (by decide) ?_
            refine z_zret (pc := 100) O dX4_readHurt_100 rfl ?_
            exact ⟨1, rfl, (by decide), ((((((FrD.rf b σ).tr frτ1).tr frτ8).tr frτ10).tr frτ12).tr frτ14), ivτ14_RdX⟩
          · refine z_iconst (pc := 88) (v := iz (0)) O dX4_readHurt_88 (by decide) ?_
            refine z_zret (pc := 89) O dX4_readHurt_89 rfl ?_
            exact ⟨0, rfl, (by decide), (((((FrD.rf b σ).tr frτ1).tr frτ8).tr frτ10).tr frτ12), ivτ12_RdX⟩
      · refine z_aload_n (pc := 55) O dX4_readHurt_55 rfl ?_
        refine z_iconst (pc := 56) (v := iz (3)) O dX4_readHurt_56 (by decide) ?_
        refine z_callV (pc := 57) O cl_X4_59 (k4_refuse _ _ b 3 (by decide) (frτ1.lay J) ivτ1_RdX) (by decide) (ivτ1_RdX).2.1 kc_4 rfl rfl (Nat.le_of_ble_eq_true rfl) ⟨Nat.zero_le _, Nat.zero_le _⟩ dX4_readHurt_57 (fun r τ16 hp => ?_)
        obtain ⟨z17, rfl, fτ16_0, frτ16, ivτ16_RdX⟩ := hp
        have := (ivτ16_RdX).2.2.2.1
        have := (ivτ16_RdX).2.2.2.2
        have := (ivτ16_RdX).1.2.2.2.2.1
        have := (ivτ16_RdX).1.2.2.2.2.2.1
        have : gI τ16 4 2 = gI σ 4 2 := gI_iz (FrD.it frτ16 (by omega) (FrD.it frτ1 (by omega) (izg σ 4 2))) (rgI _ _ _)
        refine z_zret (pc := 60) O dX4_readHurt_60 (nar_z (by omega)) ?_
        exact ⟨z17, rfl, (by omega), (((FrD.rf b σ).tr frτ1).tr frτ16), ivτ16_RdX⟩
    · refine z_aload_n (pc := 34) O dX4_readHurt_34 rfl ?_
      refine z_iconst (pc := 35) (v := iz (2)) O dX4_readHurt_35 (by decide) ?_
      refine z_callV (pc := 36) O cl_X4_59 (k4_refuse _ _ b 2 (by decide) (frτ1.lay J) ivτ1_RdX) (by decide) (ivτ1_RdX).2.1 kc_4 rfl rfl (Nat.le_of_ble_eq_true rfl) ⟨Nat.zero_le _, Nat.zero_le _⟩ dX4_readHurt_36 (fun r τ18 hp => ?_)
      obtain ⟨z19, rfl, fτ18_0, frτ18, ivτ18_RdX⟩ := hp
      have := (ivτ18_RdX).2.2.2.1
      have := (ivτ18_RdX).2.2.2.2
      have := (ivτ18_RdX).1.2.2.2.2.1
      have := (ivτ18_RdX).1.2.2.2.2.2.1
      have : gI τ18 4 2 = gI σ 4 2 := gI_iz (FrD.it frτ18 (by omega) (FrD.it frτ1 (by omega) (izg σ 4 2))) (rgI _ _ _)
      refine z_zret (pc := 39) O dX4_readHurt_39 (nar_z (by omega)) ?_
      exact ⟨z19, rfl, (by omega), (((FrD.rf b σ).tr frτ1).tr frτ18), ivτ18_RdX⟩
  · refine z_aload_n (pc := 12) O dX4_readHurt_12 rfl ?_
    refine z_iconst (pc := 13) (v := iz (2)) O dX4_readHurt_13 (by decide) ?_
    refine z_callV (pc := 14) O cl_X4_59 (k4_refuse _ _ b 2 (by decide) J R) (by decide) (R).2.1 kc_4 rfl rfl (Nat.le_of_ble_eq_true rfl) ⟨Nat.zero_le _, Nat.zero_le _⟩ dX4_readHurt_14 (fun r τ20 hp => ?_)
    obtain ⟨z21, rfl, fτ20_0, frτ20, ivτ20_RdX⟩ := hp
    have := (ivτ20_RdX).2.2.2.1
    have := (ivτ20_RdX).2.2.2.2
    have := (ivτ20_RdX).1.2.2.2.2.1
    have := (ivτ20_RdX).1.2.2.2.2.2.1
    have : gI τ20 4 2 = gI σ 4 2 := gI_iz (FrD.it frτ20 (by omega) (izg σ 4 2)) (rgI _ _ _)
    refine z_zret (pc := 17) O dX4_readHurt_17 (nar_z (by omega)) ?_
    exact ⟨z21, rfl, (by omega), ((FrD.rf b σ).tr frτ20), ivτ20_RdX⟩
set_option maxHeartbeats 4000000 in
set_option maxRecDepth 20000 in
theorem k4_readNeed (l : Launch) (σ : VH) (b : Nat) (J : Lay σ) (R : RdX σ b) : Ct l yX4_readNeed cX4_readNeed 1 (some .boolean) 2 0 0 [.ref (b + 9)] σ (fun r τ => ∃ z : Int, r = some (.int (iz z)) ∧ (z = 0 ∨ z = 1) ∧ (FrD b σ τ) ∧ (RdX τ b)) := by
  refine Ct.enter rfl (Nat.le_of_ble_eq_true rfl) ?_
  intro κ γ hκ O hrc hrs
  subst hκ
  have hR0 := R.1.1
  have hR4 := R.2.2.2.1
  have hR5 := R.2.2.2.2
  have hR6 := R.1.2.2.2.2.1
  have hR7 := R.1.2.2.2.2.2.1
  refine z_aload_n (pc := 0) O dX4_readNeed_0 rfl ?_
  refine zi_getv (pc := 1) (gI σ (b + 9) 6) O fl_X4_120 rfl (R).2.1 (izg σ (b + 9) 6) dX4_readNeed_1 ?_
  have := rgI σ (b + 9) 6
  refine zi_if_eq (pc := 4) (tgt := 13) O dX4_readNeed_4 (by decide) (by omega) (fun h4 => ?_) (fun h4 => ?_)
  · refine z_aload_n (pc := 13) O dX4_readNeed_13 rfl ?_
    refine z_iconst (pc := 14) (v := iz (1)) O dX4_readNeed_14 (by decide) ?_
    refine z_putI (pc := 15) O fl_X4_120 rfl ⟨nar_z (by omega), rfl⟩ (R).2.1 dX4_readNeed_15 ?_
    refine z_aload_n (pc := 18) O dX4_readNeed_18 rfl ?_
    refine z_callV (pc := 19) O cl_X4_68 (k4_advance _ _ b J (RdX.up R (τ := (sI σ (b + 9) 6 (iz 1))) ((FrD.rf b σ).pI (by omega)) (by have : gI (sI σ (b + 9) 6 (iz 1)) (b + 9) 2 = gI σ (b + 9) 2 := gI_iz (sk2t (by decide) (izg σ (b + 9) 2)) (rgI _ _ _); omega) (by have : gI (sI σ (b + 9) 6 (iz 1)) b 14 = gI σ b 14 := gI_iz (sk1t (by omega) (izg σ b 14)) (rgI _ _ _); omega) (by have : gI (sI σ (b + 9) 6 (iz 1)) b 3 = gI σ b 3 := gI_iz (sk1t (by omega) (izg σ b 3)) (rgI _ _ _); omega) (by have : gI (sI σ (b + 9) 6 (iz 1)) b 4 = gI σ b 4 := gI_iz (sk1t (by omega) (izg σ b 4)) (rgI _ _ _); omega) (fun w hw => by rw [show gI (sI σ (b + 9) 6 (iz 1)) (b + 6) w = gI σ (b + 6) w from gI_eq (sk1t (by omega) rfl)]; exact (R).1.2.2.2.2.2.2 w hw))) (by decide) (R).2.1 kc_4 rfl rfl (Nat.le_of_ble_eq_true rfl) ⟨Nat.zero_le _, Nat.zero_le _⟩ dX4_readNeed_19 (fun r τ1 hp => ?_)
    obtain ⟨rfl, frτ1, ivτ1_RdX⟩ := hp
    have := (ivτ1_RdX).2.2.2.1
    have := (ivτ1_RdX).2.2.2.2
    have := (ivτ1_RdX).1.2.2.2.2.1
    have := (ivτ1_RdX).1.2.2.2.2.2.1
    have : gI τ1 4 2 = gI σ 4 2 := gI_iz (FrD.it frτ1 (by omega) (sk1t (by omega) (izg σ 4 2))) (rgI _ _ _)
    refine z_aload_n (pc := 22) O dX4_readNeed_22 rfl ?_
    refine z_getR (pc := 23) b O fl_X4_19 rfl (ivτ1_RdX).2.1 (ivτ1_RdX).2.2.1.2 dX4_readNeed_23 ?_
    refine z_aload_n (pc := 26) O dX4_readNeed_26 rfl ?_
    refine z_iconst (pc := 27) (v := iz (0)) O dX4_readNeed_27 (by decide) ?_
    refine z_bipush (pc := 28) (v := iz (12)) O dX4_readNeed_28 (by decide) ?_
    refine z_callV (pc := 30) O cl_X4_83 (k4_readNumber _ _ b 0 (by decide) 12 (by decide) (frτ1.lay J) ivτ1_RdX) (by decide) (ivτ1_RdX).2.1 kc_4 rfl rfl (Nat.le_of_ble_eq_true rfl) ⟨Nat.zero_le _, Nat.zero_le _⟩ dX4_readNeed_30 (fun r τ3 hp => ?_)
    obtain ⟨z4, rfl, fτ3_0, frτ3, ivτ3_RdX⟩ := hp
    have := (ivτ3_RdX).2.2.2.1
    have := (ivτ3_RdX).2.2.2.2
    have := (ivτ3_RdX).1.2.2.2.2.1
    have := (ivτ3_RdX).1.2.2.2.2.2.1
    have : gI τ3 4 2 = gI σ 4 2 := gI_iz (FrD.it frτ3 (by omega) (FrD.it frτ1 (by omega) (sk1t (by omega) (izg σ 4 2)))) (rgI _ _ _)
    refine z_putI (pc := 33) O fl_X4_123 rfl ⟨rfl, rfl⟩ (ivτ3_RdX).1.2.1 dX4_readNeed_33 ?_
    refine z_aload_n (pc := 36) O dX4_readNeed_36 rfl ?_
    refine z_getR (pc := 37) b O fl_X4_19 rfl (ivτ3_RdX).2.1 (ivτ3_RdX).2.2.1.2 dX4_readNeed_37 ?_
    refine zi_getv (pc := 40) (z4) O fl_X4_123 rfl (ivτ3_RdX).1.2.1 (hI_at _ _ _ _) dX4_readNeed_40 ?_
    refine z_iconst (pc := 43) (v := iz (-1)) O dX4_readNeed_43 (by decide) ?_
    refine zi_icmp_eq (pc := 44) (tgt := 57) O dX4_readNeed_44 (by decide) (by omega) (by decide) (fun h44 => ?_) (fun h44 => ?_)
    · refine z_iconst (pc := 57) (v := iz (0)) O dX4_readNeed_57 (by decide) ?_
      refine z_zret (pc := 58) O dX4_readNeed_58 rfl ?_
      exact ⟨0, rfl, (by decide), (((((FrD.rf b σ).pI (by omega)).tr frτ1).tr frτ3).pI (by omega)), (RdX.up ivτ3_RdX (τ := (sI τ3 b 5 (iz z4))) ((FrD.rf b τ3).pI (by omega)) (by have : gI (sI τ3 b 5 (iz z4)) (b + 9) 2 = gI τ3 (b + 9) 2 := gI_iz (sk1t (by omega) (izg τ3 (b + 9) 2)) (rgI _ _ _); omega) (by have : gI (sI τ3 b 5 (iz z4)) b 14 = gI τ3 b 14 := gI_iz (sk2t (by decide) (izg τ3 b 14)) (rgI _ _ _); omega) (by have : gI (sI τ3 b 5 (iz z4)) b 3 = gI τ3 b 3 := gI_iz (sk2t (by decide) (izg τ3 b 3)) (rgI _ _ _); omega) (by have : gI (sI τ3 b 5 (iz z4)) b 4 = gI τ3 b 4 := gI_iz (sk2t (by decide) (izg τ3 b 4)) (rgI _ _ _); omega) (fun w hw => by rw [show gI (sI τ3 b 5 (iz z4)) (b + 6) w = gI τ3 (b + 6) w from gI_eq (sk1t (by omega) rfl)]; exact (ivτ3_RdX).1.2.2.2.2.2.2 w hw))⟩
    · refine z_aload_n (pc := 47) O dX4_readNeed_47 rfl ?_
      refine z_ldc2 (pc := 48) O tw_469 dX4_readNeed_48 ?_
      refine z_callV (pc := 51) O cl_X4_89 (k4_expect _ _ b 1918987883 (frτ3.lay (frτ1.lay J)) (RdX.up ivτ3_RdX (τ := (sI τ3 b 5 (iz z4))) ((FrD.rf b τ3).pI (by omega)) (by have : gI (sI τ3 b 5 (iz z4)) (b + 9) 2 = gI τ3 (b + 9) 2 := gI_iz (sk1t (by omega) (izg τ3 (b + 9) 2)) (rgI _ _ _); omega) (by have : gI (sI τ3 b 5 (iz z4)) b 14 = gI τ3 b 14 := gI_iz (sk2t (by decide) (izg τ3 b 14)) (rgI _ _ _); omega) (by have : gI (sI τ3 b 5 (iz z4)) b 3 = gI τ3 b 3 := gI_iz (sk2t (by decide) (izg τ3 b 3)) (rgI _ _ _); omega) (by have : gI (sI τ3 b 5 (iz z4)) b 4 = gI τ3 b 4 := gI_iz (sk2t (by decide) (izg τ3 b 4)) (rgI _ _ _); omega) (fun w hw => by rw [show gI (sI τ3 b 5 (iz z4)) (b + 6) w = gI τ3 (b + 6) w from gI_eq (sk1t (by omega) rfl)]; exact (ivτ3_RdX).1.2.2.2.2.2.2 w hw))) (by decide) (ivτ3_RdX).2.1 kc_4 rfl rfl (Nat.le_of_ble_eq_true rfl) ⟨Nat.zero_le _, Nat.zero_le _⟩ dX4_readNeed_51 (fun r τ5 hp => ?_)
      obtain ⟨z6, rfl, fτ5_0, frτ5, ivτ5_RdX⟩ := hp
      have := (ivτ5_RdX).2.2.2.1
      have := (ivτ5_RdX).2.2.2.2
      have := (ivτ5_RdX).1.2.2.2.2.1
      have := (ivτ5_RdX).1.2.2.2.2.2.1
      have : gI τ5 4 2 = gI σ 4 2 := gI_iz (FrD.it frτ5 (by omega) (sk1t (by omega) (FrD.it frτ3 (by omega) (FrD.it frτ1 (by omega) (sk1t (by omega) (izg σ 4 2)))))) (rgI _ _ _)
      refine zi_if_ne (pc := 54) (tgt := 59) O dX4_readNeed_54 (by decide) (by omega) (fun h54 => ?_) (fun h54 => ?_)
      · refine z_aload_n (pc := 59) O dX4_readNeed_59 rfl ?_
        refine z_getR (pc := 60) b O fl_X4_19 rfl (ivτ5_RdX).2.1 (ivτ5_RdX).2.2.1.2 dX4_readNeed_60 ?_
        refine z_aload_n (pc := 63) O dX4_readNeed_63 rfl ?_
        refine z_iconst (pc := 64) (v := iz (0)) O dX4_readNeed_64 (by decide) ?_
        refine z_iconst (pc := 65) (v := iz (3)) O dX4_readNeed_65 (by decide) ?_
        refine z_callV (pc := 66) O cl_X4_83 (k4_readNumber _ _ b 0 (by decide) 3 (by decide) (frτ5.lay (frτ3.lay (frτ1.lay J))) ivτ5_RdX) (by decide) (ivτ5_RdX).2.1 kc_4 rfl rfl (Nat.le_of_ble_eq_true rfl) ⟨Nat.zero_le _, Nat.zero_le _⟩ dX4_readNeed_66 (fun r τ7 hp => ?_)
        obtain ⟨z8, rfl, fτ7_0, frτ7, ivτ7_RdX⟩ := hp
        have := (ivτ7_RdX).2.2.2.1
        have := (ivτ7_RdX).2.2.2.2
        have := (ivτ7_RdX).1.2.2.2.2.1
        have := (ivτ7_RdX).1.2.2.2.2.2.1
        have : gI τ7 4 2 = gI σ 4 2 := gI_iz (FrD.it frτ7 (by omega) (FrD.it frτ5 (by omega) (sk1t (by omega) (FrD.it frτ3 (by omega) (FrD.it frτ1 (by omega) (sk1t (by omega) (izg σ 4 2))))))) (rgI _ _ _)
        refine z_putI (pc := 69) O fl_X4_128 rfl ⟨rfl, rfl⟩ (ivτ7_RdX).1.2.1 dX4_readNeed_69 ?_
        refine z_aload_n (pc := 72) O dX4_readNeed_72 rfl ?_
        refine z_getR (pc := 73) b O fl_X4_19 rfl (ivτ7_RdX).2.1 (ivτ7_RdX).2.2.1.2 dX4_readNeed_73 ?_
        refine zi_getv (pc := 76) (z8) O fl_X4_128 rfl (ivτ7_RdX).1.2.1 (hI_at _ _ _ _) dX4_readNeed_76 ?_
        refine z_iconst (pc := 79) (v := iz (-1)) O dX4_readNeed_79 (by decide) ?_
        refine zi_icmp_eq (pc := 80) (tgt := 97) O dX4_readNeed_80 (by decide) (by omega) (by decide) (fun h80 => ?_) (fun h80 => ?_)
        · refine z_iconst (pc := 97) (v := iz (0)) O dX4_readNeed_97 (by decide) ?_
          refine z_zret (pc := 98) O dX4_readNeed_98 rfl ?_
          exact ⟨0, rfl, (by decide), ((((((((FrD.rf b σ).pI (by omega)).tr frτ1).tr frτ3).pI (by omega)).tr frτ5).tr frτ7).pI (by omega)), (RdX.up ivτ7_RdX (τ := (sI τ7 b 6 (iz z8))) ((FrD.rf b τ7).pI (by omega)) (by have : gI (sI τ7 b 6 (iz z8)) (b + 9) 2 = gI τ7 (b + 9) 2 := gI_iz (sk1t (by omega) (izg τ7 (b + 9) 2)) (rgI _ _ _); omega) (by have : gI (sI τ7 b 6 (iz z8)) b 14 = gI τ7 b 14 := gI_iz (sk2t (by decide) (izg τ7 b 14)) (rgI _ _ _); omega) (by have : gI (sI τ7 b 6 (iz z8)) b 3 = gI τ7 b 3 := gI_iz (sk2t (by decide) (izg τ7 b 3)) (rgI _ _ _); omega) (by have : gI (sI τ7 b 6 (iz z8)) b 4 = gI τ7 b 4 := gI_iz (sk2t (by decide) (izg τ7 b 4)) (rgI _ _ _); omega) (fun w hw => by rw [show gI (sI τ7 b 6 (iz z8)) (b + 6) w = gI τ7 (b + 6) w from gI_eq (sk1t (by omega) rfl)]; exact (ivτ7_RdX).1.2.2.2.2.2.2 w hw))⟩
        · refine z_aload_n (pc := 83) O dX4_readNeed_83 rfl ?_
          refine z_ldc2 (pc := 84) O tw_400 dX4_readNeed_84 ?_
          refine z_callV (pc := 87) O cl_X4_89 (k4_expect _ _ b 59 (frτ7.lay (frτ5.lay (frτ3.lay (frτ1.lay J)))) (RdX.up ivτ7_RdX (τ := (sI τ7 b 6 (iz z8))) ((FrD.rf b τ7).pI (by omega)) (by have : gI (sI τ7 b 6 (iz z8)) (b + 9) 2 = gI τ7 (b + 9) 2 := gI_iz (sk1t (by omega) (izg τ7 (b + 9) 2)) (rgI _ _ _); omega) (by have : gI (sI τ7 b 6 (iz z8)) b 14 = gI τ7 b 14 := gI_iz (sk2t (by decide) (izg τ7 b 14)) (rgI _ _ _); omega) (by have : gI (sI τ7 b 6 (iz z8)) b 3 = gI τ7 b 3 := gI_iz (sk2t (by decide) (izg τ7 b 3)) (rgI _ _ _); omega) (by have : gI (sI τ7 b 6 (iz z8)) b 4 = gI τ7 b 4 := gI_iz (sk2t (by decide) (izg τ7 b 4)) (rgI _ _ _); omega) (fun w hw => by rw [show gI (sI τ7 b 6 (iz z8)) (b + 6) w = gI τ7 (b + 6) w from gI_eq (sk1t (by omega) rfl)]; exact (ivτ7_RdX).1.2.2.2.2.2.2 w hw))) (by decide) (ivτ7_RdX).2.1 kc_4 rfl rfl (Nat.le_of_ble_eq_true rfl) ⟨Nat.zero_le _, Nat.zero_le _⟩ dX4_readNeed_87 (fun r τ9 hp => ?_)
          obtain ⟨z10, rfl, fτ9_0, frτ9, ivτ9_RdX⟩ := hp
          have := (ivτ9_RdX).2.2.2.1
          have := (ivτ9_RdX).2.2.2.2
          have := (ivτ9_RdX).1.2.2.2.2.1
          have := (ivτ9_RdX).1.2.2.2.2.2.1
          have : gI τ9 4 2 = gI σ 4 2 := gI_iz (FrD.it frτ9 (by omega) (sk1t (by omega) (FrD.it frτ7 (by omega) (FrD.it frτ5 (by omega) (sk1t (by omega) (FrD.it frτ3 (by omega) (FrD.it frτ1 (by omega) (sk1t (by omega) (izg σ 4 2))))))))) (rgI _ _ _)
          refine zi_if_eq (pc := 90) (tgt := 97) O dX4_readNeed_90 (by decide) (by omega) (fun h90 => ?_) (fun h90 => ?_)
          · refine z_iconst (pc := 97) (v := iz (0)) O dX4_readNeed_97 (by decide) ?_
            refine z_zret (pc := 98) O dX4_readNeed_98 rfl ?_
            exact ⟨0, rfl, (by decide), (((((((((FrD.rf b σ).pI (by omega)).tr frτ1).tr frτ3).pI (by omega)).tr frτ5).tr frτ7).pI (by omega)).tr frτ9), ivτ9_RdX⟩
          · refine z_iconst (pc := 93) (v := iz (1)) O dX4_readNeed_93 (by decide) ?_
            refine z_goto (pc := 94) (tgt := 98) O dX4_readNeed_94 (by decide) ?_
            refine z_zret (pc := 98) O dX4_readNeed_98 rfl ?_
            exact ⟨1, rfl, (by decide), (((((((((FrD.rf b σ).pI (by omega)).tr frτ1).tr frτ3).pI (by omega)).tr frτ5).tr frτ7).pI (by omega)).tr frτ9), ivτ9_RdX⟩
      · refine z_iconst (pc := 57) (v := iz (0)) O dX4_readNeed_57 (by decide) ?_
        refine z_zret (pc := 58) O dX4_readNeed_58 rfl ?_
        exact ⟨0, rfl, (by decide), ((((((FrD.rf b σ).pI (by omega)).tr frτ1).tr frτ3).pI (by omega)).tr frτ5), ivτ5_RdX⟩
  · refine z_aload_n (pc := 7) O dX4_readNeed_7 rfl ?_
    refine z_iconst (pc := 8) (v := iz (2)) O dX4_readNeed_8 (by decide) ?_
    refine z_callV (pc := 9) O cl_X4_59 (k4_refuse _ _ b 2 (by decide) J R) (by decide) (R).2.1 kc_4 rfl rfl (Nat.le_of_ble_eq_true rfl) ⟨Nat.zero_le _, Nat.zero_le _⟩ dX4_readNeed_9 (fun r τ11 hp => ?_)
    obtain ⟨z12, rfl, fτ11_0, frτ11, ivτ11_RdX⟩ := hp
    have := (ivτ11_RdX).2.2.2.1
    have := (ivτ11_RdX).2.2.2.2
    have := (ivτ11_RdX).1.2.2.2.2.1
    have := (ivτ11_RdX).1.2.2.2.2.2.1
    have : gI τ11 4 2 = gI σ 4 2 := gI_iz (FrD.it frτ11 (by omega) (izg σ 4 2)) (rgI _ _ _)
    refine z_zret (pc := 12) O dX4_readNeed_12 (nar_z (by omega)) ?_
    exact ⟨z12, rfl, (by omega), ((FrD.rf b σ).tr frτ11), ivτ11_RdX⟩
set_option maxHeartbeats 4000000 in
set_option maxRecDepth 20000 in
theorem k4_readTerms (l : Launch) (σ : VH) (b : Nat) (J : Lay σ) (R : RdX σ b) : Ct l yX4_readTerms cX4_readTerms 1 (some .boolean) 2 0 0 [.ref (b + 9)] σ (fun r τ => ∃ z : Int, r = some (.int (iz z)) ∧ (z = 0 ∨ z = 1) ∧ (FrD b σ τ) ∧ (RdX τ b)) := by
  refine Ct.enter rfl (Nat.le_of_ble_eq_true rfl) ?_
  intro κ γ hκ O hrc hrs
  subst hκ
  have hR0 := R.1.1
  have hR4 := R.2.2.2.1
  have hR5 := R.2.2.2.2
  have hR6 := R.1.2.2.2.2.1
  have hR7 := R.1.2.2.2.2.2.1
  refine z_aload_n (pc := 0) O dX4_readTerms_0 rfl ?_
  refine zi_getv (pc := 1) (gI σ (b + 9) 7) O fl_X4_131 rfl (R).2.1 (izg σ (b + 9) 7) dX4_readTerms_1 ?_
  have := rgI σ (b + 9) 7
  refine zi_if_eq (pc := 4) (tgt := 13) O dX4_readTerms_4 (by decide) (by omega) (fun h4 => ?_) (fun h4 => ?_)
  · refine z_aload_n (pc := 13) O dX4_readTerms_13 rfl ?_
    refine z_iconst (pc := 14) (v := iz (1)) O dX4_readTerms_14 (by decide) ?_
    refine z_putI (pc := 15) O fl_X4_131 rfl ⟨nar_z (by omega), rfl⟩ (R).2.1 dX4_readTerms_15 ?_
    refine z_aload_n (pc := 18) O dX4_readTerms_18 rfl ?_
    refine z_callV (pc := 19) O cl_X4_68 (k4_advance _ _ b J (RdX.up R (τ := (sI σ (b + 9) 7 (iz 1))) ((FrD.rf b σ).pI (by omega)) (by have : gI (sI σ (b + 9) 7 (iz 1)) (b + 9) 2 = gI σ (b + 9) 2 := gI_iz (sk2t (by decide) (izg σ (b + 9) 2)) (rgI _ _ _); omega) (by have : gI (sI σ (b + 9) 7 (iz 1)) b 14 = gI σ b 14 := gI_iz (sk1t (by omega) (izg σ b 14)) (rgI _ _ _); omega) (by have : gI (sI σ (b + 9) 7 (iz 1)) b 3 = gI σ b 3 := gI_iz (sk1t (by omega) (izg σ b 3)) (rgI _ _ _); omega) (by have : gI (sI σ (b + 9) 7 (iz 1)) b 4 = gI σ b 4 := gI_iz (sk1t (by omega) (izg σ b 4)) (rgI _ _ _); omega) (fun w hw => by rw [show gI (sI σ (b + 9) 7 (iz 1)) (b + 6) w = gI σ (b + 6) w from gI_eq (sk1t (by omega) rfl)]; exact (R).1.2.2.2.2.2.2 w hw))) (by decide) (R).2.1 kc_4 rfl rfl (Nat.le_of_ble_eq_true rfl) ⟨Nat.zero_le _, Nat.zero_le _⟩ dX4_readTerms_19 (fun r τ1 hp => ?_)
    obtain ⟨rfl, frτ1, ivτ1_RdX⟩ := hp
    have := (ivτ1_RdX).2.2.2.1
    have := (ivτ1_RdX).2.2.2.2
    have := (ivτ1_RdX).1.2.2.2.2.1
    have := (ivτ1_RdX).1.2.2.2.2.2.1
    have : gI τ1 4 2 = gI σ 4 2 := gI_iz (FrD.it frτ1 (by omega) (sk1t (by omega) (izg σ 4 2))) (rgI _ _ _)
    refine z_aload_n (pc := 22) O dX4_readTerms_22 rfl ?_
    refine z_getR (pc := 23) b O fl_X4_19 rfl (ivτ1_RdX).2.1 (ivτ1_RdX).2.2.1.2 dX4_readTerms_23 ?_
    refine z_aload_n (pc := 26) O dX4_readTerms_26 rfl ?_
    refine z_iconst (pc := 27) (v := iz (1)) O dX4_readTerms_27 (by decide) ?_
    refine z_bipush (pc := 28) (v := iz (6)) O dX4_readTerms_28 (by decide) ?_
    refine z_callV (pc := 30) O cl_X4_83 (k4_readNumber _ _ b 1 (by decide) 6 (by decide) (frτ1.lay J) ivτ1_RdX) (by decide) (ivτ1_RdX).2.1 kc_4 rfl rfl (Nat.le_of_ble_eq_true rfl) ⟨Nat.zero_le _, Nat.zero_le _⟩ dX4_readTerms_30 (fun r τ3 hp => ?_)
    obtain ⟨z4, rfl, fτ3_0, frτ3, ivτ3_RdX⟩ := hp
    have := (ivτ3_RdX).2.2.2.1
    have := (ivτ3_RdX).2.2.2.2
    have := (ivτ3_RdX).1.2.2.2.2.1
    have := (ivτ3_RdX).1.2.2.2.2.2.1
    have : gI τ3 4 2 = gI σ 4 2 := gI_iz (FrD.it frτ3 (by omega) (FrD.it frτ1 (by omega) (sk1t (by omega) (izg σ 4 2)))) (rgI _ _ _)
    refine z_putI (pc := 33) O fl_X4_134 rfl ⟨rfl, rfl⟩ (ivτ3_RdX).1.2.1 dX4_readTerms_33 ?_
    refine z_aload_n (pc := 36) O dX4_readTerms_36 rfl ?_
    refine z_getR (pc := 37) b O fl_X4_19 rfl (ivτ3_RdX).2.1 (ivτ3_RdX).2.2.1.2 dX4_readTerms_37 ?_
    refine zi_getv (pc := 40) (z4) O fl_X4_134 rfl (ivτ3_RdX).1.2.1 (hI_at _ _ _ _) dX4_readTerms_40 ?_
    refine z_iconst (pc := 43) (v := iz (-1)) O dX4_readTerms_43 (by decide) ?_
    refine zi_icmp_eq (pc := 44) (tgt := 57) O dX4_readTerms_44 (by decide) (by omega) (by decide) (fun h44 => ?_) (fun h44 => ?_)
    · refine z_iconst (pc := 57) (v := iz (0)) O dX4_readTerms_57 (by decide) ?_
      refine z_zret (pc := 58) O dX4_readTerms_58 rfl ?_
      exact ⟨0, rfl, (by decide), (((((FrD.rf b σ).pI (by omega)).tr frτ1).tr frτ3).pI (by omega)), (RdX.up ivτ3_RdX (τ := (sI τ3 b 7 (iz z4))) ((FrD.rf b τ3).pI (by omega)) (by have : gI (sI τ3 b 7 (iz z4)) (b + 9) 2 = gI τ3 (b + 9) 2 := gI_iz (sk1t (by omega) (izg τ3 (b + 9) 2)) (rgI _ _ _); omega) (by have : gI (sI τ3 b 7 (iz z4)) b 14 = gI τ3 b 14 := gI_iz (sk2t (by decide) (izg τ3 b 14)) (rgI _ _ _); omega) (by have : gI (sI τ3 b 7 (iz z4)) b 3 = gI τ3 b 3 := gI_iz (sk2t (by decide) (izg τ3 b 3)) (rgI _ _ _); omega) (by have : gI (sI τ3 b 7 (iz z4)) b 4 = gI τ3 b 4 := gI_iz (sk2t (by decide) (izg τ3 b 4)) (rgI _ _ _); omega) (fun w hw => by rw [show gI (sI τ3 b 7 (iz z4)) (b + 6) w = gI τ3 (b + 6) w from gI_eq (sk1t (by omega) rfl)]; exact (ivτ3_RdX).1.2.2.2.2.2.2 w hw))⟩
    · refine z_aload_n (pc := 47) O dX4_readTerms_47 rfl ?_
      refine z_ldc2 (pc := 48) O tw_475 dX4_readTerms_48 ?_
      refine z_callV (pc := 51) O cl_X4_89 (k4_expect _ _ b 1684109683 (frτ3.lay (frτ1.lay J)) (RdX.up ivτ3_RdX (τ := (sI τ3 b 7 (iz z4))) ((FrD.rf b τ3).pI (by omega)) (by have : gI (sI τ3 b 7 (iz z4)) (b + 9) 2 = gI τ3 (b + 9) 2 := gI_iz (sk1t (by omega) (izg τ3 (b + 9) 2)) (rgI _ _ _); omega) (by have : gI (sI τ3 b 7 (iz z4)) b 14 = gI τ3 b 14 := gI_iz (sk2t (by decide) (izg τ3 b 14)) (rgI _ _ _); omega) (by have : gI (sI τ3 b 7 (iz z4)) b 3 = gI τ3 b 3 := gI_iz (sk2t (by decide) (izg τ3 b 3)) (rgI _ _ _); omega) (by have : gI (sI τ3 b 7 (iz z4)) b 4 = gI τ3 b 4 := gI_iz (sk2t (by decide) (izg τ3 b 4)) (rgI _ _ _); omega) (fun w hw => by rw [show gI (sI τ3 b 7 (iz z4)) (b + 6) w = gI τ3 (b + 6) w from gI_eq (sk1t (by omega) rfl)]; exact (ivτ3_RdX).1.2.2.2.2.2.2 w hw))) (by decide) (ivτ3_RdX).2.1 kc_4 rfl rfl (Nat.le_of_ble_eq_true rfl) ⟨Nat.zero_le _, Nat.zero_le _⟩ dX4_readTerms_51 (fun r τ5 hp => ?_)
      obtain ⟨z6, rfl, fτ5_0, frτ5, ivτ5_RdX⟩ := hp
      have := (ivτ5_RdX).2.2.2.1
      have := (ivτ5_RdX).2.2.2.2
      have := (ivτ5_RdX).1.2.2.2.2.1
      have := (ivτ5_RdX).1.2.2.2.2.2.1
      have : gI τ5 4 2 = gI σ 4 2 := gI_iz (FrD.it frτ5 (by omega) (sk1t (by omega) (FrD.it frτ3 (by omega) (FrD.it frτ1 (by omega) (sk1t (by omega) (izg σ 4 2)))))) (rgI _ _ _)
      refine zi_if_ne (pc := 54) (tgt := 59) O dX4_readTerms_54 (by decide) (by omega) (fun h54 => ?_) (fun h54 => ?_)
      · refine z_aload_n (pc := 59) O dX4_readTerms_59 rfl ?_
        refine z_getR (pc := 60) b O fl_X4_19 rfl (ivτ5_RdX).2.1 (ivτ5_RdX).2.2.1.2 dX4_readTerms_60 ?_
        refine z_aload_n (pc := 63) O dX4_readTerms_63 rfl ?_
        refine z_iconst (pc := 64) (v := iz (1)) O dX4_readTerms_64 (by decide) ?_
        refine z_sipush (pc := 65) (v := iz (400)) O dX4_readTerms_65 (by decide) ?_
        refine z_callV (pc := 68) O cl_X4_83 (k4_readNumber _ _ b 1 (by decide) 400 (by decide) (frτ5.lay (frτ3.lay (frτ1.lay J))) ivτ5_RdX) (by decide) (ivτ5_RdX).2.1 kc_4 rfl rfl (Nat.le_of_ble_eq_true rfl) ⟨Nat.zero_le _, Nat.zero_le _⟩ dX4_readTerms_68 (fun r τ7 hp => ?_)
        obtain ⟨z8, rfl, fτ7_0, frτ7, ivτ7_RdX⟩ := hp
        have := (ivτ7_RdX).2.2.2.1
        have := (ivτ7_RdX).2.2.2.2
        have := (ivτ7_RdX).1.2.2.2.2.1
        have := (ivτ7_RdX).1.2.2.2.2.2.1
        have : gI τ7 4 2 = gI σ 4 2 := gI_iz (FrD.it frτ7 (by omega) (FrD.it frτ5 (by omega) (sk1t (by omega) (FrD.it frτ3 (by omega) (FrD.it frτ1 (by omega) (sk1t (by omega) (izg σ 4 2))))))) (rgI _ _ _)
        refine z_putI (pc := 71) O fl_X4_139 rfl ⟨rfl, rfl⟩ (ivτ7_RdX).1.2.1 dX4_readTerms_71 ?_
        refine z_aload_n (pc := 74) O dX4_readTerms_74 rfl ?_
        refine z_getR (pc := 75) b O fl_X4_19 rfl (ivτ7_RdX).2.1 (ivτ7_RdX).2.2.1.2 dX4_readTerms_75 ?_
        refine zi_getv (pc := 78) (z8) O fl_X4_139 rfl (ivτ7_RdX).1.2.1 (hI_at _ _ _ _) dX4_readTerms_78 ?_
        refine z_iconst (pc := 81) (v := iz (-1)) O dX4_readTerms_81 (by decide) ?_
        refine zi_icmp_eq (pc := 82) (tgt := 99) O dX4_readTerms_82 (by decide) (by omega) (by decide) (fun h82 => ?_) (fun h82 => ?_)
        · refine z_iconst (pc := 99) (v := iz (0)) O dX4_readTerms_99 (by decide) ?_
          refine z_zret (pc := 100) O dX4_readTerms_100 rfl ?_
          exact ⟨0, rfl, (by decide), ((((((((FrD.rf b σ).pI (by omega)).tr frτ1).tr frτ3).pI (by omega)).tr frτ5).tr frτ7).pI (by omega)), (RdX.up ivτ7_RdX (τ := (sI τ7 b 8 (iz z8))) ((FrD.rf b τ7).pI (by omega)) (by have : gI (sI τ7 b 8 (iz z8)) (b + 9) 2 = gI τ7 (b + 9) 2 := gI_iz (sk1t (by omega) (izg τ7 (b + 9) 2)) (rgI _ _ _); omega) (by have : gI (sI τ7 b 8 (iz z8)) b 14 = gI τ7 b 14 := gI_iz (sk2t (by decide) (izg τ7 b 14)) (rgI _ _ _); omega) (by have : gI (sI τ7 b 8 (iz z8)) b 3 = gI τ7 b 3 := gI_iz (sk2t (by decide) (izg τ7 b 3)) (rgI _ _ _); omega) (by have : gI (sI τ7 b 8 (iz z8)) b 4 = gI τ7 b 4 := gI_iz (sk2t (by decide) (izg τ7 b 4)) (rgI _ _ _); omega) (fun w hw => by rw [show gI (sI τ7 b 8 (iz z8)) (b + 6) w = gI τ7 (b + 6) w from gI_eq (sk1t (by omega) rfl)]; exact (ivτ7_RdX).1.2.2.2.2.2.2 w hw))⟩
        · refine z_aload_n (pc := 85) O dX4_readTerms_85 rfl ?_
          refine z_ldc2 (pc := 86) O tw_400 dX4_readTerms_86 ?_
          refine z_callV (pc := 89) O cl_X4_89 (k4_expect _ _ b 59 (frτ7.lay (frτ5.lay (frτ3.lay (frτ1.lay J)))) (RdX.up ivτ7_RdX (τ := (sI τ7 b 8 (iz z8))) ((FrD.rf b τ7).pI (by omega)) (by have : gI (sI τ7 b 8 (iz z8)) (b + 9) 2 = gI τ7 (b + 9) 2 := gI_iz (sk1t (by omega) (izg τ7 (b + 9) 2)) (rgI _ _ _); omega) (by have : gI (sI τ7 b 8 (iz z8)) b 14 = gI τ7 b 14 := gI_iz (sk2t (by decide) (izg τ7 b 14)) (rgI _ _ _); omega) (by have : gI (sI τ7 b 8 (iz z8)) b 3 = gI τ7 b 3 := gI_iz (sk2t (by decide) (izg τ7 b 3)) (rgI _ _ _); omega) (by have : gI (sI τ7 b 8 (iz z8)) b 4 = gI τ7 b 4 := gI_iz (sk2t (by decide) (izg τ7 b 4)) (rgI _ _ _); omega) (fun w hw => by rw [show gI (sI τ7 b 8 (iz z8)) (b + 6) w = gI τ7 (b + 6) w from gI_eq (sk1t (by omega) rfl)]; exact (ivτ7_RdX).1.2.2.2.2.2.2 w hw))) (by decide) (ivτ7_RdX).2.1 kc_4 rfl rfl (Nat.le_of_ble_eq_true rfl) ⟨Nat.zero_le _, Nat.zero_le _⟩ dX4_readTerms_89 (fun r τ9 hp => ?_)
          obtain ⟨z10, rfl, fτ9_0, frτ9, ivτ9_RdX⟩ := hp
          have := (ivτ9_RdX).2.2.2.1
          have := (ivτ9_RdX).2.2.2.2
          have := (ivτ9_RdX).1.2.2.2.2.1
          have := (ivτ9_RdX).1.2.2.2.2.2.1
          have : gI τ9 4 2 = gI σ 4 2 := gI_iz (FrD.it frτ9 (by omega) (sk1t (by omega) (FrD.it frτ7 (by omega) (FrD.it frτ5 (by omega) (sk1t (by omega) (FrD.it frτ3 (by omega) (FrD.it frτ1 (by omega) (sk1t (by omega) (izg σ 4 2))))))))) (rgI _ _ _)
          refine zi_if_eq (pc := 92) (tgt := 99) O dX4_readTerms_92 (by decide) (by omega) (fun h92 => ?_) (fun h92 => ?_)
          · refine z_iconst (pc := 99) (v := iz (0)) O dX4_readTerms_99 (by decide) ?_
            refine z_zret (pc := 100) O dX4_readTerms_100 rfl ?_
            exact ⟨0, rfl, (by decide), (((((((((FrD.rf b σ).pI (by omega)).tr frτ1).tr frτ3).pI (by omega)).tr frτ5).tr frτ7).pI (by omega)).tr frτ9), ivτ9_RdX⟩
          · refine z_iconst (pc := 95) (v := iz (1)) O dX4_readTerms_95 (by decide) ?_
            refine z_goto (pc := 96) (tgt := 100) O dX4_readTerms_96 (by decide) ?_
            refine z_zret (pc := 100) O dX4_readTerms_100 rfl ?_
            exact ⟨1, rfl, (by decide), (((((((((FrD.rf b σ).pI (by omega)).tr frτ1).tr frτ3).pI (by omega)).tr frτ5).tr frτ7).pI (by omega)).tr frτ9), ivτ9_RdX⟩
      · refine z_iconst (pc := 57) (v := iz (0)) O dX4_readTerms_57 (by decide) ?_
        refine z_zret (pc := 58) O dX4_readTerms_58 rfl ?_
        exact ⟨0, rfl, (by decide), ((((((FrD.rf b σ).pI (by omega)).tr frτ1).tr frτ3).pI (by omega)).tr frτ5), ivτ5_RdX⟩
  · refine z_aload_n (pc := 7) O dX4_readTerms_7 rfl ?_
    refine z_iconst (pc := 8) (v := iz (2)) O dX4_readTerms_8 (by decide) ?_
    refine z_callV (pc := 9) O cl_X4_59 (k4_refuse _ _ b 2 (by decide) J R) (by decide) (R).2.1 kc_4 rfl rfl (Nat.le_of_ble_eq_true rfl) ⟨Nat.zero_le _, Nat.zero_le _⟩ dX4_readTerms_9 (fun r τ11 hp => ?_)
    obtain ⟨z12, rfl, fτ11_0, frτ11, ivτ11_RdX⟩ := hp
    have := (ivτ11_RdX).2.2.2.1
    have := (ivτ11_RdX).2.2.2.2
    have := (ivτ11_RdX).1.2.2.2.2.1
    have := (ivτ11_RdX).1.2.2.2.2.2.1
    have : gI τ11 4 2 = gI σ 4 2 := gI_iz (FrD.it frτ11 (by omega) (izg σ 4 2)) (rgI _ _ _)
    refine z_zret (pc := 12) O dX4_readTerms_12 (nar_z (by omega)) ?_
    exact ⟨z12, rfl, (by omega), ((FrD.rf b σ).tr frτ11), ivτ11_RdX⟩
set_option maxHeartbeats 4000000 in
set_option maxRecDepth 20000 in
theorem k4_readShare (l : Launch) (σ : VH) (b : Nat) (J : Lay σ) (R : RdX σ b) : Ct l yX4_readShare cX4_readShare 5 (some .boolean) 2 0 0 [.ref (b + 9)] σ (fun r τ => ∃ z : Int, r = some (.int (iz z)) ∧ (z = 0 ∨ z = 1) ∧ (FrD b σ τ) ∧ (RdX τ b)) := by
  refine Ct.enter rfl (Nat.le_of_ble_eq_true rfl) ?_
  intro κ γ hκ O hrc hrs
  subst hκ
  have hR0 := R.1.1
  have hR4 := R.2.2.2.1
  have hR5 := R.2.2.2.2
  have hR6 := R.1.2.2.2.2.1
  have hR7 := R.1.2.2.2.2.2.1
  refine z_aload_n (pc := 0) O dX4_readShare_0 rfl ?_
  refine zi_getv (pc := 1) (gI σ (b + 9) 5) O fl_X4_112 rfl (R).2.1 (izg σ (b + 9) 5) dX4_readShare_1 ?_
  have := rgI σ (b + 9) 5
  refine zi_if_eq (pc := 4) (tgt := 13) O dX4_readShare_4 (by decide) (by omega) (fun h4 => ?_) (fun h4 => ?_)
  · refine z_aload_n (pc := 13) O dX4_readShare_13 rfl ?_
    refine z_iconst (pc := 14) (v := iz (1)) O dX4_readShare_14 (by decide) ?_
    refine z_putI (pc := 15) O fl_X4_112 rfl ⟨nar_z (by omega), rfl⟩ (R).2.1 dX4_readShare_15 ?_
    refine z_aload_n (pc := 18) O dX4_readShare_18 rfl ?_
    refine z_callV (pc := 19) O cl_X4_68 (k4_advance _ _ b J (RdX.up R (τ := (sI σ (b + 9) 5 (iz 1))) ((FrD.rf b σ).pI (by omega)) (by have : gI (sI σ (b + 9) 5 (iz 1)) (b + 9) 2 = gI σ (b + 9) 2 := gI_iz (sk2t (by decide) (izg σ (b + 9) 2)) (rgI _ _ _); omega) (by have : gI (sI σ (b + 9) 5 (iz 1)) b 14 = gI σ b 14 := gI_iz (sk1t (by omega) (izg σ b 14)) (rgI _ _ _); omega) (by have : gI (sI σ (b + 9) 5 (iz 1)) b 3 = gI σ b 3 := gI_iz (sk1t (by omega) (izg σ b 3)) (rgI _ _ _); omega) (by have : gI (sI σ (b + 9) 5 (iz 1)) b 4 = gI σ b 4 := gI_iz (sk1t (by omega) (izg σ b 4)) (rgI _ _ _); omega) (fun w hw => by rw [show gI (sI σ (b + 9) 5 (iz 1)) (b + 6) w = gI σ (b + 6) w from gI_eq (sk1t (by omega) rfl)]; exact (R).1.2.2.2.2.2.2 w hw))) (by decide) (R).2.1 kc_4 rfl rfl (Nat.le_of_ble_eq_true rfl) ⟨Nat.zero_le _, Nat.zero_le _⟩ dX4_readShare_19 (fun r τ1 hp => ?_)
    obtain ⟨rfl, frτ1, ivτ1_RdX⟩ := hp
    have := (ivτ1_RdX).2.2.2.1
    have := (ivτ1_RdX).2.2.2.2
    have := (ivτ1_RdX).1.2.2.2.2.1
    have := (ivτ1_RdX).1.2.2.2.2.2.1
    have : gI τ1 4 2 = gI σ 4 2 := gI_iz (FrD.it frτ1 (by omega) (sk1t (by omega) (izg σ 4 2))) (rgI _ _ _)
    refine z_iconst (pc := 22) (v := iz (0)) O dX4_readShare_22 (by decide) ?_
    refine z_istore_n (pc := 23) [(0, .ref (b + 9)), (1, .int (iz 0))] O dX4_readShare_23 (by decide) rfl ?_
    refine z_aload_n (pc := 24) O dX4_readShare_24 rfl ?_
    refine z_getR (pc := 25) b O fl_X4_19 rfl (ivτ1_RdX).2.1 (ivτ1_RdX).2.2.1.2 dX4_readShare_25 ?_
    refine z_getR (pc := 28) (b + 2) O fl_X4_116 rfl (ivτ1_RdX).1.2.1 (ivτ1_RdX).1.2.2.1.2.1 dX4_readShare_28 ?_
    refine z_alen (pc := 31) (t0 := 2) (n := iz 4) O (ivτ1_RdX).1.2.2.2.1.2.1 (by decide) rfl (by decide) dX4_readShare_31 ?_
    refine z_iconst (pc := 32) (v := iz (1)) O dX4_readShare_32 (by decide) ?_
    refine zi_isub (pc := 33) O dX4_readShare_33 ?_
    refine zi_val (3) rfl ?_
    refine z_istore_n (pc := 34) [(0, .ref (b + 9)), (1, .int (iz 0)), (2, .int (iz 3))] O dX4_readShare_34 (by decide) rfl ?_
    refine z_iconst (pc := 35) (v := iz (0)) O dX4_readShare_35 (by decide) ?_
    refine z_istore_n (pc := 36) [(0, .ref (b + 9)), (1, .int (iz 0)), (2, .int (iz 3)), (3, .int (iz 0))] O dX4_readShare_36 (by decide) rfl ?_
    have cut37 : ∀ (mu37 : Nat) (al : Int) (k : Int) (ρ37 : VH), (mu37 = (4 - k).toNat) → (-2147483648 ≤ al ∧ al < 2147483648) → (-2147483648 ≤ k ∧ k < 2147483648) → (0 ≤ k ∧ k ≤ 4) → (FrD b τ1 ρ37) → (RdX ρ37 b) → Z κ γ 5 ρ37 0 0 (QM κ γ (fun r τ => ∃ z : Int, r = some (.int (iz z)) ∧ (z = 0 ∨ z = 1) ∧ (FrD b σ τ) ∧ (RdX τ b)) 0 0) 37 [(0, .ref (b + 9)), (1, .int (iz al)), (2, .int (iz 3)), (3, .int (iz k))] [] := by
      intro mu37
      induction mu37 using Nat.strongRecOn with
      | ind mu37 ih37 =>
      intro al k ρ37 hmu37 rr37_0 rr37_1 ff37_0 frρ37 ivρ37_RdX
      have := (ivρ37_RdX).2.2.2.1
      have := (ivρ37_RdX).2.2.2.2
      have := (ivρ37_RdX).1.2.2.2.2.1
      have := (ivρ37_RdX).1.2.2.2.2.2.1
      refine z_iload_n (pc := 37) O dX4_readShare_37 rfl ?_
      refine z_iload_n (pc := 38) O dX4_readShare_38 rfl ?_
      refine zi_icmp_gt (pc := 39) (tgt := 94) O dX4_readShare_39 (by decide) (by omega) (by decide) (fun h39 => ?_) (fun h39 => ?_)
      · refine z_aload_n (pc := 94) O dX4_readShare_94 rfl ?_
        refine z_ldc2 (pc := 95) O tw_400 dX4_readShare_95 ?_
        refine z_callV (pc := 98) O cl_X4_89 (k4_expect _ _ b 59 (frρ37.lay (frτ1.lay J)) ivρ37_RdX) (by decide) (ivρ37_RdX).2.1 kc_4 rfl rfl (Nat.le_of_ble_eq_true rfl) ⟨Nat.zero_le _, Nat.zero_le _⟩ dX4_readShare_98 (fun r τ3 hp => ?_)
        obtain ⟨z4, rfl, fτ3_0, frτ3, ivτ3_RdX⟩ := hp
        have := (ivτ3_RdX).2.2.2.1
        have := (ivτ3_RdX).2.2.2.2
        have := (ivτ3_RdX).1.2.2.2.2.1
        have := (ivτ3_RdX).1.2.2.2.2.2.1
        have : gI τ3 4 2 = gI σ 4 2 := gI_iz (FrD.it frτ3 (by omega) (FrD.it frρ37 (by omega) (FrD.it frτ1 (by omega) (sk1t (by omega) (izg σ 4 2))))) (rgI _ _ _)
        refine z_zret (pc := 101) O dX4_readShare_101 (nar_z (by omega)) ?_
        exact ⟨z4, rfl, (by omega), (((((FrD.rf b σ).pI (by omega)).tr frτ1).tr frρ37).tr frτ3), ivτ3_RdX⟩
      · refine z_aload_n (pc := 42) O dX4_readShare_42 rfl ?_
        have cut57 : ∀ (mn : Int), (-2147483648 ≤ mn ∧ mn < 2147483648) → (mn = 0 ∨ mn = 1) → Z κ γ 5 ρ37 0 0 (QM κ γ (fun r τ => ∃ z : Int, r = some (.int (iz z)) ∧ (z = 0 ∨ z = 1) ∧ (FrD b σ τ) ∧ (RdX τ b)) 0 0) 57 [(0, .ref (b + 9)), (1, .int (iz al)), (2, .int (iz 3)), (3, .int (iz k))] [.int (iz mn), .ref (b + 9)] := by
          intro mn rr57_0 ff57_0
          refine z_bipush (pc := 57) (v := iz (100)) O dX4_readShare_57 (by decide) ?_
          refine z_callV (pc := 59) O cl_X4_83 (k4_readNumber _ _ b mn (by omega) 100 (by decide) (frρ37.lay (frτ1.lay J)) ivρ37_RdX) (by decide) (ivρ37_RdX).2.1 kc_4 rfl rfl (Nat.le_of_ble_eq_true rfl) ⟨Nat.zero_le _, Nat.zero_le _⟩ dX4_readShare_59 (fun r τ5 hp => ?_)
          obtain ⟨z6, rfl, fτ5_0, frτ5, ivτ5_RdX⟩ := hp
          have := (ivτ5_RdX).2.2.2.1
          have := (ivτ5_RdX).2.2.2.2
          have := (ivτ5_RdX).1.2.2.2.2.1
          have := (ivτ5_RdX).1.2.2.2.2.2.1
          have : gI τ5 4 2 = gI σ 4 2 := gI_iz (FrD.it frτ5 (by omega) (FrD.it frρ37 (by omega) (FrD.it frτ1 (by omega) (sk1t (by omega) (izg σ 4 2))))) (rgI _ _ _)
          refine z_istore (pc := 62) [(0, .ref (b + 9)), (1, .int (iz al)), (2, .int (iz 3)), (3, .int (iz k)), (4, .int (iz z6))] O dX4_readShare_62 (by decide) rfl ?_
          refine z_iload (pc := 64) O dX4_readShare_64 rfl ?_
          refine z_iconst (pc := 66) (v := iz (-1)) O dX4_readShare_66 (by decide) ?_
          refine zi_icmp_ne (pc := 67) (tgt := 72) O dX4_readShare_67 (by decide) (by omega) (by decide) (fun h67 => ?_) (fun h67 => ?_)
          · refine z_aload_n (pc := 72) O dX4_readShare_72 rfl ?_
            refine z_getR (pc := 73) b O fl_X4_19 rfl (ivτ5_RdX).2.1 (ivτ5_RdX).2.2.1.2 dX4_readShare_73 ?_
            refine z_getR (pc := 76) (b + 2) O fl_X4_116 rfl (ivτ5_RdX).1.2.1 (ivτ5_RdX).1.2.2.1.2.1 dX4_readShare_76 ?_
            refine z_iload_n (pc := 79) O dX4_readShare_79 rfl ?_
            refine z_iload (pc := 80) O dX4_readShare_80 rfl ?_
            refine zi_iast (pc := 82) (k.toNat) O (ivτ5_RdX).1.2.2.2.1.2.1 (by omega) (by omega) (by omega) dX4_readShare_82 ?_
            refine z_iload_n (pc := 83) O dX4_readShare_83 rfl ?_
            refine z_iload (pc := 84) O dX4_readShare_84 rfl ?_
            refine zi_iadd (pc := 86) O dX4_readShare_86 ?_
            refine zi_any (fun z7 rz7 ez7 => ?_)
            refine z_istore_n (pc := 87) [(0, .ref (b + 9)), (1, .int (iz z7)), (2, .int (iz 3)), (3, .int (iz k)), (4, .int (iz z6))] O dX4_readShare_87 (by decide) rfl ?_
            refine zi_iinc (pc := 88) (k + 1) [(0, .ref (b + 9)), (1, .int (iz z7)), (2, .int (iz 3)), (3, .int (iz (k + 1))), (4, .int (iz z6))] O dX4_readShare_88 rfl (by omega) (by decide) rfl ?_
            refine z_goto (pc := 91) (tgt := 37) O dX4_readShare_91 (by decide) ?_
            refine z_lk [(0, .ref (b + 9)), (1, .int (iz z7)), (2, .int (iz 3)), (3, .int (iz (k + 1)))] ⟨rfl, rfl, rfl, rfl, trivial⟩ ?_
            exact ih37 _ (by omega) z7 (k + 1) (sI τ5 (b + 2) (k.toNat) (iz z6)) rfl (by omega) (by omega) (by omega) ((((FrD.rf b τ1).tr frρ37).tr frτ5).pI (by omega)) (RdX.up ivτ5_RdX (τ := (sI τ5 (b + 2) (k.toNat) (iz z6))) ((FrD.rf b τ5).pI (by omega)) (by have : gI (sI τ5 (b + 2) (k.toNat) (iz z6)) (b + 9) 2 = gI τ5 (b + 9) 2 := gI_iz (sk1t (by omega) (izg τ5 (b + 9) 2)) (rgI _ _ _); omega) (by have : gI (sI τ5 (b + 2) (k.toNat) (iz z6)) b 14 = gI τ5 b 14 := gI_iz (sk1t (by omega) (izg τ5 b 14)) (rgI _ _ _); omega) (by have : gI (sI τ5 (b + 2) (k.toNat) (iz z6)) b 3 = gI τ5 b 3 := gI_iz (sk1t (by omega) (izg τ5 b 3)) (rgI _ _ _); omega) (by have : gI (sI τ5 (b + 2) (k.toNat) (iz z6)) b 4 = gI τ5 b 4 := gI_iz (sk1t (by omega) (izg τ5 b 4)) (rgI _ _ _); omega) (fun w hw => by rw [show gI (sI τ5 (b + 2) (k.toNat) (iz z6)) (b + 6) w = gI τ5 (b + 6) w from gI_eq (sk1t (by omega) rfl)]; exact (ivτ5_RdX).1.2.2.2.2.2.2 w hw))
          · refine z_iconst (pc := 70) (v := iz (0)) O dX4_readShare_70 (by decide) ?_
            refine z_zret (pc := 71) O dX4_readShare_71 rfl ?_
            exact ⟨0, rfl, (by decide), (((((FrD.rf b σ).pI (by omega)).tr frτ1).tr frρ37).tr frτ5), ivτ5_RdX⟩
        refine z_iload_n (pc := 43) O dX4_readShare_43 rfl ?_
        refine z_iload_n (pc := 44) O dX4_readShare_44 rfl ?_
        refine zi_icmp_ne (pc := 45) (tgt := 56) O dX4_readShare_45 (by decide) (by omega) (by decide) (fun h45 => ?_) (fun h45 => ?_)
        · refine z_iconst (pc := 56) (v := iz (0)) O dX4_readShare_56 (by decide) ?_
          refine z_lk [(0, .ref (b + 9)), (1, .int (iz al)), (2, .int (iz 3)), (3, .int (iz k))] ⟨rfl, rfl, rfl, rfl, trivial⟩ ?_
          exact cut57 0 (by omega) (by omega)
        · refine z_iload_n (pc := 48) O dX4_readShare_48 rfl ?_
          refine zi_if_ne (pc := 49) (tgt := 56) O dX4_readShare_49 (by decide) (by omega) (fun h49 => ?_) (fun h49 => ?_)
          · refine z_iconst (pc := 56) (v := iz (0)) O dX4_readShare_56 (by decide) ?_
            refine z_lk [(0, .ref (b + 9)), (1, .int (iz al)), (2, .int (iz 3)), (3, .int (iz k))] ⟨rfl, rfl, rfl, rfl, trivial⟩ ?_
            exact cut57 0 (by omega) (by omega)
          · refine z_iconst (pc := 52) (v := iz (1)) O dX4_readShare_52 (by decide) ?_
            refine z_goto (pc := 53) (tgt := 57) O dX4_readShare_53 (by decide) ?_
            refine z_lk [(0, .ref (b + 9)), (1, .int (iz al)), (2, .int (iz 3)), (3, .int (iz k))] ⟨rfl, rfl, rfl, rfl, trivial⟩ ?_
            exact cut57 1 (by omega) (by omega)
    refine z_lk [(0, .ref (b + 9)), (1, .int (iz 0)), (2, .int (iz 3)), (3, .int (iz 0))] ⟨rfl, rfl, rfl, rfl, trivial⟩ ?_
    exact cut37 _ 0 0 τ1 rfl (by omega) (by omega) (by omega) (FrD.rf b τ1) ivτ1_RdX
  · refine z_aload_n (pc := 7) O dX4_readShare_7 rfl ?_
    refine z_iconst (pc := 8) (v := iz (2)) O dX4_readShare_8 (by decide) ?_
    refine z_callV (pc := 9) O cl_X4_59 (k4_refuse _ _ b 2 (by decide) J R) (by decide) (R).2.1 kc_4 rfl rfl (Nat.le_of_ble_eq_true rfl) ⟨Nat.zero_le _, Nat.zero_le _⟩ dX4_readShare_9 (fun r τ8 hp => ?_)
    obtain ⟨z9, rfl, fτ8_0, frτ8, ivτ8_RdX⟩ := hp
    have := (ivτ8_RdX).2.2.2.1
    have := (ivτ8_RdX).2.2.2.2
    have := (ivτ8_RdX).1.2.2.2.2.1
    have := (ivτ8_RdX).1.2.2.2.2.2.1
    have : gI τ8 4 2 = gI σ 4 2 := gI_iz (FrD.it frτ8 (by omega) (izg σ 4 2)) (rgI _ _ _)
    refine z_zret (pc := 12) O dX4_readShare_12 (nar_z (by omega)) ?_
    exact ⟨z9, rfl, (by omega), ((FrD.rf b σ).tr frτ8), ivτ8_RdX⟩
set_option maxHeartbeats 4000000 in
set_option maxRecDepth 20000 in
theorem k4_readOperand (l : Launch) (σ : VH) (b : Nat) (J : Lay σ) (R : RdX σ b) : Ct l yX4_readOperand cX4_readOperand 2 (some .boolean) 1 0 0 [.ref (b + 9)] σ (fun r τ => ∃ z : Int, r = some (.int (iz z)) ∧ (z = 0 ∨ z = 1) ∧ (FrD b σ τ) ∧ (RdX τ b)) := by
  refine Ct.enter rfl (Nat.le_of_ble_eq_true rfl) ?_
  intro κ γ hκ O hrc hrs
  subst hκ
  have hR0 := R.1.1
  have hR4 := R.2.2.2.1
  have hR5 := R.2.2.2.2
  have hR6 := R.1.2.2.2.2.1
  have hR7 := R.1.2.2.2.2.2.1
  refine z_getsF (pc := 0) O dX4_readOperand_0 ?_
  refine z_aload_n (pc := 3) O dX4_readOperand_3 rfl ?_
  refine zi_getLv (pc := 4) (hL σ (b + 9) 3) O fl_X4_29 rfl (R).2.1 rfl dX4_readOperand_4 ?_
  refine z_callSN (pc := 7) O cl_X4_78 (k8_placeIn _ _ 1 (hL σ (b + 9) 3) 7 (Or.inr (Or.inr ⟨rfl, rfl⟩)) (by decide)) (by decide) rfl rfl (Nat.le_of_ble_eq_true rfl) ⟨Nat.zero_le _, Nat.zero_le _⟩ dX4_readOperand_7 (fun r τ1 hp => ?_)
  obtain ⟨z2, rfl, fτ1_0, fτ1_1, rfl⟩ := hp
  refine z_istore_n (pc := 10) [(0, .ref (b + 9)), (1, .int (iz z2))] O dX4_readOperand_10 (by decide) rfl ?_
  refine z_aload_n (pc := 11) O dX4_readOperand_11 rfl ?_
  refine zi_getLv (pc := 12) (hL σ (b + 9) 3) O fl_X4_29 rfl (R).2.1 rfl dX4_readOperand_12 ?_
  refine z_lconst (pc := 15) (v := 0) O dX4_readOperand_15 (by decide) ?_
  refine z_lcmp (pc := 16) O dX4_readOperand_16 ?_
  refine zi_lc_lt (pc := 17) (tgt := 25) O dX4_readOperand_17 (by decide) (fun h17 => ?_) (fun h17 => ?_)
  · refine z_aload_n (pc := 25) O dX4_readOperand_25 rfl ?_
    refine zi_getv (pc := 26) (gI σ (b + 9) 4) O fl_X4_171 rfl (R).2.1 (izg σ (b + 9) 4) dX4_readOperand_26 ?_
    have := rgI σ (b + 9) 4
    refine z_bipush (pc := 29) (v := iz (60)) O dX4_readOperand_29 (by decide) ?_
    refine zi_icmp_lt (pc := 31) (tgt := 40) O dX4_readOperand_31 (by decide) (by omega) (by decide) (fun h31 => ?_) (fun h31 => ?_)
    · refine z_aload_n (pc := 40) O dX4_readOperand_40 rfl ?_
      refine z_getR (pc := 41) b O fl_X4_19 rfl (R).2.1 (R).2.2.1.2 dX4_readOperand_41 ?_
      refine z_aload_n (pc := 44) O dX4_readOperand_44 rfl ?_
      refine zi_getLv (pc := 45) (hL σ (b + 9) 3) O fl_X4_29 rfl (R).2.1 rfl dX4_readOperand_45 ?_
      refine z_lconst (pc := 48) (v := 0) O dX4_readOperand_48 (by decide) ?_
      refine z_lcmp (pc := 49) O dX4_readOperand_49 ?_
      refine zi_lc_ge (pc := 50) (tgt := 65) O dX4_readOperand_50 (by decide) (fun h50 => ?_) (fun h50 => ?_)
      · refine z_iconst (pc := 65) (v := iz (-1)) O dX4_readOperand_65 (by decide) ?_
        refine z_iload_n (pc := 66) O dX4_readOperand_66 rfl ?_
        refine zi_isub (pc := 67) O dX4_readOperand_67 ?_
        refine z_callV (pc := 68) O cl_X4_147 (k1_addStep _ _ b ((-1) - z2) (by omega) J R) (by decide) (R).1.2.1 kc_1 rfl rfl (Nat.le_of_ble_eq_true rfl) ⟨Nat.zero_le _, Nat.zero_le _⟩ dX4_readOperand_68 (fun r τ3 hp => ?_)
        obtain ⟨rfl, frτ3, ivτ3_RdX⟩ := hp
        have := (ivτ3_RdX).2.2.2.1
        have := (ivτ3_RdX).2.2.2.2
        have := (ivτ3_RdX).1.2.2.2.2.1
        have := (ivτ3_RdX).1.2.2.2.2.2.1
        have : gI τ3 4 2 = gI σ 4 2 := gI_iz (FrD.it frτ3 (by omega) (izg σ 4 2)) (rgI _ _ _)
        refine z_aload_n (pc := 71) O dX4_readOperand_71 rfl ?_
        refine z_dup (pc := 72) O dX4_readOperand_72 rfl ?_
        refine zi_getv (pc := 73) (gI τ3 (b + 9) 4) O fl_X4_171 rfl (ivτ3_RdX).2.1 (izg τ3 (b + 9) 4) dX4_readOperand_73 ?_
        have := rgI τ3 (b + 9) 4
        refine z_iconst (pc := 76) (v := iz (1)) O dX4_readOperand_76 (by decide) ?_
        refine zi_iadd (pc := 77) O dX4_readOperand_77 ?_
        refine z_putI (pc := 78) O fl_X4_171 rfl ⟨rfl, rfl⟩ (ivτ3_RdX).2.1 dX4_readOperand_78 ?_
        refine z_aload_n (pc := 81) O dX4_readOperand_81 rfl ?_
        refine z_callV (pc := 82) O cl_X4_68 (k4_advance _ _ b (frτ3.lay J) (RdX.up ivτ3_RdX (τ := (sI τ3 (b + 9) 4 (iz ((gI τ3 (b + 9) 4) + 1)))) ((FrD.rf b τ3).pI (by omega)) (by have : gI (sI τ3 (b + 9) 4 (iz ((gI τ3 (b + 9) 4) + 1))) (b + 9) 2 = gI τ3 (b + 9) 2 := gI_iz (sk2t (by decide) (izg τ3 (b + 9) 2)) (rgI _ _ _); omega) (by have : gI (sI τ3 (b + 9) 4 (iz ((gI τ3 (b + 9) 4) + 1))) b 14 = gI τ3 b 14 := gI_iz (sk1t (by omega) (izg τ3 b 14)) (rgI _ _ _); omega) (by have : gI (sI τ3 (b + 9) 4 (iz ((gI τ3 (b + 9) 4) + 1))) b 3 = gI τ3 b 3 := gI_iz (sk1t (by omega) (izg τ3 b 3)) (rgI _ _ _); omega) (by have : gI (sI τ3 (b + 9) 4 (iz ((gI τ3 (b + 9) 4) + 1))) b 4 = gI τ3 b 4 := gI_iz (sk1t (by omega) (izg τ3 b 4)) (rgI _ _ _); omega) (fun w hw => by rw [show gI (sI τ3 (b + 9) 4 (iz ((gI τ3 (b + 9) 4) + 1))) (b + 6) w = gI τ3 (b + 6) w from gI_eq (sk1t (by omega) rfl)]; exact (ivτ3_RdX).1.2.2.2.2.2.2 w hw))) (by decide) (ivτ3_RdX).2.1 kc_4 rfl rfl (Nat.le_of_ble_eq_true rfl) ⟨Nat.zero_le _, Nat.zero_le _⟩ dX4_readOperand_82 (fun r τ5 hp => ?_)
        obtain ⟨rfl, frτ5, ivτ5_RdX⟩ := hp
        have := (ivτ5_RdX).2.2.2.1
        have := (ivτ5_RdX).2.2.2.2
        have := (ivτ5_RdX).1.2.2.2.2.1
        have := (ivτ5_RdX).1.2.2.2.2.2.1
        have : gI τ5 4 2 = gI σ 4 2 := gI_iz (FrD.it frτ5 (by omega) (sk1t (by omega) (FrD.it frτ3 (by omega) (izg σ 4 2)))) (rgI _ _ _)
        refine z_iconst (pc := 85) (v := iz (1)) O dX4_readOperand_85 (by decide) ?_
        refine z_zret (pc := 86) O dX4_readOperand_86 rfl ?_
        exact ⟨1, rfl, (by decide), ((((FrD.rf b σ).tr frτ3).pI (by omega)).tr frτ5), ivτ5_RdX⟩
      · refine z_aload_n (pc := 53) O dX4_readOperand_53 rfl ?_
        refine zi_getLv (pc := 54) (hL σ (b + 9) 3) O fl_X4_29 rfl (R).2.1 rfl dX4_readOperand_54 ?_
        refine z_ldc2 (pc := 57) O tw_399 dX4_readOperand_57 ?_
        refine z_lxor (pc := 60) O dX4_readOperand_60 ?_
        refine z_topl (pc := 61) (fun w7 ew7 => ?_)
        refine z_l2i (pc := 61) O dX4_readOperand_61 ?_
        refine zi_any (fun z8 rz8 ez8 => ?_)
        refine z_goto (pc := 62) (tgt := 68) O dX4_readOperand_62 (by decide) ?_
        refine z_callV (pc := 68) O cl_X4_147 (k1_addStep _ _ b z8 (by omega) J R) (by decide) (R).1.2.1 kc_1 rfl rfl (Nat.le_of_ble_eq_true rfl) ⟨Nat.zero_le _, Nat.zero_le _⟩ dX4_readOperand_68 (fun r τ9 hp => ?_)
        obtain ⟨rfl, frτ9, ivτ9_RdX⟩ := hp
        have := (ivτ9_RdX).2.2.2.1
        have := (ivτ9_RdX).2.2.2.2
        have := (ivτ9_RdX).1.2.2.2.2.1
        have := (ivτ9_RdX).1.2.2.2.2.2.1
        have : gI τ9 4 2 = gI σ 4 2 := gI_iz (FrD.it frτ9 (by omega) (izg σ 4 2)) (rgI _ _ _)
        refine z_aload_n (pc := 71) O dX4_readOperand_71 rfl ?_
        refine z_dup (pc := 72) O dX4_readOperand_72 rfl ?_
        refine zi_getv (pc := 73) (gI τ9 (b + 9) 4) O fl_X4_171 rfl (ivτ9_RdX).2.1 (izg τ9 (b + 9) 4) dX4_readOperand_73 ?_
        have := rgI τ9 (b + 9) 4
        refine z_iconst (pc := 76) (v := iz (1)) O dX4_readOperand_76 (by decide) ?_
        refine zi_iadd (pc := 77) O dX4_readOperand_77 ?_
        refine z_putI (pc := 78) O fl_X4_171 rfl ⟨rfl, rfl⟩ (ivτ9_RdX).2.1 dX4_readOperand_78 ?_
        refine z_aload_n (pc := 81) O dX4_readOperand_81 rfl ?_
        refine z_callV (pc := 82) O cl_X4_68 (k4_advance _ _ b (frτ9.lay J) (RdX.up ivτ9_RdX (τ := (sI τ9 (b + 9) 4 (iz ((gI τ9 (b + 9) 4) + 1)))) ((FrD.rf b τ9).pI (by omega)) (by have : gI (sI τ9 (b + 9) 4 (iz ((gI τ9 (b + 9) 4) + 1))) (b + 9) 2 = gI τ9 (b + 9) 2 := gI_iz (sk2t (by decide) (izg τ9 (b + 9) 2)) (rgI _ _ _); omega) (by have : gI (sI τ9 (b + 9) 4 (iz ((gI τ9 (b + 9) 4) + 1))) b 14 = gI τ9 b 14 := gI_iz (sk1t (by omega) (izg τ9 b 14)) (rgI _ _ _); omega) (by have : gI (sI τ9 (b + 9) 4 (iz ((gI τ9 (b + 9) 4) + 1))) b 3 = gI τ9 b 3 := gI_iz (sk1t (by omega) (izg τ9 b 3)) (rgI _ _ _); omega) (by have : gI (sI τ9 (b + 9) 4 (iz ((gI τ9 (b + 9) 4) + 1))) b 4 = gI τ9 b 4 := gI_iz (sk1t (by omega) (izg τ9 b 4)) (rgI _ _ _); omega) (fun w hw => by rw [show gI (sI τ9 (b + 9) 4 (iz ((gI τ9 (b + 9) 4) + 1))) (b + 6) w = gI τ9 (b + 6) w from gI_eq (sk1t (by omega) rfl)]; exact (ivτ9_RdX).1.2.2.2.2.2.2 w hw))) (by decide) (ivτ9_RdX).2.1 kc_4 rfl rfl (Nat.le_of_ble_eq_true rfl) ⟨Nat.zero_le _, Nat.zero_le _⟩ dX4_readOperand_82 (fun r τ11 hp => ?_)
        obtain ⟨rfl, frτ11, ivτ11_RdX⟩ := hp
        have := (ivτ11_RdX).2.2.2.1
        have := (ivτ11_RdX).2.2.2.2
        have := (ivτ11_RdX).1.2.2.2.2.1
        have := (ivτ11_RdX).1.2.2.2.2.2.1
        have : gI τ11 4 2 = gI σ 4 2 := gI_iz (FrD.it frτ11 (by omega) (sk1t (by omega) (FrD.it frτ9 (by omega) (izg σ 4 2)))) (rgI _ _ _)
        refine z_iconst (pc := 85) (v := iz (1)) O dX4_readOperand_85 (by decide) ?_
        refine z_zret (pc := 86) O dX4_readOperand_86 rfl ?_
        exact ⟨1, rfl, (by decide), ((((FrD.rf b σ).tr frτ9).pI (by omega)).tr frτ11), ivτ11_RdX⟩
    · refine z_aload_n (pc := 34) O dX4_readOperand_34 rfl ?_
      refine z_iconst (pc := 35) (v := iz (2)) O dX4_readOperand_35 (by decide) ?_
      refine z_callV (pc := 36) O cl_X4_59 (k4_refuse _ _ b 2 (by decide) J R) (by decide) (R).2.1 kc_4 rfl rfl (Nat.le_of_ble_eq_true rfl) ⟨Nat.zero_le _, Nat.zero_le _⟩ dX4_readOperand_36 (fun r τ13 hp => ?_)
      obtain ⟨z14, rfl, fτ13_0, frτ13, ivτ13_RdX⟩ := hp
      have := (ivτ13_RdX).2.2.2.1
      have := (ivτ13_RdX).2.2.2.2
      have := (ivτ13_RdX).1.2.2.2.2.1
      have := (ivτ13_RdX).1.2.2.2.2.2.1
      have : gI τ13 4 2 = gI σ 4 2 := gI_iz (FrD.it frτ13 (by omega) (izg σ 4 2)) (rgI _ _ _)
      refine z_zret (pc := 39) O dX4_readOperand_39 (nar_z (by omega)) ?_
      exact ⟨z14, rfl, (by omega), ((FrD.rf b σ).tr frτ13), ivτ13_RdX⟩
  · refine z_iload_n (pc := 20) O dX4_readOperand_20 rfl ?_
    refine z_iconst (pc := 21) (v := iz (-1)) O dX4_readOperand_21 (by decide) ?_
    refine zi_icmp_eq (pc := 22) (tgt := 34) O dX4_readOperand_22 (by decide) (by omega) (by decide) (fun h22 => ?_) (fun h22 => ?_)
    · refine z_aload_n (pc := 34) O dX4_readOperand_34 rfl ?_
      refine z_iconst (pc := 35) (v := iz (2)) O dX4_readOperand_35 (by decide) ?_
      refine z_callV (pc := 36) O cl_X4_59 (k4_refuse _ _ b 2 (by decide) J R) (by decide) (R).2.1 kc_4 rfl rfl (Nat.le_of_ble_eq_true rfl) ⟨Nat.zero_le _, Nat.zero_le _⟩ dX4_readOperand_36 (fun r τ15 hp => ?_)
      obtain ⟨z16, rfl, fτ15_0, frτ15, ivτ15_RdX⟩ := hp
      have := (ivτ15_RdX).2.2.2.1
      have := (ivτ15_RdX).2.2.2.2
      have := (ivτ15_RdX).1.2.2.2.2.1
      have := (ivτ15_RdX).1.2.2.2.2.2.1
      have : gI τ15 4 2 = gI σ 4 2 := gI_iz (FrD.it frτ15 (by omega) (izg σ 4 2)) (rgI _ _ _)
      refine z_zret (pc := 39) O dX4_readOperand_39 (nar_z (by omega)) ?_
      exact ⟨z16, rfl, (by omega), ((FrD.rf b σ).tr frτ15), ivτ15_RdX⟩
    · refine z_aload_n (pc := 25) O dX4_readOperand_25 rfl ?_
      refine zi_getv (pc := 26) (gI σ (b + 9) 4) O fl_X4_171 rfl (R).2.1 (izg σ (b + 9) 4) dX4_readOperand_26 ?_
      have := rgI σ (b + 9) 4
      refine z_bipush (pc := 29) (v := iz (60)) O dX4_readOperand_29 (by decide) ?_
      refine zi_icmp_lt (pc := 31) (tgt := 40) O dX4_readOperand_31 (by decide) (by omega) (by decide) (fun h31 => ?_) (fun h31 => ?_)
      · refine z_aload_n (pc := 40) O dX4_readOperand_40 rfl ?_
        refine z_getR (pc := 41) b O fl_X4_19 rfl (R).2.1 (R).2.2.1.2 dX4_readOperand_41 ?_
        refine z_aload_n (pc := 44) O dX4_readOperand_44 rfl ?_
        refine zi_getLv (pc := 45) (hL σ (b + 9) 3) O fl_X4_29 rfl (R).2.1 rfl dX4_readOperand_45 ?_
        refine z_lconst (pc := 48) (v := 0) O dX4_readOperand_48 (by decide) ?_
        refine z_lcmp (pc := 49) O dX4_readOperand_49 ?_
        refine zi_lc_ge (pc := 50) (tgt := 65) O dX4_readOperand_50 (by decide) (fun h50 => ?_) (fun h50 => ?_)
        · refine z_iconst (pc := 65) (v := iz (-1)) O dX4_readOperand_65 (by decide) ?_
          refine z_iload_n (pc := 66) O dX4_readOperand_66 rfl ?_
          refine zi_isub (pc := 67) O dX4_readOperand_67 ?_
          refine z_callV (pc := 68) O cl_X4_147 (k1_addStep _ _ b ((-1) - z2) (by omega) J R) (by decide) (R).1.2.1 kc_1 rfl rfl (Nat.le_of_ble_eq_true rfl) ⟨Nat.zero_le _, Nat.zero_le _⟩ dX4_readOperand_68 (fun r τ17 hp => ?_)
          obtain ⟨rfl, frτ17, ivτ17_RdX⟩ := hp
          have := (ivτ17_RdX).2.2.2.1
          have := (ivτ17_RdX).2.2.2.2
          have := (ivτ17_RdX).1.2.2.2.2.1
          have := (ivτ17_RdX).1.2.2.2.2.2.1
          have : gI τ17 4 2 = gI σ 4 2 := gI_iz (FrD.it frτ17 (by omega) (izg σ 4 2)) (rgI _ _ _)
          refine z_aload_n (pc := 71) O dX4_readOperand_71 rfl ?_
          refine z_dup (pc := 72) O dX4_readOperand_72 rfl ?_
          refine zi_getv (pc := 73) (gI τ17 (b + 9) 4) O fl_X4_171 rfl (ivτ17_RdX).2.1 (izg τ17 (b + 9) 4) dX4_readOperand_73 ?_
          have := rgI τ17 (b + 9) 4
          refine z_iconst (pc := 76) (v := iz (1)) O dX4_readOperand_76 (by decide) ?_
          refine zi_iadd (pc := 77) O dX4_readOperand_77 ?_
          refine z_putI (pc := 78) O fl_X4_171 rfl ⟨rfl, rfl⟩ (ivτ17_RdX).2.1 dX4_readOperand_78 ?_
          refine z_aload_n (pc := 81) O dX4_readOperand_81 rfl ?_
          refine z_callV (pc := 82) O cl_X4_68 (k4_advance _ _ b (frτ17.lay J) (RdX.up ivτ17_RdX (τ := (sI τ17 (b + 9) 4 (iz ((gI τ17 (b + 9) 4) + 1)))) ((FrD.rf b τ17).pI (by omega)) (by have : gI (sI τ17 (b + 9) 4 (iz ((gI τ17 (b + 9) 4) + 1))) (b + 9) 2 = gI τ17 (b + 9) 2 := gI_iz (sk2t (by decide) (izg τ17 (b + 9) 2)) (rgI _ _ _); omega) (by have : gI (sI τ17 (b + 9) 4 (iz ((gI τ17 (b + 9) 4) + 1))) b 14 = gI τ17 b 14 := gI_iz (sk1t (by omega) (izg τ17 b 14)) (rgI _ _ _); omega) (by have : gI (sI τ17 (b + 9) 4 (iz ((gI τ17 (b + 9) 4) + 1))) b 3 = gI τ17 b 3 := gI_iz (sk1t (by omega) (izg τ17 b 3)) (rgI _ _ _); omega) (by have : gI (sI τ17 (b + 9) 4 (iz ((gI τ17 (b + 9) 4) + 1))) b 4 = gI τ17 b 4 := gI_iz (sk1t (by omega) (izg τ17 b 4)) (rgI _ _ _); omega) (fun w hw => by rw [show gI (sI τ17 (b + 9) 4 (iz ((gI τ17 (b + 9) 4) + 1))) (b + 6) w = gI τ17 (b + 6) w from gI_eq (sk1t (by omega) rfl)]; exact (ivτ17_RdX).1.2.2.2.2.2.2 w hw))) (by decide) (ivτ17_RdX).2.1 kc_4 rfl rfl (Nat.le_of_ble_eq_true rfl) ⟨Nat.zero_le _, Nat.zero_le _⟩ dX4_readOperand_82 (fun r τ19 hp => ?_)
          obtain ⟨rfl, frτ19, ivτ19_RdX⟩ := hp
          have := (ivτ19_RdX).2.2.2.1
          have := (ivτ19_RdX).2.2.2.2
          have := (ivτ19_RdX).1.2.2.2.2.1
          have := (ivτ19_RdX).1.2.2.2.2.2.1
          have : gI τ19 4 2 = gI σ 4 2 := gI_iz (FrD.it frτ19 (by omega) (sk1t (by omega) (FrD.it frτ17 (by omega) (izg σ 4 2)))) (rgI _ _ _)
          refine z_iconst (pc := 85) (v := iz (1)) O dX4_readOperand_85 (by decide) ?_
          refine z_zret (pc := 86) O dX4_readOperand_86 rfl ?_
          exact ⟨1, rfl, (by decide), ((((FrD.rf b σ).tr frτ17).pI (by omega)).tr frτ19), ivτ19_RdX⟩
        · refine z_aload_n (pc := 53) O dX4_readOperand_53 rfl ?_
          refine zi_getLv (pc := 54) (hL σ (b + 9) 3) O fl_X4_29 rfl (R).2.1 rfl dX4_readOperand_54 ?_
          refine z_ldc2 (pc := 57) O tw_399 dX4_readOperand_57 ?_
          refine z_lxor (pc := 60) O dX4_readOperand_60 ?_
          refine z_topl (pc := 61) (fun w21 ew21 => ?_)
          refine z_l2i (pc := 61) O dX4_readOperand_61 ?_
          refine zi_any (fun z22 rz22 ez22 => ?_)
          refine z_goto (pc := 62) (tgt := 68) O dX4_readOperand_62 (by decide) ?_
          refine z_callV (pc := 68) O cl_X4_147 (k1_addStep _ _ b z22 (by omega) J R) (by decide) (R).1.2.1 kc_1 rfl rfl (Nat.le_of_ble_eq_true rfl) ⟨Nat.zero_le _, Nat.zero_le _⟩ dX4_readOperand_68 (fun r τ23 hp => ?_)
          obtain ⟨rfl, frτ23, ivτ23_RdX⟩ := hp
          have := (ivτ23_RdX).2.2.2.1
          have := (ivτ23_RdX).2.2.2.2
          have := (ivτ23_RdX).1.2.2.2.2.1
          have := (ivτ23_RdX).1.2.2.2.2.2.1
          have : gI τ23 4 2 = gI σ 4 2 := gI_iz (FrD.it frτ23 (by omega) (izg σ 4 2)) (rgI _ _ _)
          refine z_aload_n (pc := 71) O dX4_readOperand_71 rfl ?_
          refine z_dup (pc := 72) O dX4_readOperand_72 rfl ?_
          refine zi_getv (pc := 73) (gI τ23 (b + 9) 4) O fl_X4_171 rfl (ivτ23_RdX).2.1 (izg τ23 (b + 9) 4) dX4_readOperand_73 ?_
          have := rgI τ23 (b + 9) 4
          refine z_iconst (pc := 76) (v := iz (1)) O dX4_readOperand_76 (by decide) ?_
          refine zi_iadd (pc := 77) O dX4_readOperand_77 ?_
          refine z_putI (pc := 78) O fl_X4_171 rfl ⟨rfl, rfl⟩ (ivτ23_RdX).2.1 dX4_readOperand_78 ?_
          refine z_aload_n (pc := 81) O dX4_readOperand_81 rfl ?_
          refine z_callV (pc := 82) O cl_X4_68 (k4_advance _ _ b (frτ23.lay J) (RdX.up ivτ23_RdX (τ := (sI τ23 (b + 9) 4 (iz ((gI τ23 (b + 9) 4) + 1)))) ((FrD.rf b τ23).pI (by omega)) (by have : gI (sI τ23 (b + 9) 4 (iz ((gI τ23 (b + 9) 4) + 1))) (b + 9) 2 = gI τ23 (b + 9) 2 := gI_iz (sk2t (by decide) (izg τ23 (b + 9) 2)) (rgI _ _ _); omega) (by have : gI (sI τ23 (b + 9) 4 (iz ((gI τ23 (b + 9) 4) + 1))) b 14 = gI τ23 b 14 := gI_iz (sk1t (by omega) (izg τ23 b 14)) (rgI _ _ _); omega) (by have : gI (sI τ23 (b + 9) 4 (iz ((gI τ23 (b + 9) 4) + 1))) b 3 = gI τ23 b 3 := gI_iz (sk1t (by omega) (izg τ23 b 3)) (rgI _ _ _); omega) (by have : gI (sI τ23 (b + 9) 4 (iz ((gI τ23 (b + 9) 4) + 1))) b 4 = gI τ23 b 4 := gI_iz (sk1t (by omega) (izg τ23 b 4)) (rgI _ _ _); omega) (fun w hw => by rw [show gI (sI τ23 (b + 9) 4 (iz ((gI τ23 (b + 9) 4) + 1))) (b + 6) w = gI τ23 (b + 6) w from gI_eq (sk1t (by omega) rfl)]; exact (ivτ23_RdX).1.2.2.2.2.2.2 w hw))) (by decide) (ivτ23_RdX).2.1 kc_4 rfl rfl (Nat.le_of_ble_eq_true rfl) ⟨Nat.zero_le _, Nat.zero_le _⟩ dX4_readOperand_82 (fun r τ25 hp => ?_)
          obtain ⟨rfl, frτ25, ivτ25_RdX⟩ := hp
          have := (ivτ25_RdX).2.2.2.1
          have := (ivτ25_RdX).2.2.2.2
          have := (ivτ25_RdX).1.2.2.2.2.1
          have := (ivτ25_RdX).1.2.2.2.2.2.1
          have : gI τ25 4 2 = gI σ 4 2 := gI_iz (FrD.it frτ25 (by omega) (sk1t (by omega) (FrD.it frτ23 (by omega) (izg σ 4 2)))) (rgI _ _ _)
          refine z_iconst (pc := 85) (v := iz (1)) O dX4_readOperand_85 (by decide) ?_
          refine z_zret (pc := 86) O dX4_readOperand_86 rfl ?_
          exact ⟨1, rfl, (by decide), ((((FrD.rf b σ).tr frτ23).pI (by omega)).tr frτ25), ivτ25_RdX⟩
      · refine z_aload_n (pc := 34) O dX4_readOperand_34 rfl ?_
        refine z_iconst (pc := 35) (v := iz (2)) O dX4_readOperand_35 (by decide) ?_
        refine z_callV (pc := 36) O cl_X4_59 (k4_refuse _ _ b 2 (by decide) J R) (by decide) (R).2.1 kc_4 rfl rfl (Nat.le_of_ble_eq_true rfl) ⟨Nat.zero_le _, Nat.zero_le _⟩ dX4_readOperand_36 (fun r τ27 hp => ?_)
        obtain ⟨z28, rfl, fτ27_0, frτ27, ivτ27_RdX⟩ := hp
        have := (ivτ27_RdX).2.2.2.1
        have := (ivτ27_RdX).2.2.2.2
        have := (ivτ27_RdX).1.2.2.2.2.1
        have := (ivτ27_RdX).1.2.2.2.2.2.1
        have : gI τ27 4 2 = gI σ 4 2 := gI_iz (FrD.it frτ27 (by omega) (izg σ 4 2)) (rgI _ _ _)
        refine z_zret (pc := 39) O dX4_readOperand_39 (nar_z (by omega)) ?_
        exact ⟨z28, rfl, (by omega), ((FrD.rf b σ).tr frτ27), ivτ27_RdX⟩
