set_option maxHeartbeats 4000000 in
set_option maxRecDepth 20000 in
theorem k4_readWhen (l : Launch) (σ : VH) (b : Nat) (J : Lay σ) (R : RdX σ b) : Ct l yX4_readWhen cX4_readWhen 3 (some .boolean) 23 0 0 [.ref (b + 9)] σ (fun r τ => ∃ z : Int, r = some (.int (iz z)) ∧ (z = 0 ∨ z = 1) ∧ (FrD b σ τ) ∧ (RdX τ b)) := by
  refine Ct.enter rfl (Nat.le_of_ble_eq_true rfl) ?_
  intro κ γ hκ O hrc hrs
  subst hκ
  have hR0 := R.1.1
  have hR4 := R.2.2.2.1
  have hR5 := R.2.2.2.2
  have hR6 := R.1.2.2.2.2.1
  have hR7 := R.1.2.2.2.2.2.1
  refine z_aload_n (pc := 0) O dX4_readWhen_0 rfl ?_
  refine z_getR (pc := 1) b O fl_X4_19 rfl (R).2.1 (R).2.2.1.2 dX4_readWhen_1 ?_
  refine zi_getv (pc := 4) (gI σ b 4) O fl_X4_96 rfl (R).1.2.1 (izg σ b 4) dX4_readWhen_4 ?_
  have := rgI σ b 4
  refine z_bipush (pc := 7) (v := iz (16)) O dX4_readWhen_7 (by decide) ?_
  refine zi_icmp_lt (pc := 9) (tgt := 18) O dX4_readWhen_9 (by decide) (by omega) (by decide) (fun h9 => ?_) (fun h9 => ?_)
  · refine z_aload_n (pc := 18) O dX4_readWhen_18 rfl ?_
    refine z_callV (pc := 19) O cl_X4_68 (k4_advance _ _ b J R) (by decide) (R).2.1 kc_4 rfl rfl (Nat.le_of_ble_eq_true rfl) ⟨Nat.zero_le _, Nat.zero_le _⟩ dX4_readWhen_19 (fun r τ1 hp => ?_)
    obtain ⟨rfl, frτ1, ivτ1_RdX⟩ := hp
    have := (ivτ1_RdX).2.2.2.1
    have := (ivτ1_RdX).2.2.2.2
    have := (ivτ1_RdX).1.2.2.2.2.1
    have := (ivτ1_RdX).1.2.2.2.2.2.1
    have : gI τ1 4 2 = gI σ 4 2 := gI_iz (FrD.it frτ1 (by omega) (izg σ 4 2)) (rgI _ _ _)
    refine z_aload_n (pc := 22) O dX4_readWhen_22 rfl ?_
    refine z_iconst (pc := 23) (v := iz (0)) O dX4_readWhen_23 (by decide) ?_
    refine z_callV (pc := 24) O cl_X4_99 (k4_readEither_0 _ _ b (frτ1.lay J) ivτ1_RdX) (by decide) (ivτ1_RdX).2.1 kc_4 rfl rfl (Nat.le_of_ble_eq_true rfl) ⟨Nat.zero_le _, Nat.zero_le _⟩ dX4_readWhen_24 (fun r τ3 hp => ?_)
    obtain ⟨z4, rfl, fτ3_0, frτ3, ivτ3_RdX⟩ := hp
    have := (ivτ3_RdX).2.2.2.1
    have := (ivτ3_RdX).2.2.2.2
    have := (ivτ3_RdX).1.2.2.2.2.1
    have := (ivτ3_RdX).1.2.2.2.2.2.1
    have : gI τ3 4 2 = gI σ 4 2 := gI_iz (FrD.it frτ3 (by omega) (FrD.it frτ1 (by omega) (izg σ 4 2))) (rgI _ _ _)
    refine zi_if_eq (pc := 27) (tgt := 40) O dX4_readWhen_27 (by decide) (by omega) (fun h27 => ?_) (fun h27 => ?_)
    · refine z_iconst (pc := 40) (v := iz (0)) O dX4_readWhen_40 (by decide) ?_
      refine z_zret (pc := 41) O dX4_readWhen_41 rfl ?_
      exact ⟨0, rfl, (by decide), (((FrD.rf b σ).tr frτ1).tr frτ3), ivτ3_RdX⟩
    · refine z_aload_n (pc := 30) O dX4_readWhen_30 rfl ?_
      refine z_ldc2 (pc := 31) O tw_447 dX4_readWhen_31 ?_
      refine z_callV (pc := 34) O cl_X4_89 (k4_expect _ _ b 25711 (frτ3.lay (frτ1.lay J)) ivτ3_RdX) (by decide) (ivτ3_RdX).2.1 kc_4 rfl rfl (Nat.le_of_ble_eq_true rfl) ⟨Nat.zero_le _, Nat.zero_le _⟩ dX4_readWhen_34 (fun r τ5 hp => ?_)
      obtain ⟨z6, rfl, fτ5_0, frτ5, ivτ5_RdX⟩ := hp
      have := (ivτ5_RdX).2.2.2.1
      have := (ivτ5_RdX).2.2.2.2
      have := (ivτ5_RdX).1.2.2.2.2.1
      have := (ivτ5_RdX).1.2.2.2.2.2.1
      have : gI τ5 4 2 = gI σ 4 2 := gI_iz (FrD.it frτ5 (by omega) (FrD.it frτ3 (by omega) (FrD.it frτ1 (by omega) (izg σ 4 2)))) (rgI _ _ _)
      refine zi_if_ne (pc := 37) (tgt := 42) O dX4_readWhen_37 (by decide) (by omega) (fun h37 => ?_) (fun h37 => ?_)
      · refine z_aload_n (pc := 42) O dX4_readWhen_42 rfl ?_
        refine zi_getLv (pc := 43) (hL τ5 (b + 9) 3) O fl_X4_29 rfl (ivτ5_RdX).2.1 rfl dX4_readWhen_43 ?_
        refine z_callS (pc := 46) O cl_X4_104 (k4_deedOf _ _ (hL τ5 (b + 9) 3)) (by decide) rfl rfl (Nat.le_of_ble_eq_true rfl) ⟨Nat.zero_le _, Nat.zero_le _⟩ dX4_readWhen_46 (fun r τ7 hp => ?_)
        obtain ⟨z8, rfl, fτ7_0, fτ7_1, rfl⟩ := hp
        refine z_istore_n (pc := 49) [(0, .ref (b + 9)), (1, .int (iz z8))] O dX4_readWhen_49 (by decide) rfl ?_
        refine z_iload_n (pc := 50) O dX4_readWhen_50 rfl ?_
        refine z_iconst (pc := 51) (v := iz (-1)) O dX4_readWhen_51 (by decide) ?_
        refine zi_icmp_ne (pc := 52) (tgt := 61) O dX4_readWhen_52 (by decide) (by omega) (by decide) (fun h52 => ?_) (fun h52 => ?_)
        · refine z_aload_n (pc := 61) O dX4_readWhen_61 rfl ?_
          refine z_callV (pc := 62) O cl_X4_68 (k4_advance _ _ b (frτ5.lay (frτ3.lay (frτ1.lay J))) ivτ5_RdX) (by decide) (ivτ5_RdX).2.1 kc_4 rfl rfl (Nat.le_of_ble_eq_true rfl) ⟨Nat.zero_le _, Nat.zero_le _⟩ dX4_readWhen_62 (fun r τ9 hp => ?_)
          obtain ⟨rfl, frτ9, ivτ9_RdX⟩ := hp
          have := (ivτ9_RdX).2.2.2.1
          have := (ivτ9_RdX).2.2.2.2
          have := (ivτ9_RdX).1.2.2.2.2.1
          have := (ivτ9_RdX).1.2.2.2.2.2.1
          have : gI τ9 4 2 = gI σ 4 2 := gI_iz (FrD.it frτ9 (by omega) (FrD.it frτ5 (by omega) (FrD.it frτ3 (by omega) (FrD.it frτ1 (by omega) (izg σ 4 2))))) (rgI _ _ _)
          refine z_iload_n (pc := 65) O dX4_readWhen_65 rfl ?_
          refine z_iconst (pc := 66) (v := iz (2)) O dX4_readWhen_66 (by decide) ?_
          refine zi_icmp_eq (pc := 67) (tgt := 75) O dX4_readWhen_67 (by decide) (by omega) (by decide) (fun h67 => ?_) (fun h67 => ?_)
          · refine z_aload_n (pc := 75) O dX4_readWhen_75 rfl ?_
            refine z_iconst (pc := 76) (v := iz (0)) O dX4_readWhen_76 (by decide) ?_
            refine z_ldc (pc := 77) O tw_394 dX4_readWhen_77 ?_
            refine zi_val (100000) (by decide) ?_
            refine z_callV (pc := 79) O cl_X4_83 (k4_readNumber _ _ b 0 (by decide) 100000 (by decide) (frτ9.lay (frτ5.lay (frτ3.lay (frτ1.lay J)))) ivτ9_RdX) (by decide) (ivτ9_RdX).2.1 kc_4 rfl rfl (Nat.le_of_ble_eq_true rfl) ⟨Nat.zero_le _, Nat.zero_le _⟩ dX4_readWhen_79 (fun r τ11 hp => ?_)
            obtain ⟨z12, rfl, fτ11_0, frτ11, ivτ11_RdX⟩ := hp
            have := (ivτ11_RdX).2.2.2.1
            have := (ivτ11_RdX).2.2.2.2
            have := (ivτ11_RdX).1.2.2.2.2.1
            have := (ivτ11_RdX).1.2.2.2.2.2.1
            have : gI τ11 4 2 = gI σ 4 2 := gI_iz (FrD.it frτ11 (by omega) (FrD.it frτ9 (by omega) (FrD.it frτ5 (by omega) (FrD.it frτ3 (by omega) (FrD.it frτ1 (by omega) (izg σ 4 2)))))) (rgI _ _ _)
            refine z_goto (pc := 82) (tgt := 86) O dX4_readWhen_82 (by decide) ?_
            refine z_istore_n (pc := 86) [(0, .ref (b + 9)), (1, .int (iz z8)), (2, .int (iz z12))] O dX4_readWhen_86 (by decide) rfl ?_
            refine z_iload_n (pc := 87) O dX4_readWhen_87 rfl ?_
            refine z_iconst (pc := 88) (v := iz (-1)) O dX4_readWhen_88 (by decide) ?_
            refine zi_icmp_eq (pc := 89) (tgt := 102) O dX4_readWhen_89 (by decide) (by omega) (by decide) (fun h89 => ?_) (fun h89 => ?_)
            · refine z_iconst (pc := 102) (v := iz (0)) O dX4_readWhen_102 (by decide) ?_
              refine z_zret (pc := 103) O dX4_readWhen_103 rfl ?_
              exact ⟨0, rfl, (by decide), ((((((FrD.rf b σ).tr frτ1).tr frτ3).tr frτ5).tr frτ9).tr frτ11), ivτ11_RdX⟩
            · refine z_aload_n (pc := 92) O dX4_readWhen_92 rfl ?_
              refine z_ldc2 (pc := 93) O tw_400 dX4_readWhen_93 ?_
              refine z_callV (pc := 96) O cl_X4_89 (k4_expect _ _ b 59 (frτ11.lay (frτ9.lay (frτ5.lay (frτ3.lay (frτ1.lay J))))) ivτ11_RdX) (by decide) (ivτ11_RdX).2.1 kc_4 rfl rfl (Nat.le_of_ble_eq_true rfl) ⟨Nat.zero_le _, Nat.zero_le _⟩ dX4_readWhen_96 (fun r τ13 hp => ?_)
              obtain ⟨z14, rfl, fτ13_0, frτ13, ivτ13_RdX⟩ := hp
              have := (ivτ13_RdX).2.2.2.1
              have := (ivτ13_RdX).2.2.2.2
              have := (ivτ13_RdX).1.2.2.2.2.1
              have := (ivτ13_RdX).1.2.2.2.2.2.1
              have : gI τ13 4 2 = gI σ 4 2 := gI_iz (FrD.it frτ13 (by omega) (FrD.it frτ11 (by omega) (FrD.it frτ9 (by omega) (FrD.it frτ5 (by omega) (FrD.it frτ3 (by omega) (FrD.it frτ1 (by omega) (izg σ 4 2))))))) (rgI _ _ _)
              refine zi_if_ne (pc := 99) (tgt := 104) O dX4_readWhen_99 (by decide) (by omega) (fun h99 => ?_) (fun h99 => ?_)
              · refine z_aload_n (pc := 104) O dX4_readWhen_104 rfl ?_
                refine z_getR (pc := 105) b O fl_X4_19 rfl (ivτ13_RdX).2.1 (ivτ13_RdX).2.2.1.2 dX4_readWhen_105 ?_
                refine z_iload_n (pc := 108) O dX4_readWhen_108 rfl ?_
                refine z_iload_n (pc := 109) O dX4_readWhen_109 rfl ?_
                refine z_callV (pc := 110) O cl_X4_108 (k1_addWhen _ _ b z8 (by omega) z12 (by omega) (frτ13.lay (frτ11.lay (frτ9.lay (frτ5.lay (frτ3.lay (frτ1.lay J)))))) ivτ13_RdX) (by decide) (ivτ13_RdX).1.2.1 kc_1 rfl rfl (Nat.le_of_ble_eq_true rfl) ⟨Nat.zero_le _, Nat.zero_le _⟩ dX4_readWhen_110 (fun r τ15 hp => ?_)
                obtain ⟨rfl, frτ15, ivτ15_RdX⟩ := hp
                have := (ivτ15_RdX).2.2.2.1
                have := (ivτ15_RdX).2.2.2.2
                have := (ivτ15_RdX).1.2.2.2.2.1
                have := (ivτ15_RdX).1.2.2.2.2.2.1
                have : gI τ15 4 2 = gI σ 4 2 := gI_iz (FrD.it frτ15 (by omega) (FrD.it frτ13 (by omega) (FrD.it frτ11 (by omega) (FrD.it frτ9 (by omega) (FrD.it frτ5 (by omega) (FrD.it frτ3 (by omega) (FrD.it frτ1 (by omega) (izg σ 4 2)))))))) (rgI _ _ _)
                refine z_iconst (pc := 113) (v := iz (1)) O dX4_readWhen_113 (by decide) ?_
                refine z_zret (pc := 114) O dX4_readWhen_114 rfl ?_
                exact ⟨1, rfl, (by decide), ((((((((FrD.rf b σ).tr frτ1).tr frτ3).tr frτ5).tr frτ9).tr frτ11).tr frτ13).tr frτ15), ivτ15_RdX⟩
              · refine z_iconst (pc := 102) (v := iz (0)) O dX4_readWhen_102 (by decide) ?_
                refine z_zret (pc := 103) O dX4_readWhen_103 rfl ?_
                exact ⟨0, rfl, (by decide), (((((((FrD.rf b σ).tr frτ1).tr frτ3).tr frτ5).tr frτ9).tr frτ11).tr frτ13), ivτ13_RdX⟩
          · refine z_iload_n (pc := 70) O dX4_readWhen_70 rfl ?_
            refine z_iconst (pc := 71) (v := iz (3)) O dX4_readWhen_71 (by decide) ?_
            refine zi_icmp_ne (pc := 72) (tgt := 85) O dX4_readWhen_72 (by decide) (by omega) (by decide) (fun h72 => ?_) (fun h72 => ?_)
            · refine z_iconst (pc := 85) (v := iz (0)) O dX4_readWhen_85 (by decide) ?_
              refine z_istore_n (pc := 86) [(0, .ref (b + 9)), (1, .int (iz z8)), (2, .int (iz 0))] O dX4_readWhen_86 (by decide) rfl ?_
              refine z_iload_n (pc := 87) O dX4_readWhen_87 rfl ?_
              refine z_iconst (pc := 88) (v := iz (-1)) O dX4_readWhen_88 (by decide) ?_
              refine zi_icmp_eq (pc := 89) (tgt := 102) O dX4_readWhen_89 (by decide) (by decide) (by decide) (fun hh => absurd hh (by decide)) (fun _ => ?_)
              refine z_aload_n (pc := 92) O dX4_readWhen_92 rfl ?_
              refine z_ldc2 (pc := 93) O tw_400 dX4_readWhen_93 ?_
              refine z_callV (pc := 96) O cl_X4_89 (k4_expect _ _ b 59 (frτ9.lay (frτ5.lay (frτ3.lay (frτ1.lay J)))) ivτ9_RdX) (by decide) (ivτ9_RdX).2.1 kc_4 rfl rfl (Nat.le_of_ble_eq_true rfl) ⟨Nat.zero_le _, Nat.zero_le _⟩ dX4_readWhen_96 (fun r τ17 hp => ?_)
              obtain ⟨z18, rfl, fτ17_0, frτ17, ivτ17_RdX⟩ := hp
              have := (ivτ17_RdX).2.2.2.1
              have := (ivτ17_RdX).2.2.2.2
              have := (ivτ17_RdX).1.2.2.2.2.1
              have := (ivτ17_RdX).1.2.2.2.2.2.1
              have : gI τ17 4 2 = gI σ 4 2 := gI_iz (FrD.it frτ17 (by omega) (FrD.it frτ9 (by omega) (FrD.it frτ5 (by omega) (FrD.it frτ3 (by omega) (FrD.it frτ1 (by omega) (izg σ 4 2)))))) (rgI _ _ _)
              refine zi_if_ne (pc := 99) (tgt := 104) O dX4_readWhen_99 (by decide) (by omega) (fun h99 => ?_) (fun h99 => ?_)
              · refine z_aload_n (pc := 104) O dX4_readWhen_104 rfl ?_
                refine z_getR (pc := 105) b O fl_X4_19 rfl (ivτ17_RdX).2.1 (ivτ17_RdX).2.2.1.2 dX4_readWhen_105 ?_
                refine z_iload_n (pc := 108) O dX4_readWhen_108 rfl ?_
                refine z_iload_n (pc := 109) O dX4_readWhen_109 rfl ?_
                refine z_callV (pc := 110) O cl_X4_108 (k1_addWhen _ _ b z8 (by omega) 0 (by decide) (frτ17.lay (frτ9.lay (frτ5.lay (frτ3.lay (frτ1.lay J))))) ivτ17_RdX) (by decide) (ivτ17_RdX).1.2.1 kc_1 rfl rfl (Nat.le_of_ble_eq_true rfl) ⟨Nat.zero_le _, Nat.zero_le _⟩ dX4_readWhen_110 (fun r τ19 hp => ?_)
                obtain ⟨rfl, frτ19, ivτ19_RdX⟩ := hp
                have := (ivτ19_RdX).2.2.2.1
                have := (ivτ19_RdX).2.2.2.2
                have := (ivτ19_RdX).1.2.2.2.2.1
                have := (ivτ19_RdX).1.2.2.2.2.2.1
                have : gI τ19 4 2 = gI σ 4 2 := gI_iz (FrD.it frτ19 (by omega) (FrD.it frτ17 (by omega) (FrD.it frτ9 (by omega) (FrD.it frτ5 (by omega) (FrD.it frτ3 (by omega) (FrD.it frτ1 (by omega) (izg σ 4 2))))))) (rgI _ _ _)
                refine z_iconst (pc := 113) (v := iz (1)) O dX4_readWhen_113 (by decide) ?_
                refine z_zret (pc := 114) O dX4_readWhen_114 rfl ?_
                exact ⟨1, rfl, (by decide), (((((((FrD.rf b σ).tr frτ1).tr frτ3).tr frτ5).tr frτ9).tr frτ17).tr frτ19), ivτ19_RdX⟩
              · refine z_iconst (pc := 102) (v := iz (0)) O dX4_readWhen_102 (by decide) ?_
                refine z_zret (pc := 103) O dX4_readWhen_103 rfl ?_
                exact ⟨0, rfl, (by decide), ((((((FrD.rf b σ).tr frτ1).tr frτ3).tr frτ5).tr frτ9).tr frτ17), ivτ17_RdX⟩
            · refine z_aload_n (pc := 75) O dX4_readWhen_75 rfl ?_
              refine z_iconst (pc := 76) (v := iz (0)) O dX4_readWhen_76 (by decide) ?_
              refine z_ldc (pc := 77) O tw_394 dX4_readWhen_77 ?_
              refine zi_val (100000) (by decide) ?_
              refine z_callV (pc := 79) O cl_X4_83 (k4_readNumber _ _ b 0 (by decide) 100000 (by decide) (frτ9.lay (frτ5.lay (frτ3.lay (frτ1.lay J)))) ivτ9_RdX) (by decide) (ivτ9_RdX).2.1 kc_4 rfl rfl (Nat.le_of_ble_eq_true rfl) ⟨Nat.zero_le _, Nat.zero_le _⟩ dX4_readWhen_79 (fun r τ21 hp => ?_)
              obtain ⟨z22, rfl, fτ21_0, frτ21, ivτ21_RdX⟩ := hp
              have := (ivτ21_RdX).2.2.2.1
              have := (ivτ21_RdX).2.2.2.2
              have := (ivτ21_RdX).1.2.2.2.2.1
              have := (ivτ21_RdX).1.2.2.2.2.2.1
              have : gI τ21 4 2 = gI σ 4 2 := gI_iz (FrD.it frτ21 (by omega) (FrD.it frτ9 (by omega) (FrD.it frτ5 (by omega) (FrD.it frτ3 (by omega) (FrD.it frτ1 (by omega) (izg σ 4 2)))))) (rgI _ _ _)
              refine z_goto (pc := 82) (tgt := 86) O dX4_readWhen_82 (by decide) ?_
              refine z_istore_n (pc := 86) [(0, .ref (b + 9)), (1, .int (iz z8)), (2, .int (iz z22))] O dX4_readWhen_86 (by decide) rfl ?_
              refine z_iload_n (pc := 87) O dX4_readWhen_87 rfl ?_
              refine z_iconst (pc := 88) (v := iz (-1)) O dX4_readWhen_88 (by decide) ?_
              refine zi_icmp_eq (pc := 89) (tgt := 102) O dX4_readWhen_89 (by decide) (by omega) (by decide) (fun h89 => ?_) (fun h89 => ?_)
              · refine z_iconst (pc := 102) (v := iz (0)) O dX4_readWhen_102 (by decide) ?_
                refine z_zret (pc := 103) O dX4_readWhen_103 rfl ?_
                exact ⟨0, rfl, (by decide), ((((((FrD.rf b σ).tr frτ1).tr frτ3).tr frτ5).tr frτ9).tr frτ21), ivτ21_RdX⟩
              · refine z_aload_n (pc := 92) O dX4_readWhen_92 rfl ?_
                refine z_ldc2 (pc := 93) O tw_400 dX4_readWhen_93 ?_
                refine z_callV (pc := 96) O cl_X4_89 (k4_expect _ _ b 59 (frτ21.lay (frτ9.lay (frτ5.lay (frτ3.lay (frτ1.lay J))))) ivτ21_RdX) (by decide) (ivτ21_RdX).2.1 kc_4 rfl rfl (Nat.le_of_ble_eq_true rfl) ⟨Nat.zero_le _, Nat.zero_le _⟩ dX4_readWhen_96 (fun r τ23 hp => ?_)
                obtain ⟨z24, rfl, fτ23_0, frτ23, ivτ23_RdX⟩ := hp
                have := (ivτ23_RdX).2.2.2.1
                have := (ivτ23_RdX).2.2.2.2
                have := (ivτ23_RdX).1.2.2.2.2.1
                have := (ivτ23_RdX).1.2.2.2.2.2.1
                have : gI τ23 4 2 = gI σ 4 2 := gI_iz (FrD.it frτ23 (by omega) (FrD.it frτ21 (by omega) (FrD.it frτ9 (by omega) (FrD.it frτ5 (by omega) (FrD.it frτ3 (by omega) (FrD.it frτ1 (by omega) (izg σ 4 2))))))) (rgI _ _ _)
                refine zi_if_ne (pc := 99) (tgt := 104) O dX4_readWhen_99 (by decide) (by omega) (fun h99 => ?_) (fun h99 => ?_)
                · refine z_aload_n (pc := 104) O dX4_readWhen_104 rfl ?_
                  refine z_getR (pc := 105) b O fl_X4_19 rfl (ivτ23_RdX).2.1 (ivτ23_RdX).2.2.1.2 dX4_readWhen_105 ?_
                  refine z_iload_n (pc := 108) O dX4_readWhen_108 rfl ?_
                  refine z_iload_n (pc := 109) O dX4_readWhen_109 rfl ?_
                  refine z_callV (pc := 110) O cl_X4_108 (k1_addWhen _ _ b z8 (by omega) z22 (by omega) (frτ23.lay (frτ21.lay (frτ9.lay (frτ5.lay (frτ3.lay (frτ1.lay J)))))) ivτ23_RdX) (by decide) (ivτ23_RdX).1.2.1 kc_1 rfl rfl (Nat.le_of_ble_eq_true rfl) ⟨Nat.zero_le _, Nat.zero_le _⟩ dX4_readWhen_110 (fun r τ25 hp => ?_)
                  obtain ⟨rfl, frτ25, ivτ25_RdX⟩ := hp
                  have := (ivτ25_RdX).2.2.2.1
                  have := (ivτ25_RdX).2.2.2.2
                  have := (ivτ25_RdX).1.2.2.2.2.1
                  have := (ivτ25_RdX).1.2.2.2.2.2.1
                  have : gI τ25 4 2 = gI σ 4 2 := gI_iz (FrD.it frτ25 (by omega) (FrD.it frτ23 (by omega) (FrD.it frτ21 (by omega) (FrD.it frτ9 (by omega) (FrD.it frτ5 (by omega) (FrD.it frτ3 (by omega) (FrD.it frτ1 (by omega) (izg σ 4 2)))))))) (rgI _ _ _)
                  refine z_iconst (pc := 113) (v := iz (1)) O dX4_readWhen_113 (by decide) ?_
                  refine z_zret (pc := 114) O dX4_readWhen_114 rfl ?_
                  exact ⟨1, rfl, (by decide), ((((((((FrD.rf b σ).tr frτ1).tr frτ3).tr frτ5).tr frτ9).tr frτ21).tr frτ23).tr frτ25), ivτ25_RdX⟩
                · refine z_iconst (pc := 102) (v := iz (0)) O dX4_readWhen_102 (by decide) ?_
                  refine z_zret (pc := 103) O dX4_readWhen_103 rfl ?_
                  exact ⟨0, rfl, (by decide), (((((((FrD.rf b σ).tr frτ1).tr frτ3).tr frτ5).tr frτ9).tr frτ21).tr frτ23), ivτ23_RdX⟩
        · refine z_aload_n (pc := 55) O dX4_readWhen_55 rfl ?_
          refine z_iconst (pc := 56) (v := iz (2)) O dX4_readWhen_56 (by decide) ?_
          refine z_callV (pc := 57) O cl_X4_59 (k4_refuse _ _ b 2 (by decide) (frτ5.lay (frτ3.lay (frτ1.lay J))) ivτ5_RdX) (by decide) (ivτ5_RdX).2.1 kc_4 rfl rfl (Nat.le_of_ble_eq_true rfl) ⟨Nat.zero_le _, Nat.zero_le _⟩ dX4_readWhen_57 (fun r τ27 hp => ?_)
          obtain ⟨z28, rfl, fτ27_0, frτ27, ivτ27_RdX⟩ := hp
          have := (ivτ27_RdX).2.2.2.1
          have := (ivτ27_RdX).2.2.2.2
          have := (ivτ27_RdX).1.2.2.2.2.1
          have := (ivτ27_RdX).1.2.2.2.2.2.1
          have : gI τ27 4 2 = gI σ 4 2 := gI_iz (FrD.it frτ27 (by omega) (FrD.it frτ5 (by omega) (FrD.it frτ3 (by omega) (FrD.it frτ1 (by omega) (izg σ 4 2))))) (rgI _ _ _)
          refine z_zret (pc := 60) O dX4_readWhen_60 (nar_z (by omega)) ?_
          exact ⟨z28, rfl, (by omega), (((((FrD.rf b σ).tr frτ1).tr frτ3).tr frτ5).tr frτ27), ivτ27_RdX⟩
      · refine z_iconst (pc := 40) (v := iz (0)) O dX4_readWhen_40 (by decide) ?_
        refine z_zret (pc := 41) O dX4_readWhen_41 rfl ?_
        exact ⟨0, rfl, (by decide), ((((FrD.rf b σ).tr frτ1).tr frτ3).tr frτ5), ivτ5_RdX⟩
  · refine z_aload_n (pc := 12) O dX4_readWhen_12 rfl ?_
    refine z_iconst (pc := 13) (v := iz (2)) O dX4_readWhen_13 (by decide) ?_
    refine z_callV (pc := 14) O cl_X4_59 (k4_refuse _ _ b 2 (by decide) J R) (by decide) (R).2.1 kc_4 rfl rfl (Nat.le_of_ble_eq_true rfl) ⟨Nat.zero_le _, Nat.zero_le _⟩ dX4_readWhen_14 (fun r τ29 hp => ?_)
    obtain ⟨z30, rfl, fτ29_0, frτ29, ivτ29_RdX⟩ := hp
    have := (ivτ29_RdX).2.2.2.1
    have := (ivτ29_RdX).2.2.2.2
    have := (ivτ29_RdX).1.2.2.2.2.1
    have := (ivτ29_RdX).1.2.2.2.2.2.1
    have : gI τ29 4 2 = gI σ 4 2 := gI_iz (FrD.it frτ29 (by omega) (izg σ 4 2)) (rgI _ _ _)
    refine z_zret (pc := 17) O dX4_readWhen_17 (nar_z (by omega)) ?_
    exact ⟨z30, rfl, (by omega), ((FrD.rf b σ).tr frτ29), ivτ29_RdX⟩
set_option maxHeartbeats 4000000 in
set_option maxRecDepth 20000 in
theorem k4_readText (l : Launch) (σ : VH) (b : Nat) (J : Lay σ) (R : RdX σ b) : Ct l yX4_readText cX4_readText 3 (some .boolean) 24 0 0 [.ref (b + 9)] σ (fun r τ => ∃ z : Int, r = some (.int (iz z)) ∧ (z = 0 ∨ z = 1) ∧ (FrD b σ τ) ∧ (RdX τ b)) := by
  refine Ct.enter rfl (Nat.le_of_ble_eq_true rfl) ?_
  intro κ γ hκ O hrc hrs
  subst hκ
  have hR0 := R.1.1
  have hR4 := R.2.2.2.1
  have hR5 := R.2.2.2.2
  have hR6 := R.1.2.2.2.2.1
  have hR7 := R.1.2.2.2.2.2.1
  refine z_iconst (pc := 0) (v := iz (1)) O dX4_readText_0 (by decide) ?_
  refine z_istore_n (pc := 1) [(0, .ref (b + 9)), (1, .int (iz 1))] O dX4_readText_1 (by decide) rfl ?_
  refine z_iconst (pc := 2) (v := iz (0)) O dX4_readText_2 (by decide) ?_
  refine z_istore_n (pc := 3) [(0, .ref (b + 9)), (1, .int (iz 1)), (2, .int (iz 0))] O dX4_readText_3 (by decide) rfl ?_
  have cut4 : ∀ (mu4 : Nat) (gd : Int) (k : Int) (ρ4 : VH), (mu4 = (701 - k).toNat) → (-2147483648 ≤ gd ∧ gd < 2147483648) → (-2147483648 ≤ k ∧ k < 2147483648) → (gd = 0 ∨ gd = 1) → (0 ≤ k ∧ k ≤ 701) → (FrD b σ ρ4) → (RdX ρ4 b) → Z κ γ 3 ρ4 0 0 (QM κ γ (fun r τ => ∃ z : Int, r = some (.int (iz z)) ∧ (z = 0 ∨ z = 1) ∧ (FrD b σ τ) ∧ (RdX τ b)) 0 0) 4 [(0, .ref (b + 9)), (1, .int (iz gd)), (2, .int (iz k))] [] := by
    intro mu4
    induction mu4 using Nat.strongRecOn with
    | ind mu4 ih4 =>
    intro gd k ρ4 hmu4 rr4_0 rr4_1 ff4_0 ff4_1 frρ4 ivρ4_RdX
    have := (ivρ4_RdX).2.2.2.1
    have := (ivρ4_RdX).2.2.2.2
    have := (ivρ4_RdX).1.2.2.2.2.1
    have := (ivρ4_RdX).1.2.2.2.2.2.1
    refine z_iload_n (pc := 4) O dX4_readText_4 rfl ?_
    refine z_sipush (pc := 5) (v := iz (700)) O dX4_readText_5 (by decide) ?_
    refine zi_icmp_gt (pc := 8) (tgt := 131) O dX4_readText_8 (by decide) (by omega) (by decide) (fun h8 => ?_) (fun h8 => ?_)
    · refine z_iload_n (pc := 131) O dX4_readText_131 rfl ?_
      refine z_zret (pc := 132) O dX4_readText_132 (nar_z (by omega)) ?_
      exact ⟨gd, rfl, (by omega), ((FrD.rf b σ).tr frρ4), ivρ4_RdX⟩
    · refine z_iload_n (pc := 11) O dX4_readText_11 rfl ?_
      refine zi_if_eq (pc := 12) (tgt := 131) O dX4_readText_12 (by decide) (by omega) (fun h12 => ?_) (fun h12 => ?_)
      · refine z_iload_n (pc := 131) O dX4_readText_131 rfl ?_
        refine z_zret (pc := 132) O dX4_readText_132 (nar_z (by omega)) ?_
        exact ⟨gd, rfl, (by omega), ((FrD.rf b σ).tr frρ4), ivρ4_RdX⟩
      · refine z_aload_n (pc := 15) O dX4_readText_15 rfl ?_
        refine zi_getLv (pc := 16) (hL ρ4 (b + 9) 3) O fl_X4_29 rfl (ivρ4_RdX).2.1 rfl dX4_readText_16 ?_
        refine z_lconst (pc := 19) (v := 1) O dX4_readText_19 (by decide) ?_
        refine z_lcmp (pc := 20) O dX4_readText_20 ?_
        refine zi_lc_eq (pc := 21) (tgt := 131) O dX4_readText_21 (by decide) (fun h21 => ?_) (fun h21 => ?_)
        · refine z_iload_n (pc := 131) O dX4_readText_131 rfl ?_
          refine z_zret (pc := 132) O dX4_readText_132 (nar_z (by omega)) ?_
          exact ⟨gd, rfl, (by omega), ((FrD.rf b σ).tr frρ4), ivρ4_RdX⟩
        · refine z_aload_n (pc := 24) O dX4_readText_24 rfl ?_
          refine zi_getLv (pc := 25) (hL ρ4 (b + 9) 3) O fl_X4_29 rfl (ivρ4_RdX).2.1 rfl dX4_readText_25 ?_
          refine z_ldc2 (pc := 28) O tw_370 dX4_readText_28 ?_
          refine z_lcmp (pc := 31) O dX4_readText_31 ?_
          refine zi_lc_ne (pc := 32) (tgt := 43) O dX4_readText_32 (by decide) (fun h32 => ?_) (fun h32 => ?_)
          · refine z_aload_n (pc := 43) O dX4_readText_43 rfl ?_
            refine zi_getLv (pc := 44) (hL ρ4 (b + 9) 3) O fl_X4_29 rfl (ivρ4_RdX).2.1 rfl dX4_readText_44 ?_
            refine z_ldc2 (pc := 47) O tw_409 dX4_readText_47 ?_
            refine z_lcmp (pc := 50) O dX4_readText_50 ?_
            refine zi_lc_ne (pc := 51) (tgt := 62) O dX4_readText_51 (by decide) (fun h51 => ?_) (fun h51 => ?_)
            · refine z_aload_n (pc := 62) O dX4_readText_62 rfl ?_
              refine zi_getLv (pc := 63) (hL ρ4 (b + 9) 3) O fl_X4_29 rfl (ivρ4_RdX).2.1 rfl dX4_readText_63 ?_
              refine z_ldc2 (pc := 66) O tw_459 dX4_readText_66 ?_
              refine z_lcmp (pc := 69) O dX4_readText_69 ?_
              refine zi_lc_ne (pc := 70) (tgt := 81) O dX4_readText_70 (by decide) (fun h70 => ?_) (fun h70 => ?_)
              · refine z_aload_n (pc := 81) O dX4_readText_81 rfl ?_
                refine zi_getLv (pc := 82) (hL ρ4 (b + 9) 3) O fl_X4_29 rfl (ivρ4_RdX).2.1 rfl dX4_readText_82 ?_
                refine z_ldc2 (pc := 85) O tw_464 dX4_readText_85 ?_
                refine z_lcmp (pc := 88) O dX4_readText_88 ?_
                refine zi_lc_ne (pc := 89) (tgt := 100) O dX4_readText_89 (by decide) (fun h89 => ?_) (fun h89 => ?_)
                · refine z_aload_n (pc := 100) O dX4_readText_100 rfl ?_
                  refine zi_getLv (pc := 101) (hL ρ4 (b + 9) 3) O fl_X4_29 rfl (ivρ4_RdX).2.1 rfl dX4_readText_101 ?_
                  refine z_ldc2 (pc := 104) O tw_470 dX4_readText_104 ?_
                  refine z_lcmp (pc := 107) O dX4_readText_107 ?_
                  refine zi_lc_ne (pc := 108) (tgt := 119) O dX4_readText_108 (by decide) (fun h108 => ?_) (fun h108 => ?_)
                  · refine z_aload_n (pc := 119) O dX4_readText_119 rfl ?_
                    refine z_iconst (pc := 120) (v := iz (2)) O dX4_readText_120 (by decide) ?_
                    refine z_callV (pc := 121) O cl_X4_59 (k4_refuse _ _ b 2 (by decide) (frρ4.lay J) ivρ4_RdX) (by decide) (ivρ4_RdX).2.1 kc_4 rfl rfl (Nat.le_of_ble_eq_true rfl) ⟨Nat.zero_le _, Nat.zero_le _⟩ dX4_readText_121 (fun r τ1 hp => ?_)
                    obtain ⟨z2, rfl, fτ1_0, frτ1, ivτ1_RdX⟩ := hp
                    have := (ivτ1_RdX).2.2.2.1
                    have := (ivτ1_RdX).2.2.2.2
                    have := (ivτ1_RdX).1.2.2.2.2.1
                    have := (ivτ1_RdX).1.2.2.2.2.2.1
                    have : gI τ1 4 2 = gI σ 4 2 := gI_iz (FrD.it frτ1 (by omega) (FrD.it frρ4 (by omega) (izg σ 4 2))) (rgI _ _ _)
                    refine z_istore_n (pc := 124) [(0, .ref (b + 9)), (1, .int (iz z2)), (2, .int (iz k))] O dX4_readText_124 (by decide) rfl ?_
                    refine zi_iinc (pc := 125) (k + 1) [(0, .ref (b + 9)), (1, .int (iz z2)), (2, .int (iz (k + 1)))] O dX4_readText_125 rfl (by omega) (by decide) rfl ?_
                    refine z_goto (pc := 128) (tgt := 4) O dX4_readText_128 (by decide) ?_
                    refine z_lk [(0, .ref (b + 9)), (1, .int (iz z2)), (2, .int (iz (k + 1)))] ⟨rfl, rfl, rfl, trivial⟩ ?_
                    exact ih4 _ (by omega) z2 (k + 1) τ1 rfl (by omega) (by omega) (by omega) (by omega) (((FrD.rf b σ).tr frρ4).tr frτ1) ivτ1_RdX
                  · refine z_aload_n (pc := 111) O dX4_readText_111 rfl ?_
                    refine z_callV (pc := 112) O cl_X4_56 (k4_readTerms _ _ b (frρ4.lay J) ivρ4_RdX) (by decide) (ivρ4_RdX).2.1 kc_4 rfl rfl (Nat.le_of_ble_eq_true rfl) ⟨Nat.zero_le _, Nat.zero_le _⟩ dX4_readText_112 (fun r τ3 hp => ?_)
                    obtain ⟨z4, rfl, fτ3_0, frτ3, ivτ3_RdX⟩ := hp
                    have := (ivτ3_RdX).2.2.2.1
                    have := (ivτ3_RdX).2.2.2.2
                    have := (ivτ3_RdX).1.2.2.2.2.1
                    have := (ivτ3_RdX).1.2.2.2.2.2.1
                    have : gI τ3 4 2 = gI σ 4 2 := gI_iz (FrD.it frτ3 (by omega) (FrD.it frρ4 (by omega) (izg σ 4 2))) (rgI _ _ _)
                    refine z_istore_n (pc := 115) [(0, .ref (b + 9)), (1, .int (iz z4)), (2, .int (iz k))] O dX4_readText_115 (by decide) rfl ?_
                    refine z_goto (pc := 116) (tgt := 125) O dX4_readText_116 (by decide) ?_
                    refine zi_iinc (pc := 125) (k + 1) [(0, .ref (b + 9)), (1, .int (iz z4)), (2, .int (iz (k + 1)))] O dX4_readText_125 rfl (by omega) (by decide) rfl ?_
                    refine z_goto (pc := 128) (tgt := 4) O dX4_readText_128 (by decide) ?_
                    refine z_lk [(0, .ref (b + 9)), (1, .int (iz z4)), (2, .int (iz (k + 1)))] ⟨rfl, rfl, rfl, trivial⟩ ?_
                    exact ih4 _ (by omega) z4 (k + 1) τ3 rfl (by omega) (by omega) (by omega) (by omega) (((FrD.rf b σ).tr frρ4).tr frτ3) ivτ3_RdX
                · refine z_aload_n (pc := 92) O dX4_readText_92 rfl ?_
                  refine z_callV (pc := 93) O cl_X4_51 (k4_readNeed _ _ b (frρ4.lay J) ivρ4_RdX) (by decide) (ivρ4_RdX).2.1 kc_4 rfl rfl (Nat.le_of_ble_eq_true rfl) ⟨Nat.zero_le _, Nat.zero_le _⟩ dX4_readText_93 (fun r τ5 hp => ?_)
                  obtain ⟨z6, rfl, fτ5_0, frτ5, ivτ5_RdX⟩ := hp
                  have := (ivτ5_RdX).2.2.2.1
                  have := (ivτ5_RdX).2.2.2.2
                  have := (ivτ5_RdX).1.2.2.2.2.1
                  have := (ivτ5_RdX).1.2.2.2.2.2.1
                  have : gI τ5 4 2 = gI σ 4 2 := gI_iz (FrD.it frτ5 (by omega) (FrD.it frρ4 (by omega) (izg σ 4 2))) (rgI _ _ _)
                  refine z_istore_n (pc := 96) [(0, .ref (b + 9)), (1, .int (iz z6)), (2, .int (iz k))] O dX4_readText_96 (by decide) rfl ?_
                  refine z_goto (pc := 97) (tgt := 125) O dX4_readText_97 (by decide) ?_
                  refine zi_iinc (pc := 125) (k + 1) [(0, .ref (b + 9)), (1, .int (iz z6)), (2, .int (iz (k + 1)))] O dX4_readText_125 rfl (by omega) (by decide) rfl ?_
                  refine z_goto (pc := 128) (tgt := 4) O dX4_readText_128 (by decide) ?_
                  refine z_lk [(0, .ref (b + 9)), (1, .int (iz z6)), (2, .int (iz (k + 1)))] ⟨rfl, rfl, rfl, trivial⟩ ?_
                  exact ih4 _ (by omega) z6 (k + 1) τ5 rfl (by omega) (by omega) (by omega) (by omega) (((FrD.rf b σ).tr frρ4).tr frτ5) ivτ5_RdX
              · refine z_aload_n (pc := 73) O dX4_readText_73 rfl ?_
                refine z_callV (pc := 74) O cl_X4_46 (k4_readShare _ _ b (frρ4.lay J) ivρ4_RdX) (by decide) (ivρ4_RdX).2.1 kc_4 rfl rfl (Nat.le_of_ble_eq_true rfl) ⟨Nat.zero_le _, Nat.zero_le _⟩ dX4_readText_74 (fun r τ7 hp => ?_)
                obtain ⟨z8, rfl, fτ7_0, frτ7, ivτ7_RdX⟩ := hp
                have := (ivτ7_RdX).2.2.2.1
                have := (ivτ7_RdX).2.2.2.2
                have := (ivτ7_RdX).1.2.2.2.2.1
                have := (ivτ7_RdX).1.2.2.2.2.2.1
                have : gI τ7 4 2 = gI σ 4 2 := gI_iz (FrD.it frτ7 (by omega) (FrD.it frρ4 (by omega) (izg σ 4 2))) (rgI _ _ _)
                refine z_istore_n (pc := 77) [(0, .ref (b + 9)), (1, .int (iz z8)), (2, .int (iz k))] O dX4_readText_77 (by decide) rfl ?_
                refine z_goto (pc := 78) (tgt := 125) O dX4_readText_78 (by decide) ?_
                refine zi_iinc (pc := 125) (k + 1) [(0, .ref (b + 9)), (1, .int (iz z8)), (2, .int (iz (k + 1)))] O dX4_readText_125 rfl (by omega) (by decide) rfl ?_
                refine z_goto (pc := 128) (tgt := 4) O dX4_readText_128 (by decide) ?_
                refine z_lk [(0, .ref (b + 9)), (1, .int (iz z8)), (2, .int (iz (k + 1)))] ⟨rfl, rfl, rfl, trivial⟩ ?_
                exact ih4 _ (by omega) z8 (k + 1) τ7 rfl (by omega) (by omega) (by omega) (by omega) (((FrD.rf b σ).tr frρ4).tr frτ7) ivτ7_RdX
            · refine z_aload_n (pc := 54) O dX4_readText_54 rfl ?_
              refine z_callV (pc := 55) O cl_X4_41 (k4_readWhen _ _ b (frρ4.lay J) ivρ4_RdX) (by decide) (ivρ4_RdX).2.1 kc_4 rfl rfl (Nat.le_of_ble_eq_true rfl) ⟨Nat.zero_le _, Nat.zero_le _⟩ dX4_readText_55 (fun r τ9 hp => ?_)
              obtain ⟨z10, rfl, fτ9_0, frτ9, ivτ9_RdX⟩ := hp
              have := (ivτ9_RdX).2.2.2.1
              have := (ivτ9_RdX).2.2.2.2
              have := (ivτ9_RdX).1.2.2.2.2.1
              have := (ivτ9_RdX).1.2.2.2.2.2.1
              have : gI τ9 4 2 = gI σ 4 2 := gI_iz (FrD.it frτ9 (by omega) (FrD.it frρ4 (by omega) (izg σ 4 2))) (rgI _ _ _)
              refine z_istore_n (pc := 58) [(0, .ref (b + 9)), (1, .int (iz z10)), (2, .int (iz k))] O dX4_readText_58 (by decide) rfl ?_
              refine z_goto (pc := 59) (tgt := 125) O dX4_readText_59 (by decide) ?_
              refine zi_iinc (pc := 125) (k + 1) [(0, .ref (b + 9)), (1, .int (iz z10)), (2, .int (iz (k + 1)))] O dX4_readText_125 rfl (by omega) (by decide) rfl ?_
              refine z_goto (pc := 128) (tgt := 4) O dX4_readText_128 (by decide) ?_
              refine z_lk [(0, .ref (b + 9)), (1, .int (iz z10)), (2, .int (iz (k + 1)))] ⟨rfl, rfl, rfl, trivial⟩ ?_
              exact ih4 _ (by omega) z10 (k + 1) τ9 rfl (by omega) (by omega) (by omega) (by omega) (((FrD.rf b σ).tr frρ4).tr frτ9) ivτ9_RdX
          · refine z_aload_n (pc := 35) O dX4_readText_35 rfl ?_
            refine z_callV (pc := 36) O cl_X4_35 (k4_readHurt _ _ b (frρ4.lay J) ivρ4_RdX) (by decide) (ivρ4_RdX).2.1 kc_4 rfl rfl (Nat.le_of_ble_eq_true rfl) ⟨Nat.zero_le _, Nat.zero_le _⟩ dX4_readText_36 (fun r τ11 hp => ?_)
            obtain ⟨z12, rfl, fτ11_0, frτ11, ivτ11_RdX⟩ := hp
            have := (ivτ11_RdX).2.2.2.1
            have := (ivτ11_RdX).2.2.2.2
            have := (ivτ11_RdX).1.2.2.2.2.1
            have := (ivτ11_RdX).1.2.2.2.2.2.1
            have : gI τ11 4 2 = gI σ 4 2 := gI_iz (FrD.it frτ11 (by omega) (FrD.it frρ4 (by omega) (izg σ 4 2))) (rgI _ _ _)
            refine z_istore_n (pc := 39) [(0, .ref (b + 9)), (1, .int (iz z12)), (2, .int (iz k))] O dX4_readText_39 (by decide) rfl ?_
            refine z_goto (pc := 40) (tgt := 125) O dX4_readText_40 (by decide) ?_
            refine zi_iinc (pc := 125) (k + 1) [(0, .ref (b + 9)), (1, .int (iz z12)), (2, .int (iz (k + 1)))] O dX4_readText_125 rfl (by omega) (by decide) rfl ?_
            refine z_goto (pc := 128) (tgt := 4) O dX4_readText_128 (by decide) ?_
            refine z_lk [(0, .ref (b + 9)), (1, .int (iz z12)), (2, .int (iz (k + 1)))] ⟨rfl, rfl, rfl, trivial⟩ ?_
            exact ih4 _ (by omega) z12 (k + 1) τ11 rfl (by omega) (by omega) (by omega) (by omega) (((FrD.rf b σ).tr frρ4).tr frτ11) ivτ11_RdX
  refine z_lk [(0, .ref (b + 9)), (1, .int (iz 1)), (2, .int (iz 0))] ⟨rfl, rfl, rfl, trivial⟩ ?_
  exact cut4 _ 1 0 σ rfl (by omega) (by omega) (by omega) (by omega) (FrD.rf b σ) R
