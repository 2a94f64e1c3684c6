set_option maxHeartbeats 4000000 in
set_option maxRecDepth 20000 in
theorem k9_truce (l : Launch) (σ : VH) (a : Int) (ra : (-2147483648 ≤ a ∧ a < 2147483648)) (b : Int) (rb : (-2147483648 ≤ b ∧ b < 2147483648)) (f : Int) (rf : (-2147483648 ≤ f ∧ f < 2147483648)) (t : Int) (rt : (-2147483648 ≤ t ∧ t < 2147483648)) (I : InvM σ) : Ct l yX9_truce cX9_truce 5 (some .int) 0 0 0 [.ref 33, .int (iz a), .int (iz b), .int (iz f), .int (iz t)] σ (fun r τ => ∃ z : Int, r = some (.int (iz z)) ∧ (-2147483648 ≤ z ∧ z < 2147483648) ∧ ((z = -1 ∧ ¬ ((0 ≤ a ∧ a < 4) ∧ (0 ≤ b ∧ b < 4) ∧ 0 ≤ f ∧ f ≤ t ∧ t ≤ 100000 ∧ gI σ 33 54 < 10)) ∨ (z = gI σ 33 54 + 1 ∧ ((0 ≤ a ∧ a < 4) ∧ (0 ≤ b ∧ b < 4) ∧ 0 ≤ f ∧ f ≤ t ∧ t ≤ 100000 ∧ gI σ 33 54 < 10))) ∧ (Fr [(66, 99999), (67, 99999), (68, 99999), (69, 99999), (33, 54)] σ τ) ∧ (InvM τ) ∧ ((z = -1 ∧ gI τ 33 54 = gI σ 33 54) ∨ (0 ≤ z ∧ gI τ 33 54 = z))) := by
  refine Ct.enter rfl (Nat.le_of_ble_eq_true rfl) ?_
  intro κ γ hκ O hrc hrs
  subst hκ
  have i1 := I.2.1
  unfold InvM1 at i1
  have i2 := I.2.2.1.laws
  have i3 := I.2.2.2.1
  refine z_iload_n (pc := 0) O dX9_truce_0 rfl ?_
  refine zi_if_lt (pc := 1) (tgt := 45) O dX9_truce_1 (by decide) (by omega) (fun h1 => ?_) (fun h1 => ?_)
  · refine z_iconst (pc := 45) (v := iz (-1)) O dX9_truce_45 (by decide) ?_
    refine z_iret (pc := 46) O dX9_truce_46 ?_
    exact ⟨(-1), rfl, (by decide), (by omega), (Fr.rf [(66, 99999), (67, 99999), (68, 99999), (69, 99999), (33, 54)] σ), I, (by omega)⟩
  · refine z_iload_n (pc := 4) O dX9_truce_4 rfl ?_
    refine z_iconst (pc := 5) (v := iz (4)) O dX9_truce_5 (by decide) ?_
    refine zi_icmp_ge (pc := 6) (tgt := 45) O dX9_truce_6 (by decide) (by omega) (by decide) (fun h6 => ?_) (fun h6 => ?_)
    · refine z_iconst (pc := 45) (v := iz (-1)) O dX9_truce_45 (by decide) ?_
      refine z_iret (pc := 46) O dX9_truce_46 ?_
      exact ⟨(-1), rfl, (by decide), (by omega), (Fr.rf [(66, 99999), (67, 99999), (68, 99999), (69, 99999), (33, 54)] σ), I, (by omega)⟩
    · refine z_iload_n (pc := 9) O dX9_truce_9 rfl ?_
      refine zi_if_lt (pc := 10) (tgt := 45) O dX9_truce_10 (by decide) (by omega) (fun h10 => ?_) (fun h10 => ?_)
      · refine z_iconst (pc := 45) (v := iz (-1)) O dX9_truce_45 (by decide) ?_
        refine z_iret (pc := 46) O dX9_truce_46 ?_
        exact ⟨(-1), rfl, (by decide), (by omega), (Fr.rf [(66, 99999), (67, 99999), (68, 99999), (69, 99999), (33, 54)] σ), I, (by omega)⟩
      · refine z_iload_n (pc := 13) O dX9_truce_13 rfl ?_
        refine z_iconst (pc := 14) (v := iz (4)) O dX9_truce_14 (by decide) ?_
        refine zi_icmp_ge (pc := 15) (tgt := 45) O dX9_truce_15 (by decide) (by omega) (by decide) (fun h15 => ?_) (fun h15 => ?_)
        · refine z_iconst (pc := 45) (v := iz (-1)) O dX9_truce_45 (by decide) ?_
          refine z_iret (pc := 46) O dX9_truce_46 ?_
          exact ⟨(-1), rfl, (by decide), (by omega), (Fr.rf [(66, 99999), (67, 99999), (68, 99999), (69, 99999), (33, 54)] σ), I, (by omega)⟩
        · refine z_iload_n (pc := 18) O dX9_truce_18 rfl ?_
          refine zi_if_lt (pc := 19) (tgt := 45) O dX9_truce_19 (by decide) (by omega) (fun h19 => ?_) (fun h19 => ?_)
          · refine z_iconst (pc := 45) (v := iz (-1)) O dX9_truce_45 (by decide) ?_
            refine z_iret (pc := 46) O dX9_truce_46 ?_
            exact ⟨(-1), rfl, (by decide), (by omega), (Fr.rf [(66, 99999), (67, 99999), (68, 99999), (69, 99999), (33, 54)] σ), I, (by omega)⟩
          · refine z_iload_n (pc := 22) O dX9_truce_22 rfl ?_
            refine z_iload (pc := 23) O dX9_truce_23 rfl ?_
            refine zi_icmp_gt (pc := 25) (tgt := 45) O dX9_truce_25 (by decide) (by omega) (by omega) (fun h25 => ?_) (fun h25 => ?_)
            · refine z_iconst (pc := 45) (v := iz (-1)) O dX9_truce_45 (by decide) ?_
              refine z_iret (pc := 46) O dX9_truce_46 ?_
              exact ⟨(-1), rfl, (by decide), (by omega), (Fr.rf [(66, 99999), (67, 99999), (68, 99999), (69, 99999), (33, 54)] σ), I, (by omega)⟩
            · refine z_iload (pc := 28) O dX9_truce_28 rfl ?_
              refine z_ldcw (pc := 30) O tw_989 dX9_truce_30 ?_
              refine zi_val (100000) (by decide) ?_
              refine zi_icmp_gt (pc := 33) (tgt := 45) O dX9_truce_33 (by decide) (by omega) (by decide) (fun h33 => ?_) (fun h33 => ?_)
              · refine z_iconst (pc := 45) (v := iz (-1)) O dX9_truce_45 (by decide) ?_
                refine z_iret (pc := 46) O dX9_truce_46 ?_
                exact ⟨(-1), rfl, (by decide), (by omega), (Fr.rf [(66, 99999), (67, 99999), (68, 99999), (69, 99999), (33, 54)] σ), I, (by omega)⟩
              · refine z_aload_n (pc := 36) O dX9_truce_36 rfl ?_
                refine zi_getv (pc := 37) (gI σ 33 54) O fl_X9_368 rfl (jo_33 I.1) (izg σ 33 54) dX9_truce_37 ?_
                have := rgI σ 33 54
                refine z_bipush (pc := 40) (v := iz (10)) O dX9_truce_40 (by decide) ?_
                refine zi_icmp_ne (pc := 42) (tgt := 47) O dX9_truce_42 (by decide) (by omega) (by decide) (fun h42 => ?_) (fun h42 => ?_)
                · refine z_aload_n (pc := 47) O dX9_truce_47 rfl ?_
                  refine z_getR (pc := 48) 66 O fl_X9_113 rfl (jo_33 I.1) (jr_33_48 I.1) dX9_truce_48 ?_
                  refine z_aload_n (pc := 51) O dX9_truce_51 rfl ?_
                  refine zi_getv (pc := 52) (gI σ 33 54) O fl_X9_368 rfl (jo_33 I.1) (izg σ 33 54) dX9_truce_52 ?_
                  refine z_iload_n (pc := 55) O dX9_truce_55 rfl ?_
                  refine zi_iast (pc := 56) ((gI σ 33 54).toNat) O (ja_66 I.1) (by omega) (by omega) (by omega) dX9_truce_56 ?_
                  refine z_aload_n (pc := 57) O dX9_truce_57 rfl ?_
                  refine z_getR (pc := 58) 67 O fl_X9_116 rfl (jo_33 I.1) (jr_33_49 I.1) dX9_truce_58 ?_
                  refine z_aload_n (pc := 61) O dX9_truce_61 rfl ?_
                  refine zi_getv (pc := 62) (gI σ 33 54) O fl_X9_368 rfl (jo_33 I.1) (sk1t (by decide) (izg σ 33 54)) dX9_truce_62 ?_
                  refine z_iload_n (pc := 65) O dX9_truce_65 rfl ?_
                  refine zi_iast (pc := 66) ((gI σ 33 54).toNat) O (ja_67 I.1) (by omega) (by omega) (by omega) dX9_truce_66 ?_
                  refine z_aload_n (pc := 67) O dX9_truce_67 rfl ?_
                  refine z_getR (pc := 68) 68 O fl_X9_119 rfl (jo_33 I.1) (jr_33_50 I.1) dX9_truce_68 ?_
                  refine z_aload_n (pc := 71) O dX9_truce_71 rfl ?_
                  refine zi_getv (pc := 72) (gI σ 33 54) O fl_X9_368 rfl (jo_33 I.1) (sk1t (by decide) (sk1t (by decide) (izg σ 33 54))) dX9_truce_72 ?_
                  refine z_iload_n (pc := 75) O dX9_truce_75 rfl ?_
                  refine zi_iast (pc := 76) ((gI σ 33 54).toNat) O (ja_68 I.1) (by omega) (by omega) (by omega) dX9_truce_76 ?_
                  refine z_aload_n (pc := 77) O dX9_truce_77 rfl ?_
                  refine z_getR (pc := 78) 69 O fl_X9_122 rfl (jo_33 I.1) (jr_33_51 I.1) dX9_truce_78 ?_
                  refine z_aload_n (pc := 81) O dX9_truce_81 rfl ?_
                  refine zi_getv (pc := 82) (gI σ 33 54) O fl_X9_368 rfl (jo_33 I.1) (sk1t (by decide) (sk1t (by decide) (sk1t (by decide) (izg σ 33 54)))) dX9_truce_82 ?_
                  refine z_iload (pc := 85) O dX9_truce_85 rfl ?_
                  refine zi_iast (pc := 87) ((gI σ 33 54).toNat) O (ja_69 I.1) (by omega) (by omega) (by omega) dX9_truce_87 ?_
                  refine z_aload_n (pc := 88) O dX9_truce_88 rfl ?_
                  refine z_dup (pc := 89) O dX9_truce_89 rfl ?_
                  refine zi_getv (pc := 90) (gI σ 33 54) O fl_X9_368 rfl (jo_33 I.1) (sk1t (by decide) (sk1t (by decide) (sk1t (by decide) (sk1t (by decide) (izg σ 33 54))))) dX9_truce_90 ?_
                  refine z_iconst (pc := 93) (v := iz (1)) O dX9_truce_93 (by decide) ?_
                  refine zi_iadd (pc := 94) O dX9_truce_94 ?_
                  refine z_putI (pc := 95) O fl_X9_368 rfl ⟨rfl, rfl⟩ (jo_33 I.1) dX9_truce_95 ?_
                  refine z_aload_n (pc := 98) O dX9_truce_98 rfl ?_
                  refine zi_getv (pc := 99) ((gI σ 33 54) + 1) O fl_X9_368 rfl (jo_33 I.1) (hI_at _ _ _ _) dX9_truce_99 ?_
                  refine z_iret (pc := 102) O dX9_truce_102 ?_
                  exact ⟨((gI σ 33 54) + 1), rfl, (by omega), (by omega), ((((((Fr.rf [(66, 99999), (67, 99999), (68, 99999), (69, 99999), (33, 54)] σ).pI rfl).pI rfl).pI rfl).pI rfl).pI rfl), (InvM.fr ((((((Fr.rf [(66, 99999), (67, 99999), (68, 99999), (69, 99999), (33, 54)] σ).pI rfl).pI rfl).pI rfl).pI rfl).pI rfl) I (by unfold InvM1; have : gI (sI (sI (sI (sI (sI σ 66 ((gI σ 33 54).toNat) (iz a)) 67 ((gI σ 33 54).toNat) (iz b)) 68 ((gI σ 33 54).toNat) (iz f)) 69 ((gI σ 33 54).toNat) (iz t)) 33 54 (iz ((gI σ 33 54) + 1))) 33 2 = gI σ 33 2 := gI_iz (sk2t (by decide) (sk1t (by decide) (sk1t (by decide) (sk1t (by decide) (sk1t (by decide) (izg σ 33 2)))))) (rgI _ _ _); have : gI (sI (sI (sI (sI (sI σ 66 ((gI σ 33 54).toNat) (iz a)) 67 ((gI σ 33 54).toNat) (iz b)) 68 ((gI σ 33 54).toNat) (iz f)) 69 ((gI σ 33 54).toNat) (iz t)) 33 54 (iz ((gI σ 33 54) + 1))) 33 52 = gI σ 33 52 := gI_iz (sk2t (by decide) (sk1t (by decide) (sk1t (by decide) (sk1t (by decide) (sk1t (by decide) (izg σ 33 52)))))) (rgI _ _ _); have : gI (sI (sI (sI (sI (sI σ 66 ((gI σ 33 54).toNat) (iz a)) 67 ((gI σ 33 54).toNat) (iz b)) 68 ((gI σ 33 54).toNat) (iz f)) 69 ((gI σ 33 54).toNat) (iz t)) 33 54 (iz ((gI σ 33 54) + 1))) 33 53 = gI σ 33 53 := gI_iz (sk2t (by decide) (sk1t (by decide) (sk1t (by decide) (sk1t (by decide) (sk1t (by decide) (izg σ 33 53)))))) (rgI _ _ _); have : gI (sI (sI (sI (sI (sI σ 66 ((gI σ 33 54).toNat) (iz a)) 67 ((gI σ 33 54).toNat) (iz b)) 68 ((gI σ 33 54).toNat) (iz f)) 69 ((gI σ 33 54).toNat) (iz t)) 33 54 (iz ((gI σ 33 54) + 1))) 33 54 = (gI σ 33 54) + 1 := gI_iz (hI_at _ _ _ _) (by omega); have : gI (sI (sI (sI (sI (sI σ 66 ((gI σ 33 54).toNat) (iz a)) 67 ((gI σ 33 54).toNat) (iz b)) 68 ((gI σ 33 54).toNat) (iz f)) 69 ((gI σ 33 54).toNat) (iz t)) 33 54 (iz ((gI σ 33 54) + 1))) 33 73 = gI σ 33 73 := gI_iz (sk2t (by decide) (sk1t (by decide) (sk1t (by decide) (sk1t (by decide) (sk1t (by decide) (izg σ 33 73)))))) (rgI _ _ _); have : gI (sI (sI (sI (sI (sI σ 66 ((gI σ 33 54).toNat) (iz a)) 67 ((gI σ 33 54).toNat) (iz b)) 68 ((gI σ 33 54).toNat) (iz f)) 69 ((gI σ 33 54).toNat) (iz t)) 33 54 (iz ((gI σ 33 54) + 1))) 33 74 = gI σ 33 74 := gI_iz (sk2t (by decide) (sk1t (by decide) (sk1t (by decide) (sk1t (by decide) (sk1t (by decide) (izg σ 33 74)))))) (rgI _ _ _); have : gI (sI (sI (sI (sI (sI σ 66 ((gI σ 33 54).toNat) (iz a)) 67 ((gI σ 33 54).toNat) (iz b)) 68 ((gI σ 33 54).toNat) (iz f)) 69 ((gI σ 33 54).toNat) (iz t)) 33 54 (iz ((gI σ 33 54) + 1))) 33 6 = gI σ 33 6 := gI_iz (sk2t (by decide) (sk1t (by decide) (sk1t (by decide) (sk1t (by decide) (sk1t (by decide) (izg σ 33 6)))))) (rgI _ _ _); omega) rfl), (by have : gI (sI (sI (sI (sI (sI σ 66 ((gI σ 33 54).toNat) (iz a)) 67 ((gI σ 33 54).toNat) (iz b)) 68 ((gI σ 33 54).toNat) (iz f)) 69 ((gI σ 33 54).toNat) (iz t)) 33 54 (iz ((gI σ 33 54) + 1))) 33 54 = (gI σ 33 54) + 1 := gI_iz (hI_at _ _ _ _) (by omega); omega)⟩
                · refine z_iconst (pc := 45) (v := iz (-1)) O dX9_truce_45 (by decide) ?_
                  refine z_iret (pc := 46) O dX9_truce_46 ?_
                  exact ⟨(-1), rfl, (by decide), (by omega), (Fr.rf [(66, 99999), (67, 99999), (68, 99999), (69, 99999), (33, 54)] σ), I, (by omega)⟩
set_option maxHeartbeats 4000000 in
set_option maxRecDepth 20000 in
theorem k9_dead (l : Launch) (σ : VH) (p : Int) (rp : (-2147483648 ≤ p ∧ p < 2147483648)) (d : Int) (rd : (-2147483648 ≤ d ∧ d < 2147483648)) (I : InvM σ) : Ct l yX9_dead cX9_dead 3 (some .boolean) 1 0 0 [.ref 33, .int (iz p), .int (iz d)] σ (fun r τ => ∃ z : Int, r = some (.int (iz z)) ∧ (z = 0 ∨ z = 1) ∧ (Fr [(61, 99999)] σ τ) ∧ (InvM τ)) := by
  refine Ct.enter rfl (Nat.le_of_ble_eq_true rfl) ?_
  intro κ γ hκ O hrc hrs
  subst hκ
  have i1 := I.2.1
  unfold InvM1 at i1
  have i2 := I.2.2.1.laws
  have i3 := I.2.2.2.1
  refine z_aload_n (pc := 0) O dX9_dead_0 rfl ?_
  refine z_iload_n (pc := 1) O dX9_dead_1 rfl ?_
  refine z_callV (pc := 2) O cl_X9_356 (k9_isPerson _ _ p (by omega) I.1) (by decide) (jo_33 I.1) kc_9 rfl rfl (Nat.le_of_ble_eq_true rfl) ⟨Nat.zero_le _, Nat.zero_le _⟩ dX9_dead_2 (fun r τ1 hp => ?_)
  obtain ⟨z2, rfl, fτ1_0, fτ1_1, rfl⟩ := hp
  refine zi_if_eq (pc := 5) (tgt := 28) O dX9_dead_5 (by decide) (by omega) (fun h5 => ?_) (fun h5 => ?_)
  · refine z_iconst (pc := 28) (v := iz (0)) O dX9_dead_28 (by decide) ?_
    refine z_zret (pc := 29) O dX9_dead_29 rfl ?_
    exact ⟨0, rfl, (by decide), (Fr.rf [(61, 99999)] σ), I⟩
  · refine z_aload_n (pc := 8) O dX9_dead_8 rfl ?_
    refine z_getR (pc := 9) 61 O fl_X9_98 rfl (jo_33 I.1) (jr_33_43 I.1) dX9_dead_9 ?_
    refine z_iload_n (pc := 12) O dX9_dead_12 rfl ?_
    refine zi_ialdv (pc := 13) (p.toNat) (gI σ 61 (p.toNat)) O (ja_61 I.1) (by omega) (by omega) (by omega) (izg σ 61 (p.toNat)) dX9_dead_13 ?_
    have := rgI σ 61 (p.toNat)
    refine zi_if_ge (pc := 14) (tgt := 28) O dX9_dead_14 (by decide) (by omega) (fun h14 => ?_) (fun h14 => ?_)
    · refine z_iconst (pc := 28) (v := iz (0)) O dX9_dead_28 (by decide) ?_
      refine z_zret (pc := 29) O dX9_dead_29 rfl ?_
      exact ⟨0, rfl, (by decide), (Fr.rf [(61, 99999)] σ), I⟩
    · refine z_iload_n (pc := 17) O dX9_dead_17 rfl ?_
      refine zi_if_lt (pc := 18) (tgt := 28) O dX9_dead_18 (by decide) (by omega) (fun h18 => ?_) (fun h18 => ?_)
      · refine z_iconst (pc := 28) (v := iz (0)) O dX9_dead_28 (by decide) ?_
        refine z_zret (pc := 29) O dX9_dead_29 rfl ?_
        exact ⟨0, rfl, (by decide), (Fr.rf [(61, 99999)] σ), I⟩
      · refine z_iload_n (pc := 21) O dX9_dead_21 rfl ?_
        refine z_ldcw (pc := 22) O tw_989 dX9_dead_22 ?_
        refine zi_val (100000) (by decide) ?_
        refine zi_icmp_le (pc := 25) (tgt := 30) O dX9_dead_25 (by decide) (by omega) (by decide) (fun h25 => ?_) (fun h25 => ?_)
        · refine z_aload_n (pc := 30) O dX9_dead_30 rfl ?_
          refine z_getR (pc := 31) 61 O fl_X9_98 rfl (jo_33 I.1) (jr_33_43 I.1) dX9_dead_31 ?_
          refine z_iload_n (pc := 34) O dX9_dead_34 rfl ?_
          refine z_iload_n (pc := 35) O dX9_dead_35 rfl ?_
          refine zi_iast (pc := 36) (p.toNat) O (ja_61 I.1) (by omega) (by omega) (by omega) dX9_dead_36 ?_
          refine z_iconst (pc := 37) (v := iz (1)) O dX9_dead_37 (by decide) ?_
          refine z_zret (pc := 38) O dX9_dead_38 rfl ?_
          exact ⟨1, rfl, (by decide), ((Fr.rf [(61, 99999)] σ).pI rfl), (InvM.fr ((Fr.rf [(61, 99999)] σ).pI rfl) I (by unfold InvM1; have : gI (sI σ 61 (p.toNat) (iz d)) 33 2 = gI σ 33 2 := gI_iz (sk1t (by decide) (izg σ 33 2)) (rgI _ _ _); have : gI (sI σ 61 (p.toNat) (iz d)) 33 52 = gI σ 33 52 := gI_iz (sk1t (by decide) (izg σ 33 52)) (rgI _ _ _); have : gI (sI σ 61 (p.toNat) (iz d)) 33 53 = gI σ 33 53 := gI_iz (sk1t (by decide) (izg σ 33 53)) (rgI _ _ _); have : gI (sI σ 61 (p.toNat) (iz d)) 33 54 = gI σ 33 54 := gI_iz (sk1t (by decide) (izg σ 33 54)) (rgI _ _ _); have : gI (sI σ 61 (p.toNat) (iz d)) 33 73 = gI σ 33 73 := gI_iz (sk1t (by decide) (izg σ 33 73)) (rgI _ _ _); have : gI (sI σ 61 (p.toNat) (iz d)) 33 74 = gI σ 33 74 := gI_iz (sk1t (by decide) (izg σ 33 74)) (rgI _ _ _); have : gI (sI σ 61 (p.toNat) (iz d)) 33 6 = gI σ 33 6 := gI_iz (sk1t (by decide) (izg σ 33 6)) (rgI _ _ _); omega) rfl)⟩
        · refine z_iconst (pc := 28) (v := iz (0)) O dX9_dead_28 (by decide) ?_
          refine z_zret (pc := 29) O dX9_dead_29 rfl ?_
          exact ⟨0, rfl, (by decide), (Fr.rf [(61, 99999)] σ), I⟩
set_option maxHeartbeats 4000000 in
set_option maxRecDepth 20000 in
theorem k9_person (l : Launch) (σ : VH) (f : Int) (rf : (-2147483648 ≤ f ∧ f < 2147483648)) (m : Int) (rm : (-2147483648 ≤ m ∧ m < 2147483648)) (p : Int) (rp : (-2147483648 ≤ p ∧ p < 2147483648)) (I : InvM σ) : Ct l yX9_person cX9_person 4 (some .int) 0 0 0 [.ref 33, .int (iz f), .int (iz m), .int (iz p)] σ (fun r τ => ∃ z : Int, r = some (.int (iz z)) ∧ (-2147483648 ≤ z ∧ z < 2147483648) ∧ ((z = -1 ∧ ¬ ((0 ≤ f ∧ f < 4) ∧ (-1 ≤ m ∧ m < gI σ 33 52) ∧ (-1 ≤ p ∧ p < gI σ 33 52) ∧ gI σ 33 52 < 20)) ∨ (z = gI σ 33 52 ∧ ((0 ≤ f ∧ f < 4) ∧ (-1 ≤ m ∧ m < gI σ 33 52) ∧ (-1 ≤ p ∧ p < gI σ 33 52) ∧ gI σ 33 52 < 20))) ∧ (Fr [(58, 99999), (59, 99999), (60, 99999), (61, 99999), (33, 52)] σ τ) ∧ (InvM τ) ∧ ((z = -1 ∧ gI τ 33 52 = gI σ 33 52) ∨ (0 ≤ z ∧ gI τ 33 52 = z + 1))) := by
  refine Ct.enter rfl (Nat.le_of_ble_eq_true rfl) ?_
  intro κ γ hκ O hrc hrs
  subst hκ
  have i1 := I.2.1
  unfold InvM1 at i1
  have i2 := I.2.2.1.laws
  have i3 := I.2.2.2.1
  refine z_iload_n (pc := 0) O dX9_person_0 rfl ?_
  refine zi_if_lt (pc := 1) (tgt := 44) O dX9_person_1 (by decide) (by omega) (fun h1 => ?_) (fun h1 => ?_)
  · refine z_iconst (pc := 44) (v := iz (-1)) O dX9_person_44 (by decide) ?_
    refine z_iret (pc := 45) O dX9_person_45 ?_
    exact ⟨(-1), rfl, (by decide), (by omega), (Fr.rf [(58, 99999), (59, 99999), (60, 99999), (61, 99999), (33, 52)] σ), I, (by omega)⟩
  · refine z_iload_n (pc := 4) O dX9_person_4 rfl ?_
    refine z_iconst (pc := 5) (v := iz (4)) O dX9_person_5 (by decide) ?_
    refine zi_icmp_ge (pc := 6) (tgt := 44) O dX9_person_6 (by decide) (by omega) (by decide) (fun h6 => ?_) (fun h6 => ?_)
    · refine z_iconst (pc := 44) (v := iz (-1)) O dX9_person_44 (by decide) ?_
      refine z_iret (pc := 45) O dX9_person_45 ?_
      exact ⟨(-1), rfl, (by decide), (by omega), (Fr.rf [(58, 99999), (59, 99999), (60, 99999), (61, 99999), (33, 52)] σ), I, (by omega)⟩
    · refine z_iload_n (pc := 9) O dX9_person_9 rfl ?_
      refine z_iconst (pc := 10) (v := iz (-1)) O dX9_person_10 (by decide) ?_
      refine zi_icmp_lt (pc := 11) (tgt := 44) O dX9_person_11 (by decide) (by omega) (by decide) (fun h11 => ?_) (fun h11 => ?_)
      · refine z_iconst (pc := 44) (v := iz (-1)) O dX9_person_44 (by decide) ?_
        refine z_iret (pc := 45) O dX9_person_45 ?_
        exact ⟨(-1), rfl, (by decide), (by omega), (Fr.rf [(58, 99999), (59, 99999), (60, 99999), (61, 99999), (33, 52)] σ), I, (by omega)⟩
      · refine z_iload_n (pc := 14) O dX9_person_14 rfl ?_
        refine z_aload_n (pc := 15) O dX9_person_15 rfl ?_
        refine zi_getv (pc := 16) (gI σ 33 52) O fl_X9_353 rfl (jo_33 I.1) (izg σ 33 52) dX9_person_16 ?_
        have := rgI σ 33 52
        refine zi_icmp_ge (pc := 19) (tgt := 44) O dX9_person_19 (by decide) (by omega) (by omega) (fun h19 => ?_) (fun h19 => ?_)
        · refine z_iconst (pc := 44) (v := iz (-1)) O dX9_person_44 (by decide) ?_
          refine z_iret (pc := 45) O dX9_person_45 ?_
          exact ⟨(-1), rfl, (by decide), (by omega), (Fr.rf [(58, 99999), (59, 99999), (60, 99999), (61, 99999), (33, 52)] σ), I, (by omega)⟩
        · refine z_iload_n (pc := 22) O dX9_person_22 rfl ?_
          refine z_iconst (pc := 23) (v := iz (-1)) O dX9_person_23 (by decide) ?_
          refine zi_icmp_lt (pc := 24) (tgt := 44) O dX9_person_24 (by decide) (by omega) (by decide) (fun h24 => ?_) (fun h24 => ?_)
          · refine z_iconst (pc := 44) (v := iz (-1)) O dX9_person_44 (by decide) ?_
            refine z_iret (pc := 45) O dX9_person_45 ?_
            exact ⟨(-1), rfl, (by decide), (by omega), (Fr.rf [(58, 99999), (59, 99999), (60, 99999), (61, 99999), (33, 52)] σ), I, (by omega)⟩
          · refine z_iload_n (pc := 27) O dX9_person_27 rfl ?_
            refine z_aload_n (pc := 28) O dX9_person_28 rfl ?_
            refine zi_getv (pc := 29) (gI σ 33 52) O fl_X9_353 rfl (jo_33 I.1) (izg σ 33 52) dX9_person_29 ?_
            refine zi_icmp_ge (pc := 32) (tgt := 44) O dX9_person_32 (by decide) (by omega) (by omega) (fun h32 => ?_) (fun h32 => ?_)
            · refine z_iconst (pc := 44) (v := iz (-1)) O dX9_person_44 (by decide) ?_
              refine z_iret (pc := 45) O dX9_person_45 ?_
              exact ⟨(-1), rfl, (by decide), (by omega), (Fr.rf [(58, 99999), (59, 99999), (60, 99999), (61, 99999), (33, 52)] σ), I, (by omega)⟩
            · refine z_aload_n (pc := 35) O dX9_person_35 rfl ?_
              refine zi_getv (pc := 36) (gI σ 33 52) O fl_X9_353 rfl (jo_33 I.1) (izg σ 33 52) dX9_person_36 ?_
              refine z_bipush (pc := 39) (v := iz (20)) O dX9_person_39 (by decide) ?_
              refine zi_icmp_ne (pc := 41) (tgt := 46) O dX9_person_41 (by decide) (by omega) (by decide) (fun h41 => ?_) (fun h41 => ?_)
              · refine z_aload_n (pc := 46) O dX9_person_46 rfl ?_
                refine z_getR (pc := 47) 58 O fl_X9_89 rfl (jo_33 I.1) (jr_33_40 I.1) dX9_person_47 ?_
                refine z_aload_n (pc := 50) O dX9_person_50 rfl ?_
                refine zi_getv (pc := 51) (gI σ 33 52) O fl_X9_353 rfl (jo_33 I.1) (izg σ 33 52) dX9_person_51 ?_
                refine z_iload_n (pc := 54) O dX9_person_54 rfl ?_
                refine zi_iast (pc := 55) ((gI σ 33 52).toNat) O (ja_58 I.1) (by omega) (by omega) (by omega) dX9_person_55 ?_
                refine z_aload_n (pc := 56) O dX9_person_56 rfl ?_
                refine z_getR (pc := 57) 59 O fl_X9_92 rfl (jo_33 I.1) (jr_33_41 I.1) dX9_person_57 ?_
                refine z_aload_n (pc := 60) O dX9_person_60 rfl ?_
                refine zi_getv (pc := 61) (gI σ 33 52) O fl_X9_353 rfl (jo_33 I.1) (sk1t (by decide) (izg σ 33 52)) dX9_person_61 ?_
                refine z_iload_n (pc := 64) O dX9_person_64 rfl ?_
                refine zi_iast (pc := 65) ((gI σ 33 52).toNat) O (ja_59 I.1) (by omega) (by omega) (by omega) dX9_person_65 ?_
                refine z_aload_n (pc := 66) O dX9_person_66 rfl ?_
                refine z_getR (pc := 67) 60 O fl_X9_95 rfl (jo_33 I.1) (jr_33_42 I.1) dX9_person_67 ?_
                refine z_aload_n (pc := 70) O dX9_person_70 rfl ?_
                refine zi_getv (pc := 71) (gI σ 33 52) O fl_X9_353 rfl (jo_33 I.1) (sk1t (by decide) (sk1t (by decide) (izg σ 33 52))) dX9_person_71 ?_
                refine z_iload_n (pc := 74) O dX9_person_74 rfl ?_
                refine zi_iast (pc := 75) ((gI σ 33 52).toNat) O (ja_60 I.1) (by omega) (by omega) (by omega) dX9_person_75 ?_
                refine z_aload_n (pc := 76) O dX9_person_76 rfl ?_
                refine z_getR (pc := 77) 61 O fl_X9_98 rfl (jo_33 I.1) (jr_33_43 I.1) dX9_person_77 ?_
                refine z_aload_n (pc := 80) O dX9_person_80 rfl ?_
                refine zi_getv (pc := 81) (gI σ 33 52) O fl_X9_353 rfl (jo_33 I.1) (sk1t (by decide) (sk1t (by decide) (sk1t (by decide) (izg σ 33 52)))) dX9_person_81 ?_
                refine z_iconst (pc := 84) (v := iz (-1)) O dX9_person_84 (by decide) ?_
                refine zi_iast (pc := 85) ((gI σ 33 52).toNat) O (ja_61 I.1) (by omega) (by omega) (by omega) dX9_person_85 ?_
                refine z_aload_n (pc := 86) O dX9_person_86 rfl ?_
                refine z_dup (pc := 87) O dX9_person_87 rfl ?_
                refine zi_getv (pc := 88) (gI σ 33 52) O fl_X9_353 rfl (jo_33 I.1) (sk1t (by decide) (sk1t (by decide) (sk1t (by decide) (sk1t (by decide) (izg σ 33 52))))) dX9_person_88 ?_
                refine z_iconst (pc := 91) (v := iz (1)) O dX9_person_91 (by decide) ?_
                refine zi_iadd (pc := 92) O dX9_person_92 ?_
                refine z_putI (pc := 93) O fl_X9_353 rfl ⟨rfl, rfl⟩ (jo_33 I.1) dX9_person_93 ?_
                refine z_aload_n (pc := 96) O dX9_person_96 rfl ?_
                refine zi_getv (pc := 97) ((gI σ 33 52) + 1) O fl_X9_353 rfl (jo_33 I.1) (hI_at _ _ _ _) dX9_person_97 ?_
                refine z_iconst (pc := 100) (v := iz (1)) O dX9_person_100 (by decide) ?_
                refine zi_isub (pc := 101) O dX9_person_101 ?_
                refine z_iret (pc := 102) O dX9_person_102 ?_
                exact ⟨(((gI σ 33 52) + 1) - 1), rfl, (by omega), (by omega), ((((((Fr.rf [(58, 99999), (59, 99999), (60, 99999), (61, 99999), (33, 52)] σ).pI rfl).pI rfl).pI rfl).pI rfl).pI rfl), (InvM.fr ((((((Fr.rf [(58, 99999), (59, 99999), (60, 99999), (61, 99999), (33, 52)] σ).pI rfl).pI rfl).pI rfl).pI rfl).pI rfl) I (by unfold InvM1; have : gI (sI (sI (sI (sI (sI σ 58 ((gI σ 33 52).toNat) (iz f)) 59 ((gI σ 33 52).toNat) (iz m)) 60 ((gI σ 33 52).toNat) (iz p)) 61 ((gI σ 33 52).toNat) (iz (-1))) 33 52 (iz ((gI σ 33 52) + 1))) 33 2 = gI σ 33 2 := gI_iz (sk2t (by decide) (sk1t (by decide) (sk1t (by decide) (sk1t (by decide) (sk1t (by decide) (izg σ 33 2)))))) (rgI _ _ _); have : gI (sI (sI (sI (sI (sI σ 58 ((gI σ 33 52).toNat) (iz f)) 59 ((gI σ 33 52).toNat) (iz m)) 60 ((gI σ 33 52).toNat) (iz p)) 61 ((gI σ 33 52).toNat) (iz (-1))) 33 52 (iz ((gI σ 33 52) + 1))) 33 52 = (gI σ 33 52) + 1 := gI_iz (hI_at _ _ _ _) (by omega); have : gI (sI (sI (sI (sI (sI σ 58 ((gI σ 33 52).toNat) (iz f)) 59 ((gI σ 33 52).toNat) (iz m)) 60 ((gI σ 33 52).toNat) (iz p)) 61 ((gI σ 33 52).toNat) (iz (-1))) 33 52 (iz ((gI σ 33 52) + 1))) 33 53 = gI σ 33 53 := gI_iz (sk2t (by decide) (sk1t (by decide) (sk1t (by decide) (sk1t (by decide) (sk1t (by decide) (izg σ 33 53)))))) (rgI _ _ _); have : gI (sI (sI (sI (sI (sI σ 58 ((gI σ 33 52).toNat) (iz f)) 59 ((gI σ 33 52).toNat) (iz m)) 60 ((gI σ 33 52).toNat) (iz p)) 61 ((gI σ 33 52).toNat) (iz (-1))) 33 52 (iz ((gI σ 33 52) + 1))) 33 54 = gI σ 33 54 := gI_iz (sk2t (by decide) (sk1t (by decide) (sk1t (by decide) (sk1t (by decide) (sk1t (by decide) (izg σ 33 54)))))) (rgI _ _ _); have : gI (sI (sI (sI (sI (sI σ 58 ((gI σ 33 52).toNat) (iz f)) 59 ((gI σ 33 52).toNat) (iz m)) 60 ((gI σ 33 52).toNat) (iz p)) 61 ((gI σ 33 52).toNat) (iz (-1))) 33 52 (iz ((gI σ 33 52) + 1))) 33 73 = gI σ 33 73 := gI_iz (sk2t (by decide) (sk1t (by decide) (sk1t (by decide) (sk1t (by decide) (sk1t (by decide) (izg σ 33 73)))))) (rgI _ _ _); have : gI (sI (sI (sI (sI (sI σ 58 ((gI σ 33 52).toNat) (iz f)) 59 ((gI σ 33 52).toNat) (iz m)) 60 ((gI σ 33 52).toNat) (iz p)) 61 ((gI σ 33 52).toNat) (iz (-1))) 33 52 (iz ((gI σ 33 52) + 1))) 33 74 = gI σ 33 74 := gI_iz (sk2t (by decide) (sk1t (by decide) (sk1t (by decide) (sk1t (by decide) (sk1t (by decide) (izg σ 33 74)))))) (rgI _ _ _); have : gI (sI (sI (sI (sI (sI σ 58 ((gI σ 33 52).toNat) (iz f)) 59 ((gI σ 33 52).toNat) (iz m)) 60 ((gI σ 33 52).toNat) (iz p)) 61 ((gI σ 33 52).toNat) (iz (-1))) 33 52 (iz ((gI σ 33 52) + 1))) 33 6 = gI σ 33 6 := gI_iz (sk2t (by decide) (sk1t (by decide) (sk1t (by decide) (sk1t (by decide) (sk1t (by decide) (izg σ 33 6)))))) (rgI _ _ _); omega) rfl), (by have : gI (sI (sI (sI (sI (sI σ 58 ((gI σ 33 52).toNat) (iz f)) 59 ((gI σ 33 52).toNat) (iz m)) 60 ((gI σ 33 52).toNat) (iz p)) 61 ((gI σ 33 52).toNat) (iz (-1))) 33 52 (iz ((gI σ 33 52) + 1))) 33 52 = (gI σ 33 52) + 1 := gI_iz (hI_at _ _ _ _) (by omega); omega)⟩
              · refine z_iconst (pc := 44) (v := iz (-1)) O dX9_person_44 (by decide) ?_
                refine z_iret (pc := 45) O dX9_person_45 ?_
                exact ⟨(-1), rfl, (by decide), (by omega), (Fr.rf [(58, 99999), (59, 99999), (60, 99999), (61, 99999), (33, 52)] σ), I, (by omega)⟩
set_option maxHeartbeats 4000000 in
set_option maxRecDepth 20000 in
theorem k9_rank (l : Launch) (σ : VH) (p : Int) (rp : (-2147483648 ≤ p ∧ p < 2147483648)) (e : Int) (re : (-2147483648 ≤ e ∧ e < 2147483648)) (d : Int) (rd : (-2147483648 ≤ d ∧ d < 2147483648)) (I : InvM σ) : Ct l yX9_rank cX9_rank 4 (some .int) 1 0 0 [.ref 33, .int (iz p), .int (iz e), .int (iz d)] σ (fun r τ => ∃ z : Int, r = some (.int (iz z)) ∧ (-2147483648 ≤ z ∧ z < 2147483648) ∧ ((z = -1 ∧ ¬ ((0 ≤ p ∧ p < gI σ 33 52) ∧ (0 ≤ e ∧ e ≤ 3) ∧ (0 ≤ d ∧ d ≤ 100000) ∧ gI σ 33 53 < 60)) ∨ (z = gI σ 33 53 + 1 ∧ ((0 ≤ p ∧ p < gI σ 33 52) ∧ (0 ≤ e ∧ e ≤ 3) ∧ (0 ≤ d ∧ d ≤ 100000) ∧ gI σ 33 53 < 60))) ∧ (Fr [(62, 99999), (63, 99999), (64, 99999), (65, 99999), (33, 53)] σ τ) ∧ (InvM τ) ∧ ((z = -1 ∧ gI τ 33 53 = gI σ 33 53) ∨ (0 ≤ z ∧ gI τ 33 53 = z))) := by
  refine Ct.enter rfl (Nat.le_of_ble_eq_true rfl) ?_
  intro κ γ hκ O hrc hrs
  subst hκ
  have i1 := I.2.1
  unfold InvM1 at i1
  have i2 := I.2.2.1.laws
  have i3 := I.2.2.2.1
  refine z_aload_n (pc := 0) O dX9_rank_0 rfl ?_
  refine z_iload_n (pc := 1) O dX9_rank_1 rfl ?_
  refine z_callV (pc := 2) O cl_X9_356 (k9_isPerson _ _ p (by omega) I.1) (by decide) (jo_33 I.1) kc_9 rfl rfl (Nat.le_of_ble_eq_true rfl) ⟨Nat.zero_le _, Nat.zero_le _⟩ dX9_rank_2 (fun r τ1 hp => ?_)
  obtain ⟨z2, rfl, fτ1_0, fτ1_1, rfl⟩ := hp
  refine zi_if_eq (pc := 5) (tgt := 37) O dX9_rank_5 (by decide) (by omega) (fun h5 => ?_) (fun h5 => ?_)
  · refine z_iconst (pc := 37) (v := iz (-1)) O dX9_rank_37 (by decide) ?_
    refine z_iret (pc := 38) O dX9_rank_38 ?_
    exact ⟨(-1), rfl, (by decide), (by omega), (Fr.rf [(62, 99999), (63, 99999), (64, 99999), (65, 99999), (33, 53)] σ), I, (by omega)⟩
  · refine z_iload_n (pc := 8) O dX9_rank_8 rfl ?_
    refine zi_if_lt (pc := 9) (tgt := 37) O dX9_rank_9 (by decide) (by omega) (fun h9 => ?_) (fun h9 => ?_)
    · refine z_iconst (pc := 37) (v := iz (-1)) O dX9_rank_37 (by decide) ?_
      refine z_iret (pc := 38) O dX9_rank_38 ?_
      exact ⟨(-1), rfl, (by decide), (by omega), (Fr.rf [(62, 99999), (63, 99999), (64, 99999), (65, 99999), (33, 53)] σ), I, (by omega)⟩
    · refine z_iload_n (pc := 12) O dX9_rank_12 rfl ?_
      refine z_iconst (pc := 13) (v := iz (3)) O dX9_rank_13 (by decide) ?_
      refine zi_icmp_gt (pc := 14) (tgt := 37) O dX9_rank_14 (by decide) (by omega) (by decide) (fun h14 => ?_) (fun h14 => ?_)
      · refine z_iconst (pc := 37) (v := iz (-1)) O dX9_rank_37 (by decide) ?_
        refine z_iret (pc := 38) O dX9_rank_38 ?_
        exact ⟨(-1), rfl, (by decide), (by omega), (Fr.rf [(62, 99999), (63, 99999), (64, 99999), (65, 99999), (33, 53)] σ), I, (by omega)⟩
      · refine z_iload_n (pc := 17) O dX9_rank_17 rfl ?_
        refine zi_if_lt (pc := 18) (tgt := 37) O dX9_rank_18 (by decide) (by omega) (fun h18 => ?_) (fun h18 => ?_)
        · refine z_iconst (pc := 37) (v := iz (-1)) O dX9_rank_37 (by decide) ?_
          refine z_iret (pc := 38) O dX9_rank_38 ?_
          exact ⟨(-1), rfl, (by decide), (by omega), (Fr.rf [(62, 99999), (63, 99999), (64, 99999), (65, 99999), (33, 53)] σ), I, (by omega)⟩
        · refine z_iload_n (pc := 21) O dX9_rank_21 rfl ?_
          refine z_ldcw (pc := 22) O tw_989 dX9_rank_22 ?_
          refine zi_val (100000) (by decide) ?_
          refine zi_icmp_gt (pc := 25) (tgt := 37) O dX9_rank_25 (by decide) (by omega) (by decide) (fun h25 => ?_) (fun h25 => ?_)
          · refine z_iconst (pc := 37) (v := iz (-1)) O dX9_rank_37 (by decide) ?_
            refine z_iret (pc := 38) O dX9_rank_38 ?_
            exact ⟨(-1), rfl, (by decide), (by omega), (Fr.rf [(62, 99999), (63, 99999), (64, 99999), (65, 99999), (33, 53)] σ), I, (by omega)⟩
          · refine z_aload_n (pc := 28) O dX9_rank_28 rfl ?_
            refine zi_getv (pc := 29) (gI σ 33 53) O fl_X9_362 rfl (jo_33 I.1) (izg σ 33 53) dX9_rank_29 ?_
            have := rgI σ 33 53
            refine z_bipush (pc := 32) (v := iz (60)) O dX9_rank_32 (by decide) ?_
            refine zi_icmp_ne (pc := 34) (tgt := 39) O dX9_rank_34 (by decide) (by omega) (by decide) (fun h34 => ?_) (fun h34 => ?_)
            · refine z_aload_n (pc := 39) O dX9_rank_39 rfl ?_
              refine z_getR (pc := 40) 62 O fl_X9_101 rfl (jo_33 I.1) (jr_33_44 I.1) dX9_rank_40 ?_
              refine z_aload_n (pc := 43) O dX9_rank_43 rfl ?_
              refine zi_getv (pc := 44) (gI σ 33 53) O fl_X9_362 rfl (jo_33 I.1) (izg σ 33 53) dX9_rank_44 ?_
              refine z_iload_n (pc := 47) O dX9_rank_47 rfl ?_
              refine zi_iast (pc := 48) ((gI σ 33 53).toNat) O (ja_62 I.1) (by omega) (by omega) (by omega) dX9_rank_48 ?_
              refine z_aload_n (pc := 49) O dX9_rank_49 rfl ?_
              refine z_getR (pc := 50) 63 O fl_X9_104 rfl (jo_33 I.1) (jr_33_45 I.1) dX9_rank_50 ?_
              refine z_aload_n (pc := 53) O dX9_rank_53 rfl ?_
              refine zi_getv (pc := 54) (gI σ 33 53) O fl_X9_362 rfl (jo_33 I.1) (sk1t (by decide) (izg σ 33 53)) dX9_rank_54 ?_
              refine z_iload_n (pc := 57) O dX9_rank_57 rfl ?_
              refine zi_iast (pc := 58) ((gI σ 33 53).toNat) O (ja_63 I.1) (by omega) (by omega) (by omega) dX9_rank_58 ?_
              refine z_aload_n (pc := 59) O dX9_rank_59 rfl ?_
              refine z_getR (pc := 60) 64 O fl_X9_107 rfl (jo_33 I.1) (jr_33_46 I.1) dX9_rank_60 ?_
              refine z_aload_n (pc := 63) O dX9_rank_63 rfl ?_
              refine zi_getv (pc := 64) (gI σ 33 53) O fl_X9_362 rfl (jo_33 I.1) (sk1t (by decide) (sk1t (by decide) (izg σ 33 53))) dX9_rank_64 ?_
              refine z_iload_n (pc := 67) O dX9_rank_67 rfl ?_
              refine zi_iast (pc := 68) ((gI σ 33 53).toNat) O (ja_64 I.1) (by omega) (by omega) (by omega) dX9_rank_68 ?_
              refine z_aload_n (pc := 69) O dX9_rank_69 rfl ?_
              refine z_getR (pc := 70) 65 O fl_X9_110 rfl (jo_33 I.1) (jr_33_47 I.1) dX9_rank_70 ?_
              refine z_aload_n (pc := 73) O dX9_rank_73 rfl ?_
              refine zi_getv (pc := 74) (gI σ 33 53) O fl_X9_362 rfl (jo_33 I.1) (sk1t (by decide) (sk1t (by decide) (sk1t (by decide) (izg σ 33 53)))) dX9_rank_74 ?_
              refine z_aload_n (pc := 77) O dX9_rank_77 rfl ?_
              refine zi_getv (pc := 78) (gI σ 33 6) O fl_X9_365 rfl (jo_33 I.1) (sk1t (by decide) (sk1t (by decide) (sk1t (by decide) (izg σ 33 6)))) dX9_rank_78 ?_
              have := rgI σ 33 6
              refine zi_iast (pc := 81) ((gI σ 33 53).toNat) O (ja_65 I.1) (by omega) (by omega) (by omega) dX9_rank_81 ?_
              refine z_aload_n (pc := 82) O dX9_rank_82 rfl ?_
              refine z_dup (pc := 83) O dX9_rank_83 rfl ?_
              refine zi_getv (pc := 84) (gI σ 33 53) O fl_X9_362 rfl (jo_33 I.1) (sk1t (by decide) (sk1t (by decide) (sk1t (by decide) (sk1t (by decide) (izg σ 33 53))))) dX9_rank_84 ?_
              refine z_iconst (pc := 87) (v := iz (1)) O dX9_rank_87 (by decide) ?_
              refine zi_iadd (pc := 88) O dX9_rank_88 ?_
              refine z_putI (pc := 89) O fl_X9_362 rfl ⟨rfl, rfl⟩ (jo_33 I.1) dX9_rank_89 ?_
              refine z_aload_n (pc := 92) O dX9_rank_92 rfl ?_
              refine zi_getv (pc := 93) ((gI σ 33 53) + 1) O fl_X9_362 rfl (jo_33 I.1) (hI_at _ _ _ _) dX9_rank_93 ?_
              refine z_iret (pc := 96) O dX9_rank_96 ?_
              exact ⟨((gI σ 33 53) + 1), rfl, (by omega), (by omega), ((((((Fr.rf [(62, 99999), (63, 99999), (64, 99999), (65, 99999), (33, 53)] σ).pI rfl).pI rfl).pI rfl).pI rfl).pI rfl), (InvM.fr ((((((Fr.rf [(62, 99999), (63, 99999), (64, 99999), (65, 99999), (33, 53)] σ).pI rfl).pI rfl).pI rfl).pI rfl).pI rfl) I (by unfold InvM1; have : gI (sI (sI (sI (sI (sI σ 62 ((gI σ 33 53).toNat) (iz p)) 63 ((gI σ 33 53).toNat) (iz e)) 64 ((gI σ 33 53).toNat) (iz d)) 65 ((gI σ 33 53).toNat) (iz (gI σ 33 6))) 33 53 (iz ((gI σ 33 53) + 1))) 33 2 = gI σ 33 2 := gI_iz (sk2t (by decide) (sk1t (by decide) (sk1t (by decide) (sk1t (by decide) (sk1t (by decide) (izg σ 33 2)))))) (rgI _ _ _); have : gI (sI (sI (sI (sI (sI σ 62 ((gI σ 33 53).toNat) (iz p)) 63 ((gI σ 33 53).toNat) (iz e)) 64 ((gI σ 33 53).toNat) (iz d)) 65 ((gI σ 33 53).toNat) (iz (gI σ 33 6))) 33 53 (iz ((gI σ 33 53) + 1))) 33 52 = gI σ 33 52 := gI_iz (sk2t (by decide) (sk1t (by decide) (sk1t (by decide) (sk1t (by decide) (sk1t (by decide) (izg σ 33 52)))))) (rgI _ _ _); have : gI (sI (sI (sI (sI (sI σ 62 ((gI σ 33 53).toNat) (iz p)) 63 ((gI σ 33 53).toNat) (iz e)) 64 ((gI σ 33 53).toNat) (iz d)) 65 ((gI σ 33 53).toNat) (iz (gI σ 33 6))) 33 53 (iz ((gI σ 33 53) + 1))) 33 53 = (gI σ 33 53) + 1 := gI_iz (hI_at _ _ _ _) (by omega); have : gI (sI (sI (sI (sI (sI σ 62 ((gI σ 33 53).toNat) (iz p)) 63 ((gI σ 33 53).toNat) (iz e)) 64 ((gI σ 33 53).toNat) (iz d)) 65 ((gI σ 33 53).toNat) (iz (gI σ 33 6))) 33 53 (iz ((gI σ 33 53) + 1))) 33 54 = gI σ 33 54 := gI_iz (sk2t (by decide) (sk1t (by decide) (sk1t (by decide) (sk1t (by decide) (sk1t (by decide) (izg σ 33 54)))))) (rgI _ _ _); have : gI (sI (sI (sI (sI (sI σ 62 ((gI σ 33 53).toNat) (iz p)) 63 ((gI σ 33 53).toNat) (iz e)) 64 ((gI σ 33 53).toNat) (iz d)) 65 ((gI σ 33 53).toNat) (iz (gI σ 33 6))) 33 53 (iz ((gI σ 33 53) + 1))) 33 73 = gI σ 33 73 := gI_iz (sk2t (by decide) (sk1t (by decide) (sk1t (by decide) (sk1t (by decide) (sk1t (by decide) (izg σ 33 73)))))) (rgI _ _ _); have : gI (sI (sI (sI (sI (sI σ 62 ((gI σ 33 53).toNat) (iz p)) 63 ((gI σ 33 53).toNat) (iz e)) 64 ((gI σ 33 53).toNat) (iz d)) 65 ((gI σ 33 53).toNat) (iz (gI σ 33 6))) 33 53 (iz ((gI σ 33 53) + 1))) 33 74 = gI σ 33 74 := gI_iz (sk2t (by decide) (sk1t (by decide) (sk1t (by decide) (sk1t (by decide) (sk1t (by decide) (izg σ 33 74)))))) (rgI _ _ _); have : gI (sI (sI (sI (sI (sI σ 62 ((gI σ 33 53).toNat) (iz p)) 63 ((gI σ 33 53).toNat) (iz e)) 64 ((gI σ 33 53).toNat) (iz d)) 65 ((gI σ 33 53).toNat) (iz (gI σ 33 6))) 33 53 (iz ((gI σ 33 53) + 1))) 33 6 = gI σ 33 6 := gI_iz (sk2t (by decide) (sk1t (by decide) (sk1t (by decide) (sk1t (by decide) (sk1t (by decide) (izg σ 33 6)))))) (rgI _ _ _); omega) rfl), (by have : gI (sI (sI (sI (sI (sI σ 62 ((gI σ 33 53).toNat) (iz p)) 63 ((gI σ 33 53).toNat) (iz e)) 64 ((gI σ 33 53).toNat) (iz d)) 65 ((gI σ 33 53).toNat) (iz (gI σ 33 6))) 33 53 (iz ((gI σ 33 53) + 1))) 33 53 = (gI σ 33 53) + 1 := gI_iz (hI_at _ _ _ _) (by omega); omega)⟩
            · refine z_iconst (pc := 37) (v := iz (-1)) O dX9_rank_37 (by decide) ?_
              refine z_iret (pc := 38) O dX9_rank_38 ?_
              exact ⟨(-1), rfl, (by decide), (by omega), (Fr.rf [(62, 99999), (63, 99999), (64, 99999), (65, 99999), (33, 53)] σ), I, (by omega)⟩
