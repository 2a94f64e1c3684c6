set_option maxHeartbeats 4000000 in
set_option maxRecDepth 20000 in
theorem k9_rate (l : Launch) (σ : VH) (k : Int) (rk : (-2147483648 ≤ k ∧ k < 2147483648)) (w : Int) (rw : (-2147483648 ≤ w ∧ w < 2147483648)) (I : InvM σ) : Ct l yX9_rate cX9_rate 3 (some .boolean) 0 0 0 [.ref 33, .int (iz k), .int (iz w)] σ (fun r τ => ∃ z : Int, r = some (.int (iz z)) ∧ (z = 0 ∨ z = 1) ∧ (z = 1 ↔ ((0 ≤ k ∧ k < 4) ∧ (0 ≤ w ∧ w ≤ 1000) ∧ gI σ 33 73 < 100)) ∧ (Fr [(83, 99999), (33, 73)] σ τ) ∧ (InvM τ) ∧ (gI τ 33 73 = gI σ 33 73 + z)) := by
  refine Ct.enter rfl (Nat.le_of_ble_eq_true rfl) ?_
  intro κ γ hκ O hrc hrs
  subst hκ
  have i1 := I.2.1
  unfold InvM1 at i1
  have i2 := I.2.2.1.laws
  have i3 := I.2.2.2.1
  refine z_iload_n (pc := 0) O dX9_rate_0 rfl ?_
  refine zi_if_lt (pc := 1) (tgt := 29) O dX9_rate_1 (by decide) (by omega) (fun h1 => ?_) (fun h1 => ?_)
  · refine z_iconst (pc := 29) (v := iz (0)) O dX9_rate_29 (by decide) ?_
    refine z_zret (pc := 30) O dX9_rate_30 rfl ?_
    exact ⟨0, rfl, (by decide), (by omega), (Fr.rf [(83, 99999), (33, 73)] σ), I, (by omega)⟩
  · refine z_iload_n (pc := 4) O dX9_rate_4 rfl ?_
    refine z_iconst (pc := 5) (v := iz (3)) O dX9_rate_5 (by decide) ?_
    refine zi_icmp_gt (pc := 6) (tgt := 29) O dX9_rate_6 (by decide) (by omega) (by decide) (fun h6 => ?_) (fun h6 => ?_)
    · refine z_iconst (pc := 29) (v := iz (0)) O dX9_rate_29 (by decide) ?_
      refine z_zret (pc := 30) O dX9_rate_30 rfl ?_
      exact ⟨0, rfl, (by decide), (by omega), (Fr.rf [(83, 99999), (33, 73)] σ), I, (by omega)⟩
    · refine z_iload_n (pc := 9) O dX9_rate_9 rfl ?_
      refine zi_if_lt (pc := 10) (tgt := 29) O dX9_rate_10 (by decide) (by omega) (fun h10 => ?_) (fun h10 => ?_)
      · refine z_iconst (pc := 29) (v := iz (0)) O dX9_rate_29 (by decide) ?_
        refine z_zret (pc := 30) O dX9_rate_30 rfl ?_
        exact ⟨0, rfl, (by decide), (by omega), (Fr.rf [(83, 99999), (33, 73)] σ), I, (by omega)⟩
      · refine z_iload_n (pc := 13) O dX9_rate_13 rfl ?_
        refine z_sipush (pc := 14) (v := iz (1000)) O dX9_rate_14 (by decide) ?_
        refine zi_icmp_gt (pc := 17) (tgt := 29) O dX9_rate_17 (by decide) (by omega) (by decide) (fun h17 => ?_) (fun h17 => ?_)
        · refine z_iconst (pc := 29) (v := iz (0)) O dX9_rate_29 (by decide) ?_
          refine z_zret (pc := 30) O dX9_rate_30 rfl ?_
          exact ⟨0, rfl, (by decide), (by omega), (Fr.rf [(83, 99999), (33, 73)] σ), I, (by omega)⟩
        · refine z_aload_n (pc := 20) O dX9_rate_20 rfl ?_
          refine zi_getv (pc := 21) (gI σ 33 73) O fl_X9_428 rfl (jo_33 I.1) (izg σ 33 73) dX9_rate_21 ?_
          have := rgI σ 33 73
          refine z_bipush (pc := 24) (v := iz (100)) O dX9_rate_24 (by decide) ?_
          refine zi_icmp_ne (pc := 26) (tgt := 31) O dX9_rate_26 (by decide) (by omega) (by decide) (fun h26 => ?_) (fun h26 => ?_)
          · refine z_aload_n (pc := 31) O dX9_rate_31 rfl ?_
            refine z_getR (pc := 32) 83 O fl_X9_164 rfl (jo_33 I.1) (jr_33_69 I.1) dX9_rate_32 ?_
            refine z_iload_n (pc := 35) O dX9_rate_35 rfl ?_
            refine z_iload_n (pc := 36) O dX9_rate_36 rfl ?_
            refine zi_iast (pc := 37) (k.toNat) O (ja_83 I.1) (by omega) (by omega) (by omega) dX9_rate_37 ?_
            refine z_aload_n (pc := 38) O dX9_rate_38 rfl ?_
            refine z_dup (pc := 39) O dX9_rate_39 rfl ?_
            refine zi_getv (pc := 40) (gI σ 33 73) O fl_X9_428 rfl (jo_33 I.1) (sk1t (by decide) (izg σ 33 73)) dX9_rate_40 ?_
            refine z_iconst (pc := 43) (v := iz (1)) O dX9_rate_43 (by decide) ?_
            refine zi_iadd (pc := 44) O dX9_rate_44 ?_
            refine z_putI (pc := 45) O fl_X9_428 rfl ⟨rfl, rfl⟩ (jo_33 I.1) dX9_rate_45 ?_
            refine z_iconst (pc := 48) (v := iz (1)) O dX9_rate_48 (by decide) ?_
            refine z_zret (pc := 49) O dX9_rate_49 rfl ?_
            exact ⟨1, rfl, (by decide), (by omega), (((Fr.rf [(83, 99999), (33, 73)] σ).pI rfl).pI rfl), (InvM.fr (((Fr.rf [(83, 99999), (33, 73)] σ).pI rfl).pI rfl) I (by unfold InvM1; have : gI (sI (sI σ 83 (k.toNat) (iz w)) 33 73 (iz ((gI σ 33 73) + 1))) 33 2 = gI σ 33 2 := gI_iz (sk2t (by decide) (sk1t (by decide) (izg σ 33 2))) (rgI _ _ _); have : gI (sI (sI σ 83 (k.toNat) (iz w)) 33 73 (iz ((gI σ 33 73) + 1))) 33 52 = gI σ 33 52 := gI_iz (sk2t (by decide) (sk1t (by decide) (izg σ 33 52))) (rgI _ _ _); have : gI (sI (sI σ 83 (k.toNat) (iz w)) 33 73 (iz ((gI σ 33 73) + 1))) 33 53 = gI σ 33 53 := gI_iz (sk2t (by decide) (sk1t (by decide) (izg σ 33 53))) (rgI _ _ _); have : gI (sI (sI σ 83 (k.toNat) (iz w)) 33 73 (iz ((gI σ 33 73) + 1))) 33 54 = gI σ 33 54 := gI_iz (sk2t (by decide) (sk1t (by decide) (izg σ 33 54))) (rgI _ _ _); have : gI (sI (sI σ 83 (k.toNat) (iz w)) 33 73 (iz ((gI σ 33 73) + 1))) 33 73 = (gI σ 33 73) + 1 := gI_iz (hI_at _ _ _ _) (by omega); have : gI (sI (sI σ 83 (k.toNat) (iz w)) 33 73 (iz ((gI σ 33 73) + 1))) 33 74 = gI σ 33 74 := gI_iz (sk2t (by decide) (sk1t (by decide) (izg σ 33 74))) (rgI _ _ _); have : gI (sI (sI σ 83 (k.toNat) (iz w)) 33 73 (iz ((gI σ 33 73) + 1))) 33 6 = gI σ 33 6 := gI_iz (sk2t (by decide) (sk1t (by decide) (izg σ 33 6))) (rgI _ _ _); omega) rfl), (by have : gI (sI (sI σ 83 (k.toNat) (iz w)) 33 73 (iz ((gI σ 33 73) + 1))) 33 73 = (gI σ 33 73) + 1 := gI_iz (hI_at _ _ _ _) (by omega); omega)⟩
          · refine z_iconst (pc := 29) (v := iz (0)) O dX9_rate_29 (by decide) ?_
            refine z_zret (pc := 30) O dX9_rate_30 rfl ?_
            exact ⟨0, rfl, (by decide), (by omega), (Fr.rf [(83, 99999), (33, 73)] σ), I, (by omega)⟩
set_option maxHeartbeats 4000000 in
set_option maxRecDepth 20000 in
theorem k9_pay (l : Launch) (σ : VH) (c : Int) (rc : (-2147483648 ≤ c ∧ c < 2147483648)) (k : Int) (rk : (-2147483648 ≤ k ∧ k < 2147483648)) (b : Int) (rb : (-2147483648 ≤ b ∧ b < 2147483648)) (I : InvM σ) : Ct l yX9_pay cX9_pay 4 (some .int) 1 0 0 [.ref 33, .int (iz c), .int (iz k), .int (iz b)] σ (fun r τ => ∃ z : Int, r = some (.int (iz z)) ∧ (-2147483648 ≤ z ∧ z < 2147483648) ∧ (Fr [(84, 99999), (85, 99999), (86, 99999), (33, 74)] σ τ) ∧ (InvM τ)) := by
  refine Ct.enter rfl (Nat.le_of_ble_eq_true rfl) ?_
  intro κ γ hκ O hrc hrs
  subst hκ
  have i1 := I.2.1
  unfold InvM1 at i1
  have i2 := I.2.2.1.laws
  have i3 := I.2.2.2.1
  refine z_aload_n (pc := 0) O dX9_pay_0 rfl ?_
  refine z_iload_n (pc := 1) O dX9_pay_1 rfl ?_
  refine z_callV (pc := 2) O cl_X9_410 (k9_isCase _ _ c (by omega) I.1) (by decide) (jo_33 I.1) kc_9 rfl rfl (Nat.le_of_ble_eq_true rfl) ⟨Nat.zero_le _, Nat.zero_le _⟩ dX9_pay_2 (fun r τ1 hp => ?_)
  obtain ⟨z2, rfl, fτ1_0, fτ1_1, rfl⟩ := hp
  refine zi_if_eq (pc := 5) (tgt := 47) O dX9_pay_5 (by decide) (by omega) (fun h5 => ?_) (fun h5 => ?_)
  · refine z_iconst (pc := 47) (v := iz (-1)) O dX9_pay_47 (by decide) ?_
    refine z_iret (pc := 48) O dX9_pay_48 ?_
    exact ⟨(-1), rfl, (by decide), (Fr.rf [(84, 99999), (85, 99999), (86, 99999), (33, 74)] σ), I⟩
  · have kc := I.2.2.2.2 c.toNat (by omega)
    unfold CaseM at kc
    refine z_aload_n (pc := 8) O dX9_pay_8 rfl ?_
    refine z_getR (pc := 9) 75 O fl_X9_140 rfl (jo_33 I.1) (jr_33_60 I.1) dX9_pay_9 ?_
    refine z_iload_n (pc := 12) O dX9_pay_12 rfl ?_
    refine zi_ialdv (pc := 13) (c.toNat) (gI σ 75 (c.toNat)) O (ja_75 I.1) (by omega) (by omega) (by omega) (izg σ 75 (c.toNat)) dX9_pay_13 ?_
    have := rgI σ 75 (c.toNat)
    refine zi_if_lt (pc := 14) (tgt := 47) O dX9_pay_14 (by decide) (by omega) (fun h14 => ?_) (fun h14 => ?_)
    · refine z_iconst (pc := 47) (v := iz (-1)) O dX9_pay_47 (by decide) ?_
      refine z_iret (pc := 48) O dX9_pay_48 ?_
      exact ⟨(-1), rfl, (by decide), (Fr.rf [(84, 99999), (85, 99999), (86, 99999), (33, 74)] σ), I⟩
    · refine z_iload_n (pc := 17) O dX9_pay_17 rfl ?_
      refine zi_if_lt (pc := 18) (tgt := 47) O dX9_pay_18 (by decide) (by omega) (fun h18 => ?_) (fun h18 => ?_)
      · refine z_iconst (pc := 47) (v := iz (-1)) O dX9_pay_47 (by decide) ?_
        refine z_iret (pc := 48) O dX9_pay_48 ?_
        exact ⟨(-1), rfl, (by decide), (Fr.rf [(84, 99999), (85, 99999), (86, 99999), (33, 74)] σ), I⟩
      · refine z_iload_n (pc := 21) O dX9_pay_21 rfl ?_
        refine z_iconst (pc := 22) (v := iz (3)) O dX9_pay_22 (by decide) ?_
        refine zi_icmp_gt (pc := 23) (tgt := 47) O dX9_pay_23 (by decide) (by omega) (by decide) (fun h23 => ?_) (fun h23 => ?_)
        · refine z_iconst (pc := 47) (v := iz (-1)) O dX9_pay_47 (by decide) ?_
          refine z_iret (pc := 48) O dX9_pay_48 ?_
          exact ⟨(-1), rfl, (by decide), (Fr.rf [(84, 99999), (85, 99999), (86, 99999), (33, 74)] σ), I⟩
        · refine z_iload_n (pc := 26) O dX9_pay_26 rfl ?_
          refine z_iconst (pc := 27) (v := iz (1)) O dX9_pay_27 (by decide) ?_
          refine zi_icmp_lt (pc := 28) (tgt := 47) O dX9_pay_28 (by decide) (by omega) (by decide) (fun h28 => ?_) (fun h28 => ?_)
          · refine z_iconst (pc := 47) (v := iz (-1)) O dX9_pay_47 (by decide) ?_
            refine z_iret (pc := 48) O dX9_pay_48 ?_
            exact ⟨(-1), rfl, (by decide), (Fr.rf [(84, 99999), (85, 99999), (86, 99999), (33, 74)] σ), I⟩
          · refine z_iload_n (pc := 31) O dX9_pay_31 rfl ?_
            refine z_sipush (pc := 32) (v := iz (1000)) O dX9_pay_32 (by decide) ?_
            refine zi_icmp_gt (pc := 35) (tgt := 47) O dX9_pay_35 (by decide) (by omega) (by decide) (fun h35 => ?_) (fun h35 => ?_)
            · refine z_iconst (pc := 47) (v := iz (-1)) O dX9_pay_47 (by decide) ?_
              refine z_iret (pc := 48) O dX9_pay_48 ?_
              exact ⟨(-1), rfl, (by decide), (Fr.rf [(84, 99999), (85, 99999), (86, 99999), (33, 74)] σ), I⟩
            · refine z_aload_n (pc := 38) O dX9_pay_38 rfl ?_
              refine zi_getv (pc := 39) (gI σ 33 74) O fl_X9_431 rfl (jo_33 I.1) (izg σ 33 74) dX9_pay_39 ?_
              have := rgI σ 33 74
              refine z_bipush (pc := 42) (v := iz (60)) O dX9_pay_42 (by decide) ?_
              refine zi_icmp_ne (pc := 44) (tgt := 49) O dX9_pay_44 (by decide) (by omega) (by decide) (fun h44 => ?_) (fun h44 => ?_)
              · refine z_aload_n (pc := 49) O dX9_pay_49 rfl ?_
                refine z_getR (pc := 50) 84 O fl_X9_167 rfl (jo_33 I.1) (jr_33_70 I.1) dX9_pay_50 ?_
                refine z_aload_n (pc := 53) O dX9_pay_53 rfl ?_
                refine zi_getv (pc := 54) (gI σ 33 74) O fl_X9_431 rfl (jo_33 I.1) (izg σ 33 74) dX9_pay_54 ?_
                refine z_iload_n (pc := 57) O dX9_pay_57 rfl ?_
                refine zi_iast (pc := 58) ((gI σ 33 74).toNat) O (ja_84 I.1) (by omega) (by omega) (by omega) dX9_pay_58 ?_
                refine z_aload_n (pc := 59) O dX9_pay_59 rfl ?_
                refine z_getR (pc := 60) 85 O fl_X9_170 rfl (jo_33 I.1) (jr_33_71 I.1) dX9_pay_60 ?_
                refine z_aload_n (pc := 63) O dX9_pay_63 rfl ?_
                refine zi_getv (pc := 64) (gI σ 33 74) O fl_X9_431 rfl (jo_33 I.1) (sk1t (by decide) (izg σ 33 74)) dX9_pay_64 ?_
                refine z_aload_n (pc := 67) O dX9_pay_67 rfl ?_
                refine zi_getv (pc := 68) (gI σ 33 6) O fl_X9_365 rfl (jo_33 I.1) (sk1t (by decide) (izg σ 33 6)) dX9_pay_68 ?_
                have := rgI σ 33 6
                refine zi_iast (pc := 71) ((gI σ 33 74).toNat) O (ja_85 I.1) (by omega) (by omega) (by omega) dX9_pay_71 ?_
                refine z_aload_n (pc := 72) O dX9_pay_72 rfl ?_
                refine z_getR (pc := 73) 86 O fl_X9_173 rfl (jo_33 I.1) (jr_33_72 I.1) dX9_pay_73 ?_
                refine z_aload_n (pc := 76) O dX9_pay_76 rfl ?_
                refine zi_getv (pc := 77) (gI σ 33 74) O fl_X9_431 rfl (jo_33 I.1) (sk1t (by decide) (sk1t (by decide) (izg σ 33 74))) dX9_pay_77 ?_
                refine z_iload_n (pc := 80) O dX9_pay_80 rfl ?_
                refine z_aload_n (pc := 81) O dX9_pay_81 rfl ?_
                refine z_getR (pc := 82) 83 O fl_X9_164 rfl (jo_33 I.1) (jr_33_69 I.1) dX9_pay_82 ?_
                refine z_iload_n (pc := 85) O dX9_pay_85 rfl ?_
                refine zi_ialdv (pc := 86) (k.toNat) (gI σ 83 (k.toNat)) O (ja_83 I.1) (by omega) (by omega) (by omega) (sk1t (by decide) (sk1t (by decide) (izg σ 83 (k.toNat)))) dX9_pay_86 ?_
                have := rgI σ 83 (k.toNat)
                refine zi_imul (pc := 87) O dX9_pay_87 ?_
                refine zi_any (fun z3 rz3 ez3 => ?_)
                refine zi_iast (pc := 88) ((gI σ 33 74).toNat) O (ja_86 I.1) (by omega) (by omega) (by omega) dX9_pay_88 ?_
                refine z_aload_n (pc := 89) O dX9_pay_89 rfl ?_
                refine z_dup (pc := 90) O dX9_pay_90 rfl ?_
                refine zi_getv (pc := 91) (gI σ 33 74) O fl_X9_431 rfl (jo_33 I.1) (sk1t (by decide) (sk1t (by decide) (sk1t (by decide) (izg σ 33 74)))) dX9_pay_91 ?_
                refine z_iconst (pc := 94) (v := iz (1)) O dX9_pay_94 (by decide) ?_
                refine zi_iadd (pc := 95) O dX9_pay_95 ?_
                refine z_putI (pc := 96) O fl_X9_431 rfl ⟨rfl, rfl⟩ (jo_33 I.1) dX9_pay_96 ?_
                refine z_aload_n (pc := 99) O dX9_pay_99 rfl ?_
                refine z_getR (pc := 100) 86 O fl_X9_173 rfl (jo_33 I.1) (jr_33_72 I.1) dX9_pay_100 ?_
                refine z_aload_n (pc := 103) O dX9_pay_103 rfl ?_
                refine zi_getv (pc := 104) ((gI σ 33 74) + 1) O fl_X9_431 rfl (jo_33 I.1) (hI_at _ _ _ _) dX9_pay_104 ?_
                refine z_iconst (pc := 107) (v := iz (1)) O dX9_pay_107 (by decide) ?_
                refine zi_isub (pc := 108) O dX9_pay_108 ?_
                refine zi_ialdv (pc := 109) ((((gI σ 33 74) + 1) - 1).toNat) (gI (sI (sI (sI σ 84 ((gI σ 33 74).toNat) (iz c)) 85 ((gI σ 33 74).toNat) (iz (gI σ 33 6))) 86 ((gI σ 33 74).toNat) (iz z3)) 86 ((((gI σ 33 74) + 1) - 1).toNat)) O (ja_86 I.1) (by omega) (by omega) (by omega) (sk1t (by decide) (izg _ 86 ((((gI σ 33 74) + 1) - 1).toNat))) dX9_pay_109 ?_
                have := rgI (sI (sI (sI σ 84 ((gI σ 33 74).toNat) (iz c)) 85 ((gI σ 33 74).toNat) (iz (gI σ 33 6))) 86 ((gI σ 33 74).toNat) (iz z3)) 86 ((((gI σ 33 74) + 1) - 1).toNat)
                refine z_iret (pc := 110) O dX9_pay_110 ?_
                exact ⟨(gI (sI (sI (sI σ 84 ((gI σ 33 74).toNat) (iz c)) 85 ((gI σ 33 74).toNat) (iz (gI σ 33 6))) 86 ((gI σ 33 74).toNat) (iz z3)) 86 ((((gI σ 33 74) + 1) - 1).toNat)), rfl, (by omega), (((((Fr.rf [(84, 99999), (85, 99999), (86, 99999), (33, 74)] σ).pI rfl).pI rfl).pI rfl).pI rfl), (InvM.fr (((((Fr.rf [(84, 99999), (85, 99999), (86, 99999), (33, 74)] σ).pI rfl).pI rfl).pI rfl).pI rfl) I (by unfold InvM1; have : gI (sI (sI (sI (sI σ 84 ((gI σ 33 74).toNat) (iz c)) 85 ((gI σ 33 74).toNat) (iz (gI σ 33 6))) 86 ((gI σ 33 74).toNat) (iz z3)) 33 74 (iz ((gI σ 33 74) + 1))) 33 2 = gI σ 33 2 := gI_iz (sk2t (by decide) (sk1t (by decide) (sk1t (by decide) (sk1t (by decide) (izg σ 33 2))))) (rgI _ _ _); have : gI (sI (sI (sI (sI σ 84 ((gI σ 33 74).toNat) (iz c)) 85 ((gI σ 33 74).toNat) (iz (gI σ 33 6))) 86 ((gI σ 33 74).toNat) (iz z3)) 33 74 (iz ((gI σ 33 74) + 1))) 33 52 = gI σ 33 52 := gI_iz (sk2t (by decide) (sk1t (by decide) (sk1t (by decide) (sk1t (by decide) (izg σ 33 52))))) (rgI _ _ _); have : gI (sI (sI (sI (sI σ 84 ((gI σ 33 74).toNat) (iz c)) 85 ((gI σ 33 74).toNat) (iz (gI σ 33 6))) 86 ((gI σ 33 74).toNat) (iz z3)) 33 74 (iz ((gI σ 33 74) + 1))) 33 53 = gI σ 33 53 := gI_iz (sk2t (by decide) (sk1t (by decide) (sk1t (by decide) (sk1t (by decide) (izg σ 33 53))))) (rgI _ _ _); have : gI (sI (sI (sI (sI σ 84 ((gI σ 33 74).toNat) (iz c)) 85 ((gI σ 33 74).toNat) (iz (gI σ 33 6))) 86 ((gI σ 33 74).toNat) (iz z3)) 33 74 (iz ((gI σ 33 74) + 1))) 33 54 = gI σ 33 54 := gI_iz (sk2t (by decide) (sk1t (by decide) (sk1t (by decide) (sk1t (by decide) (izg σ 33 54))))) (rgI _ _ _); have : gI (sI (sI (sI (sI σ 84 ((gI σ 33 74).toNat) (iz c)) 85 ((gI σ 33 74).toNat) (iz (gI σ 33 6))) 86 ((gI σ 33 74).toNat) (iz z3)) 33 74 (iz ((gI σ 33 74) + 1))) 33 73 = gI σ 33 73 := gI_iz (sk2t (by decide) (sk1t (by decide) (sk1t (by decide) (sk1t (by decide) (izg σ 33 73))))) (rgI _ _ _); have : gI (sI (sI (sI (sI σ 84 ((gI σ 33 74).toNat) (iz c)) 85 ((gI σ 33 74).toNat) (iz (gI σ 33 6))) 86 ((gI σ 33 74).toNat) (iz z3)) 33 74 (iz ((gI σ 33 74) + 1))) 33 74 = (gI σ 33 74) + 1 := gI_iz (hI_at _ _ _ _) (by omega); have : gI (sI (sI (sI (sI σ 84 ((gI σ 33 74).toNat) (iz c)) 85 ((gI σ 33 74).toNat) (iz (gI σ 33 6))) 86 ((gI σ 33 74).toNat) (iz z3)) 33 74 (iz ((gI σ 33 74) + 1))) 33 6 = gI σ 33 6 := gI_iz (sk2t (by decide) (sk1t (by decide) (sk1t (by decide) (sk1t (by decide) (izg σ 33 6))))) (rgI _ _ _); omega) rfl)⟩
              · refine z_iconst (pc := 47) (v := iz (-1)) O dX9_pay_47 (by decide) ?_
                refine z_iret (pc := 48) O dX9_pay_48 ?_
                exact ⟨(-1), rfl, (by decide), (Fr.rf [(84, 99999), (85, 99999), (86, 99999), (33, 74)] σ), I⟩
set_option maxHeartbeats 4000000 in
set_option maxRecDepth 20000 in
theorem k9_paidBy (l : Launch) (σ : VH) (c : Int) (rc : (-2147483648 ≤ c ∧ c < 2147483648)) (d : Int) (rd : (-2147483648 ≤ d ∧ d < 2147483648)) (J : Lay σ) (hpa : 0 ≤ gI σ 33 74 ∧ gI σ 33 74 ≤ 60) : Ct l yX9_paidBy cX9_paidBy 5 (some .int) 0 0 0 [.ref 33, .int (iz c), .int (iz d)] σ (fun r τ => ∃ z : Int, r = some (.int (iz z)) ∧ (-2147483648 ≤ z ∧ z < 2147483648) ∧ (σ = τ)) := by
  refine Ct.enter rfl (Nat.le_of_ble_eq_true rfl) ?_
  intro κ γ hκ O hrc hrs
  subst hκ
  refine z_iconst (pc := 0) (v := iz (0)) O dX9_paidBy_0 (by decide) ?_
  refine z_istore_n (pc := 1) [(0, .ref 33), (1, .int (iz c)), (2, .int (iz d)), (3, .int (iz 0))] O dX9_paidBy_1 (by decide) rfl ?_
  refine z_iconst (pc := 2) (v := iz (0)) O dX9_paidBy_2 (by decide) ?_
  refine z_istore (pc := 3) [(0, .ref 33), (1, .int (iz c)), (2, .int (iz d)), (3, .int (iz 0)), (4, .int (iz 0))] O dX9_paidBy_3 (by decide) rfl ?_
  have cut5 : ∀ (mu5 : Nat) (s : Int) (k : Int), (mu5 = (gI σ 33 74 - k).toNat) → (-2147483648 ≤ s ∧ s < 2147483648) → (-2147483648 ≤ k ∧ k < 2147483648) → (0 ≤ k ∧ k ≤ gI σ 33 74) → Z κ γ 5 σ 0 0 (QM κ γ (fun r τ => ∃ z : Int, r = some (.int (iz z)) ∧ (-2147483648 ≤ z ∧ z < 2147483648) ∧ (σ = τ)) 0 0) 5 [(0, .ref 33), (1, .int (iz c)), (2, .int (iz d)), (3, .int (iz s)), (4, .int (iz k))] [] := by
    intro mu5
    induction mu5 using Nat.strongRecOn with
    | ind mu5 ih5 =>
    intro s k hmu5 rr5_0 rr5_1 ff5_0
    refine z_iload (pc := 5) O dX9_paidBy_5 rfl ?_
    refine z_aload_n (pc := 7) O dX9_paidBy_7 rfl ?_
    refine zi_getv (pc := 8) (gI σ 33 74) O fl_X9_431 rfl (jo_33 J) (izg σ 33 74) dX9_paidBy_8 ?_
    have := rgI σ 33 74
    refine zi_icmp_ge (pc := 11) (tgt := 52) O dX9_paidBy_11 (by decide) (by omega) (by omega) (fun h11 => ?_) (fun h11 => ?_)
    · refine z_iload_n (pc := 52) O dX9_paidBy_52 rfl ?_
      refine z_iret (pc := 53) O dX9_paidBy_53 ?_
      exact ⟨s, rfl, (by omega), rfl⟩
    · refine z_aload_n (pc := 14) O dX9_paidBy_14 rfl ?_
      refine z_getR (pc := 15) 84 O fl_X9_167 rfl (jo_33 J) (jr_33_70 J) dX9_paidBy_15 ?_
      refine z_iload (pc := 18) O dX9_paidBy_18 rfl ?_
      refine zi_ialdv (pc := 20) (k.toNat) (gI σ 84 (k.toNat)) O (ja_84 J) (by omega) (by omega) (by omega) (izg σ 84 (k.toNat)) dX9_paidBy_20 ?_
      have := rgI σ 84 (k.toNat)
      refine z_iload_n (pc := 21) O dX9_paidBy_21 rfl ?_
      refine zi_icmp_ne (pc := 22) (tgt := 46) O dX9_paidBy_22 (by decide) (by omega) (by omega) (fun h22 => ?_) (fun h22 => ?_)
      · refine zi_iinc (pc := 46) (k + 1) [(0, .ref 33), (1, .int (iz c)), (2, .int (iz d)), (3, .int (iz s)), (4, .int (iz (k + 1)))] O dX9_paidBy_46 rfl (by omega) (by decide) rfl ?_
        refine z_goto (pc := 49) (tgt := 5) O dX9_paidBy_49 (by decide) ?_
        refine z_lk [(0, .ref 33), (1, .int (iz c)), (2, .int (iz d)), (3, .int (iz s)), (4, .int (iz (k + 1)))] ⟨rfl, rfl, rfl, rfl, rfl, trivial⟩ ?_
        exact ih5 _ (by omega) s (k + 1) rfl (by omega) (by omega) (by omega)
      · refine z_aload_n (pc := 25) O dX9_paidBy_25 rfl ?_
        refine z_getR (pc := 26) 85 O fl_X9_170 rfl (jo_33 J) (jr_33_71 J) dX9_paidBy_26 ?_
        refine z_iload (pc := 29) O dX9_paidBy_29 rfl ?_
        refine zi_ialdv (pc := 31) (k.toNat) (gI σ 85 (k.toNat)) O (ja_85 J) (by omega) (by omega) (by omega) (izg σ 85 (k.toNat)) dX9_paidBy_31 ?_
        have := rgI σ 85 (k.toNat)
        refine z_iload_n (pc := 32) O dX9_paidBy_32 rfl ?_
        refine zi_icmp_gt (pc := 33) (tgt := 46) O dX9_paidBy_33 (by decide) (by omega) (by omega) (fun h33 => ?_) (fun h33 => ?_)
        · refine zi_iinc (pc := 46) (k + 1) [(0, .ref 33), (1, .int (iz c)), (2, .int (iz d)), (3, .int (iz s)), (4, .int (iz (k + 1)))] O dX9_paidBy_46 rfl (by omega) (by decide) rfl ?_
          refine z_goto (pc := 49) (tgt := 5) O dX9_paidBy_49 (by decide) ?_
          refine z_lk [(0, .ref 33), (1, .int (iz c)), (2, .int (iz d)), (3, .int (iz s)), (4, .int (iz (k + 1)))] ⟨rfl, rfl, rfl, rfl, rfl, trivial⟩ ?_
          exact ih5 _ (by omega) s (k + 1) rfl (by omega) (by omega) (by omega)
        · refine z_iload_n (pc := 36) O dX9_paidBy_36 rfl ?_
          refine z_aload_n (pc := 37) O dX9_paidBy_37 rfl ?_
          refine z_getR (pc := 38) 86 O fl_X9_173 rfl (jo_33 J) (jr_33_72 J) dX9_paidBy_38 ?_
          refine z_iload (pc := 41) O dX9_paidBy_41 rfl ?_
          refine zi_ialdv (pc := 43) (k.toNat) (gI σ 86 (k.toNat)) O (ja_86 J) (by omega) (by omega) (by omega) (izg σ 86 (k.toNat)) dX9_paidBy_43 ?_
          have := rgI σ 86 (k.toNat)
          refine zi_iadd (pc := 44) O dX9_paidBy_44 ?_
          refine zi_any (fun z1 rz1 ez1 => ?_)
          refine z_istore_n (pc := 45) [(0, .ref 33), (1, .int (iz c)), (2, .int (iz d)), (3, .int (iz z1)), (4, .int (iz k))] O dX9_paidBy_45 (by decide) rfl ?_
          refine zi_iinc (pc := 46) (k + 1) [(0, .ref 33), (1, .int (iz c)), (2, .int (iz d)), (3, .int (iz z1)), (4, .int (iz (k + 1)))] O dX9_paidBy_46 rfl (by omega) (by decide) rfl ?_
          refine z_goto (pc := 49) (tgt := 5) O dX9_paidBy_49 (by decide) ?_
          refine z_lk [(0, .ref 33), (1, .int (iz c)), (2, .int (iz d)), (3, .int (iz z1)), (4, .int (iz (k + 1)))] ⟨rfl, rfl, rfl, rfl, rfl, trivial⟩ ?_
          exact ih5 _ (by omega) z1 (k + 1) rfl (by omega) (by omega) (by omega)
  refine z_lk [(0, .ref 33), (1, .int (iz c)), (2, .int (iz d)), (3, .int (iz 0)), (4, .int (iz 0))] ⟨rfl, rfl, rfl, rfl, rfl, trivial⟩ ?_
  exact cut5 _ 0 0 rfl (by omega) (by omega) (by omega)
set_option maxHeartbeats 4000000 in
set_option maxRecDepth 20000 in
theorem k9_termOf (l : Launch) (σ : VH) (c : Int) (rc : (-2147483648 ≤ c ∧ c < 2147483648)) (j : Int) (rj : (-2147483648 ≤ j ∧ j < 2147483648)) (J : Lay σ) (hc : 0 ≤ c ∧ c < 20) (ht : 1 ≤ gI σ 77 (c.toNat)) : Ct l yX9_termOf cX9_termOf 3 (some .int) 0 0 0 [.ref 33, .int (iz c), .int (iz j)] σ (fun r τ => ∃ z : Int, r = some (.int (iz z)) ∧ (-2147483648 ≤ z ∧ z < 2147483648) ∧ (σ = τ)) := by
  refine Ct.enter rfl (Nat.le_of_ble_eq_true rfl) ?_
  intro κ γ hκ O hrc hrs
  subst hκ
  refine z_aload_n (pc := 0) O dX9_termOf_0 rfl ?_
  refine z_getR (pc := 1) 76 O fl_X9_143 rfl (jo_33 J) (jr_33_61 J) dX9_termOf_1 ?_
  refine z_iload_n (pc := 4) O dX9_termOf_4 rfl ?_
  refine zi_ialdv (pc := 5) (c.toNat) (gI σ 76 (c.toNat)) O (ja_76 J) (by omega) (by omega) (by omega) (izg σ 76 (c.toNat)) dX9_termOf_5 ?_
  have := rgI σ 76 (c.toNat)
  refine z_aload_n (pc := 6) O dX9_termOf_6 rfl ?_
  refine z_getR (pc := 7) 77 O fl_X9_146 rfl (jo_33 J) (jr_33_62 J) dX9_termOf_7 ?_
  refine z_iload_n (pc := 10) O dX9_termOf_10 rfl ?_
  refine zi_ialdv (pc := 11) (c.toNat) (gI σ 77 (c.toNat)) O (ja_77 J) (by omega) (by omega) (by omega) (izg σ 77 (c.toNat)) dX9_termOf_11 ?_
  have := rgI σ 77 (c.toNat)
  refine z_idiv (pc := 12) O dX9_termOf_12 (fun h0 => by have h1 := (iz_eq (a := gI σ 77 (c.toNat)) (b := 0) (by omega) (by omega)).mp h0; omega) ?_
  refine zi_any (fun z1 rz1 ez1 => ?_)
  refine z_iload_n (pc := 13) O dX9_termOf_13 rfl ?_
  refine zi_if_ne (pc := 14) (tgt := 33) O dX9_termOf_14 (by decide) (by omega) (fun h14 => ?_) (fun h14 => ?_)
  · refine z_iconst (pc := 33) (v := iz (0)) O dX9_termOf_33 (by decide) ?_
    refine zi_iadd (pc := 34) O dX9_termOf_34 ?_
    refine zi_any (fun z2 rz2 ez2 => ?_)
    refine z_iret (pc := 35) O dX9_termOf_35 ?_
    exact ⟨z2, rfl, (by omega), rfl⟩
  · refine z_aload_n (pc := 17) O dX9_termOf_17 rfl ?_
    refine z_getR (pc := 18) 76 O fl_X9_143 rfl (jo_33 J) (jr_33_61 J) dX9_termOf_18 ?_
    refine z_iload_n (pc := 21) O dX9_termOf_21 rfl ?_
    refine zi_ialdv (pc := 22) (c.toNat) (gI σ 76 (c.toNat)) O (ja_76 J) (by omega) (by omega) (by omega) (izg σ 76 (c.toNat)) dX9_termOf_22 ?_
    refine z_aload_n (pc := 23) O dX9_termOf_23 rfl ?_
    refine z_getR (pc := 24) 77 O fl_X9_146 rfl (jo_33 J) (jr_33_62 J) dX9_termOf_24 ?_
    refine z_iload_n (pc := 27) O dX9_termOf_27 rfl ?_
    refine zi_ialdv (pc := 28) (c.toNat) (gI σ 77 (c.toNat)) O (ja_77 J) (by omega) (by omega) (by omega) (izg σ 77 (c.toNat)) dX9_termOf_28 ?_
    refine z_irem (pc := 29) O dX9_termOf_29 (fun h0 => by have h1 := (iz_eq (a := gI σ 77 (c.toNat)) (b := 0) (by omega) (by omega)).mp h0; omega) ?_
    refine zi_any (fun z3 rz3 ez3 => ?_)
    refine z_goto (pc := 30) (tgt := 34) O dX9_termOf_30 (by decide) ?_
    refine zi_iadd (pc := 34) O dX9_termOf_34 ?_
    refine zi_any (fun z4 rz4 ez4 => ?_)
    refine z_iret (pc := 35) O dX9_termOf_35 ?_
    exact ⟨z4, rfl, (by omega), rfl⟩
set_option maxHeartbeats 4000000 in
set_option maxRecDepth 20000 in
theorem k9_owed (l : Launch) (σ : VH) (c : Int) (rc : (-2147483648 ≤ c ∧ c < 2147483648)) (d : Int) (rd : (-2147483648 ≤ d ∧ d < 2147483648)) (I : InvM σ) : Ct l yX9_owed cX9_owed 9 (some .int) 1 0 0 [.ref 33, .int (iz c), .int (iz d)] σ (fun r τ => ∃ z : Int, r = some (.int (iz z)) ∧ (-2147483648 ≤ z ∧ z < 2147483648) ∧ (Fr [] σ τ) ∧ (InvM τ)) := by
  refine Ct.enter rfl (Nat.le_of_ble_eq_true rfl) ?_
  intro κ γ hκ O hrc hrs
  subst hκ
  have i1 := I.2.1
  unfold InvM1 at i1
  have i2 := I.2.2.1.laws
  have i3 := I.2.2.2.1
  refine z_aload_n (pc := 0) O dX9_owed_0 rfl ?_
  refine z_iload_n (pc := 1) O dX9_owed_1 rfl ?_
  refine z_callV (pc := 2) O cl_X9_410 (k9_isCase _ _ c (by omega) I.1) (by decide) (jo_33 I.1) kc_9 rfl rfl (Nat.le_of_ble_eq_true rfl) ⟨Nat.zero_le _, Nat.zero_le _⟩ dX9_owed_2 (fun r τ1 hp => ?_)
  obtain ⟨z2, rfl, fτ1_0, fτ1_1, rfl⟩ := hp
  refine zi_if_eq (pc := 5) (tgt := 35) O dX9_owed_5 (by decide) (by omega) (fun h5 => ?_) (fun h5 => ?_)
  · refine z_ldcw (pc := 35) O tw_1250 dX9_owed_35 ?_
    refine zi_val (-2000000001) (by decide) ?_
    refine z_iret (pc := 38) O dX9_owed_38 ?_
    exact ⟨(-2000000001), rfl, (by decide), (Fr.rf [] σ), I⟩
  · have kc := I.2.2.2.2 c.toNat (by omega)
    unfold CaseM at kc
    refine z_aload_n (pc := 8) O dX9_owed_8 rfl ?_
    refine z_getR (pc := 9) 75 O fl_X9_140 rfl (jo_33 I.1) (jr_33_60 I.1) dX9_owed_9 ?_
    refine z_iload_n (pc := 12) O dX9_owed_12 rfl ?_
    refine zi_ialdv (pc := 13) (c.toNat) (gI σ 75 (c.toNat)) O (ja_75 I.1) (by omega) (by omega) (by omega) (izg σ 75 (c.toNat)) dX9_owed_13 ?_
    have := rgI σ 75 (c.toNat)
    refine zi_if_lt (pc := 14) (tgt := 35) O dX9_owed_14 (by decide) (by omega) (fun h14 => ?_) (fun h14 => ?_)
    · refine z_ldcw (pc := 35) O tw_1250 dX9_owed_35 ?_
      refine zi_val (-2000000001) (by decide) ?_
      refine z_iret (pc := 38) O dX9_owed_38 ?_
      exact ⟨(-2000000001), rfl, (by decide), (Fr.rf [] σ), I⟩
    · refine z_iload_n (pc := 17) O dX9_owed_17 rfl ?_
      refine z_aload_n (pc := 18) O dX9_owed_18 rfl ?_
      refine z_getR (pc := 19) 75 O fl_X9_140 rfl (jo_33 I.1) (jr_33_60 I.1) dX9_owed_19 ?_
      refine z_iload_n (pc := 22) O dX9_owed_22 rfl ?_
      refine zi_ialdv (pc := 23) (c.toNat) (gI σ 75 (c.toNat)) O (ja_75 I.1) (by omega) (by omega) (by omega) (izg σ 75 (c.toNat)) dX9_owed_23 ?_
      refine zi_icmp_lt (pc := 24) (tgt := 35) O dX9_owed_24 (by decide) (by omega) (by omega) (fun h24 => ?_) (fun h24 => ?_)
      · refine z_ldcw (pc := 35) O tw_1250 dX9_owed_35 ?_
        refine zi_val (-2000000001) (by decide) ?_
        refine z_iret (pc := 38) O dX9_owed_38 ?_
        exact ⟨(-2000000001), rfl, (by decide), (Fr.rf [] σ), I⟩
      · refine z_iload_n (pc := 27) O dX9_owed_27 rfl ?_
        refine z_aload_n (pc := 28) O dX9_owed_28 rfl ?_
        refine zi_getv (pc := 29) (gI σ 33 6) O fl_X9_365 rfl (jo_33 I.1) (izg σ 33 6) dX9_owed_29 ?_
        have := rgI σ 33 6
        refine zi_icmp_le (pc := 32) (tgt := 39) O dX9_owed_32 (by decide) (by omega) (by omega) (fun h32 => ?_) (fun h32 => ?_)
        · refine z_iconst (pc := 39) (v := iz (0)) O dX9_owed_39 (by decide) ?_
          refine z_istore_n (pc := 40) [(0, .ref 33), (1, .int (iz c)), (2, .int (iz d)), (3, .int (iz 0))] O dX9_owed_40 (by decide) rfl ?_
          refine z_iconst (pc := 41) (v := iz (0)) O dX9_owed_41 (by decide) ?_
          refine z_istore (pc := 42) [(0, .ref 33), (1, .int (iz c)), (2, .int (iz d)), (3, .int (iz 0)), (4, .int (iz 0))] O dX9_owed_42 (by decide) rfl ?_
          refine z_iconst (pc := 44) (v := iz (0)) O dX9_owed_44 (by decide) ?_
          refine z_istore (pc := 45) [(0, .ref 33), (1, .int (iz c)), (2, .int (iz d)), (3, .int (iz 0)), (4, .int (iz 0)), (5, .int (iz 0))] O dX9_owed_45 (by decide) rfl ?_
          have cut47 : ∀ (mu47 : Nat) (u : Int) (e : Int) (j : Int), (mu47 = (6 - j).toNat) → (-2147483648 ≤ u ∧ u < 2147483648) → (-2147483648 ≤ e ∧ e < 2147483648) → (-2147483648 ≤ j ∧ j < 2147483648) → (0 ≤ j ∧ j ≤ 6) → Z κ γ 9 σ 0 0 (QM κ γ (fun r τ => ∃ z : Int, r = some (.int (iz z)) ∧ (-2147483648 ≤ z ∧ z < 2147483648) ∧ (Fr [] σ τ) ∧ (InvM τ)) 0 0) 47 [(0, .ref 33), (1, .int (iz c)), (2, .int (iz d)), (3, .int (iz u)), (4, .int (iz e)), (5, .int (iz j))] [] := by
            intro mu47
            induction mu47 using Nat.strongRecOn with
            | ind mu47 ih47 =>
            intro u e j hmu47 rr47_0 rr47_1 rr47_2 ff47_0
            refine z_iload (pc := 47) O dX9_owed_47 rfl ?_
            refine z_aload_n (pc := 49) O dX9_owed_49 rfl ?_
            refine z_getR (pc := 50) 77 O fl_X9_146 rfl (jo_33 I.1) (jr_33_62 I.1) dX9_owed_50 ?_
            refine z_iload_n (pc := 53) O dX9_owed_53 rfl ?_
            refine zi_ialdv (pc := 54) (c.toNat) (gI σ 77 (c.toNat)) O (ja_77 I.1) (by omega) (by omega) (by omega) (izg σ 77 (c.toNat)) dX9_owed_54 ?_
            have := rgI σ 77 (c.toNat)
            refine zi_icmp_ge (pc := 55) (tgt := 155) O dX9_owed_55 (by decide) (by omega) (by omega) (fun h55 => ?_) (fun h55 => ?_)
            · refine z_iload (pc := 155) O dX9_owed_155 rfl ?_
              refine z_istore (pc := 157) [(0, .ref 33), (1, .int (iz c)), (2, .int (iz d)), (3, .int (iz u)), (4, .int (iz e)), (5, .int (iz j)), (6, .int (iz e))] O dX9_owed_157 (by decide) rfl ?_
              have cut159 : ∀ (mu159 : Nat) (j : Int) (al : Int), (mu159 = (6 - j).toNat) → (-2147483648 ≤ j ∧ j < 2147483648) → (-2147483648 ≤ al ∧ al < 2147483648) → (0 ≤ j ∧ j ≤ 6) → Z κ γ 9 σ 0 0 (QM κ γ (fun r τ => ∃ z : Int, r = some (.int (iz z)) ∧ (-2147483648 ≤ z ∧ z < 2147483648) ∧ (Fr [] σ τ) ∧ (InvM τ)) 0 0) 159 [(0, .ref 33), (1, .int (iz c)), (2, .int (iz d)), (3, .int (iz u)), (4, .int (iz e)), (5, .int (iz j)), (6, .int (iz al))] [] := by
                intro mu159
                induction mu159 using Nat.strongRecOn with
                | ind mu159 ih159 =>
                intro j al hmu159 rr159_0 rr159_1 ff159_0
                refine z_iload (pc := 159) O dX9_owed_159 rfl ?_
                refine z_aload_n (pc := 161) O dX9_owed_161 rfl ?_
                refine z_getR (pc := 162) 77 O fl_X9_146 rfl (jo_33 I.1) (jr_33_62 I.1) dX9_owed_162 ?_
                refine z_iload_n (pc := 165) O dX9_owed_165 rfl ?_
                refine zi_ialdv (pc := 166) (c.toNat) (gI σ 77 (c.toNat)) O (ja_77 I.1) (by omega) (by omega) (by omega) (izg σ 77 (c.toNat)) dX9_owed_166 ?_
                refine zi_icmp_ge (pc := 167) (tgt := 188) O dX9_owed_167 (by decide) (by omega) (by omega) (fun h167 => ?_) (fun h167 => ?_)
                · refine z_iload (pc := 188) O dX9_owed_188 rfl ?_
                  refine z_aload_n (pc := 190) O dX9_owed_190 rfl ?_
                  refine z_iload_n (pc := 191) O dX9_owed_191 rfl ?_
                  refine z_iload_n (pc := 192) O dX9_owed_192 rfl ?_
                  refine z_callV (pc := 193) O cl_X9_438 (k9_paidBy _ _ c (by omega) d (by omega) I.1 (by omega)) (by decide) (jo_33 I.1) kc_9 rfl rfl (Nat.le_of_ble_eq_true rfl) ⟨Nat.zero_le _, Nat.zero_le _⟩ dX9_owed_193 (fun r τ3 hp => ?_)
                  obtain ⟨z4, rfl, fτ3_0, rfl⟩ := hp
                  refine z_iload_n (pc := 196) O dX9_owed_196 rfl ?_
                  refine zi_isub (pc := 197) O dX9_owed_197 ?_
                  refine zi_any (fun z5 rz5 ez5 => ?_)
                  refine zi_isub (pc := 198) O dX9_owed_198 ?_
                  refine zi_any (fun z6 rz6 ez6 => ?_)
                  refine z_iret (pc := 199) O dX9_owed_199 ?_
                  exact ⟨z6, rfl, (by omega), (Fr.rf [] σ), I⟩
                · refine z_iload (pc := 170) O dX9_owed_170 rfl ?_
                  refine z_aload_n (pc := 172) O dX9_owed_172 rfl ?_
                  refine z_iload_n (pc := 173) O dX9_owed_173 rfl ?_
                  refine z_iload (pc := 174) O dX9_owed_174 rfl ?_
                  refine z_callV (pc := 176) O cl_X9_435 (k9_termOf _ _ c (by omega) j (by omega) I.1 (by omega) (by omega)) (by decide) (jo_33 I.1) kc_9 rfl rfl (Nat.le_of_ble_eq_true rfl) ⟨Nat.zero_le _, Nat.zero_le _⟩ dX9_owed_176 (fun r τ7 hp => ?_)
                  obtain ⟨z8, rfl, fτ7_0, rfl⟩ := hp
                  refine zi_iadd (pc := 179) O dX9_owed_179 ?_
                  refine zi_any (fun z9 rz9 ez9 => ?_)
                  refine z_istore (pc := 180) [(0, .ref 33), (1, .int (iz c)), (2, .int (iz d)), (3, .int (iz u)), (4, .int (iz e)), (5, .int (iz j)), (6, .int (iz z9))] O dX9_owed_180 (by decide) rfl ?_
                  refine zi_iinc (pc := 182) (j + 1) [(0, .ref 33), (1, .int (iz c)), (2, .int (iz d)), (3, .int (iz u)), (4, .int (iz e)), (5, .int (iz (j + 1))), (6, .int (iz z9))] O dX9_owed_182 rfl (by omega) (by decide) rfl ?_
                  refine z_goto (pc := 185) (tgt := 159) O dX9_owed_185 (by decide) ?_
                  refine z_lk [(0, .ref 33), (1, .int (iz c)), (2, .int (iz d)), (3, .int (iz u)), (4, .int (iz e)), (5, .int (iz (j + 1))), (6, .int (iz z9))] ⟨rfl, rfl, rfl, rfl, rfl, rfl, rfl, trivial⟩ ?_
                  exact ih159 _ (by omega) (j + 1) z9 rfl (by omega) (by omega) (by omega)
              refine z_lk [(0, .ref 33), (1, .int (iz c)), (2, .int (iz d)), (3, .int (iz u)), (4, .int (iz e)), (5, .int (iz j)), (6, .int (iz e))] ⟨rfl, rfl, rfl, rfl, rfl, rfl, rfl, trivial⟩ ?_
              exact cut159 _ j e rfl (by omega) (by omega) (by omega)
            · refine z_aload_n (pc := 58) O dX9_owed_58 rfl ?_
              refine z_getR (pc := 59) 75 O fl_X9_140 rfl (jo_33 I.1) (jr_33_60 I.1) dX9_owed_59 ?_
              refine z_iload_n (pc := 62) O dX9_owed_62 rfl ?_
              refine zi_ialdv (pc := 63) (c.toNat) (gI σ 75 (c.toNat)) O (ja_75 I.1) (by omega) (by omega) (by omega) (izg σ 75 (c.toNat)) dX9_owed_63 ?_
              refine z_iload (pc := 64) O dX9_owed_64 rfl ?_
              refine z_iconst (pc := 66) (v := iz (1)) O dX9_owed_66 (by decide) ?_
              refine zi_iadd (pc := 67) O dX9_owed_67 ?_
              refine z_aload_n (pc := 68) O dX9_owed_68 rfl ?_
              refine z_getR (pc := 69) 78 O fl_X9_149 rfl (jo_33 I.1) (jr_33_63 I.1) dX9_owed_69 ?_
              refine z_iload_n (pc := 72) O dX9_owed_72 rfl ?_
              refine zi_ialdv (pc := 73) (c.toNat) (gI σ 78 (c.toNat)) O (ja_78 I.1) (by omega) (by omega) (by omega) (izg σ 78 (c.toNat)) dX9_owed_73 ?_
              have := rgI σ 78 (c.toNat)
              refine zi_imul (pc := 74) O dX9_owed_74 ?_
              refine zi_any (fun z10 rz10 ez10 => ?_)
              refine zi_iadd (pc := 75) O dX9_owed_75 ?_
              refine zi_any (fun z11 rz11 ez11 => ?_)
              refine z_iload_n (pc := 76) O dX9_owed_76 rfl ?_
              refine zi_icmp_ge (pc := 77) (tgt := 155) O dX9_owed_77 (by decide) (by omega) (by omega) (fun h77 => ?_) (fun h77 => ?_)
              · refine z_iload (pc := 155) O dX9_owed_155 rfl ?_
                refine z_istore (pc := 157) [(0, .ref 33), (1, .int (iz c)), (2, .int (iz d)), (3, .int (iz u)), (4, .int (iz e)), (5, .int (iz j)), (6, .int (iz e))] O dX9_owed_157 (by decide) rfl ?_
                have cut159 : ∀ (mu159 : Nat) (j : Int) (al : Int), (mu159 = (6 - j).toNat) → (-2147483648 ≤ j ∧ j < 2147483648) → (-2147483648 ≤ al ∧ al < 2147483648) → (0 ≤ j ∧ j ≤ 6) → Z κ γ 9 σ 0 0 (QM κ γ (fun r τ => ∃ z : Int, r = some (.int (iz z)) ∧ (-2147483648 ≤ z ∧ z < 2147483648) ∧ (Fr [] σ τ) ∧ (InvM τ)) 0 0) 159 [(0, .ref 33), (1, .int (iz c)), (2, .int (iz d)), (3, .int (iz u)), (4, .int (iz e)), (5, .int (iz j)), (6, .int (iz al))] [] := by
                  intro mu159
                  induction mu159 using Nat.strongRecOn with
                  | ind mu159 ih159 =>
                  intro j al hmu159 rr159_0 rr159_1 ff159_0
                  refine z_iload (pc := 159) O dX9_owed_159 rfl ?_
                  refine z_aload_n (pc := 161) O dX9_owed_161 rfl ?_
                  refine z_getR (pc := 162) 77 O fl_X9_146 rfl (jo_33 I.1) (jr_33_62 I.1) dX9_owed_162 ?_
                  refine z_iload_n (pc := 165) O dX9_owed_165 rfl ?_
                  refine zi_ialdv (pc := 166) (c.toNat) (gI σ 77 (c.toNat)) O (ja_77 I.1) (by omega) (by omega) (by omega) (izg σ 77 (c.toNat)) dX9_owed_166 ?_
                  refine zi_icmp_ge (pc := 167) (tgt := 188) O dX9_owed_167 (by decide) (by omega) (by omega) (fun h167 => ?_) (fun h167 => ?_)
                  · refine z_iload (pc := 188) O dX9_owed_188 rfl ?_
                    refine z_aload_n (pc := 190) O dX9_owed_190 rfl ?_
                    refine z_iload_n (pc := 191) O dX9_owed_191 rfl ?_
                    refine z_iload_n (pc := 192) O dX9_owed_192 rfl ?_
                    refine z_callV (pc := 193) O cl_X9_438 (k9_paidBy _ _ c (by omega) d (by omega) I.1 (by omega)) (by decide) (jo_33 I.1) kc_9 rfl rfl (Nat.le_of_ble_eq_true rfl) ⟨Nat.zero_le _, Nat.zero_le _⟩ dX9_owed_193 (fun r τ12 hp => ?_)
                    obtain ⟨z13, rfl, fτ12_0, rfl⟩ := hp
                    refine z_iload_n (pc := 196) O dX9_owed_196 rfl ?_
                    refine zi_isub (pc := 197) O dX9_owed_197 ?_
                    refine zi_any (fun z14 rz14 ez14 => ?_)
                    refine zi_isub (pc := 198) O dX9_owed_198 ?_
                    refine zi_any (fun z15 rz15 ez15 => ?_)
                    refine z_iret (pc := 199) O dX9_owed_199 ?_
                    exact ⟨z15, rfl, (by omega), (Fr.rf [] σ), I⟩
                  · refine z_iload (pc := 170) O dX9_owed_170 rfl ?_
                    refine z_aload_n (pc := 172) O dX9_owed_172 rfl ?_
                    refine z_iload_n (pc := 173) O dX9_owed_173 rfl ?_
                    refine z_iload (pc := 174) O dX9_owed_174 rfl ?_
                    refine z_callV (pc := 176) O cl_X9_435 (k9_termOf _ _ c (by omega) j (by omega) I.1 (by omega) (by omega)) (by decide) (jo_33 I.1) kc_9 rfl rfl (Nat.le_of_ble_eq_true rfl) ⟨Nat.zero_le _, Nat.zero_le _⟩ dX9_owed_176 (fun r τ16 hp => ?_)
                    obtain ⟨z17, rfl, fτ16_0, rfl⟩ := hp
                    refine zi_iadd (pc := 179) O dX9_owed_179 ?_
                    refine zi_any (fun z18 rz18 ez18 => ?_)
                    refine z_istore (pc := 180) [(0, .ref 33), (1, .int (iz c)), (2, .int (iz d)), (3, .int (iz u)), (4, .int (iz e)), (5, .int (iz j)), (6, .int (iz z18))] O dX9_owed_180 (by decide) rfl ?_
                    refine zi_iinc (pc := 182) (j + 1) [(0, .ref 33), (1, .int (iz c)), (2, .int (iz d)), (3, .int (iz u)), (4, .int (iz e)), (5, .int (iz (j + 1))), (6, .int (iz z18))] O dX9_owed_182 rfl (by omega) (by decide) rfl ?_
                    refine z_goto (pc := 185) (tgt := 159) O dX9_owed_185 (by decide) ?_
                    refine z_lk [(0, .ref 33), (1, .int (iz c)), (2, .int (iz d)), (3, .int (iz u)), (4, .int (iz e)), (5, .int (iz (j + 1))), (6, .int (iz z18))] ⟨rfl, rfl, rfl, rfl, rfl, rfl, rfl, trivial⟩ ?_
                    exact ih159 _ (by omega) (j + 1) z18 rfl (by omega) (by omega) (by omega)
                refine z_lk [(0, .ref 33), (1, .int (iz c)), (2, .int (iz d)), (3, .int (iz u)), (4, .int (iz e)), (5, .int (iz j)), (6, .int (iz e))] ⟨rfl, rfl, rfl, rfl, rfl, rfl, rfl, trivial⟩ ?_
                exact cut159 _ j e rfl (by omega) (by omega) (by omega)
              · refine z_aload_n (pc := 80) O dX9_owed_80 rfl ?_
                refine z_iload_n (pc := 81) O dX9_owed_81 rfl ?_
                refine z_iload (pc := 82) O dX9_owed_82 rfl ?_
                refine z_callV (pc := 84) O cl_X9_435 (k9_termOf _ _ c (by omega) j (by omega) I.1 (by omega) (by omega)) (by decide) (jo_33 I.1) kc_9 rfl rfl (Nat.le_of_ble_eq_true rfl) ⟨Nat.zero_le _, Nat.zero_le _⟩ dX9_owed_84 (fun r τ19 hp => ?_)
                obtain ⟨z20, rfl, fτ19_0, rfl⟩ := hp
                refine z_iload (pc := 87) O dX9_owed_87 rfl ?_
                refine zi_iadd (pc := 89) O dX9_owed_89 ?_
                refine zi_any (fun z21 rz21 ez21 => ?_)
                refine z_istore (pc := 90) [(0, .ref 33), (1, .int (iz c)), (2, .int (iz d)), (3, .int (iz u)), (4, .int (iz e)), (5, .int (iz j)), (6, .int (iz z21))] O dX9_owed_90 (by decide) rfl ?_
                refine z_aload_n (pc := 92) O dX9_owed_92 rfl ?_
                refine z_iload_n (pc := 93) O dX9_owed_93 rfl ?_
                refine z_aload_n (pc := 94) O dX9_owed_94 rfl ?_
                refine z_getR (pc := 95) 75 O fl_X9_140 rfl (jo_33 I.1) (jr_33_60 I.1) dX9_owed_95 ?_
                refine z_iload_n (pc := 98) O dX9_owed_98 rfl ?_
                refine zi_ialdv (pc := 99) (c.toNat) (gI σ 75 (c.toNat)) O (ja_75 I.1) (by omega) (by omega) (by omega) (izg σ 75 (c.toNat)) dX9_owed_99 ?_
                refine z_iload (pc := 100) O dX9_owed_100 rfl ?_
                refine z_iconst (pc := 102) (v := iz (1)) O dX9_owed_102 (by decide) ?_
                refine zi_iadd (pc := 103) O dX9_owed_103 ?_
                refine z_aload_n (pc := 104) O dX9_owed_104 rfl ?_
                refine z_getR (pc := 105) 78 O fl_X9_149 rfl (jo_33 I.1) (jr_33_63 I.1) dX9_owed_105 ?_
                refine z_iload_n (pc := 108) O dX9_owed_108 rfl ?_
                refine zi_ialdv (pc := 109) (c.toNat) (gI σ 78 (c.toNat)) O (ja_78 I.1) (by omega) (by omega) (by omega) (izg σ 78 (c.toNat)) dX9_owed_109 ?_
                refine zi_imul (pc := 110) O dX9_owed_110 ?_
                refine zi_any (fun z22 rz22 ez22 => ?_)
                refine zi_iadd (pc := 111) O dX9_owed_111 ?_
                refine zi_any (fun z23 rz23 ez23 => ?_)
                refine z_callV (pc := 112) O cl_X9_438 (k9_paidBy _ _ c (by omega) z23 (by omega) I.1 (by omega)) (by decide) (jo_33 I.1) kc_9 rfl rfl (Nat.le_of_ble_eq_true rfl) ⟨Nat.zero_le _, Nat.zero_le _⟩ dX9_owed_112 (fun r τ24 hp => ?_)
                obtain ⟨z25, rfl, fτ24_0, rfl⟩ := hp
                refine z_iload_n (pc := 115) O dX9_owed_115 rfl ?_
                refine zi_isub (pc := 116) O dX9_owed_116 ?_
                refine zi_any (fun z26 rz26 ez26 => ?_)
                refine z_istore (pc := 117) [(0, .ref 33), (1, .int (iz c)), (2, .int (iz d)), (3, .int (iz u)), (4, .int (iz e)), (5, .int (iz j)), (6, .int (iz z21)), (7, .int (iz z26))] O dX9_owed_117 (by decide) rfl ?_
                have cut133 : ∀ (tk : Int), (-2147483648 ≤ tk ∧ tk < 2147483648) → Z κ γ 9 σ 0 0 (QM κ γ (fun r τ => ∃ z : Int, r = some (.int (iz z)) ∧ (-2147483648 ≤ z ∧ z < 2147483648) ∧ (Fr [] σ τ) ∧ (InvM τ)) 0 0) 133 [(0, .ref 33), (1, .int (iz c)), (2, .int (iz d)), (3, .int (iz u)), (4, .int (iz e)), (5, .int (iz j)), (6, .int (iz z21)), (7, .int (iz z26))] [.int (iz tk)] := by
                  intro tk rr133_0
                  refine z_istore (pc := 133) [(0, .ref 33), (1, .int (iz c)), (2, .int (iz d)), (3, .int (iz u)), (4, .int (iz e)), (5, .int (iz j)), (6, .int (iz z21)), (7, .int (iz z26)), (8, .int (iz tk))] O dX9_owed_133 (by decide) rfl ?_
                  refine z_iload_n (pc := 135) O dX9_owed_135 rfl ?_
                  refine z_iload (pc := 136) O dX9_owed_136 rfl ?_
                  refine zi_iadd (pc := 138) O dX9_owed_138 ?_
                  refine zi_any (fun z27 rz27 ez27 => ?_)
                  refine z_istore_n (pc := 139) [(0, .ref 33), (1, .int (iz c)), (2, .int (iz d)), (3, .int (iz z27)), (4, .int (iz e)), (5, .int (iz j)), (6, .int (iz z21)), (7, .int (iz z26)), (8, .int (iz tk))] O dX9_owed_139 (by decide) rfl ?_
                  refine z_iconst (pc := 140) (v := iz (2)) O dX9_owed_140 (by decide) ?_
                  refine z_iload (pc := 141) O dX9_owed_141 rfl ?_
                  refine z_iload (pc := 143) O dX9_owed_143 rfl ?_
                  refine zi_isub (pc := 145) O dX9_owed_145 ?_
                  refine zi_any (fun z28 rz28 ez28 => ?_)
                  refine zi_imul (pc := 146) O dX9_owed_146 ?_
                  refine zi_any (fun z29 rz29 ez29 => ?_)
                  refine z_istore (pc := 147) [(0, .ref 33), (1, .int (iz c)), (2, .int (iz d)), (3, .int (iz z27)), (4, .int (iz z29)), (5, .int (iz j)), (6, .int (iz z21)), (7, .int (iz z26)), (8, .int (iz tk))] O dX9_owed_147 (by decide) rfl ?_
                  refine zi_iinc (pc := 149) (j + 1) [(0, .ref 33), (1, .int (iz c)), (2, .int (iz d)), (3, .int (iz z27)), (4, .int (iz z29)), (5, .int (iz (j + 1))), (6, .int (iz z21)), (7, .int (iz z26)), (8, .int (iz tk))] O dX9_owed_149 rfl (by omega) (by decide) rfl ?_
                  refine z_goto (pc := 152) (tgt := 47) O dX9_owed_152 (by decide) ?_
                  refine z_lk [(0, .ref 33), (1, .int (iz c)), (2, .int (iz d)), (3, .int (iz z27)), (4, .int (iz z29)), (5, .int (iz (j + 1)))] ⟨rfl, rfl, rfl, rfl, rfl, rfl, trivial⟩ ?_
                  exact ih47 _ (by omega) z27 z29 (j + 1) rfl (by omega) (by omega) (by omega) (by omega)
                refine z_iload (pc := 119) O dX9_owed_119 rfl ?_
                refine z_iload (pc := 121) O dX9_owed_121 rfl ?_
                refine zi_icmp_ge (pc := 123) (tgt := 131) O dX9_owed_123 (by decide) (by omega) (by omega) (fun h123 => ?_) (fun h123 => ?_)
                · refine z_iload (pc := 131) O dX9_owed_131 rfl ?_
                  refine z_lk [(0, .ref 33), (1, .int (iz c)), (2, .int (iz d)), (3, .int (iz u)), (4, .int (iz e)), (5, .int (iz j)), (6, .int (iz z21)), (7, .int (iz z26))] ⟨rfl, rfl, rfl, rfl, rfl, rfl, rfl, rfl, trivial⟩ ?_
                  exact cut133 z21 (by omega)
                · refine z_iload (pc := 126) O dX9_owed_126 rfl ?_
                  refine z_goto (pc := 128) (tgt := 133) O dX9_owed_128 (by decide) ?_
                  refine z_lk [(0, .ref 33), (1, .int (iz c)), (2, .int (iz d)), (3, .int (iz u)), (4, .int (iz e)), (5, .int (iz j)), (6, .int (iz z21)), (7, .int (iz z26))] ⟨rfl, rfl, rfl, rfl, rfl, rfl, rfl, rfl, trivial⟩ ?_
                  exact cut133 z26 (by omega)
          refine z_lk [(0, .ref 33), (1, .int (iz c)), (2, .int (iz d)), (3, .int (iz 0)), (4, .int (iz 0)), (5, .int (iz 0))] ⟨rfl, rfl, rfl, rfl, rfl, rfl, trivial⟩ ?_
          exact cut47 _ 0 0 0 rfl (by omega) (by omega) (by omega) (by omega)
        · refine z_ldcw (pc := 35) O tw_1250 dX9_owed_35 ?_
          refine zi_val (-2000000001) (by decide) ?_
          refine z_iret (pc := 38) O dX9_owed_38 ?_
          exact ⟨(-2000000001), rfl, (by decide), (Fr.rf [] σ), I⟩
