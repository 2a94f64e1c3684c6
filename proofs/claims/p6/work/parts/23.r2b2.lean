set_option maxHeartbeats 4000000 in
set_option maxRecDepth 20000 in
theorem k9_of (l : Launch) (σ : VH) (c : Int) (rc : (-2147483648 ≤ c ∧ c < 2147483648)) (w : Int) (rw : (-2147483648 ≤ w ∧ w < 2147483648)) (I : InvM σ) : Ct l yX9_of cX9_of 3 (some .int) 1 0 0 [.ref 33, .int (iz c), .int (iz w)] σ (fun r τ => ∃ z : Int, r = some (.int (iz z)) ∧ (-2147483648 ≤ z ∧ z < 2147483648) ∧ (Fr [] σ τ) ∧ (InvM τ)) := by
  refine Ct.enter rfl (Nat.le_of_ble_eq_true rfl) ?_
  intro κ γ hκ O hrc hrs
  subst hκ
  have i1 := I.2.1
  unfold InvM1 at i1
  have i2 := I.2.2.1.laws
  have i3 := I.2.2.2.1
  refine z_aload_n (pc := 0) O dX9_of_0 rfl ?_
  refine z_iload_n (pc := 1) O dX9_of_1 rfl ?_
  refine z_callV (pc := 2) O cl_X9_410 (k9_isCase _ _ c (by omega) I.1) (by decide) (jo_33 I.1) kc_9 rfl rfl (Nat.le_of_ble_eq_true rfl) ⟨Nat.zero_le _, Nat.zero_le _⟩ dX9_of_2 (fun r τ1 hp => ?_)
  obtain ⟨z2, rfl, fτ1_0, fτ1_1, rfl⟩ := hp
  refine zi_if_ne (pc := 5) (tgt := 10) O dX9_of_5 (by decide) (by omega) (fun h5 => ?_) (fun h5 => ?_)
  · have kc := I.2.2.2.2 c.toNat (by omega)
    unfold CaseM at kc
    refine z_iload_n (pc := 10) O dX9_of_10 rfl ?_
    by_cases hs3 : w < 0 ∨ 5 < w
    · refine zi_tableOut (pc := 11) (tgt := 124) O dX9_of_11 (by omega) hs3 (by decide) ?_
      refine z_iconst (pc := 124) (v := iz (-1)) O dX9_of_124 (by decide) ?_
      refine z_iret (pc := 125) O dX9_of_125 ?_
      exact ⟨(-1), rfl, (by decide), (Fr.rf [] σ), I⟩
    · have hs3x : w = 0 ∨ w = 1 ∨ w = 2 ∨ w = 3 ∨ w = 4 ∨ w = 5 := by omega
      obtain ⟨hs3a, hs3b⟩ := not_or.mp hs3
      rcases hs3x with hs3q | hs3q | hs3q | hs3q | hs3q | hs3q
      · refine zi_tableIn (pc := 11) (tgt := 48) O dX9_of_11 (by omega) hs3a hs3b (by rw [hs3q]; rfl) (by decide) ?_
        refine z_aload_n (pc := 48) O dX9_of_48 rfl ?_
        refine z_getR (pc := 49) 70 O fl_X9_125 rfl (jo_33 I.1) (jr_33_55 I.1) dX9_of_49 ?_
        refine z_iload_n (pc := 52) O dX9_of_52 rfl ?_
        refine zi_ialdv (pc := 53) (c.toNat) (gI σ 70 (c.toNat)) O (ja_70 I.1) (by omega) (by omega) (by omega) (izg σ 70 (c.toNat)) dX9_of_53 ?_
        have := rgI σ 70 (c.toNat)
        refine z_iret (pc := 54) O dX9_of_54 ?_
        exact ⟨(gI σ 70 (c.toNat)), rfl, (by omega), (Fr.rf [] σ), I⟩
      · refine zi_tableIn (pc := 11) (tgt := 55) O dX9_of_11 (by omega) hs3a hs3b (by rw [hs3q]; rfl) (by decide) ?_
        refine z_aload_n (pc := 55) O dX9_of_55 rfl ?_
        refine z_getR (pc := 56) 71 O fl_X9_128 rfl (jo_33 I.1) (jr_33_56 I.1) dX9_of_56 ?_
        refine z_iload_n (pc := 59) O dX9_of_59 rfl ?_
        refine zi_ialdv (pc := 60) (c.toNat) (gI σ 71 (c.toNat)) O (ja_71 I.1) (by omega) (by omega) (by omega) (izg σ 71 (c.toNat)) dX9_of_60 ?_
        have := rgI σ 71 (c.toNat)
        refine z_iret (pc := 61) O dX9_of_61 ?_
        exact ⟨(gI σ 71 (c.toNat)), rfl, (by omega), (Fr.rf [] σ), I⟩
      · refine zi_tableIn (pc := 11) (tgt := 62) O dX9_of_11 (by omega) hs3a hs3b (by rw [hs3q]; rfl) (by decide) ?_
        refine z_aload_n (pc := 62) O dX9_of_62 rfl ?_
        refine z_getR (pc := 63) 72 O fl_X9_131 rfl (jo_33 I.1) (jr_33_57 I.1) dX9_of_63 ?_
        refine z_iload_n (pc := 66) O dX9_of_66 rfl ?_
        refine zi_ialdv (pc := 67) (c.toNat) (gI σ 72 (c.toNat)) O (ja_72 I.1) (by omega) (by omega) (by omega) (izg σ 72 (c.toNat)) dX9_of_67 ?_
        have := rgI σ 72 (c.toNat)
        refine z_iret (pc := 68) O dX9_of_68 ?_
        exact ⟨(gI σ 72 (c.toNat)), rfl, (by omega), (Fr.rf [] σ), I⟩
      · refine zi_tableIn (pc := 11) (tgt := 69) O dX9_of_11 (by omega) hs3a hs3b (by rw [hs3q]; rfl) (by decide) ?_
        refine z_aload_n (pc := 69) O dX9_of_69 rfl ?_
        refine z_aload_n (pc := 70) O dX9_of_70 rfl ?_
        refine z_getR (pc := 71) 58 O fl_X9_89 rfl (jo_33 I.1) (jr_33_40 I.1) dX9_of_71 ?_
        refine z_aload_n (pc := 74) O dX9_of_74 rfl ?_
        refine z_getR (pc := 75) 70 O fl_X9_125 rfl (jo_33 I.1) (jr_33_55 I.1) dX9_of_75 ?_
        refine z_iload_n (pc := 78) O dX9_of_78 rfl ?_
        refine zi_ialdv (pc := 79) (c.toNat) (gI σ 70 (c.toNat)) O (ja_70 I.1) (by omega) (by omega) (by omega) (izg σ 70 (c.toNat)) dX9_of_79 ?_
        have := rgI σ 70 (c.toNat)
        refine zi_ialdv (pc := 80) ((gI σ 70 (c.toNat)).toNat) (gI σ 58 ((gI σ 70 (c.toNat)).toNat)) O (ja_58 I.1) (by omega) (by omega) (by omega) (izg σ 58 ((gI σ 70 (c.toNat)).toNat)) dX9_of_80 ?_
        have := rgI σ 58 ((gI σ 70 (c.toNat)).toNat)
        refine z_aload_n (pc := 81) O dX9_of_81 rfl ?_
        refine z_getR (pc := 82) 58 O fl_X9_89 rfl (jo_33 I.1) (jr_33_40 I.1) dX9_of_82 ?_
        refine z_aload_n (pc := 85) O dX9_of_85 rfl ?_
        refine z_getR (pc := 86) 71 O fl_X9_128 rfl (jo_33 I.1) (jr_33_56 I.1) dX9_of_86 ?_
        refine z_iload_n (pc := 89) O dX9_of_89 rfl ?_
        refine zi_ialdv (pc := 90) (c.toNat) (gI σ 71 (c.toNat)) O (ja_71 I.1) (by omega) (by omega) (by omega) (izg σ 71 (c.toNat)) dX9_of_90 ?_
        have := rgI σ 71 (c.toNat)
        refine zi_ialdv (pc := 91) ((gI σ 71 (c.toNat)).toNat) (gI σ 58 ((gI σ 71 (c.toNat)).toNat)) O (ja_58 I.1) (by omega) (by omega) (by omega) (izg σ 58 ((gI σ 71 (c.toNat)).toNat)) dX9_of_91 ?_
        have := rgI σ 58 ((gI σ 71 (c.toNat)).toNat)
        refine z_aload_n (pc := 92) O dX9_of_92 rfl ?_
        refine z_getR (pc := 93) 72 O fl_X9_131 rfl (jo_33 I.1) (jr_33_57 I.1) dX9_of_93 ?_
        refine z_iload_n (pc := 96) O dX9_of_96 rfl ?_
        refine zi_ialdv (pc := 97) (c.toNat) (gI σ 72 (c.toNat)) O (ja_72 I.1) (by omega) (by omega) (by omega) (izg σ 72 (c.toNat)) dX9_of_97 ?_
        have := rgI σ 72 (c.toNat)
        refine z_callV (pc := 98) O cl_X9_396 (k9_isTruce _ _ (gI σ 58 ((gI σ 70 (c.toNat)).toNat)) (by omega) (gI σ 58 ((gI σ 71 (c.toNat)).toNat)) (by omega) (gI σ 72 (c.toNat)) (by omega) I.1 (by omega)) (by decide) (jo_33 I.1) kc_9 rfl rfl (Nat.le_of_ble_eq_true rfl) ⟨Nat.zero_le _, Nat.zero_le _⟩ dX9_of_98 (fun r τ4 hp => ?_)
        obtain ⟨z5, rfl, fτ4_0, rfl⟩ := hp
        refine zi_if_eq (pc := 101) (tgt := 108) O dX9_of_101 (by decide) (by omega) (fun h101 => ?_) (fun h101 => ?_)
        · refine z_iconst (pc := 108) (v := iz (0)) O dX9_of_108 (by decide) ?_
          refine z_iret (pc := 109) O dX9_of_109 ?_
          exact ⟨0, rfl, (by decide), (Fr.rf [] σ), I⟩
        · refine z_iconst (pc := 104) (v := iz (1)) O dX9_of_104 (by decide) ?_
          refine z_goto (pc := 105) (tgt := 109) O dX9_of_105 (by decide) ?_
          refine z_iret (pc := 109) O dX9_of_109 ?_
          exact ⟨1, rfl, (by decide), (Fr.rf [] σ), I⟩
      · refine zi_tableIn (pc := 11) (tgt := 110) O dX9_of_11 (by omega) hs3a hs3b (by rw [hs3q]; rfl) (by decide) ?_
        refine z_aload_n (pc := 110) O dX9_of_110 rfl ?_
        refine z_getR (pc := 111) 74 O fl_X9_137 rfl (jo_33 I.1) (jr_33_59 I.1) dX9_of_111 ?_
        refine z_iload_n (pc := 114) O dX9_of_114 rfl ?_
        refine zi_ialdv (pc := 115) (c.toNat) (gI σ 74 (c.toNat)) O (ja_74 I.1) (by omega) (by omega) (by omega) (izg σ 74 (c.toNat)) dX9_of_115 ?_
        have := rgI σ 74 (c.toNat)
        refine z_iret (pc := 116) O dX9_of_116 ?_
        exact ⟨(gI σ 74 (c.toNat)), rfl, (by omega), (Fr.rf [] σ), I⟩
      · refine zi_tableIn (pc := 11) (tgt := 117) O dX9_of_11 (by omega) hs3a hs3b (by rw [hs3q]; rfl) (by decide) ?_
        refine z_aload_n (pc := 117) O dX9_of_117 rfl ?_
        refine z_getR (pc := 118) 75 O fl_X9_140 rfl (jo_33 I.1) (jr_33_60 I.1) dX9_of_118 ?_
        refine z_iload_n (pc := 121) O dX9_of_121 rfl ?_
        refine zi_ialdv (pc := 122) (c.toNat) (gI σ 75 (c.toNat)) O (ja_75 I.1) (by omega) (by omega) (by omega) (izg σ 75 (c.toNat)) dX9_of_122 ?_
        have := rgI σ 75 (c.toNat)
        refine z_iret (pc := 123) O dX9_of_123 ?_
        exact ⟨(gI σ 75 (c.toNat)), rfl, (by omega), (Fr.rf [] σ), I⟩
  · refine z_iconst (pc := 8) (v := iz (-1)) O dX9_of_8 (by decide) ?_
    refine z_iret (pc := 9) O dX9_of_9 ?_
    exact ⟨(-1), rfl, (by decide), (Fr.rf [] σ), I⟩
set_option maxHeartbeats 4000000 in
set_option maxRecDepth 20000 in
theorem k9_isOf (l : Launch) (σ : VH) (c : Int) (rc : (-2147483648 ≤ c ∧ c < 2147483648)) (p : Int) (rp : (-2147483648 ≤ p ∧ p < 2147483648)) (m : Int) (rm : (-2147483648 ≤ m ∧ m < 2147483648)) (b : Int) (rb : (-2147483648 ≤ b ∧ b < 2147483648)) (d : Int) (rd : (-2147483648 ≤ d ∧ d < 2147483648)) (J : Lay σ) (hpe : 0 ≤ gI σ 33 52 ∧ gI σ 33 52 ≤ 20) (hc : 0 ≤ c ∧ c < 20) (hp : 0 ≤ p ∧ p < 20) (hm : 0 ≤ m ∧ m < 20) : Ct l yX9_isOf cX9_isOf 6 (some .boolean) 2 0 0 [.ref 33, .int (iz c), .int (iz p), .int (iz m), .int (iz b), .int (iz d)] σ (fun r τ => ∃ z : Int, r = some (.int (iz z)) ∧ (z = 0 ∨ z = 1) ∧ (σ = τ)) := by
  refine Ct.enter rfl (Nat.le_of_ble_eq_true rfl) ?_
  intro κ γ hκ O hrc hrs
  subst hκ
  refine z_iload_n (pc := 0) O dX9_isOf_0 rfl ?_
  refine z_iload (pc := 1) O dX9_isOf_1 rfl ?_
  refine zi_icmp_eq (pc := 3) (tgt := 50) O dX9_isOf_3 (by decide) (by omega) (by omega) (fun h3 => ?_) (fun h3 => ?_)
  · refine z_iconst (pc := 50) (v := iz (0)) O dX9_isOf_50 (by decide) ?_
    refine z_zret (pc := 51) O dX9_isOf_51 rfl ?_
    exact ⟨0, rfl, (by decide), rfl⟩
  · refine z_aload_n (pc := 6) O dX9_isOf_6 rfl ?_
    refine z_getR (pc := 7) 58 O fl_X9_89 rfl (jo_33 J) (jr_33_40 J) dX9_isOf_7 ?_
    refine z_iload_n (pc := 10) O dX9_isOf_10 rfl ?_
    refine zi_ialdv (pc := 11) (p.toNat) (gI σ 58 (p.toNat)) O (ja_58 J) (by omega) (by omega) (by omega) (izg σ 58 (p.toNat)) dX9_isOf_11 ?_
    have := rgI σ 58 (p.toNat)
    refine z_aload_n (pc := 12) O dX9_isOf_12 rfl ?_
    refine z_getR (pc := 13) 58 O fl_X9_89 rfl (jo_33 J) (jr_33_40 J) dX9_isOf_13 ?_
    refine z_iload_n (pc := 16) O dX9_isOf_16 rfl ?_
    refine zi_ialdv (pc := 17) (m.toNat) (gI σ 58 (m.toNat)) O (ja_58 J) (by omega) (by omega) (by omega) (izg σ 58 (m.toNat)) dX9_isOf_17 ?_
    have := rgI σ 58 (m.toNat)
    refine zi_icmp_ne (pc := 18) (tgt := 50) O dX9_isOf_18 (by decide) (by omega) (by omega) (fun h18 => ?_) (fun h18 => ?_)
    · refine z_iconst (pc := 50) (v := iz (0)) O dX9_isOf_50 (by decide) ?_
      refine z_zret (pc := 51) O dX9_isOf_51 rfl ?_
      exact ⟨0, rfl, (by decide), rfl⟩
    · refine z_aload_n (pc := 21) O dX9_isOf_21 rfl ?_
      refine z_iload_n (pc := 22) O dX9_isOf_22 rfl ?_
      refine z_aload_n (pc := 23) O dX9_isOf_23 rfl ?_
      refine z_getR (pc := 24) 72 O fl_X9_131 rfl (jo_33 J) (jr_33_57 J) dX9_isOf_24 ?_
      refine z_iload_n (pc := 27) O dX9_isOf_27 rfl ?_
      refine zi_ialdv (pc := 28) (c.toNat) (gI σ 72 (c.toNat)) O (ja_72 J) (by omega) (by omega) (by omega) (izg σ 72 (c.toNat)) dX9_isOf_28 ?_
      have := rgI σ 72 (c.toNat)
      refine z_callV (pc := 29) O cl_X9_416 (k9_isDead _ _ p (by omega) (gI σ 72 (c.toNat)) (by omega) J (by omega)) (by decide) (jo_33 J) kc_9 rfl rfl (Nat.le_of_ble_eq_true rfl) ⟨Nat.zero_le _, Nat.zero_le _⟩ dX9_isOf_29 (fun r τ1 hp => ?_)
      obtain ⟨z2, rfl, fτ1_0, rfl⟩ := hp
      refine zi_if_ne (pc := 32) (tgt := 50) O dX9_isOf_32 (by decide) (by omega) (fun h32 => ?_) (fun h32 => ?_)
      · refine z_iconst (pc := 50) (v := iz (0)) O dX9_isOf_50 (by decide) ?_
        refine z_zret (pc := 51) O dX9_isOf_51 rfl ?_
        exact ⟨0, rfl, (by decide), rfl⟩
      · refine z_aload_n (pc := 35) O dX9_isOf_35 rfl ?_
        refine z_iload_n (pc := 36) O dX9_isOf_36 rfl ?_
        refine z_iload_n (pc := 37) O dX9_isOf_37 rfl ?_
        refine z_callV (pc := 38) O cl_X9_389 (k9_degree _ _ p (by omega) m (by omega) J (by omega)) (by decide) (jo_33 J) kc_9 rfl rfl (Nat.le_of_ble_eq_true rfl) ⟨Nat.zero_le _, Nat.zero_le _⟩ dX9_isOf_38 (fun r τ3 hp => ?_)
        obtain ⟨z4, rfl, fτ3_0, fτ3_1, rfl⟩ := hp
        refine z_iload (pc := 41) O dX9_isOf_41 rfl ?_
        refine zi_icmp_ne (pc := 43) (tgt := 50) O dX9_isOf_43 (by decide) (by omega) (by omega) (fun h43 => ?_) (fun h43 => ?_)
        · refine z_iconst (pc := 50) (v := iz (0)) O dX9_isOf_50 (by decide) ?_
          refine z_zret (pc := 51) O dX9_isOf_51 rfl ?_
          exact ⟨0, rfl, (by decide), rfl⟩
        · refine z_iconst (pc := 46) (v := iz (1)) O dX9_isOf_46 (by decide) ?_
          refine z_goto (pc := 47) (tgt := 51) O dX9_isOf_47 (by decide) ?_
          refine z_zret (pc := 51) O dX9_isOf_51 rfl ?_
          exact ⟨1, rfl, (by decide), rfl⟩
