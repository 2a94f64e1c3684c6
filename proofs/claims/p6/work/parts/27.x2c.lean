set_option maxHeartbeats 4000000 in
set_option maxRecDepth 20000 in
theorem k8_about (l : Launch) (σ : VH) (w : Int) (rw : (-2147483648 ≤ w ∧ w < 2147483648)) (I : InvX σ) : Ct l yX8_about cX8_about 2 (some .int) 1 0 0 [.ref 2, .int (iz w)] σ (fun r τ => ∃ z : Int, r = some (.int (iz z)) ∧ (-2147483648 ≤ z ∧ z < 2147483648) ∧ (Fr [] σ τ) ∧ (InvX τ)) := by
  refine Ct.enter rfl (Nat.le_of_ble_eq_true rfl) ?_
  intro κ γ hκ O hrc hrs
  subst hκ
  have i1 := I.2.1
  unfold InvX1 at i1
  refine z_iload_n (pc := 0) O dX8_about_0 rfl ?_
  by_cases hs1 : w < 0 ∨ 7 < w
  · refine zi_tableOut (pc := 1) (tgt := 100) O dX8_about_1 (by omega) hs1 (by decide) ?_
    refine z_iload_n (pc := 100) O dX8_about_100 rfl ?_
    refine z_bipush (pc := 101) (v := iz (10)) O dX8_about_101 (by decide) ?_
    refine zi_icmp_lt (pc := 103) (tgt := 128) O dX8_about_103 (by decide) (by omega) (by decide) (fun h103 => ?_) (fun h103 => ?_)
    · refine z_iconst (pc := 128) (v := iz (-1)) O dX8_about_128 (by decide) ?_
      refine z_iret (pc := 129) O dX8_about_129 ?_
      exact ⟨(-1), rfl, (by decide), (Fr.rf [] σ), I⟩
    · refine z_iload_n (pc := 106) O dX8_about_106 rfl ?_
      refine z_bipush (pc := 107) (v := iz (10)) O dX8_about_107 (by decide) ?_
      refine zi_isub (pc := 109) O dX8_about_109 ?_
      refine z_callS (pc := 110) O cl_X8_81 (k8_isFolk _ _ (w - 10) (by omega)) (by decide) rfl rfl (Nat.le_of_ble_eq_true rfl) ⟨Nat.zero_le _, Nat.zero_le _⟩ dX8_about_110 (fun r τ2 hp => ?_)
      obtain ⟨z3, rfl, fτ2_0, fτ2_1, rfl⟩ := hp
      refine zi_if_eq (pc := 113) (tgt := 128) O dX8_about_113 (by decide) (by omega) (fun h113 => ?_) (fun h113 => ?_)
      · refine z_iconst (pc := 128) (v := iz (-1)) O dX8_about_128 (by decide) ?_
        refine z_iret (pc := 129) O dX8_about_129 ?_
        exact ⟨(-1), rfl, (by decide), (Fr.rf [] σ), I⟩
      · have lo := I.2.2.1 (w - 10).toNat (by omega)
        refine z_aload_n (pc := 116) O dX8_about_116 rfl ?_
        refine z_getR (pc := 117) 8 O fl_X8_26 rfl (jo_2 I.1) (jr_2_4 I.1) dX8_about_117 ?_
        refine z_iload_n (pc := 120) O dX8_about_120 rfl ?_
        refine z_bipush (pc := 121) (v := iz (10)) O dX8_about_121 (by decide) ?_
        refine zi_isub (pc := 123) O dX8_about_123 ?_
        refine zi_ialdv (pc := 124) ((w - 10).toNat) (gI σ 8 ((w - 10).toNat)) O (ja_8 I.1) (by omega) (by omega) (by omega) (izg σ 8 ((w - 10).toNat)) dX8_about_124 ?_
        have := rgI σ 8 ((w - 10).toNat)
        refine z_goto (pc := 125) (tgt := 129) O dX8_about_125 (by decide) ?_
        refine z_iret (pc := 129) O dX8_about_129 ?_
        exact ⟨(gI σ 8 ((w - 10).toNat)), rfl, (by omega), (Fr.rf [] σ), I⟩
  · have hs1x : w = 0 ∨ w = 1 ∨ w = 2 ∨ w = 3 ∨ w = 4 ∨ w = 5 ∨ w = 6 ∨ w = 7 := by omega
    obtain ⟨hs1a, hs1b⟩ := not_or.mp hs1
    rcases hs1x with hs1q | hs1q | hs1q | hs1q | hs1q | hs1q | hs1q | hs1q
    · refine zi_tableIn (pc := 1) (tgt := 48) O dX8_about_1 (by omega) hs1a hs1b (by rw [hs1q]; rfl) (by decide) ?_
      refine z_aload_n (pc := 48) O dX8_about_48 rfl ?_
      refine zi_getv (pc := 49) (gI σ 2 7) O fl_X8_133 rfl (jo_2 I.1) (izg σ 2 7) dX8_about_49 ?_
      have := rgI σ 2 7
      refine z_iret (pc := 52) O dX8_about_52 ?_
      exact ⟨(gI σ 2 7), rfl, (by omega), (Fr.rf [] σ), I⟩
    · refine zi_tableIn (pc := 1) (tgt := 53) O dX8_about_1 (by omega) hs1a hs1b (by rw [hs1q]; rfl) (by decide) ?_
      refine z_aload_n (pc := 53) O dX8_about_53 rfl ?_
      refine z_getR (pc := 54) 9 O fl_X8_37 rfl (jo_2 I.1) (jr_2_8 I.1) dX8_about_54 ?_
      refine zi_getv (pc := 57) (gI σ 9 7) O fl_X8_220 rfl (jo_9 I.1) (izg σ 9 7) dX8_about_57 ?_
      have := rgI σ 9 7
      refine z_iret (pc := 60) O dX8_about_60 ?_
      exact ⟨(gI σ 9 7), rfl, (by omega), (Fr.rf [] σ), I⟩
    · refine zi_tableIn (pc := 1) (tgt := 61) O dX8_about_1 (by omega) hs1a hs1b (by rw [hs1q]; rfl) (by decide) ?_
      refine z_aload_n (pc := 61) O dX8_about_61 rfl ?_
      refine z_getR (pc := 62) 16 O fl_X8_44 rfl (jo_2 I.1) (jr_2_9 I.1) dX8_about_62 ?_
      refine zi_getv (pc := 65) (gI σ 16 4) O fl_X8_221 rfl (jo_16 I.1) (izg σ 16 4) dX8_about_65 ?_
      have := rgI σ 16 4
      refine z_iret (pc := 68) O dX8_about_68 ?_
      exact ⟨(gI σ 16 4), rfl, (by omega), (Fr.rf [] σ), I⟩
    · refine zi_tableIn (pc := 1) (tgt := 69) O dX8_about_1 (by omega) hs1a hs1b (by rw [hs1q]; rfl) (by decide) ?_
      refine z_aload_n (pc := 69) O dX8_about_69 rfl ?_
      refine z_getR (pc := 70) 21 O fl_X8_51 rfl (jo_2 I.1) (jr_2_10 I.1) dX8_about_70 ?_
      refine zi_getv (pc := 73) (gI σ 21 4) O fl_X8_222 rfl (jo_21 I.1) (izg σ 21 4) dX8_about_73 ?_
      have := rgI σ 21 4
      refine z_iret (pc := 76) O dX8_about_76 ?_
      exact ⟨(gI σ 21 4), rfl, (by omega), (Fr.rf [] σ), I⟩
    · refine zi_tableIn (pc := 1) (tgt := 77) O dX8_about_1 (by omega) hs1a hs1b (by rw [hs1q]; rfl) (by decide) ?_
      refine z_aload_n (pc := 77) O dX8_about_77 rfl ?_
      refine zi_getv (pc := 78) (gI σ 2 12) O fl_X8_152 rfl (jo_2 I.1) (izg σ 2 12) dX8_about_78 ?_
      have := rgI σ 2 12
      refine z_iret (pc := 81) O dX8_about_81 ?_
      exact ⟨(gI σ 2 12), rfl, (by omega), (Fr.rf [] σ), I⟩
    · refine zi_tableIn (pc := 1) (tgt := 82) O dX8_about_1 (by omega) hs1a hs1b (by rw [hs1q]; rfl) (by decide) ?_
      refine z_aload_n (pc := 82) O dX8_about_82 rfl ?_
      refine z_getR (pc := 83) 27 O fl_X8_64 rfl (jo_2 I.1) (jr_2_13 I.1) dX8_about_83 ?_
      refine zi_getv (pc := 86) (gI σ 27 3) O fl_X8_223 rfl (jo_27 I.1) (izg σ 27 3) dX8_about_86 ?_
      have := rgI σ 27 3
      refine z_iret (pc := 89) O dX8_about_89 ?_
      exact ⟨(gI σ 27 3), rfl, (by omega), (Fr.rf [] σ), I⟩
    · refine zi_tableIn (pc := 1) (tgt := 90) O dX8_about_1 (by omega) hs1a hs1b (by rw [hs1q]; rfl) (by decide) ?_
      refine z_aload_n (pc := 90) O dX8_about_90 rfl ?_
      refine zi_getv (pc := 91) (gI σ 2 15) O fl_X8_211 rfl (jo_2 I.1) (izg σ 2 15) dX8_about_91 ?_
      have := rgI σ 2 15
      refine z_iret (pc := 94) O dX8_about_94 ?_
      exact ⟨(gI σ 2 15), rfl, (by omega), (Fr.rf [] σ), I⟩
    · refine zi_tableIn (pc := 1) (tgt := 95) O dX8_about_1 (by omega) hs1a hs1b (by rw [hs1q]; rfl) (by decide) ?_
      refine z_aload_n (pc := 95) O dX8_about_95 rfl ?_
      refine zi_getv (pc := 96) (gI σ 2 1) O fl_X8_74 rfl (jo_2 I.1) (izg σ 2 1) dX8_about_96 ?_
      have := rgI σ 2 1
      refine z_iret (pc := 99) O dX8_about_99 ?_
      exact ⟨(gI σ 2 1), rfl, (by omega), (Fr.rf [] σ), I⟩
set_option maxHeartbeats 4000000 in
set_option maxRecDepth 20000 in
theorem k8_fault (l : Launch) (σ : VH) (w : Int) (rw : (-2147483648 ≤ w ∧ w < 2147483648)) (I : InvX σ) : Ct l yX8_fault cX8_fault 2 (some .int) 0 0 0 [.ref 2, .int (iz w)] σ (fun r τ => ∃ z : Int, r = some (.int (iz z)) ∧ (-2147483648 ≤ z ∧ z < 2147483648) ∧ (Fr [] σ τ) ∧ (InvX τ)) := by
  refine Ct.enter rfl (Nat.le_of_ble_eq_true rfl) ?_
  intro κ γ hκ O hrc hrs
  subst hκ
  have i1 := I.2.1
  unfold InvX1 at i1
  refine z_iload_n (pc := 0) O dX8_fault_0 rfl ?_
  refine zi_if_ne (pc := 1) (tgt := 9) O dX8_fault_1 (by decide) (by omega) (fun h1 => ?_) (fun h1 => ?_)
  · refine z_iload_n (pc := 9) O dX8_fault_9 rfl ?_
    refine z_iconst (pc := 10) (v := iz (1)) O dX8_fault_10 (by decide) ?_
    refine zi_icmp_ne (pc := 11) (tgt := 21) O dX8_fault_11 (by decide) (by omega) (by decide) (fun h11 => ?_) (fun h11 => ?_)
    · refine z_iconst (pc := 21) (v := iz (-1)) O dX8_fault_21 (by decide) ?_
      refine z_iret (pc := 22) O dX8_fault_22 ?_
      exact ⟨(-1), rfl, (by decide), (Fr.rf [] σ), I⟩
    · refine z_aload_n (pc := 14) O dX8_fault_14 rfl ?_
      refine zi_getv (pc := 15) (gI σ 2 6) O fl_X8_30 rfl (jo_2 I.1) (izg σ 2 6) dX8_fault_15 ?_
      have := rgI σ 2 6
      refine z_goto (pc := 18) (tgt := 22) O dX8_fault_18 (by decide) ?_
      refine z_iret (pc := 22) O dX8_fault_22 ?_
      exact ⟨(gI σ 2 6), rfl, (by omega), (Fr.rf [] σ), I⟩
  · refine z_aload_n (pc := 4) O dX8_fault_4 rfl ?_
    refine zi_getv (pc := 5) (gI σ 2 5) O fl_X8_110 rfl (jo_2 I.1) (izg σ 2 5) dX8_fault_5 ?_
    have := rgI σ 2 5
    refine z_iret (pc := 8) O dX8_fault_8 ?_
    exact ⟨(gI σ 2 5), rfl, (by omega), (Fr.rf [] σ), I⟩
set_option maxHeartbeats 4000000 in
set_option maxRecDepth 20000 in
theorem k8_end (l : Launch) (σ : VH) (n : Int) (rn : (-2147483648 ≤ n ∧ n < 2147483648)) (I : InvX σ) : Ct l yX8_end cX8_end 2 (some .int) 0 0 0 [.ref 2, .int (iz n)] σ (fun r τ => ∃ z : Int, r = some (.int (iz z)) ∧ (-2147483648 ≤ z ∧ z < 2147483648) ∧ (z = -1 ∧ ¬ (0 ≤ n ∧ n ≤ gI σ 2 1) ∨ z = n ∧ 0 ≤ n ∧ n ≤ gI σ 2 1) ∧ (Fr [(2, 1)] σ τ) ∧ (InvX τ) ∧ (z = -1 ∧ gI τ 2 1 = gI σ 2 1 ∨ 0 ≤ z ∧ gI τ 2 1 = z)) := by
  refine Ct.enter rfl (Nat.le_of_ble_eq_true rfl) ?_
  intro κ γ hκ O hrc hrs
  subst hκ
  have i1 := I.2.1
  unfold InvX1 at i1
  refine z_iload_n (pc := 0) O dX8_end_0 rfl ?_
  refine zi_if_lt (pc := 1) (tgt := 12) O dX8_end_1 (by decide) (by omega) (fun h1 => ?_) (fun h1 => ?_)
  · refine z_iconst (pc := 12) (v := iz (-1)) O dX8_end_12 (by decide) ?_
    refine z_iret (pc := 13) O dX8_end_13 ?_
    exact ⟨(-1), rfl, (by decide), (by omega), (Fr.rf [(2, 1)] σ), I, (by omega)⟩
  · refine z_iload_n (pc := 4) O dX8_end_4 rfl ?_
    refine z_aload_n (pc := 5) O dX8_end_5 rfl ?_
    refine zi_getv (pc := 6) (gI σ 2 1) O fl_X8_74 rfl (jo_2 I.1) (izg σ 2 1) dX8_end_6 ?_
    have := rgI σ 2 1
    refine zi_icmp_le (pc := 9) (tgt := 14) O dX8_end_9 (by decide) (by omega) (by omega) (fun h9 => ?_) (fun h9 => ?_)
    · refine z_aload_n (pc := 14) O dX8_end_14 rfl ?_
      refine z_iload_n (pc := 15) O dX8_end_15 rfl ?_
      refine z_putI (pc := 16) O fl_X8_74 rfl ⟨rfl, rfl⟩ (jo_2 I.1) dX8_end_16 ?_
      refine z_iload_n (pc := 19) O dX8_end_19 rfl ?_
      refine z_iret (pc := 20) O dX8_end_20 ?_
      exact ⟨n, rfl, (by omega), (by omega), ((Fr.rf [(2, 1)] σ).pI rfl), (InvX.fr ((Fr.rf [(2, 1)] σ).pI rfl) I (by unfold InvX1; have : gI (sI σ 2 1 (iz n)) 2 1 = n := gI_iz (hI_at _ _ _ _) (by omega); have : gI (sI σ 2 1 (iz n)) 9 7 = gI σ 9 7 := gI_iz (sk1t (by decide) (izg σ 9 7)) (rgI _ _ _); have : gI (sI σ 2 1 (iz n)) 16 4 = gI σ 16 4 := gI_iz (sk1t (by decide) (izg σ 16 4)) (rgI _ _ _); have : gI (sI σ 2 1 (iz n)) 21 4 = gI σ 21 4 := gI_iz (sk1t (by decide) (izg σ 21 4)) (rgI _ _ _); have : gI (sI σ 2 1 (iz n)) 2 12 = gI σ 2 12 := gI_iz (sk2t (by decide) (izg σ 2 12)) (rgI _ _ _); have : gI (sI σ 2 1 (iz n)) 27 3 = gI σ 27 3 := gI_iz (sk1t (by decide) (izg σ 27 3)) (rgI _ _ _); have : gI (sI σ 2 1 (iz n)) 2 15 = gI σ 2 15 := gI_iz (sk2t (by decide) (izg σ 2 15)) (rgI _ _ _); have : gI (sI σ 2 1 (iz n)) 2 7 = gI σ 2 7 := gI_iz (sk2t (by decide) (izg σ 2 7)) (rgI _ _ _); omega) (fun _ => rfl)), (by have : gI (sI σ 2 1 (iz n)) 2 1 = n := gI_iz (hI_at _ _ _ _) (by omega); omega)⟩
    · refine z_iconst (pc := 12) (v := iz (-1)) O dX8_end_12 (by decide) ?_
      refine z_iret (pc := 13) O dX8_end_13 ?_
      exact ⟨(-1), rfl, (by decide), (by omega), (Fr.rf [(2, 1)] σ), I, (by omega)⟩
set_option maxHeartbeats 4000000 in
set_option maxRecDepth 20000 in
theorem k8_writeNumber (l : Launch) (σ : VH) (n : Int) (rn : (-2147483648 ≤ n ∧ n < 2147483648)) (J : Lay σ) (htp : 0 ≤ gI σ 2 1 ∧ gI σ 2 1 ≤ 700) : Ct l yX8_writeNumber cX8_writeNumber 3 none 0 0 0 [.ref 2, .int (iz n)] σ (fun r τ => r = none ∧ (Fr [(3, 99999), (2, 1)] σ τ) ∧ (0 ≤ gI τ 2 1 ∧ gI τ 2 1 ≤ 700) ∧ (700 < gI σ 2 1 + 4 ∨ gI τ 2 1 = gI σ 2 1 + 4)) := by
  refine Ct.enter rfl (Nat.le_of_ble_eq_true rfl) ?_
  intro κ γ hκ O hrc hrs
  subst hκ
  refine z_bipush (pc := 0) (v := iz (24)) O dX8_writeNumber_0 (by decide) ?_
  refine z_istore_n (pc := 2) [(0, .ref 2), (1, .int (iz n)), (2, .int (iz 24))] O dX8_writeNumber_2 (by decide) rfl ?_
  have cut3 : ∀ (mu3 : Nat) (s : Int) (ρ3 : VH), (mu3 = (s + 8).toNat) → (-2147483648 ≤ s ∧ s < 2147483648) → (-8 ≤ s ∧ s ≤ 24) → (0 ≤ gI ρ3 2 1 ∧ gI ρ3 2 1 ≤ 700) → (700 < gI σ 2 1 + 4 ∨ 8 * gI ρ3 2 1 + s = 8 * gI σ 2 1 + 24) → (s = 24 ∨ s = 16 ∨ s = 8 ∨ s = 0 ∨ s = -8) → (Fr [(3, 99999), (2, 1)] σ ρ3) → Z κ γ 3 ρ3 0 0 (QM κ γ (fun r τ => r = none ∧ (Fr [(3, 99999), (2, 1)] σ τ) ∧ (0 ≤ gI τ 2 1 ∧ gI τ 2 1 ≤ 700) ∧ (700 < gI σ 2 1 + 4 ∨ gI τ 2 1 = gI σ 2 1 + 4)) 0 0) 3 [(0, .ref 2), (1, .int (iz n)), (2, .int (iz s))] [] := by
    intro mu3
    induction mu3 using Nat.strongRecOn with
    | ind mu3 ih3 =>
    intro s ρ3 hmu3 rr3_0 ff3_0 ff3_1 ff3_2 ff3_3 frρ3
    refine z_iload_n (pc := 3) O dX8_writeNumber_3 rfl ?_
    refine zi_if_lt (pc := 4) (tgt := 48) O dX8_writeNumber_4 (by decide) (by omega) (fun h4 => ?_) (fun h4 => ?_)
    · refine z_vret (pc := 48) O dX8_writeNumber_48 ?_
      exact ⟨rfl, frρ3, (by omega), (by omega)⟩
    · refine z_aload_n (pc := 7) O dX8_writeNumber_7 rfl ?_
      refine zi_getv (pc := 8) (gI ρ3 2 1) O fl_X8_74 rfl (jo_2 (frρ3.lay J)) (izg ρ3 2 1) dX8_writeNumber_8 ?_
      have := rgI ρ3 2 1
      refine z_aload_n (pc := 11) O dX8_writeNumber_11 rfl ?_
      refine z_getR (pc := 12) 3 O fl_X8_9 rfl (jo_2 (frρ3.lay J)) (jr_2_0 (frρ3.lay J)) dX8_writeNumber_12 ?_
      refine z_alen (pc := 15) (t0 := 1) (n := iz 700) O (ja_3 (frρ3.lay J)) (by decide) rfl (by decide) dX8_writeNumber_15 ?_
      refine zi_icmp_ge (pc := 16) (tgt := 42) O dX8_writeNumber_16 (by decide) (by omega) (by decide) (fun h16 => ?_) (fun h16 => ?_)
      · refine zi_iinc (pc := 42) (s - 8) [(0, .ref 2), (1, .int (iz n)), (2, .int (iz (s - 8)))] O dX8_writeNumber_42 rfl (by omega) (by decide) rfl ?_
        refine z_goto (pc := 45) (tgt := 3) O dX8_writeNumber_45 (by decide) ?_
        refine z_lk [(0, .ref 2), (1, .int (iz n)), (2, .int (iz (s - 8)))] ⟨rfl, rfl, rfl, trivial⟩ ?_
        exact ih3 _ (by omega) (s - 8) ρ3 rfl (by omega) (by omega) (by omega) (by omega) (by omega) frρ3
      · refine z_aload_n (pc := 19) O dX8_writeNumber_19 rfl ?_
        refine z_getR (pc := 20) 3 O fl_X8_9 rfl (jo_2 (frρ3.lay J)) (jr_2_0 (frρ3.lay J)) dX8_writeNumber_20 ?_
        refine z_aload_n (pc := 23) O dX8_writeNumber_23 rfl ?_
        refine zi_getv (pc := 24) (gI ρ3 2 1) O fl_X8_74 rfl (jo_2 (frρ3.lay J)) (izg ρ3 2 1) dX8_writeNumber_24 ?_
        refine z_iload_n (pc := 27) O dX8_writeNumber_27 rfl ?_
        refine z_iload_n (pc := 28) O dX8_writeNumber_28 rfl ?_
        refine z_iushr (pc := 29) O dX8_writeNumber_29 ?_
        refine zi_any (fun z1 rz1 ez1 => ?_)
        refine z_i2b (pc := 30) O dX8_writeNumber_30 ?_
        refine zi_any (fun z2 rz2 ez2 => ?_)
        refine zi_bast (pc := 31) ((gI ρ3 2 1).toNat) O (ja_3 (frρ3.lay J)) (by omega) (by omega) (by omega) dX8_writeNumber_31 ?_
        refine z_aload_n (pc := 32) O dX8_writeNumber_32 rfl ?_
        refine z_dup (pc := 33) O dX8_writeNumber_33 rfl ?_
        refine zi_getv (pc := 34) (gI ρ3 2 1) O fl_X8_74 rfl (jo_2 (frρ3.lay J)) (sk1t (by decide) (izg ρ3 2 1)) dX8_writeNumber_34 ?_
        refine z_iconst (pc := 37) (v := iz (1)) O dX8_writeNumber_37 (by decide) ?_
        refine zi_iadd (pc := 38) O dX8_writeNumber_38 ?_
        refine z_putI (pc := 39) O fl_X8_74 rfl ⟨rfl, rfl⟩ (jo_2 (frρ3.lay J)) dX8_writeNumber_39 ?_
        refine zi_iinc (pc := 42) (s - 8) [(0, .ref 2), (1, .int (iz n)), (2, .int (iz (s - 8)))] O dX8_writeNumber_42 rfl (by omega) (by decide) rfl ?_
        refine z_goto (pc := 45) (tgt := 3) O dX8_writeNumber_45 (by decide) ?_
        refine z_lk [(0, .ref 2), (1, .int (iz n)), (2, .int (iz (s - 8)))] ⟨rfl, rfl, rfl, trivial⟩ ?_
        exact ih3 _ (by omega) (s - 8) (sI (sI ρ3 3 ((gI ρ3 2 1).toNat) ((iz z2).toInt8.toInt32)) 2 1 (iz ((gI ρ3 2 1) + 1))) rfl (by omega) (by omega) (by have : gI (sI (sI ρ3 3 ((gI ρ3 2 1).toNat) ((iz z2).toInt8.toInt32)) 2 1 (iz ((gI ρ3 2 1) + 1))) 2 1 = (gI ρ3 2 1) + 1 := gI_iz (hI_at _ _ _ _) (by omega); omega) (by have : gI (sI (sI ρ3 3 ((gI ρ3 2 1).toNat) ((iz z2).toInt8.toInt32)) 2 1 (iz ((gI ρ3 2 1) + 1))) 2 1 = (gI ρ3 2 1) + 1 := gI_iz (hI_at _ _ _ _) (by omega); omega) (by omega) ((frρ3.pI rfl).pI rfl)
  refine z_lk [(0, .ref 2), (1, .int (iz n)), (2, .int (iz 24))] ⟨rfl, rfl, rfl, trivial⟩ ?_
  exact cut3 _ 24 σ rfl (by omega) (by omega) (by omega) (by omega) (by omega) (Fr.rf [(3, 99999), (2, 1)] σ)
set_option maxHeartbeats 4000000 in
set_option maxRecDepth 20000 in
theorem k8_feed (l : Launch) (σ : VH) (a : Int) (ra : (-2147483648 ≤ a ∧ a < 2147483648)) (b : Int) (rb : (-2147483648 ≤ b ∧ b < 2147483648)) (c : Int) (rc : (-2147483648 ≤ c ∧ c < 2147483648)) (d : Int) (rd : (-2147483648 ≤ d ∧ d < 2147483648)) (e : Int) (re : (-2147483648 ≤ e ∧ e < 2147483648)) (I : InvX σ) : Ct l yX8_feed cX8_feed 6 (some .int) 1 0 0 [.ref 2, .int (iz a), .int (iz b), .int (iz c), .int (iz d), .int (iz e)] σ (fun r τ => ∃ z : Int, r = some (.int (iz z)) ∧ (-2147483648 ≤ z ∧ z < 2147483648) ∧ ((z = -1 ∧ 700 < gI σ 2 1 + 20) ∨ (z = gI σ 2 1 + 20 ∧ gI σ 2 1 + 20 ≤ 700)) ∧ (Fr [(3, 99999), (2, 1)] σ τ) ∧ (InvX τ) ∧ ((z = -1 ∧ gI τ 2 1 = gI σ 2 1) ∨ (0 ≤ z ∧ gI τ 2 1 = z))) := by
  refine Ct.enter rfl (Nat.le_of_ble_eq_true rfl) ?_
  intro κ γ hκ O hrc hrs
  subst hκ
  have i1 := I.2.1
  unfold InvX1 at i1
  refine z_aload_n (pc := 0) O dX8_feed_0 rfl ?_
  refine zi_getv (pc := 1) (gI σ 2 1) O fl_X8_74 rfl (jo_2 I.1) (izg σ 2 1) dX8_feed_1 ?_
  have := rgI σ 2 1
  refine z_bipush (pc := 4) (v := iz (20)) O dX8_feed_4 (by decide) ?_
  refine zi_iadd (pc := 6) O dX8_feed_6 ?_
  refine z_sipush (pc := 7) (v := iz (700)) O dX8_feed_7 (by decide) ?_
  refine zi_icmp_le (pc := 10) (tgt := 15) O dX8_feed_10 (by decide) (by omega) (by decide) (fun h10 => ?_) (fun h10 => ?_)
  · refine z_aload_n (pc := 15) O dX8_feed_15 rfl ?_
    refine z_iload_n (pc := 16) O dX8_feed_16 rfl ?_
    refine z_callV (pc := 17) O cl_X8_77 (k8_writeNumber _ _ a (by omega) I.1 (by omega)) (by decide) (jo_2 I.1) kc_8 rfl rfl (Nat.le_of_ble_eq_true rfl) ⟨Nat.zero_le _, Nat.zero_le _⟩ dX8_feed_17 (fun r τ1 hp => ?_)
    obtain ⟨rfl, frτ1, eτ1_0, eτ1_1⟩ := hp
    refine z_aload_n (pc := 20) O dX8_feed_20 rfl ?_
    refine z_iload_n (pc := 21) O dX8_feed_21 rfl ?_
    refine z_callV (pc := 22) O cl_X8_77 (k8_writeNumber _ _ b (by omega) (frτ1.lay I.1) (by omega)) (by decide) (jo_2 (frτ1.lay I.1)) kc_8 rfl rfl (Nat.le_of_ble_eq_true rfl) ⟨Nat.zero_le _, Nat.zero_le _⟩ dX8_feed_22 (fun r τ3 hp => ?_)
    obtain ⟨rfl, frτ3, eτ3_0, eτ3_1⟩ := hp
    refine z_aload_n (pc := 25) O dX8_feed_25 rfl ?_
    refine z_iload_n (pc := 26) O dX8_feed_26 rfl ?_
    refine z_callV (pc := 27) O cl_X8_77 (k8_writeNumber _ _ c (by omega) (frτ3.lay (frτ1.lay I.1)) (by omega)) (by decide) (jo_2 (frτ3.lay (frτ1.lay I.1))) kc_8 rfl rfl (Nat.le_of_ble_eq_true rfl) ⟨Nat.zero_le _, Nat.zero_le _⟩ dX8_feed_27 (fun r τ5 hp => ?_)
    obtain ⟨rfl, frτ5, eτ5_0, eτ5_1⟩ := hp
    refine z_aload_n (pc := 30) O dX8_feed_30 rfl ?_
    refine z_iload (pc := 31) O dX8_feed_31 rfl ?_
    refine z_callV (pc := 33) O cl_X8_77 (k8_writeNumber _ _ d (by omega) (frτ5.lay (frτ3.lay (frτ1.lay I.1))) (by omega)) (by decide) (jo_2 (frτ5.lay (frτ3.lay (frτ1.lay I.1)))) kc_8 rfl rfl (Nat.le_of_ble_eq_true rfl) ⟨Nat.zero_le _, Nat.zero_le _⟩ dX8_feed_33 (fun r τ7 hp => ?_)
    obtain ⟨rfl, frτ7, eτ7_0, eτ7_1⟩ := hp
    refine z_aload_n (pc := 36) O dX8_feed_36 rfl ?_
    refine z_iload (pc := 37) O dX8_feed_37 rfl ?_
    refine z_callV (pc := 39) O cl_X8_77 (k8_writeNumber _ _ e (by omega) (frτ7.lay (frτ5.lay (frτ3.lay (frτ1.lay I.1)))) (by omega)) (by decide) (jo_2 (frτ7.lay (frτ5.lay (frτ3.lay (frτ1.lay I.1))))) kc_8 rfl rfl (Nat.le_of_ble_eq_true rfl) ⟨Nat.zero_le _, Nat.zero_le _⟩ dX8_feed_39 (fun r τ9 hp => ?_)
    obtain ⟨rfl, frτ9, eτ9_0, eτ9_1⟩ := hp
    refine z_aload_n (pc := 42) O dX8_feed_42 rfl ?_
    refine zi_getv (pc := 43) (gI τ9 2 1) O fl_X8_74 rfl (jo_2 (frτ9.lay (frτ7.lay (frτ5.lay (frτ3.lay (frτ1.lay I.1)))))) (izg τ9 2 1) dX8_feed_43 ?_
    have := rgI τ9 2 1
    refine z_iret (pc := 46) O dX8_feed_46 ?_
    exact ⟨(gI τ9 2 1), rfl, (by omega), (by omega), ((((frτ1.tr frτ3).tr frτ5).tr frτ7).tr frτ9), (InvX.fr ((((frτ1.tr frτ3).tr frτ5).tr frτ7).tr frτ9) I (by unfold InvX1; have : gI τ9 9 7 = gI σ 9 7 := gI_iz (Fr.it frτ9 rfl (Fr.it frτ7 rfl (Fr.it frτ5 rfl (Fr.it frτ3 rfl (Fr.it frτ1 rfl (izg σ 9 7)))))) (rgI _ _ _); have : gI τ9 16 4 = gI σ 16 4 := gI_iz (Fr.it frτ9 rfl (Fr.it frτ7 rfl (Fr.it frτ5 rfl (Fr.it frτ3 rfl (Fr.it frτ1 rfl (izg σ 16 4)))))) (rgI _ _ _); have : gI τ9 21 4 = gI σ 21 4 := gI_iz (Fr.it frτ9 rfl (Fr.it frτ7 rfl (Fr.it frτ5 rfl (Fr.it frτ3 rfl (Fr.it frτ1 rfl (izg σ 21 4)))))) (rgI _ _ _); have : gI τ9 2 12 = gI σ 2 12 := gI_iz (Fr.it frτ9 rfl (Fr.it frτ7 rfl (Fr.it frτ5 rfl (Fr.it frτ3 rfl (Fr.it frτ1 rfl (izg σ 2 12)))))) (rgI _ _ _); have : gI τ9 27 3 = gI σ 27 3 := gI_iz (Fr.it frτ9 rfl (Fr.it frτ7 rfl (Fr.it frτ5 rfl (Fr.it frτ3 rfl (Fr.it frτ1 rfl (izg σ 27 3)))))) (rgI _ _ _); have : gI τ9 2 15 = gI σ 2 15 := gI_iz (Fr.it frτ9 rfl (Fr.it frτ7 rfl (Fr.it frτ5 rfl (Fr.it frτ3 rfl (Fr.it frτ1 rfl (izg σ 2 15)))))) (rgI _ _ _); have : gI τ9 2 7 = gI σ 2 7 := gI_iz (Fr.it frτ9 rfl (Fr.it frτ7 rfl (Fr.it frτ5 rfl (Fr.it frτ3 rfl (Fr.it frτ1 rfl (izg σ 2 7)))))) (rgI _ _ _); omega) (fun _ => rfl)), (by omega)⟩
  · refine z_iconst (pc := 13) (v := iz (-1)) O dX8_feed_13 (by decide) ?_
    refine z_iret (pc := 14) O dX8_feed_14 ?_
    exact ⟨(-1), rfl, (by decide), (by omega), (Fr.rf [(3, 99999), (2, 1)] σ), I, (by omega)⟩
set_option maxHeartbeats 4000000 in
set_option maxRecDepth 20000 in
theorem k8_later (l : Launch) (σ : VH) (d : Int) (rd : (-2147483648 ≤ d ∧ d < 2147483648)) (I : InvX σ) : Ct l yX8_later cX8_later 2 (some .int) 0 0 0 [.ref 2, .int (iz d)] σ (fun r τ => ∃ z : Int, r = some (.int (iz z)) ∧ (-2147483648 ≤ z ∧ z < 2147483648) ∧ ((z = -1 ∧ ¬ (0 ≤ d ∧ d ≤ 1000 ∧ gI σ 2 7 + d ≤ 100000)) ∨ (z = gI σ 2 7 + d ∧ (0 ≤ d ∧ d ≤ 1000 ∧ gI σ 2 7 + d ≤ 100000))) ∧ (Fr [(2, 7)] σ τ) ∧ (InvX τ) ∧ ((z = -1 ∧ gI τ 2 7 = gI σ 2 7) ∨ (0 ≤ z ∧ gI τ 2 7 = z))) := by
  refine Ct.enter rfl (Nat.le_of_ble_eq_true rfl) ?_
  intro κ γ hκ O hrc hrs
  subst hκ
  have i1 := I.2.1
  unfold InvX1 at i1
  refine z_iload_n (pc := 0) O dX8_later_0 rfl ?_
  refine zi_if_lt (pc := 1) (tgt := 22) O dX8_later_1 (by decide) (by omega) (fun h1 => ?_) (fun h1 => ?_)
  · refine z_iconst (pc := 22) (v := iz (-1)) O dX8_later_22 (by decide) ?_
    refine z_iret (pc := 23) O dX8_later_23 ?_
    exact ⟨(-1), rfl, (by decide), (by omega), (Fr.rf [(2, 7)] σ), I, (by omega)⟩
  · refine z_iload_n (pc := 4) O dX8_later_4 rfl ?_
    refine z_sipush (pc := 5) (v := iz (1000)) O dX8_later_5 (by decide) ?_
    refine zi_icmp_gt (pc := 8) (tgt := 22) O dX8_later_8 (by decide) (by omega) (by decide) (fun h8 => ?_) (fun h8 => ?_)
    · refine z_iconst (pc := 22) (v := iz (-1)) O dX8_later_22 (by decide) ?_
      refine z_iret (pc := 23) O dX8_later_23 ?_
      exact ⟨(-1), rfl, (by decide), (by omega), (Fr.rf [(2, 7)] σ), I, (by omega)⟩
    · refine z_aload_n (pc := 11) O dX8_later_11 rfl ?_
      refine zi_getv (pc := 12) (gI σ 2 7) O fl_X8_133 rfl (jo_2 I.1) (izg σ 2 7) dX8_later_12 ?_
      have := rgI σ 2 7
      refine z_iload_n (pc := 15) O dX8_later_15 rfl ?_
      refine zi_iadd (pc := 16) O dX8_later_16 ?_
      refine z_ldc (pc := 17) O tw_227 dX8_later_17 ?_
      refine zi_val (100000) (by decide) ?_
      refine zi_icmp_le (pc := 19) (tgt := 24) O dX8_later_19 (by decide) (by omega) (by decide) (fun h19 => ?_) (fun h19 => ?_)
      · refine z_aload_n (pc := 24) O dX8_later_24 rfl ?_
        refine z_dup (pc := 25) O dX8_later_25 rfl ?_
        refine zi_getv (pc := 26) (gI σ 2 7) O fl_X8_133 rfl (jo_2 I.1) (izg σ 2 7) dX8_later_26 ?_
        refine z_iload_n (pc := 29) O dX8_later_29 rfl ?_
        refine zi_iadd (pc := 30) O dX8_later_30 ?_
        refine z_putI (pc := 31) O fl_X8_133 rfl ⟨rfl, rfl⟩ (jo_2 I.1) dX8_later_31 ?_
        refine z_aload_n (pc := 34) O dX8_later_34 rfl ?_
        refine zi_getv (pc := 35) ((gI σ 2 7) + d) O fl_X8_133 rfl (jo_2 I.1) (hI_at _ _ _ _) dX8_later_35 ?_
        refine z_iret (pc := 38) O dX8_later_38 ?_
        exact ⟨((gI σ 2 7) + d), rfl, (by omega), (by omega), ((Fr.rf [(2, 7)] σ).pI rfl), (InvX.fr ((Fr.rf [(2, 7)] σ).pI rfl) I (by unfold InvX1; have : gI (sI σ 2 7 (iz ((gI σ 2 7) + d))) 2 1 = gI σ 2 1 := gI_iz (sk2t (by decide) (izg σ 2 1)) (rgI _ _ _); have : gI (sI σ 2 7 (iz ((gI σ 2 7) + d))) 9 7 = gI σ 9 7 := gI_iz (sk1t (by decide) (izg σ 9 7)) (rgI _ _ _); have : gI (sI σ 2 7 (iz ((gI σ 2 7) + d))) 16 4 = gI σ 16 4 := gI_iz (sk1t (by decide) (izg σ 16 4)) (rgI _ _ _); have : gI (sI σ 2 7 (iz ((gI σ 2 7) + d))) 21 4 = gI σ 21 4 := gI_iz (sk1t (by decide) (izg σ 21 4)) (rgI _ _ _); have : gI (sI σ 2 7 (iz ((gI σ 2 7) + d))) 2 12 = gI σ 2 12 := gI_iz (sk2t (by decide) (izg σ 2 12)) (rgI _ _ _); have : gI (sI σ 2 7 (iz ((gI σ 2 7) + d))) 27 3 = gI σ 27 3 := gI_iz (sk1t (by decide) (izg σ 27 3)) (rgI _ _ _); have : gI (sI σ 2 7 (iz ((gI σ 2 7) + d))) 2 15 = gI σ 2 15 := gI_iz (sk2t (by decide) (izg σ 2 15)) (rgI _ _ _); have : gI (sI σ 2 7 (iz ((gI σ 2 7) + d))) 2 7 = (gI σ 2 7) + d := gI_iz (hI_at _ _ _ _) (by omega); omega) (fun _ => rfl)), (by have : gI (sI σ 2 7 (iz ((gI σ 2 7) + d))) 2 7 = (gI σ 2 7) + d := gI_iz (hI_at _ _ _ _) (by omega); omega)⟩
      · refine z_iconst (pc := 22) (v := iz (-1)) O dX8_later_22 (by decide) ?_
        refine z_iret (pc := 23) O dX8_later_23 ?_
        exact ⟨(-1), rfl, (by decide), (by omega), (Fr.rf [(2, 7)] σ), I, (by omega)⟩
set_option maxHeartbeats 4000000 in
set_option maxRecDepth 20000 in
theorem k8_rate (l : Launch) (σ : VH) (k : Int) (rk : (-2147483648 ≤ k ∧ k < 2147483648)) (w : Int) (rw : (-2147483648 ≤ w ∧ w < 2147483648)) (I : InvX σ) : Ct l yX8_rate cX8_rate 3 (some .boolean) 1 0 0 [.ref 2, .int (iz k), .int (iz w)] σ (fun r τ => ∃ z : Int, r = some (.int (iz z)) ∧ (z = 0 ∨ z = 1) ∧ (z = 1 ↔ ((0 ≤ k ∧ k < 4) ∧ (0 ≤ w ∧ w ≤ 1000) ∧ gI σ 2 15 < 100)) ∧ (Fr [(31, 99999), (2, 15)] σ τ) ∧ (InvX τ) ∧ (gI τ 2 15 = gI σ 2 15 + z)) := by
  refine Ct.enter rfl (Nat.le_of_ble_eq_true rfl) ?_
  intro κ γ hκ O hrc hrs
  subst hκ
  have i1 := I.2.1
  unfold InvX1 at i1
  refine z_iload_n (pc := 0) O dX8_rate_0 rfl ?_
  refine z_callS (pc := 1) O cl_X8_208 (k8_isKind _ _ k (by omega)) (by decide) rfl rfl (Nat.le_of_ble_eq_true rfl) ⟨Nat.zero_le _, Nat.zero_le _⟩ dX8_rate_1 (fun r τ1 hp => ?_)
  obtain ⟨z2, rfl, fτ1_0, fτ1_1, rfl⟩ := hp
  refine zi_if_eq (pc := 4) (tgt := 27) O dX8_rate_4 (by decide) (by omega) (fun h4 => ?_) (fun h4 => ?_)
  · refine z_iconst (pc := 27) (v := iz (0)) O dX8_rate_27 (by decide) ?_
    refine z_zret (pc := 28) O dX8_rate_28 rfl ?_
    exact ⟨0, rfl, (by decide), (by omega), (Fr.rf [(31, 99999), (2, 15)] σ), I, (by omega)⟩
  · refine z_iload_n (pc := 7) O dX8_rate_7 rfl ?_
    refine zi_if_lt (pc := 8) (tgt := 27) O dX8_rate_8 (by decide) (by omega) (fun h8 => ?_) (fun h8 => ?_)
    · refine z_iconst (pc := 27) (v := iz (0)) O dX8_rate_27 (by decide) ?_
      refine z_zret (pc := 28) O dX8_rate_28 rfl ?_
      exact ⟨0, rfl, (by decide), (by omega), (Fr.rf [(31, 99999), (2, 15)] σ), I, (by omega)⟩
    · refine z_iload_n (pc := 11) O dX8_rate_11 rfl ?_
      refine z_sipush (pc := 12) (v := iz (1000)) O dX8_rate_12 (by decide) ?_
      refine zi_icmp_gt (pc := 15) (tgt := 27) O dX8_rate_15 (by decide) (by omega) (by decide) (fun h15 => ?_) (fun h15 => ?_)
      · refine z_iconst (pc := 27) (v := iz (0)) O dX8_rate_27 (by decide) ?_
        refine z_zret (pc := 28) O dX8_rate_28 rfl ?_
        exact ⟨0, rfl, (by decide), (by omega), (Fr.rf [(31, 99999), (2, 15)] σ), I, (by omega)⟩
      · refine z_aload_n (pc := 18) O dX8_rate_18 rfl ?_
        refine zi_getv (pc := 19) (gI σ 2 15) O fl_X8_211 rfl (jo_2 I.1) (izg σ 2 15) dX8_rate_19 ?_
        have := rgI σ 2 15
        refine z_bipush (pc := 22) (v := iz (100)) O dX8_rate_22 (by decide) ?_
        refine zi_icmp_lt (pc := 24) (tgt := 29) O dX8_rate_24 (by decide) (by omega) (by decide) (fun h24 => ?_) (fun h24 => ?_)
        · refine z_aload_n (pc := 29) O dX8_rate_29 rfl ?_
          refine z_getR (pc := 30) 31 O fl_X8_68 rfl (jo_2 I.1) (jr_2_14 I.1) dX8_rate_30 ?_
          refine z_iload_n (pc := 33) O dX8_rate_33 rfl ?_
          refine z_iload_n (pc := 34) O dX8_rate_34 rfl ?_
          refine zi_iast (pc := 35) (k.toNat) O (ja_31 I.1) (by omega) (by omega) (by omega) dX8_rate_35 ?_
          refine z_aload_n (pc := 36) O dX8_rate_36 rfl ?_
          refine z_dup (pc := 37) O dX8_rate_37 rfl ?_
          refine zi_getv (pc := 38) (gI σ 2 15) O fl_X8_211 rfl (jo_2 I.1) (sk1t (by decide) (izg σ 2 15)) dX8_rate_38 ?_
          refine z_iconst (pc := 41) (v := iz (1)) O dX8_rate_41 (by decide) ?_
          refine zi_iadd (pc := 42) O dX8_rate_42 ?_
          refine z_putI (pc := 43) O fl_X8_211 rfl ⟨rfl, rfl⟩ (jo_2 I.1) dX8_rate_43 ?_
          refine z_iconst (pc := 46) (v := iz (1)) O dX8_rate_46 (by decide) ?_
          refine z_zret (pc := 47) O dX8_rate_47 rfl ?_
          exact ⟨1, rfl, (by decide), (by omega), (((Fr.rf [(31, 99999), (2, 15)] σ).pI rfl).pI rfl), (InvX.fr (((Fr.rf [(31, 99999), (2, 15)] σ).pI rfl).pI rfl) I (by unfold InvX1; have : gI (sI (sI σ 31 (k.toNat) (iz w)) 2 15 (iz ((gI σ 2 15) + 1))) 2 1 = gI σ 2 1 := gI_iz (sk2t (by decide) (sk1t (by decide) (izg σ 2 1))) (rgI _ _ _); have : gI (sI (sI σ 31 (k.toNat) (iz w)) 2 15 (iz ((gI σ 2 15) + 1))) 9 7 = gI σ 9 7 := gI_iz (sk1t (by decide) (sk1t (by decide) (izg σ 9 7))) (rgI _ _ _); have : gI (sI (sI σ 31 (k.toNat) (iz w)) 2 15 (iz ((gI σ 2 15) + 1))) 16 4 = gI σ 16 4 := gI_iz (sk1t (by decide) (sk1t (by decide) (izg σ 16 4))) (rgI _ _ _); have : gI (sI (sI σ 31 (k.toNat) (iz w)) 2 15 (iz ((gI σ 2 15) + 1))) 21 4 = gI σ 21 4 := gI_iz (sk1t (by decide) (sk1t (by decide) (izg σ 21 4))) (rgI _ _ _); have : gI (sI (sI σ 31 (k.toNat) (iz w)) 2 15 (iz ((gI σ 2 15) + 1))) 2 12 = gI σ 2 12 := gI_iz (sk2t (by decide) (sk1t (by decide) (izg σ 2 12))) (rgI _ _ _); have : gI (sI (sI σ 31 (k.toNat) (iz w)) 2 15 (iz ((gI σ 2 15) + 1))) 27 3 = gI σ 27 3 := gI_iz (sk1t (by decide) (sk1t (by decide) (izg σ 27 3))) (rgI _ _ _); have : gI (sI (sI σ 31 (k.toNat) (iz w)) 2 15 (iz ((gI σ 2 15) + 1))) 2 15 = (gI σ 2 15) + 1 := gI_iz (hI_at _ _ _ _) (by omega); have : gI (sI (sI σ 31 (k.toNat) (iz w)) 2 15 (iz ((gI σ 2 15) + 1))) 2 7 = gI σ 2 7 := gI_iz (sk2t (by decide) (sk1t (by decide) (izg σ 2 7))) (rgI _ _ _); omega) (fun _ => rfl)), (by have : gI (sI (sI σ 31 (k.toNat) (iz w)) 2 15 (iz ((gI σ 2 15) + 1))) 2 15 = (gI σ 2 15) + 1 := gI_iz (hI_at _ _ _ _) (by omega); omega)⟩
        · refine z_iconst (pc := 27) (v := iz (0)) O dX8_rate_27 (by decide) ?_
          refine z_zret (pc := 28) O dX8_rate_28 rfl ?_
          exact ⟨0, rfl, (by decide), (by omega), (Fr.rf [(31, 99999), (2, 15)] σ), I, (by omega)⟩
