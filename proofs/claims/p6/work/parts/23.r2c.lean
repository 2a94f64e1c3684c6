set_option maxHeartbeats 4000000 in
set_option maxRecDepth 20000 in
theorem k9_pays (l : Launch) (σ : VH) (c : Int) (rc : (-2147483648 ≤ c ∧ c < 2147483648)) (p : Int) (rp : (-2147483648 ≤ p ∧ p < 2147483648)) (y : Int) (ry : (-2147483648 ≤ y ∧ y < 2147483648)) (I : InvM σ) : Ct l yX9_pays cX9_pays 5 (some .int) 4 0 0 [.ref 33, .int (iz c), .int (iz p), .int (iz y)] σ (fun r τ => ∃ z : Int, r = some (.int (iz z)) ∧ (-2147483648 ≤ z ∧ z < 2147483648) ∧ (Fr [(81, 99999), (82, 99999)] σ τ) ∧ (InvM τ)) := by
  refine Ct.enter rfl (Nat.le_of_ble_eq_true rfl) ?_
  intro κ γ hκ O hrc hrs
  subst hκ
  have i1 := I.2.1
  unfold InvM1 at i1
  have i2 := I.2.2.1.laws
  have i3 := I.2.2.2.1
  refine z_aload_n (pc := 0) O dX9_pays_0 rfl ?_
  refine z_iload_n (pc := 1) O dX9_pays_1 rfl ?_
  refine z_callV (pc := 2) O cl_X9_410 (k9_isCase _ _ c (by omega) I.1) (by decide) (jo_33 I.1) kc_9 rfl rfl (Nat.le_of_ble_eq_true rfl) ⟨Nat.zero_le _, Nat.zero_le _⟩ dX9_pays_2 (fun r τ1 hp => ?_)
  obtain ⟨z2, rfl, fτ1_0, fτ1_1, rfl⟩ := hp
  refine zi_if_eq (pc := 5) (tgt := 16) O dX9_pays_5 (by decide) (by omega) (fun h5 => ?_) (fun h5 => ?_)
  · refine z_iconst (pc := 16) (v := iz (-1)) O dX9_pays_16 (by decide) ?_
    refine z_iret (pc := 17) O dX9_pays_17 ?_
    exact ⟨(-1), rfl, (by decide), (Fr.rf [(81, 99999), (82, 99999)] σ), I⟩
  · refine z_aload_n (pc := 8) O dX9_pays_8 rfl ?_
    refine z_iload_n (pc := 9) O dX9_pays_9 rfl ?_
    refine z_callV (pc := 10) O cl_X9_356 (k9_isPerson _ _ p (by omega) I.1) (by decide) (jo_33 I.1) kc_9 rfl rfl (Nat.le_of_ble_eq_true rfl) ⟨Nat.zero_le _, Nat.zero_le _⟩ dX9_pays_10 (fun r τ3 hp => ?_)
    obtain ⟨z4, rfl, fτ3_0, fτ3_1, rfl⟩ := hp
    refine zi_if_ne (pc := 13) (tgt := 18) O dX9_pays_13 (by decide) (by omega) (fun h13 => ?_) (fun h13 => ?_)
    · have kc := I.2.2.2.2 c.toNat (by omega)
      unfold CaseM at kc
      refine z_aload_n (pc := 18) O dX9_pays_18 rfl ?_
      refine z_iload_n (pc := 19) O dX9_pays_19 rfl ?_
      refine z_iload_n (pc := 20) O dX9_pays_20 rfl ?_
      refine z_callV (pc := 21) O cl_X9_413 (k9_sumOf _ _ c (by omega) y (by omega) I (by omega)) (by decide) (jo_33 I.1) kc_9 rfl rfl (Nat.le_of_ble_eq_true rfl) ⟨Nat.zero_le _, Nat.zero_le _⟩ dX9_pays_21 (fun r τ5 hp => ?_)
      obtain ⟨z6, rfl, fτ5_0, fτ5_1, frτ5⟩ := hp
      refine z_istore (pc := 24) [(0, .ref 33), (1, .int (iz c)), (2, .int (iz p)), (3, .int (iz y)), (4, .int (iz z6))] O dX9_pays_24 (by decide) rfl ?_
      refine z_iload (pc := 26) O dX9_pays_26 rfl ?_
      refine zi_if_ge (pc := 28) (tgt := 35) O dX9_pays_28 (by decide) (by omega) (fun h28 => ?_) (fun h28 => ?_)
      · refine z_aload_n (pc := 35) O dX9_pays_35 rfl ?_
        refine z_iload_n (pc := 36) O dX9_pays_36 rfl ?_
        refine z_iload_n (pc := 37) O dX9_pays_37 rfl ?_
        refine z_aload_n (pc := 38) O dX9_pays_38 rfl ?_
        refine z_getR (pc := 39) 70 O fl_X9_125 rfl (jo_33 (frτ5.lay I.1)) (jr_33_55 (frτ5.lay I.1)) dX9_pays_39 ?_
        refine z_iload_n (pc := 42) O dX9_pays_42 rfl ?_
        refine zi_ialdv (pc := 43) (c.toNat) (gI σ 70 (c.toNat)) O (ja_70 (frτ5.lay I.1)) (by omega) (by omega) (by omega) (Fr.it frτ5 rfl (izg σ 70 (c.toNat))) dX9_pays_43 ?_
        have := rgI σ 70 (c.toNat)
        refine z_aload_n (pc := 44) O dX9_pays_44 rfl ?_
        refine z_getR (pc := 45) 71 O fl_X9_128 rfl (jo_33 (frτ5.lay I.1)) (jr_33_56 (frτ5.lay I.1)) dX9_pays_45 ?_
        refine z_iload_n (pc := 48) O dX9_pays_48 rfl ?_
        refine zi_ialdv (pc := 49) (c.toNat) (gI σ 71 (c.toNat)) O (ja_71 (frτ5.lay I.1)) (by omega) (by omega) (by omega) (Fr.it frτ5 rfl (izg σ 71 (c.toNat))) dX9_pays_49 ?_
        have := rgI σ 71 (c.toNat)
        refine z_iload (pc := 50) O dX9_pays_50 rfl ?_
        refine z_callV (pc := 52) O cl_X9_424 (k9_part _ _ c (by omega) p (by omega) (gI σ 70 (c.toNat)) (by omega) (gI σ 71 (c.toNat)) (by omega) z6 (by omega) (frτ5.lay I.1) (by have : gI τ5 33 52 = gI σ 33 52 := gI_iz (Fr.it frτ5 rfl (izg σ 33 52)) (rgI _ _ _); omega) (by have : gI τ5 33 33 = gI σ 33 33 := gI_iz (Fr.it frτ5 rfl (izg σ 33 33)) (rgI _ _ _); omega) (by omega) (by have : gI τ5 71 (c.toNat) = gI σ 71 (c.toNat) := gI_iz (Fr.it frτ5 rfl (izg σ 71 (c.toNat))) (rgI _ _ _); omega) (by omega) (by omega) (by rw [lffc_fr frτ5 (fun _ => rfl) (fun _ => rfl) (fun _ => rfl) (fun _ => rfl) (fun _ => rfl) rfl]; omega) (by rw [lffc_fr frτ5 (fun _ => rfl) (fun _ => rfl) (fun _ => rfl) (fun _ => rfl) (fun _ => rfl) rfl]; exact (Bank.fr frτ5 (I.2.2.1.bank (by omega) (lffc_lt I)) (fun _ => rfl) (fun _ => rfl) (fun _ => rfl) (fun _ => rfl) (fun _ => rfl) (fun _ => rfl) (fun _ => rfl)))) (by decide) (jo_33 (frτ5.lay I.1)) kc_9 rfl rfl (Nat.le_of_ble_eq_true rfl) ⟨Nat.zero_le _, Nat.zero_le _⟩ dX9_pays_52 (fun r τ7 hp => ?_)
        obtain ⟨z8, rfl, fτ7_0, rfl⟩ := hp
        refine z_iret (pc := 55) O dX9_pays_55 ?_
        exact ⟨z8, rfl, (by omega), frτ5, (InvM.fr frτ5 I (by unfold InvM1; have : gI τ5 33 2 = gI σ 33 2 := gI_iz (Fr.it frτ5 rfl (izg σ 33 2)) (rgI _ _ _); have : gI τ5 33 52 = gI σ 33 52 := gI_iz (Fr.it frτ5 rfl (izg σ 33 52)) (rgI _ _ _); have : gI τ5 33 53 = gI σ 33 53 := gI_iz (Fr.it frτ5 rfl (izg σ 33 53)) (rgI _ _ _); have : gI τ5 33 54 = gI σ 33 54 := gI_iz (Fr.it frτ5 rfl (izg σ 33 54)) (rgI _ _ _); have : gI τ5 33 73 = gI σ 33 73 := gI_iz (Fr.it frτ5 rfl (izg σ 33 73)) (rgI _ _ _); have : gI τ5 33 74 = gI σ 33 74 := gI_iz (Fr.it frτ5 rfl (izg σ 33 74)) (rgI _ _ _); have : gI τ5 33 6 = gI σ 33 6 := gI_iz (Fr.it frτ5 rfl (izg σ 33 6)) (rgI _ _ _); omega) rfl)⟩
      · refine z_iconst (pc := 31) (v := iz (-1)) O dX9_pays_31 (by decide) ?_
        refine z_goto (pc := 32) (tgt := 55) O dX9_pays_32 (by decide) ?_
        refine z_iret (pc := 55) O dX9_pays_55 ?_
        exact ⟨(-1), rfl, (by decide), frτ5, (InvM.fr frτ5 I (by unfold InvM1; have : gI τ5 33 2 = gI σ 33 2 := gI_iz (Fr.it frτ5 rfl (izg σ 33 2)) (rgI _ _ _); have : gI τ5 33 52 = gI σ 33 52 := gI_iz (Fr.it frτ5 rfl (izg σ 33 52)) (rgI _ _ _); have : gI τ5 33 53 = gI σ 33 53 := gI_iz (Fr.it frτ5 rfl (izg σ 33 53)) (rgI _ _ _); have : gI τ5 33 54 = gI σ 33 54 := gI_iz (Fr.it frτ5 rfl (izg σ 33 54)) (rgI _ _ _); have : gI τ5 33 73 = gI σ 33 73 := gI_iz (Fr.it frτ5 rfl (izg σ 33 73)) (rgI _ _ _); have : gI τ5 33 74 = gI σ 33 74 := gI_iz (Fr.it frτ5 rfl (izg σ 33 74)) (rgI _ _ _); have : gI τ5 33 6 = gI σ 33 6 := gI_iz (Fr.it frτ5 rfl (izg σ 33 6)) (rgI _ _ _); omega) rfl)⟩
    · refine z_iconst (pc := 16) (v := iz (-1)) O dX9_pays_16 (by decide) ?_
      refine z_iret (pc := 17) O dX9_pays_17 ?_
      exact ⟨(-1), rfl, (by decide), (Fr.rf [(81, 99999), (82, 99999)] σ), I⟩
set_option maxHeartbeats 4000000 in
set_option maxRecDepth 20000 in
theorem k9_has (l : Launch) (σ : VH) (c : Int) (rc : (-2147483648 ≤ c ∧ c < 2147483648)) (p : Int) (rp : (-2147483648 ≤ p ∧ p < 2147483648)) (y : Int) (ry : (-2147483648 ≤ y ∧ y < 2147483648)) (I : InvM σ) : Ct l yX9_has cX9_has 5 (some .int) 4 0 0 [.ref 33, .int (iz c), .int (iz p), .int (iz y)] σ (fun r τ => ∃ z : Int, r = some (.int (iz z)) ∧ (-2147483648 ≤ z ∧ z < 2147483648) ∧ (Fr [(81, 99999), (82, 99999)] σ τ) ∧ (InvM τ)) := by
  refine Ct.enter rfl (Nat.le_of_ble_eq_true rfl) ?_
  intro κ γ hκ O hrc hrs
  subst hκ
  have i1 := I.2.1
  unfold InvM1 at i1
  have i2 := I.2.2.1.laws
  have i3 := I.2.2.2.1
  refine z_aload_n (pc := 0) O dX9_has_0 rfl ?_
  refine z_iload_n (pc := 1) O dX9_has_1 rfl ?_
  refine z_callV (pc := 2) O cl_X9_410 (k9_isCase _ _ c (by omega) I.1) (by decide) (jo_33 I.1) kc_9 rfl rfl (Nat.le_of_ble_eq_true rfl) ⟨Nat.zero_le _, Nat.zero_le _⟩ dX9_has_2 (fun r τ1 hp => ?_)
  obtain ⟨z2, rfl, fτ1_0, fτ1_1, rfl⟩ := hp
  refine zi_if_eq (pc := 5) (tgt := 16) O dX9_has_5 (by decide) (by omega) (fun h5 => ?_) (fun h5 => ?_)
  · refine z_iconst (pc := 16) (v := iz (-1)) O dX9_has_16 (by decide) ?_
    refine z_iret (pc := 17) O dX9_has_17 ?_
    exact ⟨(-1), rfl, (by decide), (Fr.rf [(81, 99999), (82, 99999)] σ), I⟩
  · refine z_aload_n (pc := 8) O dX9_has_8 rfl ?_
    refine z_iload_n (pc := 9) O dX9_has_9 rfl ?_
    refine z_callV (pc := 10) O cl_X9_356 (k9_isPerson _ _ p (by omega) I.1) (by decide) (jo_33 I.1) kc_9 rfl rfl (Nat.le_of_ble_eq_true rfl) ⟨Nat.zero_le _, Nat.zero_le _⟩ dX9_has_10 (fun r τ3 hp => ?_)
    obtain ⟨z4, rfl, fτ3_0, fτ3_1, rfl⟩ := hp
    refine zi_if_ne (pc := 13) (tgt := 18) O dX9_has_13 (by decide) (by omega) (fun h13 => ?_) (fun h13 => ?_)
    · have kc := I.2.2.2.2 c.toNat (by omega)
      unfold CaseM at kc
      refine z_aload_n (pc := 18) O dX9_has_18 rfl ?_
      refine z_iload_n (pc := 19) O dX9_has_19 rfl ?_
      refine z_iload_n (pc := 20) O dX9_has_20 rfl ?_
      refine z_callV (pc := 21) O cl_X9_413 (k9_sumOf _ _ c (by omega) y (by omega) I (by omega)) (by decide) (jo_33 I.1) kc_9 rfl rfl (Nat.le_of_ble_eq_true rfl) ⟨Nat.zero_le _, Nat.zero_le _⟩ dX9_has_21 (fun r τ5 hp => ?_)
      obtain ⟨z6, rfl, fτ5_0, fτ5_1, frτ5⟩ := hp
      refine z_istore (pc := 24) [(0, .ref 33), (1, .int (iz c)), (2, .int (iz p)), (3, .int (iz y)), (4, .int (iz z6))] O dX9_has_24 (by decide) rfl ?_
      refine z_iload (pc := 26) O dX9_has_26 rfl ?_
      refine zi_if_ge (pc := 28) (tgt := 35) O dX9_has_28 (by decide) (by omega) (fun h28 => ?_) (fun h28 => ?_)
      · refine z_aload_n (pc := 35) O dX9_has_35 rfl ?_
        refine z_iload_n (pc := 36) O dX9_has_36 rfl ?_
        refine z_iload_n (pc := 37) O dX9_has_37 rfl ?_
        refine z_aload_n (pc := 38) O dX9_has_38 rfl ?_
        refine z_getR (pc := 39) 71 O fl_X9_128 rfl (jo_33 (frτ5.lay I.1)) (jr_33_56 (frτ5.lay I.1)) dX9_has_39 ?_
        refine z_iload_n (pc := 42) O dX9_has_42 rfl ?_
        refine zi_ialdv (pc := 43) (c.toNat) (gI σ 71 (c.toNat)) O (ja_71 (frτ5.lay I.1)) (by omega) (by omega) (by omega) (Fr.it frτ5 rfl (izg σ 71 (c.toNat))) dX9_has_43 ?_
        have := rgI σ 71 (c.toNat)
        refine z_aload_n (pc := 44) O dX9_has_44 rfl ?_
        refine z_getR (pc := 45) 70 O fl_X9_125 rfl (jo_33 (frτ5.lay I.1)) (jr_33_55 (frτ5.lay I.1)) dX9_has_45 ?_
        refine z_iload_n (pc := 48) O dX9_has_48 rfl ?_
        refine zi_ialdv (pc := 49) (c.toNat) (gI σ 70 (c.toNat)) O (ja_70 (frτ5.lay I.1)) (by omega) (by omega) (by omega) (Fr.it frτ5 rfl (izg σ 70 (c.toNat))) dX9_has_49 ?_
        have := rgI σ 70 (c.toNat)
        refine z_iload (pc := 50) O dX9_has_50 rfl ?_
        refine z_callV (pc := 52) O cl_X9_424 (k9_part _ _ c (by omega) p (by omega) (gI σ 71 (c.toNat)) (by omega) (gI σ 70 (c.toNat)) (by omega) z6 (by omega) (frτ5.lay I.1) (by have : gI τ5 33 52 = gI σ 33 52 := gI_iz (Fr.it frτ5 rfl (izg σ 33 52)) (rgI _ _ _); omega) (by have : gI τ5 33 33 = gI σ 33 33 := gI_iz (Fr.it frτ5 rfl (izg σ 33 33)) (rgI _ _ _); omega) (by omega) (by have : gI τ5 71 (c.toNat) = gI σ 71 (c.toNat) := gI_iz (Fr.it frτ5 rfl (izg σ 71 (c.toNat))) (rgI _ _ _); omega) (by omega) (by omega) (by rw [lffc_fr frτ5 (fun _ => rfl) (fun _ => rfl) (fun _ => rfl) (fun _ => rfl) (fun _ => rfl) rfl]; omega) (by rw [lffc_fr frτ5 (fun _ => rfl) (fun _ => rfl) (fun _ => rfl) (fun _ => rfl) (fun _ => rfl) rfl]; exact (Bank.fr frτ5 (I.2.2.1.bank (by omega) (lffc_lt I)) (fun _ => rfl) (fun _ => rfl) (fun _ => rfl) (fun _ => rfl) (fun _ => rfl) (fun _ => rfl) (fun _ => rfl)))) (by decide) (jo_33 (frτ5.lay I.1)) kc_9 rfl rfl (Nat.le_of_ble_eq_true rfl) ⟨Nat.zero_le _, Nat.zero_le _⟩ dX9_has_52 (fun r τ7 hp => ?_)
        obtain ⟨z8, rfl, fτ7_0, rfl⟩ := hp
        refine z_iret (pc := 55) O dX9_has_55 ?_
        exact ⟨z8, rfl, (by omega), frτ5, (InvM.fr frτ5 I (by unfold InvM1; have : gI τ5 33 2 = gI σ 33 2 := gI_iz (Fr.it frτ5 rfl (izg σ 33 2)) (rgI _ _ _); have : gI τ5 33 52 = gI σ 33 52 := gI_iz (Fr.it frτ5 rfl (izg σ 33 52)) (rgI _ _ _); have : gI τ5 33 53 = gI σ 33 53 := gI_iz (Fr.it frτ5 rfl (izg σ 33 53)) (rgI _ _ _); have : gI τ5 33 54 = gI σ 33 54 := gI_iz (Fr.it frτ5 rfl (izg σ 33 54)) (rgI _ _ _); have : gI τ5 33 73 = gI σ 33 73 := gI_iz (Fr.it frτ5 rfl (izg σ 33 73)) (rgI _ _ _); have : gI τ5 33 74 = gI σ 33 74 := gI_iz (Fr.it frτ5 rfl (izg σ 33 74)) (rgI _ _ _); have : gI τ5 33 6 = gI σ 33 6 := gI_iz (Fr.it frτ5 rfl (izg σ 33 6)) (rgI _ _ _); omega) rfl)⟩
      · refine z_iconst (pc := 31) (v := iz (-1)) O dX9_has_31 (by decide) ?_
        refine z_goto (pc := 32) (tgt := 55) O dX9_has_32 (by decide) ?_
        refine z_iret (pc := 55) O dX9_has_55 ?_
        exact ⟨(-1), rfl, (by decide), frτ5, (InvM.fr frτ5 I (by unfold InvM1; have : gI τ5 33 2 = gI σ 33 2 := gI_iz (Fr.it frτ5 rfl (izg σ 33 2)) (rgI _ _ _); have : gI τ5 33 52 = gI σ 33 52 := gI_iz (Fr.it frτ5 rfl (izg σ 33 52)) (rgI _ _ _); have : gI τ5 33 53 = gI σ 33 53 := gI_iz (Fr.it frτ5 rfl (izg σ 33 53)) (rgI _ _ _); have : gI τ5 33 54 = gI σ 33 54 := gI_iz (Fr.it frτ5 rfl (izg σ 33 54)) (rgI _ _ _); have : gI τ5 33 73 = gI σ 33 73 := gI_iz (Fr.it frτ5 rfl (izg σ 33 73)) (rgI _ _ _); have : gI τ5 33 74 = gI σ 33 74 := gI_iz (Fr.it frτ5 rfl (izg σ 33 74)) (rgI _ _ _); have : gI τ5 33 6 = gI σ 33 6 := gI_iz (Fr.it frτ5 rfl (izg σ 33 6)) (rgI _ _ _); omega) rfl)⟩
    · refine z_iconst (pc := 16) (v := iz (-1)) O dX9_has_16 (by decide) ?_
      refine z_iret (pc := 17) O dX9_has_17 ?_
      exact ⟨(-1), rfl, (by decide), (Fr.rf [(81, 99999), (82, 99999)] σ), I⟩
set_option maxHeartbeats 4000000 in
set_option maxRecDepth 20000 in
theorem k9_judge (l : Launch) (σ : VH) (c : Int) (rc : (-2147483648 ≤ c ∧ c < 2147483648)) (I : InvM σ) : Ct l yX9_judge cX9_judge 3 (some .int) 4 0 0 [.ref 33, .int (iz c)] σ (fun r τ => ∃ z : Int, r = some (.int (iz z)) ∧ (-2147483648 ≤ z ∧ z < 2147483648) ∧ (Fr [(81, 99999), (82, 99999), (75, 99999), (76, 99999), (77, 99999), (78, 99999)] σ τ) ∧ (InvM τ)) := by
  refine Ct.enter rfl (Nat.le_of_ble_eq_true rfl) ?_
  intro κ γ hκ O hrc hrs
  subst hκ
  have i1 := I.2.1
  unfold InvM1 at i1
  have i2 := I.2.2.1.laws
  have i3 := I.2.2.2.1
  refine z_aload_n (pc := 0) O dX9_judge_0 rfl ?_
  refine z_iload_n (pc := 1) O dX9_judge_1 rfl ?_
  refine z_callV (pc := 2) O cl_X9_410 (k9_isCase _ _ c (by omega) I.1) (by decide) (jo_33 I.1) kc_9 rfl rfl (Nat.le_of_ble_eq_true rfl) ⟨Nat.zero_le _, Nat.zero_le _⟩ dX9_judge_2 (fun r τ1 hp => ?_)
  obtain ⟨z2, rfl, fτ1_0, fτ1_1, rfl⟩ := hp
  refine zi_if_eq (pc := 5) (tgt := 17) O dX9_judge_5 (by decide) (by omega) (fun h5 => ?_) (fun h5 => ?_)
  · refine z_iconst (pc := 17) (v := iz (-1)) O dX9_judge_17 (by decide) ?_
    refine z_iret (pc := 18) O dX9_judge_18 ?_
    exact ⟨(-1), rfl, (by decide), (Fr.rf [(81, 99999), (82, 99999), (75, 99999), (76, 99999), (77, 99999), (78, 99999)] σ), I⟩
  · have kc := I.2.2.2.2 c.toNat (by omega)
    unfold CaseM at kc
    refine z_aload_n (pc := 8) O dX9_judge_8 rfl ?_
    refine z_getR (pc := 9) 75 O fl_X9_140 rfl (jo_33 I.1) (jr_33_60 I.1) dX9_judge_9 ?_
    refine z_iload_n (pc := 12) O dX9_judge_12 rfl ?_
    refine zi_ialdv (pc := 13) (c.toNat) (gI σ 75 (c.toNat)) O (ja_75 I.1) (by omega) (by omega) (by omega) (izg σ 75 (c.toNat)) dX9_judge_13 ?_
    have := rgI σ 75 (c.toNat)
    refine zi_if_lt (pc := 14) (tgt := 19) O dX9_judge_14 (by decide) (by omega) (fun h14 => ?_) (fun h14 => ?_)
    · refine z_aload_n (pc := 19) O dX9_judge_19 rfl ?_
      refine z_iload_n (pc := 20) O dX9_judge_20 rfl ?_
      refine z_aload_n (pc := 21) O dX9_judge_21 rfl ?_
      refine zi_getv (pc := 22) (gI σ 33 6) O fl_X9_365 rfl (jo_33 I.1) (izg σ 33 6) dX9_judge_22 ?_
      have := rgI σ 33 6
      refine z_callV (pc := 25) O cl_X9_413 (k9_sumOf _ _ c (by omega) (gI σ 33 6) (by omega) I (by omega)) (by decide) (jo_33 I.1) kc_9 rfl rfl (Nat.le_of_ble_eq_true rfl) ⟨Nat.zero_le _, Nat.zero_le _⟩ dX9_judge_25 (fun r τ3 hp => ?_)
      obtain ⟨z4, rfl, fτ3_0, fτ3_1, frτ3⟩ := hp
      refine z_istore_n (pc := 28) [(0, .ref 33), (1, .int (iz c)), (2, .int (iz z4))] O dX9_judge_28 (by decide) rfl ?_
      refine z_iload_n (pc := 29) O dX9_judge_29 rfl ?_
      refine zi_if_ge (pc := 30) (tgt := 35) O dX9_judge_30 (by decide) (by omega) (fun h30 => ?_) (fun h30 => ?_)
      · refine z_aload_n (pc := 35) O dX9_judge_35 rfl ?_
        refine z_getR (pc := 36) 75 O fl_X9_140 rfl (jo_33 (frτ3.lay I.1)) (jr_33_60 (frτ3.lay I.1)) dX9_judge_36 ?_
        refine z_iload_n (pc := 39) O dX9_judge_39 rfl ?_
        refine z_aload_n (pc := 40) O dX9_judge_40 rfl ?_
        refine zi_getv (pc := 41) (gI σ 33 6) O fl_X9_365 rfl (jo_33 (frτ3.lay I.1)) (Fr.it frτ3 rfl (izg σ 33 6)) dX9_judge_41 ?_
        refine zi_iast (pc := 44) (c.toNat) O (ja_75 (frτ3.lay I.1)) (by omega) (by omega) (by omega) dX9_judge_44 ?_
        refine z_aload_n (pc := 45) O dX9_judge_45 rfl ?_
        refine z_getR (pc := 46) 76 O fl_X9_143 rfl (jo_33 (frτ3.lay I.1)) (jr_33_61 (frτ3.lay I.1)) dX9_judge_46 ?_
        refine z_iload_n (pc := 49) O dX9_judge_49 rfl ?_
        refine z_iload_n (pc := 50) O dX9_judge_50 rfl ?_
        refine zi_iast (pc := 51) (c.toNat) O (ja_76 (frτ3.lay I.1)) (by omega) (by omega) (by omega) dX9_judge_51 ?_
        refine z_aload_n (pc := 52) O dX9_judge_52 rfl ?_
        refine z_getR (pc := 53) 77 O fl_X9_146 rfl (jo_33 (frτ3.lay I.1)) (jr_33_62 (frτ3.lay I.1)) dX9_judge_53 ?_
        refine z_iload_n (pc := 56) O dX9_judge_56 rfl ?_
        refine z_aload_n (pc := 57) O dX9_judge_57 rfl ?_
        refine z_getR (pc := 58) 49 O fl_X9_60 rfl (jo_33 (frτ3.lay I.1)) (jr_33_25 (frτ3.lay I.1)) dX9_judge_58 ?_
        refine z_aload_n (pc := 61) O dX9_judge_61 rfl ?_
        refine z_iload_n (pc := 62) O dX9_judge_62 rfl ?_
        have lja : lffc (sI (sI τ3 75 (c.toNat) (iz (gI σ 33 6))) 76 (c.toNat) (iz z4)) c = lffc σ c := lffc_fr (((frτ3.mono (V := [(81, 99999), (82, 99999), (75, 99999), (76, 99999), (77, 99999), (78, 99999)]) rfl).pI rfl).pI rfl) (fun _ => rfl) (fun _ => rfl) (fun _ => rfl) (fun _ => rfl) (fun _ => rfl) rfl
        refine z_callV (pc := 63) O cl_X9_386 (k9_lawOf _ _ c (by omega) (frτ3.lay I.1) (by have : gI (sI (sI τ3 75 (c.toNat) (iz (gI σ 33 6))) 76 (c.toNat) (iz z4)) 33 33 = gI σ 33 33 := gI_iz (sk1t (by decide) (sk1t (by decide) (Fr.it frτ3 rfl (izg σ 33 33)))) (rgI _ _ _); omega) (by omega) (by have : gI (sI (sI τ3 75 (c.toNat) (iz (gI σ 33 6))) 76 (c.toNat) (iz z4)) 71 (c.toNat) = gI σ 71 (c.toNat) := gI_iz (sk1t (by decide) (sk1t (by decide) (Fr.it frτ3 rfl (izg σ 71 (c.toNat))))) (rgI _ _ _); omega)) (by decide) (jo_33 (frτ3.lay I.1)) kc_9 rfl rfl (Nat.le_of_ble_eq_true rfl) ⟨Nat.zero_le _, Nat.zero_le _⟩ dX9_judge_63 (fun r τ5 hp => ?_)
        obtain ⟨z6, rfl, fτ5_0, fτ5_1, fτ5_2, rfl⟩ := hp
        have : gI (sI (sI τ3 75 (c.toNat) (iz (gI σ 33 6))) 76 (c.toNat) (iz z4)) 33 33 = gI σ 33 33 := gI_iz (sk1t (by decide) (sk1t (by decide) (Fr.it frτ3 rfl (izg σ 33 33)))) (rgI _ _ _)
        have bk1 := I.2.2.1.bank (b := lffc σ c) (by omega) (lffc_lt I)
        have bk2 : (z6).toNat = (lffc σ c).toNat := by omega
        rw [← bk2] at bk1
        unfold Bank at bk1
        refine zi_ialdv (pc := 66) (z6.toNat) (gI σ 49 (z6.toNat)) O (ja_49 (frτ3.lay I.1)) (by omega) (by omega) (by omega) (sk1t (by decide) (sk1t (by decide) (Fr.it frτ3 rfl (izg σ 49 (z6.toNat))))) dX9_judge_66 ?_
        have := rgI σ 49 (z6.toNat)
        refine zi_iast (pc := 67) (c.toNat) O (ja_77 (frτ3.lay I.1)) (by omega) (by omega) (by omega) dX9_judge_67 ?_
        refine z_aload_n (pc := 68) O dX9_judge_68 rfl ?_
        refine z_getR (pc := 69) 78 O fl_X9_149 rfl (jo_33 (frτ3.lay I.1)) (jr_33_63 (frτ3.lay I.1)) dX9_judge_69 ?_
        refine z_iload_n (pc := 72) O dX9_judge_72 rfl ?_
        refine z_aload_n (pc := 73) O dX9_judge_73 rfl ?_
        refine z_getR (pc := 74) 50 O fl_X9_63 rfl (jo_33 (frτ3.lay I.1)) (jr_33_26 (frτ3.lay I.1)) dX9_judge_74 ?_
        refine z_aload_n (pc := 77) O dX9_judge_77 rfl ?_
        refine z_iload_n (pc := 78) O dX9_judge_78 rfl ?_
        have ljb : lffc (sI (sI (sI τ3 75 (c.toNat) (iz (gI σ 33 6))) 76 (c.toNat) (iz z4)) 77 (c.toNat) (iz (gI σ 49 (z6.toNat)))) c = lffc σ c := lffc_fr ((((frτ3.mono (V := [(81, 99999), (82, 99999), (75, 99999), (76, 99999), (77, 99999), (78, 99999)]) rfl).pI rfl).pI rfl).pI rfl) (fun _ => rfl) (fun _ => rfl) (fun _ => rfl) (fun _ => rfl) (fun _ => rfl) rfl
        refine z_callV (pc := 79) O cl_X9_386 (k9_lawOf _ _ c (by omega) (frτ3.lay I.1) (by have : gI (sI (sI (sI τ3 75 (c.toNat) (iz (gI σ 33 6))) 76 (c.toNat) (iz z4)) 77 (c.toNat) (iz (gI σ 49 (z6.toNat)))) 33 33 = gI σ 33 33 := gI_iz (sk1t (by decide) (sk1t (by decide) (sk1t (by decide) (Fr.it frτ3 rfl (izg σ 33 33))))) (rgI _ _ _); omega) (by omega) (by have : gI (sI (sI (sI τ3 75 (c.toNat) (iz (gI σ 33 6))) 76 (c.toNat) (iz z4)) 77 (c.toNat) (iz (gI σ 49 (z6.toNat)))) 71 (c.toNat) = gI σ 71 (c.toNat) := gI_iz (sk1t (by decide) (sk1t (by decide) (sk1t (by decide) (Fr.it frτ3 rfl (izg σ 71 (c.toNat)))))) (rgI _ _ _); omega)) (by decide) (jo_33 (frτ3.lay I.1)) kc_9 rfl rfl (Nat.le_of_ble_eq_true rfl) ⟨Nat.zero_le _, Nat.zero_le _⟩ dX9_judge_79 (fun r τ7 hp => ?_)
        obtain ⟨z8, rfl, fτ7_0, fτ7_1, fτ7_2, rfl⟩ := hp
        have : gI (sI (sI (sI τ3 75 (c.toNat) (iz (gI σ 33 6))) 76 (c.toNat) (iz z4)) 77 (c.toNat) (iz (gI σ 49 (z6.toNat)))) 33 33 = gI σ 33 33 := gI_iz (sk1t (by decide) (sk1t (by decide) (sk1t (by decide) (Fr.it frτ3 rfl (izg σ 33 33))))) (rgI _ _ _)
        refine zi_ialdv (pc := 82) (z8.toNat) (gI σ 50 (z8.toNat)) O (ja_50 (frτ3.lay I.1)) (by omega) (by omega) (by omega) (sk1t (by decide) (sk1t (by decide) (sk1t (by decide) (Fr.it frτ3 rfl (izg σ 50 (z8.toNat)))))) dX9_judge_82 ?_
        have := rgI σ 50 (z8.toNat)
        refine zi_iast (pc := 83) (c.toNat) O (ja_78 (frτ3.lay I.1)) (by omega) (by omega) (by omega) dX9_judge_83 ?_
        refine z_iload_n (pc := 84) O dX9_judge_84 rfl ?_
        refine z_iret (pc := 85) O dX9_judge_85 ?_
        have FR : Fr [(81, 99999), (82, 99999), (75, 99999), (76, 99999), (77, 99999), (78, 99999)] σ (sI (sI (sI (sI τ3 75 (c.toNat) (iz (gI σ 33 6))) 76 (c.toNat) (iz z4)) 77 (c.toNat) (iz (gI σ 49 (z6.toNat)))) 78 (c.toNat) (iz (gI σ 50 (z8.toNat)))) := (((((frτ3.mono (V := [(81, 99999), (82, 99999), (75, 99999), (76, 99999), (77, 99999), (78, 99999)]) rfl).pI rfl).pI rfl).pI rfl).pI rfl)
        have q77 : gI (sI (sI (sI (sI τ3 75 (c.toNat) (iz (gI σ 33 6))) 76 (c.toNat) (iz z4)) 77 (c.toNat) (iz (gI σ 49 (z6.toNat)))) 78 (c.toNat) (iz (gI σ 50 (z8.toNat)))) 77 (c.toNat) = gI σ 49 (z6.toNat) := gI_iz (sk1t (by decide) (hI_at _ _ _ _)) (by omega)
        have i1' : InvM1 (sI (sI (sI (sI τ3 75 (c.toNat) (iz (gI σ 33 6))) 76 (c.toNat) (iz z4)) 77 (c.toNat) (iz (gI σ 49 (z6.toNat)))) 78 (c.toNat) (iz (gI σ 50 (z8.toNat)))) := by
          unfold InvM1
          have : gI (sI (sI (sI (sI τ3 75 (c.toNat) (iz (gI σ 33 6))) 76 (c.toNat) (iz z4)) 77 (c.toNat) (iz (gI σ 49 (z6.toNat)))) 78 (c.toNat) (iz (gI σ 50 (z8.toNat)))) 33 2 = gI σ 33 2 := gI_iz (sk1t (by decide) (sk1t (by decide) (sk1t (by decide) (sk1t (by decide) (Fr.it frτ3 rfl (izg σ 33 2)))))) (rgI _ _ _); have : gI (sI (sI (sI (sI τ3 75 (c.toNat) (iz (gI σ 33 6))) 76 (c.toNat) (iz z4)) 77 (c.toNat) (iz (gI σ 49 (z6.toNat)))) 78 (c.toNat) (iz (gI σ 50 (z8.toNat)))) 33 52 = gI σ 33 52 := gI_iz (sk1t (by decide) (sk1t (by decide) (sk1t (by decide) (sk1t (by decide) (Fr.it frτ3 rfl (izg σ 33 52)))))) (rgI _ _ _); have : gI (sI (sI (sI (sI τ3 75 (c.toNat) (iz (gI σ 33 6))) 76 (c.toNat) (iz z4)) 77 (c.toNat) (iz (gI σ 49 (z6.toNat)))) 78 (c.toNat) (iz (gI σ 50 (z8.toNat)))) 33 53 = gI σ 33 53 := gI_iz (sk1t (by decide) (sk1t (by decide) (sk1t (by decide) (sk1t (by decide) (Fr.it frτ3 rfl (izg σ 33 53)))))) (rgI _ _ _); have : gI (sI (sI (sI (sI τ3 75 (c.toNat) (iz (gI σ 33 6))) 76 (c.toNat) (iz z4)) 77 (c.toNat) (iz (gI σ 49 (z6.toNat)))) 78 (c.toNat) (iz (gI σ 50 (z8.toNat)))) 33 54 = gI σ 33 54 := gI_iz (sk1t (by decide) (sk1t (by decide) (sk1t (by decide) (sk1t (by decide) (Fr.it frτ3 rfl (izg σ 33 54)))))) (rgI _ _ _); have : gI (sI (sI (sI (sI τ3 75 (c.toNat) (iz (gI σ 33 6))) 76 (c.toNat) (iz z4)) 77 (c.toNat) (iz (gI σ 49 (z6.toNat)))) 78 (c.toNat) (iz (gI σ 50 (z8.toNat)))) 33 73 = gI σ 33 73 := gI_iz (sk1t (by decide) (sk1t (by decide) (sk1t (by decide) (sk1t (by decide) (Fr.it frτ3 rfl (izg σ 33 73)))))) (rgI _ _ _); have : gI (sI (sI (sI (sI τ3 75 (c.toNat) (iz (gI σ 33 6))) 76 (c.toNat) (iz z4)) 77 (c.toNat) (iz (gI σ 49 (z6.toNat)))) 78 (c.toNat) (iz (gI σ 50 (z8.toNat)))) 33 74 = gI σ 33 74 := gI_iz (sk1t (by decide) (sk1t (by decide) (sk1t (by decide) (sk1t (by decide) (Fr.it frτ3 rfl (izg σ 33 74)))))) (rgI _ _ _); have : gI (sI (sI (sI (sI τ3 75 (c.toNat) (iz (gI σ 33 6))) 76 (c.toNat) (iz z4)) 77 (c.toNat) (iz (gI σ 49 (z6.toNat)))) 78 (c.toNat) (iz (gI σ 50 (z8.toNat)))) 33 6 = gI σ 33 6 := gI_iz (sk1t (by decide) (sk1t (by decide) (sk1t (by decide) (sk1t (by decide) (Fr.it frτ3 rfl (izg σ 33 6)))))) (rgI _ _ _); omega
        have i2' := I.2.2.1.fr FR (fun _ => rfl) (fun _ => rfl) (fun _ => rfl) (fun _ => rfl) (fun _ => rfl) (fun _ => rfl) (fun _ => rfl) (fun _ => rfl) (fun _ => rfl) rfl
        have i3' : InvM3 (sI (sI (sI (sI τ3 75 (c.toNat) (iz (gI σ 33 6))) 76 (c.toNat) (iz z4)) 77 (c.toNat) (iz (gI σ 49 (z6.toNat)))) 78 (c.toNat) (iz (gI σ 50 (z8.toNat)))) := I.2.2.2.up (c := c.toNat) (FR.g 33 66 rfl) (fun k => FR.g 70 k rfl) (fun k => FR.g 71 k rfl) (fun k hk => gI_eq (sk1t (by decide) (sk1t (by decide) (sk1t (by decide) (sk2t hk (Fr.it frτ3 rfl rfl)))))) (fun k hk => gI_eq (sk1t (by decide) (sk2t hk (sk1t (by decide) (sk1t (by decide) (Fr.it frτ3 rfl rfl)))))) (by omega)
        exact ⟨z4, rfl, by omega, FR, FR.lay I.1, i1', i2', i3'⟩
      · refine z_iconst (pc := 33) (v := iz (-1)) O dX9_judge_33 (by decide) ?_
        refine z_iret (pc := 34) O dX9_judge_34 ?_
        exact ⟨(-1), rfl, (by decide), (frτ3.mono (V := [(81, 99999), (82, 99999), (75, 99999), (76, 99999), (77, 99999), (78, 99999)]) rfl), (InvM.fr frτ3 I (by unfold InvM1; have : gI τ3 33 2 = gI σ 33 2 := gI_iz (Fr.it frτ3 rfl (izg σ 33 2)) (rgI _ _ _); have : gI τ3 33 52 = gI σ 33 52 := gI_iz (Fr.it frτ3 rfl (izg σ 33 52)) (rgI _ _ _); have : gI τ3 33 53 = gI σ 33 53 := gI_iz (Fr.it frτ3 rfl (izg σ 33 53)) (rgI _ _ _); have : gI τ3 33 54 = gI σ 33 54 := gI_iz (Fr.it frτ3 rfl (izg σ 33 54)) (rgI _ _ _); have : gI τ3 33 73 = gI σ 33 73 := gI_iz (Fr.it frτ3 rfl (izg σ 33 73)) (rgI _ _ _); have : gI τ3 33 74 = gI σ 33 74 := gI_iz (Fr.it frτ3 rfl (izg σ 33 74)) (rgI _ _ _); have : gI τ3 33 6 = gI σ 33 6 := gI_iz (Fr.it frτ3 rfl (izg σ 33 6)) (rgI _ _ _); omega) rfl)⟩
    · refine z_iconst (pc := 17) (v := iz (-1)) O dX9_judge_17 (by decide) ?_
      refine z_iret (pc := 18) O dX9_judge_18 ?_
      exact ⟨(-1), rfl, (by decide), (Fr.rf [(81, 99999), (82, 99999), (75, 99999), (76, 99999), (77, 99999), (78, 99999)] σ), I⟩
