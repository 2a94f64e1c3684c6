set_option maxHeartbeats 4000000 in
set_option maxRecDepth 20000 in
theorem k3_bury2 (l : Launch) (σ : VH) (x : Int) (rx : (-2147483648 ≤ x ∧ x < 2147483648)) (d : Int) (rd : (-2147483648 ≤ d ∧ d < 2147483648)) (J : Lay σ) (hpe : 0 ≤ gI σ 9 7 ∧ gI σ 9 7 ≤ 20) : Ct l yX3_bury cX3_bury 3 (some .boolean) 1 0 0 [.ref 9, .int (iz x), .int (iz d)] σ (fun r τ => ∃ z : Int, r = some (.int (iz z)) ∧ (z = 0 ∨ z = 1) ∧ (z = 1 ↔ ((0 ≤ x ∧ x < gI σ 9 7) ∧ gI σ 13 (x.toNat) = -1)) ∧ (Fr [(13, 99999)] σ τ) ∧ (∀ k : Nat, gI τ 13 k = if z = 1 ∧ (k : Int) = x then d else gI σ 13 k)) := by
  refine Ct.enter rfl (Nat.le_of_ble_eq_true rfl) ?_
  intro κ γ hκ O hrc hrs
  subst hκ
  refine z_aload_n (pc := 0) O dX3_bury_0 rfl ?_
  refine z_iload_n (pc := 1) O dX3_bury_1 rfl ?_
  refine z_callV (pc := 2) O cl_X3_35 (k3_isThere _ _ x (by omega) J) (by decide) (jo_9 J) kc_3 rfl rfl (Nat.le_of_ble_eq_true rfl) ⟨Nat.zero_le _, Nat.zero_le _⟩ dX3_bury_2 (fun r τ1 hp => ?_)
  obtain ⟨z2, rfl, fτ1_0, fτ1_1, rfl⟩ := hp
  refine zi_if_eq (pc := 5) (tgt := 18) O dX3_bury_5 (by decide) (by omega) (fun h5 => ?_) (fun h5 => ?_)
  · refine z_iconst (pc := 18) (v := iz (0)) O dX3_bury_18 (by decide) ?_
    refine z_zret (pc := 19) O dX3_bury_19 rfl ?_
    exact ⟨0, rfl, (by decide), (by omega), (Fr.rf [(13, 99999)] σ), (fun k => (gI_eq rfl).trans (if_neg (by omega)).symm)⟩
  · refine z_aload_n (pc := 8) O dX3_bury_8 rfl ?_
    refine z_getR (pc := 9) 13 O fl_X3_21 rfl (jo_9 J) (jr_9_3 J) dX3_bury_9 ?_
    refine z_iload_n (pc := 12) O dX3_bury_12 rfl ?_
    refine zi_ialdv (pc := 13) (x.toNat) (gI σ 13 (x.toNat)) O (ja_13 J) (by omega) (by omega) (by omega) (izg σ 13 (x.toNat)) dX3_bury_13 ?_
    have := rgI σ 13 (x.toNat)
    refine z_iconst (pc := 14) (v := iz (-1)) O dX3_bury_14 (by decide) ?_
    refine zi_icmp_eq (pc := 15) (tgt := 20) O dX3_bury_15 (by decide) (by omega) (by decide) (fun h15 => ?_) (fun h15 => ?_)
    · refine z_aload_n (pc := 20) O dX3_bury_20 rfl ?_
      refine z_getR (pc := 21) 13 O fl_X3_21 rfl (jo_9 J) (jr_9_3 J) dX3_bury_21 ?_
      refine z_iload_n (pc := 24) O dX3_bury_24 rfl ?_
      refine z_iload_n (pc := 25) O dX3_bury_25 rfl ?_
      refine zi_iast (pc := 26) (x.toNat) O (ja_13 J) (by omega) (by omega) (by omega) dX3_bury_26 ?_
      refine z_iconst (pc := 27) (v := iz (1)) O dX3_bury_27 (by decide) ?_
      refine z_zret (pc := 28) O dX3_bury_28 rfl ?_
      exact ⟨1, rfl, (by decide), (by omega), ((Fr.rf [(13, 99999)] σ).pI rfl), (fun k => by by_cases hk9 : k = (x.toNat); (rw [if_pos (by omega), hk9]; exact gI_iz (hI_at _ _ _ _) (by omega)); (exact (gI_eq (sk2t hk9 rfl)).trans (if_neg (by omega)).symm))⟩
    · refine z_iconst (pc := 18) (v := iz (0)) O dX3_bury_18 (by decide) ?_
      refine z_zret (pc := 19) O dX3_bury_19 rfl ?_
      exact ⟨0, rfl, (by decide), (by omega), (Fr.rf [(13, 99999)] σ), (fun k => (gI_eq rfl).trans (if_neg (by omega)).symm)⟩
set_option maxHeartbeats 4000000 in
set_option maxRecDepth 20000 in
theorem k8_dead2 (l : Launch) (σ : VH) (p : Int) (rp : (-2147483648 ≤ p ∧ p < 2147483648)) (d : Int) (rd : (-2147483648 ≤ d ∧ d < 2147483648)) (I : InvX σ) : Ct l yX8_dead cX8_dead 3 (some .boolean) 2 0 0 [.ref 2, .int (iz p), .int (iz d)] σ (fun r τ => ∃ z : Int, r = some (.int (iz z)) ∧ (z = 0 ∨ z = 1) ∧ (z = 1 ↔ ((0 ≤ d ∧ d ≤ 100000) ∧ (0 ≤ p ∧ p < gI σ 9 7) ∧ gI σ 13 (p.toNat) = -1)) ∧ (Fr [(13, 99999)] σ τ) ∧ (InvX τ) ∧ (∀ k : Nat, gI τ 13 k = if z = 1 ∧ (k : Int) = p then d else gI σ 13 k)) := by
  refine Ct.enter rfl (Nat.le_of_ble_eq_true rfl) ?_
  intro κ γ hκ O hrc hrs
  subst hκ
  have i1 := I.2.1
  unfold InvX1 at i1
  refine z_iload_n (pc := 0) O dX8_dead_0 rfl ?_
  refine z_callS (pc := 1) O cl_X8_85 (k8_isDay _ _ d (by omega)) (by decide) rfl rfl (Nat.le_of_ble_eq_true rfl) ⟨Nat.zero_le _, Nat.zero_le _⟩ dX8_dead_1 (fun r τ1 hp => ?_)
  obtain ⟨z2, rfl, fτ1_0, fτ1_1, rfl⟩ := hp
  refine zi_if_eq (pc := 4) (tgt := 23) O dX8_dead_4 (by decide) (by omega) (fun h4 => ?_) (fun h4 => ?_)
  · refine z_iconst (pc := 23) (v := iz (0)) O dX8_dead_23 (by decide) ?_
    refine z_zret (pc := 24) O dX8_dead_24 rfl ?_
    exact ⟨0, rfl, (by decide), (by omega), (Fr.rf [(13, 99999)] σ), I, (fun k => (gI_eq rfl).trans (if_neg (by omega)).symm)⟩
  · refine z_aload_n (pc := 7) O dX8_dead_7 rfl ?_
    refine z_getR (pc := 8) 9 O fl_X8_37 rfl (jo_2 I.1) (jr_2_8 I.1) dX8_dead_8 ?_
    refine z_iload_n (pc := 11) O dX8_dead_11 rfl ?_
    refine z_iload_n (pc := 12) O dX8_dead_12 rfl ?_
    refine z_callV (pc := 13) O cl_X8_142 (k3_bury2 _ _ p (by omega) d (by omega) I.1 (by omega)) (by decide) (jo_9 I.1) kc_3 rfl rfl (Nat.le_of_ble_eq_true rfl) ⟨Nat.zero_le _, Nat.zero_le _⟩ dX8_dead_13 (fun r τ3 hp => ?_)
    obtain ⟨z4, rfl, fτ3_0, fτ3_1, frτ3, eτ3_0⟩ := hp
    refine zi_if_eq (pc := 16) (tgt := 23) O dX8_dead_16 (by decide) (by omega) (fun h16 => ?_) (fun h16 => ?_)
    · refine z_iconst (pc := 23) (v := iz (0)) O dX8_dead_23 (by decide) ?_
      refine z_zret (pc := 24) O dX8_dead_24 rfl ?_
      exact ⟨0, rfl, (by decide), (by omega), frτ3, (InvX.fr frτ3 I (by unfold InvX1; have : gI τ3 2 1 = gI σ 2 1 := gI_iz (Fr.it frτ3 rfl (izg σ 2 1)) (rgI _ _ _); have : gI τ3 9 7 = gI σ 9 7 := gI_iz (Fr.it frτ3 rfl (izg σ 9 7)) (rgI _ _ _); have : gI τ3 16 4 = gI σ 16 4 := gI_iz (Fr.it frτ3 rfl (izg σ 16 4)) (rgI _ _ _); have : gI τ3 21 4 = gI σ 21 4 := gI_iz (Fr.it frτ3 rfl (izg σ 21 4)) (rgI _ _ _); have : gI τ3 2 12 = gI σ 2 12 := gI_iz (Fr.it frτ3 rfl (izg σ 2 12)) (rgI _ _ _); have : gI τ3 27 3 = gI σ 27 3 := gI_iz (Fr.it frτ3 rfl (izg σ 27 3)) (rgI _ _ _); have : gI τ3 2 15 = gI σ 2 15 := gI_iz (Fr.it frτ3 rfl (izg σ 2 15)) (rgI _ _ _); have : gI τ3 2 7 = gI σ 2 7 := gI_iz (Fr.it frτ3 rfl (izg σ 2 7)) (rgI _ _ _); omega) (fun _ => rfl)), (fun k => (eτ3_0 k).trans (by first | rfl | (split <;> split <;> first | rfl | omega)))⟩
    · refine z_iconst (pc := 19) (v := iz (1)) O dX8_dead_19 (by decide) ?_
      refine z_goto (pc := 20) (tgt := 24) O dX8_dead_20 (by decide) ?_
      refine z_zret (pc := 24) O dX8_dead_24 rfl ?_
      exact ⟨1, rfl, (by decide), (by omega), frτ3, (InvX.fr frτ3 I (by unfold InvX1; have : gI τ3 2 1 = gI σ 2 1 := gI_iz (Fr.it frτ3 rfl (izg σ 2 1)) (rgI _ _ _); have : gI τ3 9 7 = gI σ 9 7 := gI_iz (Fr.it frτ3 rfl (izg σ 9 7)) (rgI _ _ _); have : gI τ3 16 4 = gI σ 16 4 := gI_iz (Fr.it frτ3 rfl (izg σ 16 4)) (rgI _ _ _); have : gI τ3 21 4 = gI σ 21 4 := gI_iz (Fr.it frτ3 rfl (izg σ 21 4)) (rgI _ _ _); have : gI τ3 2 12 = gI σ 2 12 := gI_iz (Fr.it frτ3 rfl (izg σ 2 12)) (rgI _ _ _); have : gI τ3 27 3 = gI σ 27 3 := gI_iz (Fr.it frτ3 rfl (izg σ 27 3)) (rgI _ _ _); have : gI τ3 2 15 = gI σ 2 15 := gI_iz (Fr.it frτ3 rfl (izg σ 2 15)) (rgI _ _ _); have : gI τ3 2 7 = gI σ 2 7 := gI_iz (Fr.it frτ3 rfl (izg σ 2 7)) (rgI _ _ _); omega) (fun _ => rfl)), (fun k => (eτ3_0 k).trans (by first | rfl | (split <;> split <;> first | rfl | omega)))⟩
set_option maxHeartbeats 4000000 in
set_option maxRecDepth 20000 in
theorem k9_dead2 (l : Launch) (σ : VH) (p : Int) (rp : (-2147483648 ≤ p ∧ p < 2147483648)) (d : Int) (rd : (-2147483648 ≤ d ∧ d < 2147483648)) (I : InvM σ) : Ct l yX9_dead cX9_dead 3 (some .boolean) 1 0 0 [.ref 33, .int (iz p), .int (iz d)] σ (fun r τ => ∃ z : Int, r = some (.int (iz z)) ∧ (z = 0 ∨ z = 1) ∧ (z = 1 ↔ ((0 ≤ d ∧ d ≤ 100000) ∧ (0 ≤ p ∧ p < gI σ 33 52) ∧ gI σ 61 (p.toNat) < 0)) ∧ (Fr [(61, 99999)] σ τ) ∧ (InvM τ) ∧ (∀ k : Nat, gI τ 61 k = if z = 1 ∧ (k : Int) = p then d else gI σ 61 k)) := by
  refine Ct.enter rfl (Nat.le_of_ble_eq_true rfl) ?_
  intro κ γ hκ O hrc hrs
  subst hκ
  have i1 := I.2.1
  unfold InvM1 at i1
  have i2 := I.2.2.1.laws
  have i3 := I.2.2.2.1
  refine z_aload_n (pc := 0) O dX9_dead_0 rfl ?_
  refine z_iload_n (pc := 1) O dX9_dead_1 rfl ?_
  refine z_callV (pc := 2) O cl_X9_356 (k9_isPerson _ _ p (by omega) I.1) (by decide) (jo_33 I.1) kc_9 rfl rfl (Nat.le_of_ble_eq_true rfl) ⟨Nat.zero_le _, Nat.zero_le _⟩ dX9_dead_2 (fun r τ1 hp => ?_)
  obtain ⟨z2, rfl, fτ1_0, fτ1_1, rfl⟩ := hp
  refine zi_if_eq (pc := 5) (tgt := 28) O dX9_dead_5 (by decide) (by omega) (fun h5 => ?_) (fun h5 => ?_)
  · refine z_iconst (pc := 28) (v := iz (0)) O dX9_dead_28 (by decide) ?_
    refine z_zret (pc := 29) O dX9_dead_29 rfl ?_
    exact ⟨0, rfl, (by decide), (by omega), (Fr.rf [(61, 99999)] σ), I, (fun k => (gI_eq rfl).trans (if_neg (by omega)).symm)⟩
  · refine z_aload_n (pc := 8) O dX9_dead_8 rfl ?_
    refine z_getR (pc := 9) 61 O fl_X9_98 rfl (jo_33 I.1) (jr_33_43 I.1) dX9_dead_9 ?_
    refine z_iload_n (pc := 12) O dX9_dead_12 rfl ?_
    refine zi_ialdv (pc := 13) (p.toNat) (gI σ 61 (p.toNat)) O (ja_61 I.1) (by omega) (by omega) (by omega) (izg σ 61 (p.toNat)) dX9_dead_13 ?_
    have := rgI σ 61 (p.toNat)
    refine zi_if_ge (pc := 14) (tgt := 28) O dX9_dead_14 (by decide) (by omega) (fun h14 => ?_) (fun h14 => ?_)
    · refine z_iconst (pc := 28) (v := iz (0)) O dX9_dead_28 (by decide) ?_
      refine z_zret (pc := 29) O dX9_dead_29 rfl ?_
      exact ⟨0, rfl, (by decide), (by omega), (Fr.rf [(61, 99999)] σ), I, (fun k => (gI_eq rfl).trans (if_neg (by omega)).symm)⟩
    · refine z_iload_n (pc := 17) O dX9_dead_17 rfl ?_
      refine zi_if_lt (pc := 18) (tgt := 28) O dX9_dead_18 (by decide) (by omega) (fun h18 => ?_) (fun h18 => ?_)
      · refine z_iconst (pc := 28) (v := iz (0)) O dX9_dead_28 (by decide) ?_
        refine z_zret (pc := 29) O dX9_dead_29 rfl ?_
        exact ⟨0, rfl, (by decide), (by omega), (Fr.rf [(61, 99999)] σ), I, (fun k => (gI_eq rfl).trans (if_neg (by omega)).symm)⟩
      · refine z_iload_n (pc := 21) O dX9_dead_21 rfl ?_
        refine z_ldcw (pc := 22) O tw_989 dX9_dead_22 ?_
        refine zi_val (100000) (by decide) ?_
        refine zi_icmp_le (pc := 25) (tgt := 30) O dX9_dead_25 (by decide) (by omega) (by decide) (fun h25 => ?_) (fun h25 => ?_)
        · refine z_aload_n (pc := 30) O dX9_dead_30 rfl ?_
          refine z_getR (pc := 31) 61 O fl_X9_98 rfl (jo_33 I.1) (jr_33_43 I.1) dX9_dead_31 ?_
          refine z_iload_n (pc := 34) O dX9_dead_34 rfl ?_
          refine z_iload_n (pc := 35) O dX9_dead_35 rfl ?_
          refine zi_iast (pc := 36) (p.toNat) O (ja_61 I.1) (by omega) (by omega) (by omega) dX9_dead_36 ?_
          refine z_iconst (pc := 37) (v := iz (1)) O dX9_dead_37 (by decide) ?_
          refine z_zret (pc := 38) O dX9_dead_38 rfl ?_
          exact ⟨1, rfl, (by decide), (by omega), ((Fr.rf [(61, 99999)] σ).pI rfl), (InvM.fr ((Fr.rf [(61, 99999)] σ).pI rfl) I (by unfold InvM1; have : gI (sI σ 61 (p.toNat) (iz d)) 33 2 = gI σ 33 2 := gI_iz (sk1t (by decide) (izg σ 33 2)) (rgI _ _ _); have : gI (sI σ 61 (p.toNat) (iz d)) 33 52 = gI σ 33 52 := gI_iz (sk1t (by decide) (izg σ 33 52)) (rgI _ _ _); have : gI (sI σ 61 (p.toNat) (iz d)) 33 53 = gI σ 33 53 := gI_iz (sk1t (by decide) (izg σ 33 53)) (rgI _ _ _); have : gI (sI σ 61 (p.toNat) (iz d)) 33 54 = gI σ 33 54 := gI_iz (sk1t (by decide) (izg σ 33 54)) (rgI _ _ _); have : gI (sI σ 61 (p.toNat) (iz d)) 33 73 = gI σ 33 73 := gI_iz (sk1t (by decide) (izg σ 33 73)) (rgI _ _ _); have : gI (sI σ 61 (p.toNat) (iz d)) 33 74 = gI σ 33 74 := gI_iz (sk1t (by decide) (izg σ 33 74)) (rgI _ _ _); have : gI (sI σ 61 (p.toNat) (iz d)) 33 6 = gI σ 33 6 := gI_iz (sk1t (by decide) (izg σ 33 6)) (rgI _ _ _); omega) rfl), (fun k => by by_cases hk9 : k = (p.toNat); (rw [if_pos (by omega), hk9]; exact gI_iz (hI_at _ _ _ _) (by omega)); (exact (gI_eq (sk2t hk9 rfl)).trans (if_neg (by omega)).symm))⟩
        · refine z_iconst (pc := 28) (v := iz (0)) O dX9_dead_28 (by decide) ?_
          refine z_zret (pc := 29) O dX9_dead_29 rfl ?_
          exact ⟨0, rfl, (by decide), (by omega), (Fr.rf [(61, 99999)] σ), I, (fun k => (gI_eq rfl).trans (if_neg (by omega)).symm)⟩
