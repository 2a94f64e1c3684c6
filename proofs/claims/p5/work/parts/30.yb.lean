set_option maxHeartbeats 4000000 in
set_option maxRecDepth 20000 in
theorem k3_add2 (l : Launch) (σ : VH) (f : Int) (rf : (-2147483648 ≤ f ∧ f < 2147483648)) (m : Int) (rm : (-2147483648 ≤ m ∧ m < 2147483648)) (p : Int) (rp : (-2147483648 ≤ p ∧ p < 2147483648)) (J : Lay σ) (hpe : 0 ≤ gI σ 9 7 ∧ gI σ 9 7 ≤ 20) : Ct l yX3_add cX3_add 4 (some .int) 0 0 0 [.ref 9, .int (iz f), .int (iz m), .int (iz p)] σ (fun r τ => ∃ z : Int, r = some (.int (iz z)) ∧ (-2147483648 ≤ z ∧ z < 2147483648) ∧ ((z = -1 ∧ gI σ 9 7 = 20) ∨ (z = gI σ 9 7 ∧ gI σ 9 7 < 20)) ∧ (Fr [(10, 99999), (11, 99999), (12, 99999), (13, 99999), (9, 7)] σ τ) ∧ (gI τ 9 7 = z + 1 ∨ (z = -1 ∧ gI τ 9 7 = 20)) ∧ (gI σ 9 7 ≤ gI τ 9 7) ∧ (∀ k : Nat, gI τ 10 k = if 0 ≤ z ∧ (k : Int) = z then f else gI σ 10 k) ∧ (∀ k : Nat, gI τ 11 k = if 0 ≤ z ∧ (k : Int) = z then m else gI σ 11 k) ∧ (∀ k : Nat, gI τ 12 k = if 0 ≤ z ∧ (k : Int) = z then p else gI σ 12 k) ∧ (∀ k : Nat, gI τ 13 k = if 0 ≤ z ∧ (k : Int) = z then -1 else gI σ 13 k)) := by
  refine Ct.enter rfl (Nat.le_of_ble_eq_true rfl) ?_
  intro κ γ hκ O hrc hrs
  subst hκ
  refine z_aload_n (pc := 0) O dX3_add_0 rfl ?_
  refine zi_getv (pc := 1) (gI σ 9 7) O fl_X3_31 rfl (jo_9 J) (izg σ 9 7) dX3_add_1 ?_
  have := rgI σ 9 7
  refine z_bipush (pc := 4) (v := iz (20)) O dX3_add_4 (by decide) ?_
  refine zi_icmp_lt (pc := 6) (tgt := 11) O dX3_add_6 (by decide) (by omega) (by decide) (fun h6 => ?_) (fun h6 => ?_)
  · refine z_aload_n (pc := 11) O dX3_add_11 rfl ?_
    refine z_getR (pc := 12) 10 O fl_X3_9 rfl (jo_9 J) (jr_9_0 J) dX3_add_12 ?_
    refine z_aload_n (pc := 15) O dX3_add_15 rfl ?_
    refine zi_getv (pc := 16) (gI σ 9 7) O fl_X3_31 rfl (jo_9 J) (izg σ 9 7) dX3_add_16 ?_
    refine z_iload_n (pc := 19) O dX3_add_19 rfl ?_
    refine zi_iast (pc := 20) ((gI σ 9 7).toNat) O (ja_10 J) (by omega) (by omega) (by omega) dX3_add_20 ?_
    refine z_aload_n (pc := 21) O dX3_add_21 rfl ?_
    refine z_getR (pc := 22) 11 O fl_X3_15 rfl (jo_9 J) (jr_9_1 J) dX3_add_22 ?_
    refine z_aload_n (pc := 25) O dX3_add_25 rfl ?_
    refine zi_getv (pc := 26) (gI σ 9 7) O fl_X3_31 rfl (jo_9 J) (sk1t (by decide) (izg σ 9 7)) dX3_add_26 ?_
    refine z_iload_n (pc := 29) O dX3_add_29 rfl ?_
    refine zi_iast (pc := 30) ((gI σ 9 7).toNat) O (ja_11 J) (by omega) (by omega) (by omega) dX3_add_30 ?_
    refine z_aload_n (pc := 31) O dX3_add_31 rfl ?_
    refine z_getR (pc := 32) 12 O fl_X3_18 rfl (jo_9 J) (jr_9_2 J) dX3_add_32 ?_
    refine z_aload_n (pc := 35) O dX3_add_35 rfl ?_
    refine zi_getv (pc := 36) (gI σ 9 7) O fl_X3_31 rfl (jo_9 J) (sk1t (by decide) (sk1t (by decide) (izg σ 9 7))) dX3_add_36 ?_
    refine z_iload_n (pc := 39) O dX3_add_39 rfl ?_
    refine zi_iast (pc := 40) ((gI σ 9 7).toNat) O (ja_12 J) (by omega) (by omega) (by omega) dX3_add_40 ?_
    refine z_aload_n (pc := 41) O dX3_add_41 rfl ?_
    refine z_getR (pc := 42) 13 O fl_X3_21 rfl (jo_9 J) (jr_9_3 J) dX3_add_42 ?_
    refine z_aload_n (pc := 45) O dX3_add_45 rfl ?_
    refine zi_getv (pc := 46) (gI σ 9 7) O fl_X3_31 rfl (jo_9 J) (sk1t (by decide) (sk1t (by decide) (sk1t (by decide) (izg σ 9 7)))) dX3_add_46 ?_
    refine z_iconst (pc := 49) (v := iz (-1)) O dX3_add_49 (by decide) ?_
    refine zi_iast (pc := 50) ((gI σ 9 7).toNat) O (ja_13 J) (by omega) (by omega) (by omega) dX3_add_50 ?_
    refine z_aload_n (pc := 51) O dX3_add_51 rfl ?_
    refine z_dup (pc := 52) O dX3_add_52 rfl ?_
    refine zi_getv (pc := 53) (gI σ 9 7) O fl_X3_31 rfl (jo_9 J) (sk1t (by decide) (sk1t (by decide) (sk1t (by decide) (sk1t (by decide) (izg σ 9 7))))) dX3_add_53 ?_
    refine z_iconst (pc := 56) (v := iz (1)) O dX3_add_56 (by decide) ?_
    refine zi_iadd (pc := 57) O dX3_add_57 ?_
    refine z_putI (pc := 58) O fl_X3_31 rfl ⟨rfl, rfl⟩ (jo_9 J) dX3_add_58 ?_
    refine z_aload_n (pc := 61) O dX3_add_61 rfl ?_
    refine zi_getv (pc := 62) ((gI σ 9 7) + 1) O fl_X3_31 rfl (jo_9 J) (hI_at _ _ _ _) dX3_add_62 ?_
    refine z_iconst (pc := 65) (v := iz (1)) O dX3_add_65 (by decide) ?_
    refine zi_isub (pc := 66) O dX3_add_66 ?_
    refine z_iret (pc := 67) O dX3_add_67 ?_
    exact ⟨(((gI σ 9 7) + 1) - 1), rfl, (by omega), (by omega), ((((((Fr.rf [(10, 99999), (11, 99999), (12, 99999), (13, 99999), (9, 7)] σ).pI rfl).pI rfl).pI rfl).pI rfl).pI rfl), (by have : gI (sI (sI (sI (sI (sI σ 10 ((gI σ 9 7).toNat) (iz f)) 11 ((gI σ 9 7).toNat) (iz m)) 12 ((gI σ 9 7).toNat) (iz p)) 13 ((gI σ 9 7).toNat) (iz (-1))) 9 7 (iz ((gI σ 9 7) + 1))) 9 7 = (gI σ 9 7) + 1 := gI_iz (hI_at _ _ _ _) (by omega); omega), (by have : gI (sI (sI (sI (sI (sI σ 10 ((gI σ 9 7).toNat) (iz f)) 11 ((gI σ 9 7).toNat) (iz m)) 12 ((gI σ 9 7).toNat) (iz p)) 13 ((gI σ 9 7).toNat) (iz (-1))) 9 7 (iz ((gI σ 9 7) + 1))) 9 7 = (gI σ 9 7) + 1 := gI_iz (hI_at _ _ _ _) (by omega); omega), (fun k => by by_cases hk9 : k = ((gI σ 9 7).toNat); (rw [if_pos (by omega), hk9]; exact gI_iz (sk1t (by decide) (sk1t (by decide) (sk1t (by decide) (sk1t (by decide) (hI_at _ _ _ _))))) (by omega)); (exact (gI_eq (sk1t (by decide) (sk1t (by decide) (sk1t (by decide) (sk1t (by decide) (sk2t hk9 rfl)))))).trans (if_neg (by omega)).symm)), (fun k => by by_cases hk9 : k = ((gI σ 9 7).toNat); (rw [if_pos (by omega), hk9]; exact gI_iz (sk1t (by decide) (sk1t (by decide) (sk1t (by decide) (hI_at _ _ _ _)))) (by omega)); (exact (gI_eq (sk1t (by decide) (sk1t (by decide) (sk1t (by decide) (sk2t hk9 (sk1t (by decide) rfl)))))).trans (if_neg (by omega)).symm)), (fun k => by by_cases hk9 : k = ((gI σ 9 7).toNat); (rw [if_pos (by omega), hk9]; exact gI_iz (sk1t (by decide) (sk1t (by decide) (hI_at _ _ _ _))) (by omega)); (exact (gI_eq (sk1t (by decide) (sk1t (by decide) (sk2t hk9 (sk1t (by decide) (sk1t (by decide) rfl)))))).trans (if_neg (by omega)).symm)), (fun k => by by_cases hk9 : k = ((gI σ 9 7).toNat); (rw [if_pos (by omega), hk9]; exact gI_iz (sk1t (by decide) (hI_at _ _ _ _)) (by omega)); (exact (gI_eq (sk1t (by decide) (sk2t hk9 (sk1t (by decide) (sk1t (by decide) (sk1t (by decide) rfl)))))).trans (if_neg (by omega)).symm))⟩
  · refine z_iconst (pc := 9) (v := iz (-1)) O dX3_add_9 (by decide) ?_
    refine z_iret (pc := 10) O dX3_add_10 ?_
    exact ⟨(-1), rfl, (by decide), (by omega), (Fr.rf [(10, 99999), (11, 99999), (12, 99999), (13, 99999), (9, 7)] σ), (by omega), (by omega), (fun k => (gI_eq rfl).trans (if_neg (by omega)).symm), (fun k => (gI_eq rfl).trans (if_neg (by omega)).symm), (fun k => (gI_eq rfl).trans (if_neg (by omega)).symm), (fun k => (gI_eq rfl).trans (if_neg (by omega)).symm)⟩
set_option maxHeartbeats 4000000 in
set_option maxRecDepth 20000 in
theorem k8_person2 (l : Launch) (σ : VH) (f : Int) (rf : (-2147483648 ≤ f ∧ f < 2147483648)) (m : Int) (rm : (-2147483648 ≤ m ∧ m < 2147483648)) (p : Int) (rp : (-2147483648 ≤ p ∧ p < 2147483648)) (I : InvX σ) : Ct l yX8_person cX8_person 4 (some .int) 2 0 0 [.ref 2, .int (iz f), .int (iz m), .int (iz p)] σ (fun r τ => ∃ z : Int, r = some (.int (iz z)) ∧ (-2147483648 ≤ z ∧ z < 2147483648) ∧ ((z = -1 ∧ ¬ ((0 ≤ f ∧ f < 4) ∧ (-1 ≤ m ∧ m < gI σ 9 7) ∧ (-1 ≤ p ∧ p < gI σ 9 7) ∧ gI σ 9 7 < 20)) ∨ (z = gI σ 9 7 ∧ ((0 ≤ f ∧ f < 4) ∧ (-1 ≤ m ∧ m < gI σ 9 7) ∧ (-1 ≤ p ∧ p < gI σ 9 7) ∧ gI σ 9 7 < 20))) ∧ (Fr [(10, 99999), (11, 99999), (12, 99999), (13, 99999), (9, 7)] σ τ) ∧ (InvX τ) ∧ ((z = -1 ∧ gI τ 9 7 = gI σ 9 7) ∨ (0 ≤ z ∧ gI τ 9 7 = z + 1)) ∧ (∀ k : Nat, gI τ 10 k = if 0 ≤ z ∧ (k : Int) = z then f else gI σ 10 k) ∧ (∀ k : Nat, gI τ 11 k = if 0 ≤ z ∧ (k : Int) = z then m else gI σ 11 k) ∧ (∀ k : Nat, gI τ 12 k = if 0 ≤ z ∧ (k : Int) = z then p else gI σ 12 k) ∧ (∀ k : Nat, gI τ 13 k = if 0 ≤ z ∧ (k : Int) = z then -1 else gI σ 13 k)) := by
  refine Ct.enter rfl (Nat.le_of_ble_eq_true rfl) ?_
  intro κ γ hκ O hrc hrs
  subst hκ
  have i1 := I.2.1
  unfold InvX1 at i1
  refine z_iload_n (pc := 0) O dX8_person_0 rfl ?_
  refine z_callS (pc := 1) O cl_X8_81 (k8_isFolk _ _ f (by omega)) (by decide) rfl rfl (Nat.le_of_ble_eq_true rfl) ⟨Nat.zero_le _, Nat.zero_le _⟩ dX8_person_1 (fun r τ1 hp => ?_)
  obtain ⟨z2, rfl, fτ1_0, fτ1_1, rfl⟩ := hp
  refine zi_if_eq (pc := 4) (tgt := 29) O dX8_person_4 (by decide) (by omega) (fun h4 => ?_) (fun h4 => ?_)
  · refine z_iconst (pc := 29) (v := iz (-1)) O dX8_person_29 (by decide) ?_
    refine z_iret (pc := 30) O dX8_person_30 ?_
    exact ⟨(-1), rfl, (by decide), (by omega), (Fr.rf [(10, 99999), (11, 99999), (12, 99999), (13, 99999), (9, 7)] σ), I, (by omega), (fun k => (gI_eq rfl).trans (if_neg (by omega)).symm), (fun k => (gI_eq rfl).trans (if_neg (by omega)).symm), (fun k => (gI_eq rfl).trans (if_neg (by omega)).symm), (fun k => (gI_eq rfl).trans (if_neg (by omega)).symm)⟩
  · refine z_aload_n (pc := 7) O dX8_person_7 rfl ?_
    refine z_getR (pc := 8) 9 O fl_X8_37 rfl (jo_2 I.1) (jr_2_8 I.1) dX8_person_8 ?_
    refine z_iload_n (pc := 11) O dX8_person_11 rfl ?_
    refine z_callV (pc := 12) O cl_X8_119 (k3_canBeParent _ _ m (by omega) I.1) (by decide) (jo_9 I.1) kc_3 rfl rfl (Nat.le_of_ble_eq_true rfl) ⟨Nat.zero_le _, Nat.zero_le _⟩ dX8_person_12 (fun r τ3 hp => ?_)
    obtain ⟨z4, rfl, fτ3_0, fτ3_1, rfl⟩ := hp
    refine zi_if_eq (pc := 15) (tgt := 29) O dX8_person_15 (by decide) (by omega) (fun h15 => ?_) (fun h15 => ?_)
    · refine z_iconst (pc := 29) (v := iz (-1)) O dX8_person_29 (by decide) ?_
      refine z_iret (pc := 30) O dX8_person_30 ?_
      exact ⟨(-1), rfl, (by decide), (by omega), (Fr.rf [(10, 99999), (11, 99999), (12, 99999), (13, 99999), (9, 7)] σ), I, (by omega), (fun k => (gI_eq rfl).trans (if_neg (by omega)).symm), (fun k => (gI_eq rfl).trans (if_neg (by omega)).symm), (fun k => (gI_eq rfl).trans (if_neg (by omega)).symm), (fun k => (gI_eq rfl).trans (if_neg (by omega)).symm)⟩
    · refine z_aload_n (pc := 18) O dX8_person_18 rfl ?_
      refine z_getR (pc := 19) 9 O fl_X8_37 rfl (jo_2 I.1) (jr_2_8 I.1) dX8_person_19 ?_
      refine z_iload_n (pc := 22) O dX8_person_22 rfl ?_
      refine z_callV (pc := 23) O cl_X8_119 (k3_canBeParent _ _ p (by omega) I.1) (by decide) (jo_9 I.1) kc_3 rfl rfl (Nat.le_of_ble_eq_true rfl) ⟨Nat.zero_le _, Nat.zero_le _⟩ dX8_person_23 (fun r τ5 hp => ?_)
      obtain ⟨z6, rfl, fτ5_0, fτ5_1, rfl⟩ := hp
      refine zi_if_ne (pc := 26) (tgt := 31) O dX8_person_26 (by decide) (by omega) (fun h26 => ?_) (fun h26 => ?_)
      · refine z_aload_n (pc := 31) O dX8_person_31 rfl ?_
        refine z_getR (pc := 32) 9 O fl_X8_37 rfl (jo_2 I.1) (jr_2_8 I.1) dX8_person_32 ?_
        refine z_iload_n (pc := 35) O dX8_person_35 rfl ?_
        refine z_iload_n (pc := 36) O dX8_person_36 rfl ?_
        refine z_iload_n (pc := 37) O dX8_person_37 rfl ?_
        refine z_callV (pc := 38) O cl_X8_122 (k3_add2 _ _ f (by omega) m (by omega) p (by omega) I.1 (by omega)) (by decide) (jo_9 I.1) kc_3 rfl rfl (Nat.le_of_ble_eq_true rfl) ⟨Nat.zero_le _, Nat.zero_le _⟩ dX8_person_38 (fun r τ7 hp => ?_)
        obtain ⟨z8, rfl, fτ7_0, fτ7_1, frτ7, eτ7_0, eτ7_1, eτ7_2, eτ7_3, eτ7_4, eτ7_5⟩ := hp
        refine z_iret (pc := 41) O dX8_person_41 ?_
        exact ⟨z8, rfl, (by omega), (by omega), frτ7, (InvX.fr frτ7 I (by unfold InvX1; have : gI τ7 2 1 = gI σ 2 1 := gI_iz (Fr.it frτ7 rfl (izg σ 2 1)) (rgI _ _ _); have : gI τ7 16 4 = gI σ 16 4 := gI_iz (Fr.it frτ7 rfl (izg σ 16 4)) (rgI _ _ _); have : gI τ7 21 4 = gI σ 21 4 := gI_iz (Fr.it frτ7 rfl (izg σ 21 4)) (rgI _ _ _); have : gI τ7 2 12 = gI σ 2 12 := gI_iz (Fr.it frτ7 rfl (izg σ 2 12)) (rgI _ _ _); have : gI τ7 27 3 = gI σ 27 3 := gI_iz (Fr.it frτ7 rfl (izg σ 27 3)) (rgI _ _ _); have : gI τ7 2 15 = gI σ 2 15 := gI_iz (Fr.it frτ7 rfl (izg σ 2 15)) (rgI _ _ _); have : gI τ7 2 7 = gI σ 2 7 := gI_iz (Fr.it frτ7 rfl (izg σ 2 7)) (rgI _ _ _); omega) (fun _ => rfl)), (by omega), (fun k => (eτ7_2 k).trans (by first | rfl | (split <;> split <;> first | rfl | omega))), (fun k => (eτ7_3 k).trans (by first | rfl | (split <;> split <;> first | rfl | omega))), (fun k => (eτ7_4 k).trans (by first | rfl | (split <;> split <;> first | rfl | omega))), (fun k => (eτ7_5 k).trans (by first | rfl | (split <;> split <;> first | rfl | omega)))⟩
      · refine z_iconst (pc := 29) (v := iz (-1)) O dX8_person_29 (by decide) ?_
        refine z_iret (pc := 30) O dX8_person_30 ?_
        exact ⟨(-1), rfl, (by decide), (by omega), (Fr.rf [(10, 99999), (11, 99999), (12, 99999), (13, 99999), (9, 7)] σ), I, (by omega), (fun k => (gI_eq rfl).trans (if_neg (by omega)).symm), (fun k => (gI_eq rfl).trans (if_neg (by omega)).symm), (fun k => (gI_eq rfl).trans (if_neg (by omega)).symm), (fun k => (gI_eq rfl).trans (if_neg (by omega)).symm)⟩
set_option maxHeartbeats 4000000 in
set_option maxRecDepth 20000 in
theorem k9_person2 (l : Launch) (σ : VH) (f : Int) (rf : (-2147483648 ≤ f ∧ f < 2147483648)) (m : Int) (rm : (-2147483648 ≤ m ∧ m < 2147483648)) (p : Int) (rp : (-2147483648 ≤ p ∧ p < 2147483648)) (I : InvM σ) : Ct l yX9_person cX9_person 4 (some .int) 0 0 0 [.ref 33, .int (iz f), .int (iz m), .int (iz p)] σ (fun r τ => ∃ z : Int, r = some (.int (iz z)) ∧ (-2147483648 ≤ z ∧ z < 2147483648) ∧ ((z = -1 ∧ ¬ ((0 ≤ f ∧ f < 4) ∧ (-1 ≤ m ∧ m < gI σ 33 52) ∧ (-1 ≤ p ∧ p < gI σ 33 52) ∧ gI σ 33 52 < 20)) ∨ (z = gI σ 33 52 ∧ ((0 ≤ f ∧ f < 4) ∧ (-1 ≤ m ∧ m < gI σ 33 52) ∧ (-1 ≤ p ∧ p < gI σ 33 52) ∧ gI σ 33 52 < 20))) ∧ (Fr [(58, 99999), (59, 99999), (60, 99999), (61, 99999), (33, 52)] σ τ) ∧ (InvM τ) ∧ ((z = -1 ∧ gI τ 33 52 = gI σ 33 52) ∨ (0 ≤ z ∧ gI τ 33 52 = z + 1)) ∧ (∀ k : Nat, gI τ 58 k = if 0 ≤ z ∧ (k : Int) = z then f else gI σ 58 k) ∧ (∀ k : Nat, gI τ 59 k = if 0 ≤ z ∧ (k : Int) = z then m else gI σ 59 k) ∧ (∀ k : Nat, gI τ 60 k = if 0 ≤ z ∧ (k : Int) = z then p else gI σ 60 k) ∧ (∀ k : Nat, gI τ 61 k = if 0 ≤ z ∧ (k : Int) = z then -1 else gI σ 61 k)) := by
  refine Ct.enter rfl (Nat.le_of_ble_eq_true rfl) ?_
  intro κ γ hκ O hrc hrs
  subst hκ
  have i1 := I.2.1
  unfold InvM1 at i1
  have i2 := I.2.2.1.laws
  have i3 := I.2.2.2.1
  refine z_iload_n (pc := 0) O dX9_person_0 rfl ?_
  refine zi_if_lt (pc := 1) (tgt := 44) O dX9_person_1 (by decide) (by omega) (fun h1 => ?_) (fun h1 => ?_)
  · refine z_iconst (pc := 44) (v := iz (-1)) O dX9_person_44 (by decide) ?_
    refine z_iret (pc := 45) O dX9_person_45 ?_
    exact ⟨(-1), rfl, (by decide), (by omega), (Fr.rf [(58, 99999), (59, 99999), (60, 99999), (61, 99999), (33, 52)] σ), I, (by omega), (fun k => (gI_eq rfl).trans (if_neg (by omega)).symm), (fun k => (gI_eq rfl).trans (if_neg (by omega)).symm), (fun k => (gI_eq rfl).trans (if_neg (by omega)).symm), (fun k => (gI_eq rfl).trans (if_neg (by omega)).symm)⟩
  · refine z_iload_n (pc := 4) O dX9_person_4 rfl ?_
    refine z_iconst (pc := 5) (v := iz (4)) O dX9_person_5 (by decide) ?_
    refine zi_icmp_ge (pc := 6) (tgt := 44) O dX9_person_6 (by decide) (by omega) (by decide) (fun h6 => ?_) (fun h6 => ?_)
    · refine z_iconst (pc := 44) (v := iz (-1)) O dX9_person_44 (by decide) ?_
      refine z_iret (pc := 45) O dX9_person_45 ?_
      exact ⟨(-1), rfl, (by decide), (by omega), (Fr.rf [(58, 99999), (59, 99999), (60, 99999), (61, 99999), (33, 52)] σ), I, (by omega), (fun k => (gI_eq rfl).trans (if_neg (by omega)).symm), (fun k => (gI_eq rfl).trans (if_neg (by omega)).symm), (fun k => (gI_eq rfl).trans (if_neg (by omega)).symm), (fun k => (gI_eq rfl).trans (if_neg (by omega)).symm)⟩
    · refine z_iload_n (pc := 9) O dX9_person_9 rfl ?_
      refine z_iconst (pc := 10) (v := iz (-1)) O dX9_person_10 (by decide) ?_
      refine zi_icmp_lt (pc := 11) (tgt := 44) O dX9_person_11 (by decide) (by omega) (by decide) (fun h11 => ?_) (fun h11 => ?_)
      · refine z_iconst (pc := 44) (v := iz (-1)) O dX9_person_44 (by decide) ?_
        refine z_iret (pc := 45) O dX9_person_45 ?_
        exact ⟨(-1), rfl, (by decide), (by omega), (Fr.rf [(58, 99999), (59, 99999), (60, 99999), (61, 99999), (33, 52)] σ), I, (by omega), (fun k => (gI_eq rfl).trans (if_neg (by omega)).symm), (fun k => (gI_eq rfl).trans (if_neg (by omega)).symm), (fun k => (gI_eq rfl).trans (if_neg (by omega)).symm), (fun k => (gI_eq rfl).trans (if_neg (by omega)).symm)⟩
      · refine z_iload_n (pc := 14) O dX9_person_14 rfl ?_
        refine z_aload_n (pc := 15) O dX9_person_15 rfl ?_
        refine zi_getv (pc := 16) (gI σ 33 52) O fl_X9_353 rfl (jo_33 I.1) (izg σ 33 52) dX9_person_16 ?_
        have := rgI σ 33 52
        refine zi_icmp_ge (pc := 19) (tgt := 44) O dX9_person_19 (by decide) (by omega) (by omega) (fun h19 => ?_) (fun h19 => ?_)
        · refine z_iconst (pc := 44) (v := iz (-1)) O dX9_person_44 (by decide) ?_
          refine z_iret (pc := 45) O dX9_person_45 ?_
          exact ⟨(-1), rfl, (by decide), (by omega), (Fr.rf [(58, 99999), (59, 99999), (60, 99999), (61, 99999), (33, 52)] σ), I, (by omega), (fun k => (gI_eq rfl).trans (if_neg (by omega)).symm), (fun k => (gI_eq rfl).trans (if_neg (by omega)).symm), (fun k => (gI_eq rfl).trans (if_neg (by omega)).symm), (fun k => (gI_eq rfl).trans (if_neg (by omega)).symm)⟩
        · refine z_iload_n (pc := 22) O dX9_person_22 rfl ?_
          refine z_iconst (pc := 23) (v := iz (-1)) O dX9_person_23 (by decide) ?_
          refine zi_icmp_lt (pc := 24) (tgt := 44) O dX9_person_24 (by decide) (by omega) (by decide) (fun h24 => ?_) (fun h24 => ?_)
          · refine z_iconst (pc := 44) (v := iz (-1)) O dX9_person_44 (by decide) ?_
            refine z_iret (pc := 45) O dX9_person_45 ?_
            exact ⟨(-1), rfl, (by decide), (by omega), (Fr.rf [(58, 99999), (59, 99999), (60, 99999), (61, 99999), (33, 52)] σ), I, (by omega), (fun k => (gI_eq rfl).trans (if_neg (by omega)).symm), (fun k => (gI_eq rfl).trans (if_neg (by omega)).symm), (fun k => (gI_eq rfl).trans (if_neg (by omega)).symm), (fun k => (gI_eq rfl).trans (if_neg (by omega)).symm)⟩
          · refine z_iload_n (pc := 27) O dX9_person_27 rfl ?_
            refine z_aload_n (pc := 28) O dX9_person_28 rfl ?_
            refine zi_getv (pc := 29) (gI σ 33 52) O fl_X9_353 rfl (jo_33 I.1) (izg σ 33 52) dX9_person_29 ?_
            refine zi_icmp_ge (pc := 32) (tgt := 44) O dX9_person_32 (by decide) (by omega) (by omega) (fun h32 => ?_) (fun h32 => ?_)
            · refine z_iconst (pc := 44) (v := iz (-1)) O dX9_person_44 (by decide) ?_
              refine z_iret (pc := 45) O dX9_person_45 ?_
              exact ⟨(-1), rfl, (by decide), (by omega), (Fr.rf [(58, 99999), (59, 99999), (60, 99999), (61, 99999), (33, 52)] σ), I, (by omega), (fun k => (gI_eq rfl).trans (if_neg (by omega)).symm), (fun k => (gI_eq rfl).trans (if_neg (by omega)).symm), (fun k => (gI_eq rfl).trans (if_neg (by omega)).symm), (fun k => (gI_eq rfl).trans (if_neg (by omega)).symm)⟩
            · refine z_aload_n (pc := 35) O dX9_person_35 rfl ?_
              refine zi_getv (pc := 36) (gI σ 33 52) O fl_X9_353 rfl (jo_33 I.1) (izg σ 33 52) dX9_person_36 ?_
              refine z_bipush (pc := 39) (v := iz (20)) O dX9_person_39 (by decide) ?_
              refine zi_icmp_ne (pc := 41) (tgt := 46) O dX9_person_41 (by decide) (by omega) (by decide) (fun h41 => ?_) (fun h41 => ?_)
              · refine z_aload_n (pc := 46) O dX9_person_46 rfl ?_
                refine z_getR (pc := 47) 58 O fl_X9_89 rfl (jo_33 I.1) (jr_33_40 I.1) dX9_person_47 ?_
                refine z_aload_n (pc := 50) O dX9_person_50 rfl ?_
                refine zi_getv (pc := 51) (gI σ 33 52) O fl_X9_353 rfl (jo_33 I.1) (izg σ 33 52) dX9_person_51 ?_
                refine z_iload_n (pc := 54) O dX9_person_54 rfl ?_
                refine zi_iast (pc := 55) ((gI σ 33 52).toNat) O (ja_58 I.1) (by omega) (by omega) (by omega) dX9_person_55 ?_
                refine z_aload_n (pc := 56) O dX9_person_56 rfl ?_
                refine z_getR (pc := 57) 59 O fl_X9_92 rfl (jo_33 I.1) (jr_33_41 I.1) dX9_person_57 ?_
                refine z_aload_n (pc := 60) O dX9_person_60 rfl ?_
                refine zi_getv (pc := 61) (gI σ 33 52) O fl_X9_353 rfl (jo_33 I.1) (sk1t (by decide) (izg σ 33 52)) dX9_person_61 ?_
                refine z_iload_n (pc := 64) O dX9_person_64 rfl ?_
                refine zi_iast (pc := 65) ((gI σ 33 52).toNat) O (ja_59 I.1) (by omega) (by omega) (by omega) dX9_person_65 ?_
                refine z_aload_n (pc := 66) O dX9_person_66 rfl ?_
                refine z_getR (pc := 67) 60 O fl_X9_95 rfl (jo_33 I.1) (jr_33_42 I.1) dX9_person_67 ?_
                refine z_aload_n (pc := 70) O dX9_person_70 rfl ?_
                refine zi_getv (pc := 71) (gI σ 33 52) O fl_X9_353 rfl (jo_33 I.1) (sk1t (by decide) (sk1t (by decide) (izg σ 33 52))) dX9_person_71 ?_
                refine z_iload_n (pc := 74) O dX9_person_74 rfl ?_
                refine zi_iast (pc := 75) ((gI σ 33 52).toNat) O (ja_60 I.1) (by omega) (by omega) (by omega) dX9_person_75 ?_
                refine z_aload_n (pc := 76) O dX9_person_76 rfl ?_
                refine z_getR (pc := 77) 61 O fl_X9_98 rfl (jo_33 I.1) (jr_33_43 I.1) dX9_person_77 ?_
                refine z_aload_n (pc := 80) O dX9_person_80 rfl ?_
                refine zi_getv (pc := 81) (gI σ 33 52) O fl_X9_353 rfl (jo_33 I.1) (sk1t (by decide) (sk1t (by decide) (sk1t (by decide) (izg σ 33 52)))) dX9_person_81 ?_
                refine z_iconst (pc := 84) (v := iz (-1)) O dX9_person_84 (by decide) ?_
                refine zi_iast (pc := 85) ((gI σ 33 52).toNat) O (ja_61 I.1) (by omega) (by omega) (by omega) dX9_person_85 ?_
                refine z_aload_n (pc := 86) O dX9_person_86 rfl ?_
                refine z_dup (pc := 87) O dX9_person_87 rfl ?_
                refine zi_getv (pc := 88) (gI σ 33 52) O fl_X9_353 rfl (jo_33 I.1) (sk1t (by decide) (sk1t (by decide) (sk1t (by decide) (sk1t (by decide) (izg σ 33 52))))) dX9_person_88 ?_
                refine z_iconst (pc := 91) (v := iz (1)) O dX9_person_91 (by decide) ?_
                refine zi_iadd (pc := 92) O dX9_person_92 ?_
                refine z_putI (pc := 93) O fl_X9_353 rfl ⟨rfl, rfl⟩ (jo_33 I.1) dX9_person_93 ?_
                refine z_aload_n (pc := 96) O dX9_person_96 rfl ?_
                refine zi_getv (pc := 97) ((gI σ 33 52) + 1) O fl_X9_353 rfl (jo_33 I.1) (hI_at _ _ _ _) dX9_person_97 ?_
                refine z_iconst (pc := 100) (v := iz (1)) O dX9_person_100 (by decide) ?_
                refine zi_isub (pc := 101) O dX9_person_101 ?_
                refine z_iret (pc := 102) O dX9_person_102 ?_
                exact ⟨(((gI σ 33 52) + 1) - 1), rfl, (by omega), (by omega), ((((((Fr.rf [(58, 99999), (59, 99999), (60, 99999), (61, 99999), (33, 52)] σ).pI rfl).pI rfl).pI rfl).pI rfl).pI rfl), (InvM.fr ((((((Fr.rf [(58, 99999), (59, 99999), (60, 99999), (61, 99999), (33, 52)] σ).pI rfl).pI rfl).pI rfl).pI rfl).pI rfl) I (by unfold InvM1; have : gI (sI (sI (sI (sI (sI σ 58 ((gI σ 33 52).toNat) (iz f)) 59 ((gI σ 33 52).toNat) (iz m)) 60 ((gI σ 33 52).toNat) (iz p)) 61 ((gI σ 33 52).toNat) (iz (-1))) 33 52 (iz ((gI σ 33 52) + 1))) 33 2 = gI σ 33 2 := gI_iz (sk2t (by decide) (sk1t (by decide) (sk1t (by decide) (sk1t (by decide) (sk1t (by decide) (izg σ 33 2)))))) (rgI _ _ _); have : gI (sI (sI (sI (sI (sI σ 58 ((gI σ 33 52).toNat) (iz f)) 59 ((gI σ 33 52).toNat) (iz m)) 60 ((gI σ 33 52).toNat) (iz p)) 61 ((gI σ 33 52).toNat) (iz (-1))) 33 52 (iz ((gI σ 33 52) + 1))) 33 52 = (gI σ 33 52) + 1 := gI_iz (hI_at _ _ _ _) (by omega); have : gI (sI (sI (sI (sI (sI σ 58 ((gI σ 33 52).toNat) (iz f)) 59 ((gI σ 33 52).toNat) (iz m)) 60 ((gI σ 33 52).toNat) (iz p)) 61 ((gI σ 33 52).toNat) (iz (-1))) 33 52 (iz ((gI σ 33 52) + 1))) 33 53 = gI σ 33 53 := gI_iz (sk2t (by decide) (sk1t (by decide) (sk1t (by decide) (sk1t (by decide) (sk1t (by decide) (izg σ 33 53)))))) (rgI _ _ _); have : gI (sI (sI (sI (sI (sI σ 58 ((gI σ 33 52).toNat) (iz f)) 59 ((gI σ 33 52).toNat) (iz m)) 60 ((gI σ 33 52).toNat) (iz p)) 61 ((gI σ 33 52).toNat) (iz (-1))) 33 52 (iz ((gI σ 33 52) + 1))) 33 54 = gI σ 33 54 := gI_iz (sk2t (by decide) (sk1t (by decide) (sk1t (by decide) (sk1t (by decide) (sk1t (by decide) (izg σ 33 54)))))) (rgI _ _ _); have : gI (sI (sI (sI (sI (sI σ 58 ((gI σ 33 52).toNat) (iz f)) 59 ((gI σ 33 52).toNat) (iz m)) 60 ((gI σ 33 52).toNat) (iz p)) 61 ((gI σ 33 52).toNat) (iz (-1))) 33 52 (iz ((gI σ 33 52) + 1))) 33 73 = gI σ 33 73 := gI_iz (sk2t (by decide) (sk1t (by decide) (sk1t (by decide) (sk1t (by decide) (sk1t (by decide) (izg σ 33 73)))))) (rgI _ _ _); have : gI (sI (sI (sI (sI (sI σ 58 ((gI σ 33 52).toNat) (iz f)) 59 ((gI σ 33 52).toNat) (iz m)) 60 ((gI σ 33 52).toNat) (iz p)) 61 ((gI σ 33 52).toNat) (iz (-1))) 33 52 (iz ((gI σ 33 52) + 1))) 33 74 = gI σ 33 74 := gI_iz (sk2t (by decide) (sk1t (by decide) (sk1t (by decide) (sk1t (by decide) (sk1t (by decide) (izg σ 33 74)))))) (rgI _ _ _); have : gI (sI (sI (sI (sI (sI σ 58 ((gI σ 33 52).toNat) (iz f)) 59 ((gI σ 33 52).toNat) (iz m)) 60 ((gI σ 33 52).toNat) (iz p)) 61 ((gI σ 33 52).toNat) (iz (-1))) 33 52 (iz ((gI σ 33 52) + 1))) 33 6 = gI σ 33 6 := gI_iz (sk2t (by decide) (sk1t (by decide) (sk1t (by decide) (sk1t (by decide) (sk1t (by decide) (izg σ 33 6)))))) (rgI _ _ _); omega) rfl), (by have : gI (sI (sI (sI (sI (sI σ 58 ((gI σ 33 52).toNat) (iz f)) 59 ((gI σ 33 52).toNat) (iz m)) 60 ((gI σ 33 52).toNat) (iz p)) 61 ((gI σ 33 52).toNat) (iz (-1))) 33 52 (iz ((gI σ 33 52) + 1))) 33 52 = (gI σ 33 52) + 1 := gI_iz (hI_at _ _ _ _) (by omega); omega), (fun k => by by_cases hk9 : k = ((gI σ 33 52).toNat); (rw [if_pos (by omega), hk9]; exact gI_iz (sk1t (by decide) (sk1t (by decide) (sk1t (by decide) (sk1t (by decide) (hI_at _ _ _ _))))) (by omega)); (exact (gI_eq (sk1t (by decide) (sk1t (by decide) (sk1t (by decide) (sk1t (by decide) (sk2t hk9 rfl)))))).trans (if_neg (by omega)).symm)), (fun k => by by_cases hk9 : k = ((gI σ 33 52).toNat); (rw [if_pos (by omega), hk9]; exact gI_iz (sk1t (by decide) (sk1t (by decide) (sk1t (by decide) (hI_at _ _ _ _)))) (by omega)); (exact (gI_eq (sk1t (by decide) (sk1t (by decide) (sk1t (by decide) (sk2t hk9 (sk1t (by decide) rfl)))))).trans (if_neg (by omega)).symm)), (fun k => by by_cases hk9 : k = ((gI σ 33 52).toNat); (rw [if_pos (by omega), hk9]; exact gI_iz (sk1t (by decide) (sk1t (by decide) (hI_at _ _ _ _))) (by omega)); (exact (gI_eq (sk1t (by decide) (sk1t (by decide) (sk2t hk9 (sk1t (by decide) (sk1t (by decide) rfl)))))).trans (if_neg (by omega)).symm)), (fun k => by by_cases hk9 : k = ((gI σ 33 52).toNat); (rw [if_pos (by omega), hk9]; exact gI_iz (sk1t (by decide) (hI_at _ _ _ _)) (by omega)); (exact (gI_eq (sk1t (by decide) (sk2t hk9 (sk1t (by decide) (sk1t (by decide) (sk1t (by decide) rfl)))))).trans (if_neg (by omega)).symm))⟩
              · refine z_iconst (pc := 44) (v := iz (-1)) O dX9_person_44 (by decide) ?_
                refine z_iret (pc := 45) O dX9_person_45 ?_
                exact ⟨(-1), rfl, (by decide), (by omega), (Fr.rf [(58, 99999), (59, 99999), (60, 99999), (61, 99999), (33, 52)] σ), I, (by omega), (fun k => (gI_eq rfl).trans (if_neg (by omega)).symm), (fun k => (gI_eq rfl).trans (if_neg (by omega)).symm), (fun k => (gI_eq rfl).trans (if_neg (by omega)).symm), (fun k => (gI_eq rfl).trans (if_neg (by omega)).symm)⟩
set_option maxHeartbeats 4000000 in
set_option maxRecDepth 20000 in
theorem k6_add2 (l : Launch) (σ : VH) (p : Int) (rp : (-2147483648 ≤ p ∧ p < 2147483648)) (e : Int) (re : (-2147483648 ≤ e ∧ e < 2147483648)) (f : Int) (rf : (-2147483648 ≤ f ∧ f < 2147483648)) (t : Int) (rt : (-2147483648 ≤ t ∧ t < 2147483648)) (J : Lay σ) (hto : 0 ≤ gI σ 16 4 ∧ gI σ 16 4 ≤ 60) : Ct l yX6_add cX6_add 5 (some .int) 0 0 0 [.ref 16, .int (iz p), .int (iz e), .int (iz f), .int (iz t)] σ (fun r τ => ∃ z : Int, r = some (.int (iz z)) ∧ (-2147483648 ≤ z ∧ z < 2147483648) ∧ ((z = -1 ∧ gI σ 16 4 = 60) ∨ (z = gI σ 16 4 + 1 ∧ gI σ 16 4 < 60)) ∧ (Fr [(17, 99999), (18, 99999), (19, 99999), (20, 99999), (16, 4)] σ τ) ∧ ((z = -1 ∧ gI τ 16 4 = gI σ 16 4) ∨ (0 ≤ z ∧ gI τ 16 4 = z)) ∧ (∀ k : Nat, gI τ 17 k = if 0 ≤ z ∧ (k : Int) + 1 = z then p else gI σ 17 k) ∧ (∀ k : Nat, gI τ 18 k = if 0 ≤ z ∧ (k : Int) + 1 = z then e else gI σ 18 k) ∧ (∀ k : Nat, gI τ 19 k = if 0 ≤ z ∧ (k : Int) + 1 = z then f else gI σ 19 k) ∧ (∀ k : Nat, gI τ 20 k = if 0 ≤ z ∧ (k : Int) + 1 = z then t else gI σ 20 k)) := by
  refine Ct.enter rfl (Nat.le_of_ble_eq_true rfl) ?_
  intro κ γ hκ O hrc hrs
  subst hκ
  refine z_aload_n (pc := 0) O dX6_add_0 rfl ?_
  refine zi_getv (pc := 1) (gI σ 16 4) O fl_X6_24 rfl (jo_16 J) (izg σ 16 4) dX6_add_1 ?_
  have := rgI σ 16 4
  refine z_bipush (pc := 4) (v := iz (60)) O dX6_add_4 (by decide) ?_
  refine zi_icmp_lt (pc := 6) (tgt := 11) O dX6_add_6 (by decide) (by omega) (by decide) (fun h6 => ?_) (fun h6 => ?_)
  · refine z_aload_n (pc := 11) O dX6_add_11 rfl ?_
    refine z_getR (pc := 12) 17 O fl_X6_9 rfl (jo_16 J) (jr_16_0 J) dX6_add_12 ?_
    refine z_aload_n (pc := 15) O dX6_add_15 rfl ?_
    refine zi_getv (pc := 16) (gI σ 16 4) O fl_X6_24 rfl (jo_16 J) (izg σ 16 4) dX6_add_16 ?_
    refine z_iload_n (pc := 19) O dX6_add_19 rfl ?_
    refine zi_iast (pc := 20) ((gI σ 16 4).toNat) O (ja_17 J) (by omega) (by omega) (by omega) dX6_add_20 ?_
    refine z_aload_n (pc := 21) O dX6_add_21 rfl ?_
    refine z_getR (pc := 22) 18 O fl_X6_15 rfl (jo_16 J) (jr_16_1 J) dX6_add_22 ?_
    refine z_aload_n (pc := 25) O dX6_add_25 rfl ?_
    refine zi_getv (pc := 26) (gI σ 16 4) O fl_X6_24 rfl (jo_16 J) (sk1t (by decide) (izg σ 16 4)) dX6_add_26 ?_
    refine z_iload_n (pc := 29) O dX6_add_29 rfl ?_
    refine zi_iast (pc := 30) ((gI σ 16 4).toNat) O (ja_18 J) (by omega) (by omega) (by omega) dX6_add_30 ?_
    refine z_aload_n (pc := 31) O dX6_add_31 rfl ?_
    refine z_getR (pc := 32) 19 O fl_X6_18 rfl (jo_16 J) (jr_16_2 J) dX6_add_32 ?_
    refine z_aload_n (pc := 35) O dX6_add_35 rfl ?_
    refine zi_getv (pc := 36) (gI σ 16 4) O fl_X6_24 rfl (jo_16 J) (sk1t (by decide) (sk1t (by decide) (izg σ 16 4))) dX6_add_36 ?_
    refine z_iload_n (pc := 39) O dX6_add_39 rfl ?_
    refine zi_iast (pc := 40) ((gI σ 16 4).toNat) O (ja_19 J) (by omega) (by omega) (by omega) dX6_add_40 ?_
    refine z_aload_n (pc := 41) O dX6_add_41 rfl ?_
    refine z_getR (pc := 42) 20 O fl_X6_21 rfl (jo_16 J) (jr_16_3 J) dX6_add_42 ?_
    refine z_aload_n (pc := 45) O dX6_add_45 rfl ?_
    refine zi_getv (pc := 46) (gI σ 16 4) O fl_X6_24 rfl (jo_16 J) (sk1t (by decide) (sk1t (by decide) (sk1t (by decide) (izg σ 16 4)))) dX6_add_46 ?_
    refine z_iload (pc := 49) O dX6_add_49 rfl ?_
    refine zi_iast (pc := 51) ((gI σ 16 4).toNat) O (ja_20 J) (by omega) (by omega) (by omega) dX6_add_51 ?_
    refine z_aload_n (pc := 52) O dX6_add_52 rfl ?_
    refine z_dup (pc := 53) O dX6_add_53 rfl ?_
    refine zi_getv (pc := 54) (gI σ 16 4) O fl_X6_24 rfl (jo_16 J) (sk1t (by decide) (sk1t (by decide) (sk1t (by decide) (sk1t (by decide) (izg σ 16 4))))) dX6_add_54 ?_
    refine z_iconst (pc := 57) (v := iz (1)) O dX6_add_57 (by decide) ?_
    refine zi_iadd (pc := 58) O dX6_add_58 ?_
    refine z_putI (pc := 59) O fl_X6_24 rfl ⟨rfl, rfl⟩ (jo_16 J) dX6_add_59 ?_
    refine z_aload_n (pc := 62) O dX6_add_62 rfl ?_
    refine zi_getv (pc := 63) ((gI σ 16 4) + 1) O fl_X6_24 rfl (jo_16 J) (hI_at _ _ _ _) dX6_add_63 ?_
    refine z_iret (pc := 66) O dX6_add_66 ?_
    exact ⟨((gI σ 16 4) + 1), rfl, (by omega), (by omega), ((((((Fr.rf [(17, 99999), (18, 99999), (19, 99999), (20, 99999), (16, 4)] σ).pI rfl).pI rfl).pI rfl).pI rfl).pI rfl), (by have : gI (sI (sI (sI (sI (sI σ 17 ((gI σ 16 4).toNat) (iz p)) 18 ((gI σ 16 4).toNat) (iz e)) 19 ((gI σ 16 4).toNat) (iz f)) 20 ((gI σ 16 4).toNat) (iz t)) 16 4 (iz ((gI σ 16 4) + 1))) 16 4 = (gI σ 16 4) + 1 := gI_iz (hI_at _ _ _ _) (by omega); omega), (fun k => by by_cases hk9 : k = ((gI σ 16 4).toNat); (rw [if_pos (by omega), hk9]; exact gI_iz (sk1t (by decide) (sk1t (by decide) (sk1t (by decide) (sk1t (by decide) (hI_at _ _ _ _))))) (by omega)); (exact (gI_eq (sk1t (by decide) (sk1t (by decide) (sk1t (by decide) (sk1t (by decide) (sk2t hk9 rfl)))))).trans (if_neg (by omega)).symm)), (fun k => by by_cases hk9 : k = ((gI σ 16 4).toNat); (rw [if_pos (by omega), hk9]; exact gI_iz (sk1t (by decide) (sk1t (by decide) (sk1t (by decide) (hI_at _ _ _ _)))) (by omega)); (exact (gI_eq (sk1t (by decide) (sk1t (by decide) (sk1t (by decide) (sk2t hk9 (sk1t (by decide) rfl)))))).trans (if_neg (by omega)).symm)), (fun k => by by_cases hk9 : k = ((gI σ 16 4).toNat); (rw [if_pos (by omega), hk9]; exact gI_iz (sk1t (by decide) (sk1t (by decide) (hI_at _ _ _ _))) (by omega)); (exact (gI_eq (sk1t (by decide) (sk1t (by decide) (sk2t hk9 (sk1t (by decide) (sk1t (by decide) rfl)))))).trans (if_neg (by omega)).symm)), (fun k => by by_cases hk9 : k = ((gI σ 16 4).toNat); (rw [if_pos (by omega), hk9]; exact gI_iz (sk1t (by decide) (hI_at _ _ _ _)) (by omega)); (exact (gI_eq (sk1t (by decide) (sk2t hk9 (sk1t (by decide) (sk1t (by decide) (sk1t (by decide) rfl)))))).trans (if_neg (by omega)).symm))⟩
  · refine z_iconst (pc := 9) (v := iz (-1)) O dX6_add_9 (by decide) ?_
    refine z_iret (pc := 10) O dX6_add_10 ?_
    exact ⟨(-1), rfl, (by decide), (by omega), (Fr.rf [(17, 99999), (18, 99999), (19, 99999), (20, 99999), (16, 4)] σ), (by omega), (fun k => (gI_eq rfl).trans (if_neg (by omega)).symm), (fun k => (gI_eq rfl).trans (if_neg (by omega)).symm), (fun k => (gI_eq rfl).trans (if_neg (by omega)).symm), (fun k => (gI_eq rfl).trans (if_neg (by omega)).symm)⟩
set_option maxHeartbeats 4000000 in
set_option maxRecDepth 20000 in
theorem k8_rank2 (l : Launch) (σ : VH) (p : Int) (rp : (-2147483648 ≤ p ∧ p < 2147483648)) (e : Int) (re : (-2147483648 ≤ e ∧ e < 2147483648)) (d : Int) (rd : (-2147483648 ≤ d ∧ d < 2147483648)) (I : InvX σ) : Ct l yX8_rank cX8_rank 4 (some .int) 1 0 0 [.ref 2, .int (iz p), .int (iz e), .int (iz d)] σ (fun r τ => ∃ z : Int, r = some (.int (iz z)) ∧ (-2147483648 ≤ z ∧ z < 2147483648) ∧ ((z = -1 ∧ ¬ ((0 ≤ p ∧ p < gI σ 9 7) ∧ (0 ≤ e ∧ e ≤ 3) ∧ (0 ≤ d ∧ d ≤ 100000) ∧ gI σ 16 4 < 60)) ∨ (z = gI σ 16 4 + 1 ∧ ((0 ≤ p ∧ p < gI σ 9 7) ∧ (0 ≤ e ∧ e ≤ 3) ∧ (0 ≤ d ∧ d ≤ 100000) ∧ gI σ 16 4 < 60))) ∧ (Fr [(17, 99999), (18, 99999), (19, 99999), (20, 99999), (16, 4)] σ τ) ∧ (InvX τ) ∧ ((z = -1 ∧ gI τ 16 4 = gI σ 16 4) ∨ (0 ≤ z ∧ gI τ 16 4 = z)) ∧ (∀ k : Nat, gI τ 17 k = if 0 ≤ z ∧ (k : Int) + 1 = z then p else gI σ 17 k) ∧ (∀ k : Nat, gI τ 18 k = if 0 ≤ z ∧ (k : Int) + 1 = z then e else gI σ 18 k) ∧ (∀ k : Nat, gI τ 19 k = if 0 ≤ z ∧ (k : Int) + 1 = z then d else gI σ 19 k) ∧ (∀ k : Nat, gI τ 20 k = if 0 ≤ z ∧ (k : Int) + 1 = z then gI σ 2 7 else gI σ 20 k)) := by
  refine Ct.enter rfl (Nat.le_of_ble_eq_true rfl) ?_
  intro κ γ hκ O hrc hrs
  subst hκ
  have i1 := I.2.1
  unfold InvX1 at i1
  refine z_aload_n (pc := 0) O dX8_rank_0 rfl ?_
  refine z_getR (pc := 1) 9 O fl_X8_37 rfl (jo_2 I.1) (jr_2_8 I.1) dX8_rank_1 ?_
  refine z_iload_n (pc := 4) O dX8_rank_4 rfl ?_
  refine z_callV (pc := 5) O cl_X8_130 (k3_isThere _ _ p (by omega) I.1) (by decide) (jo_9 I.1) kc_3 rfl rfl (Nat.le_of_ble_eq_true rfl) ⟨Nat.zero_le _, Nat.zero_le _⟩ dX8_rank_5 (fun r τ1 hp => ?_)
  obtain ⟨z2, rfl, fτ1_0, fτ1_1, rfl⟩ := hp
  refine zi_if_eq (pc := 8) (tgt := 27) O dX8_rank_8 (by decide) (by omega) (fun h8 => ?_) (fun h8 => ?_)
  · refine z_iconst (pc := 27) (v := iz (-1)) O dX8_rank_27 (by decide) ?_
    refine z_iret (pc := 28) O dX8_rank_28 ?_
    exact ⟨(-1), rfl, (by decide), (by omega), (Fr.rf [(17, 99999), (18, 99999), (19, 99999), (20, 99999), (16, 4)] σ), I, (by omega), (fun k => (gI_eq rfl).trans (if_neg (by omega)).symm), (fun k => (gI_eq rfl).trans (if_neg (by omega)).symm), (fun k => (gI_eq rfl).trans (if_neg (by omega)).symm), (fun k => (gI_eq rfl).trans (if_neg (by omega)).symm)⟩
  · refine z_iload_n (pc := 11) O dX8_rank_11 rfl ?_
    refine zi_if_lt (pc := 12) (tgt := 27) O dX8_rank_12 (by decide) (by omega) (fun h12 => ?_) (fun h12 => ?_)
    · refine z_iconst (pc := 27) (v := iz (-1)) O dX8_rank_27 (by decide) ?_
      refine z_iret (pc := 28) O dX8_rank_28 ?_
      exact ⟨(-1), rfl, (by decide), (by omega), (Fr.rf [(17, 99999), (18, 99999), (19, 99999), (20, 99999), (16, 4)] σ), I, (by omega), (fun k => (gI_eq rfl).trans (if_neg (by omega)).symm), (fun k => (gI_eq rfl).trans (if_neg (by omega)).symm), (fun k => (gI_eq rfl).trans (if_neg (by omega)).symm), (fun k => (gI_eq rfl).trans (if_neg (by omega)).symm)⟩
    · refine z_iload_n (pc := 15) O dX8_rank_15 rfl ?_
      refine z_iconst (pc := 16) (v := iz (3)) O dX8_rank_16 (by decide) ?_
      refine zi_icmp_gt (pc := 17) (tgt := 27) O dX8_rank_17 (by decide) (by omega) (by decide) (fun h17 => ?_) (fun h17 => ?_)
      · refine z_iconst (pc := 27) (v := iz (-1)) O dX8_rank_27 (by decide) ?_
        refine z_iret (pc := 28) O dX8_rank_28 ?_
        exact ⟨(-1), rfl, (by decide), (by omega), (Fr.rf [(17, 99999), (18, 99999), (19, 99999), (20, 99999), (16, 4)] σ), I, (by omega), (fun k => (gI_eq rfl).trans (if_neg (by omega)).symm), (fun k => (gI_eq rfl).trans (if_neg (by omega)).symm), (fun k => (gI_eq rfl).trans (if_neg (by omega)).symm), (fun k => (gI_eq rfl).trans (if_neg (by omega)).symm)⟩
      · refine z_iload_n (pc := 20) O dX8_rank_20 rfl ?_
        refine z_callS (pc := 21) O cl_X8_85 (k8_isDay _ _ d (by omega)) (by decide) rfl rfl (Nat.le_of_ble_eq_true rfl) ⟨Nat.zero_le _, Nat.zero_le _⟩ dX8_rank_21 (fun r τ3 hp => ?_)
        obtain ⟨z4, rfl, fτ3_0, fτ3_1, rfl⟩ := hp
        refine zi_if_ne (pc := 24) (tgt := 29) O dX8_rank_24 (by decide) (by omega) (fun h24 => ?_) (fun h24 => ?_)
        · refine z_aload_n (pc := 29) O dX8_rank_29 rfl ?_
          refine z_getR (pc := 30) 16 O fl_X8_44 rfl (jo_2 I.1) (jr_2_9 I.1) dX8_rank_30 ?_
          refine z_iload_n (pc := 33) O dX8_rank_33 rfl ?_
          refine z_iload_n (pc := 34) O dX8_rank_34 rfl ?_
          refine z_iload_n (pc := 35) O dX8_rank_35 rfl ?_
          refine z_aload_n (pc := 36) O dX8_rank_36 rfl ?_
          refine zi_getv (pc := 37) (gI σ 2 7) O fl_X8_133 rfl (jo_2 I.1) (izg σ 2 7) dX8_rank_37 ?_
          have := rgI σ 2 7
          refine z_callV (pc := 40) O cl_X8_136 (k6_add2 _ _ p (by omega) e (by omega) d (by omega) (gI σ 2 7) (by omega) I.1 (by omega)) (by decide) (jo_16 I.1) kc_6 rfl rfl (Nat.le_of_ble_eq_true rfl) ⟨Nat.zero_le _, Nat.zero_le _⟩ dX8_rank_40 (fun r τ5 hp => ?_)
          obtain ⟨z6, rfl, fτ5_0, fτ5_1, frτ5, eτ5_0, eτ5_1, eτ5_2, eτ5_3, eτ5_4⟩ := hp
          refine z_iret (pc := 43) O dX8_rank_43 ?_
          exact ⟨z6, rfl, (by omega), (by omega), frτ5, (InvX.fr frτ5 I (by unfold InvX1; have : gI τ5 2 1 = gI σ 2 1 := gI_iz (Fr.it frτ5 rfl (izg σ 2 1)) (rgI _ _ _); have : gI τ5 9 7 = gI σ 9 7 := gI_iz (Fr.it frτ5 rfl (izg σ 9 7)) (rgI _ _ _); have : gI τ5 21 4 = gI σ 21 4 := gI_iz (Fr.it frτ5 rfl (izg σ 21 4)) (rgI _ _ _); have : gI τ5 2 12 = gI σ 2 12 := gI_iz (Fr.it frτ5 rfl (izg σ 2 12)) (rgI _ _ _); have : gI τ5 27 3 = gI σ 27 3 := gI_iz (Fr.it frτ5 rfl (izg σ 27 3)) (rgI _ _ _); have : gI τ5 2 15 = gI σ 2 15 := gI_iz (Fr.it frτ5 rfl (izg σ 2 15)) (rgI _ _ _); have : gI τ5 2 7 = gI σ 2 7 := gI_iz (Fr.it frτ5 rfl (izg σ 2 7)) (rgI _ _ _); omega) (fun _ => rfl)), (by omega), (fun k => (eτ5_1 k).trans (by first | rfl | (split <;> split <;> first | rfl | omega))), (fun k => (eτ5_2 k).trans (by first | rfl | (split <;> split <;> first | rfl | omega))), (fun k => (eτ5_3 k).trans (by first | rfl | (split <;> split <;> first | rfl | omega))), (fun k => (eτ5_4 k).trans (by first | rfl | (split <;> split <;> first | rfl | omega)))⟩
        · refine z_iconst (pc := 27) (v := iz (-1)) O dX8_rank_27 (by decide) ?_
          refine z_iret (pc := 28) O dX8_rank_28 ?_
          exact ⟨(-1), rfl, (by decide), (by omega), (Fr.rf [(17, 99999), (18, 99999), (19, 99999), (20, 99999), (16, 4)] σ), I, (by omega), (fun k => (gI_eq rfl).trans (if_neg (by omega)).symm), (fun k => (gI_eq rfl).trans (if_neg (by omega)).symm), (fun k => (gI_eq rfl).trans (if_neg (by omega)).symm), (fun k => (gI_eq rfl).trans (if_neg (by omega)).symm)⟩
set_option maxHeartbeats 4000000 in
set_option maxRecDepth 20000 in
theorem k9_rank2 (l : Launch) (σ : VH) (p : Int) (rp : (-2147483648 ≤ p ∧ p < 2147483648)) (e : Int) (re : (-2147483648 ≤ e ∧ e < 2147483648)) (d : Int) (rd : (-2147483648 ≤ d ∧ d < 2147483648)) (I : InvM σ) : Ct l yX9_rank cX9_rank 4 (some .int) 1 0 0 [.ref 33, .int (iz p), .int (iz e), .int (iz d)] σ (fun r τ => ∃ z : Int, r = some (.int (iz z)) ∧ (-2147483648 ≤ z ∧ z < 2147483648) ∧ ((z = -1 ∧ ¬ ((0 ≤ p ∧ p < gI σ 33 52) ∧ (0 ≤ e ∧ e ≤ 3) ∧ (0 ≤ d ∧ d ≤ 100000) ∧ gI σ 33 53 < 60)) ∨ (z = gI σ 33 53 + 1 ∧ ((0 ≤ p ∧ p < gI σ 33 52) ∧ (0 ≤ e ∧ e ≤ 3) ∧ (0 ≤ d ∧ d ≤ 100000) ∧ gI σ 33 53 < 60))) ∧ (Fr [(62, 99999), (63, 99999), (64, 99999), (65, 99999), (33, 53)] σ τ) ∧ (InvM τ) ∧ ((z = -1 ∧ gI τ 33 53 = gI σ 33 53) ∨ (0 ≤ z ∧ gI τ 33 53 = z)) ∧ (∀ k : Nat, gI τ 62 k = if 0 ≤ z ∧ (k : Int) + 1 = z then p else gI σ 62 k) ∧ (∀ k : Nat, gI τ 63 k = if 0 ≤ z ∧ (k : Int) + 1 = z then e else gI σ 63 k) ∧ (∀ k : Nat, gI τ 64 k = if 0 ≤ z ∧ (k : Int) + 1 = z then d else gI σ 64 k) ∧ (∀ k : Nat, gI τ 65 k = if 0 ≤ z ∧ (k : Int) + 1 = z then gI σ 33 6 else gI σ 65 k)) := by
  refine Ct.enter rfl (Nat.le_of_ble_eq_true rfl) ?_
  intro κ γ hκ O hrc hrs
  subst hκ
  have i1 := I.2.1
  unfold InvM1 at i1
  have i2 := I.2.2.1.laws
  have i3 := I.2.2.2.1
  refine z_aload_n (pc := 0) O dX9_rank_0 rfl ?_
  refine z_iload_n (pc := 1) O dX9_rank_1 rfl ?_
  refine z_callV (pc := 2) O cl_X9_356 (k9_isPerson _ _ p (by omega) I.1) (by decide) (jo_33 I.1) kc_9 rfl rfl (Nat.le_of_ble_eq_true rfl) ⟨Nat.zero_le _, Nat.zero_le _⟩ dX9_rank_2 (fun r τ1 hp => ?_)
  obtain ⟨z2, rfl, fτ1_0, fτ1_1, rfl⟩ := hp
  refine zi_if_eq (pc := 5) (tgt := 37) O dX9_rank_5 (by decide) (by omega) (fun h5 => ?_) (fun h5 => ?_)
  · refine z_iconst (pc := 37) (v := iz (-1)) O dX9_rank_37 (by decide) ?_
    refine z_iret (pc := 38) O dX9_rank_38 ?_
    exact ⟨(-1), rfl, (by decide), (by omega), (Fr.rf [(62, 99999), (63, 99999), (64, 99999), (65, 99999), (33, 53)] σ), I, (by omega), (fun k => (gI_eq rfl).trans (if_neg (by omega)).symm), (fun k => (gI_eq rfl).trans (if_neg (by omega)).symm), (fun k => (gI_eq rfl).trans (if_neg (by omega)).symm), (fun k => (gI_eq rfl).trans (if_neg (by omega)).symm)⟩
  · refine z_iload_n (pc := 8) O dX9_rank_8 rfl ?_
    refine zi_if_lt (pc := 9) (tgt := 37) O dX9_rank_9 (by decide) (by omega) (fun h9 => ?_) (fun h9 => ?_)
    · refine z_iconst (pc := 37) (v := iz (-1)) O dX9_rank_37 (by decide) ?_
      refine z_iret (pc := 38) O dX9_rank_38 ?_
      exact ⟨(-1), rfl, (by decide), (by omega), (Fr.rf [(62, 99999), (63, 99999), (64, 99999), (65, 99999), (33, 53)] σ), I, (by omega), (fun k => (gI_eq rfl).trans (if_neg (by omega)).symm), (fun k => (gI_eq rfl).trans (if_neg (by omega)).symm), (fun k => (gI_eq rfl).trans (if_neg (by omega)).symm), (fun k => (gI_eq rfl).trans (if_neg (by omega)).symm)⟩
    · refine z_iload_n (pc := 12) O dX9_rank_12 rfl ?_
      refine z_iconst (pc := 13) (v := iz (3)) O dX9_rank_13 (by decide) ?_
      refine zi_icmp_gt (pc := 14) (tgt := 37) O dX9_rank_14 (by decide) (by omega) (by decide) (fun h14 => ?_) (fun h14 => ?_)
      · refine z_iconst (pc := 37) (v := iz (-1)) O dX9_rank_37 (by decide) ?_
        refine z_iret (pc := 38) O dX9_rank_38 ?_
        exact ⟨(-1), rfl, (by decide), (by omega), (Fr.rf [(62, 99999), (63, 99999), (64, 99999), (65, 99999), (33, 53)] σ), I, (by omega), (fun k => (gI_eq rfl).trans (if_neg (by omega)).symm), (fun k => (gI_eq rfl).trans (if_neg (by omega)).symm), (fun k => (gI_eq rfl).trans (if_neg (by omega)).symm), (fun k => (gI_eq rfl).trans (if_neg (by omega)).symm)⟩
      · refine z_iload_n (pc := 17) O dX9_rank_17 rfl ?_
        refine zi_if_lt (pc := 18) (tgt := 37) O dX9_rank_18 (by decide) (by omega) (fun h18 => ?_) (fun h18 => ?_)
        · refine z_iconst (pc := 37) (v := iz (-1)) O dX9_rank_37 (by decide) ?_
          refine z_iret (pc := 38) O dX9_rank_38 ?_
          exact ⟨(-1), rfl, (by decide), (by omega), (Fr.rf [(62, 99999), (63, 99999), (64, 99999), (65, 99999), (33, 53)] σ), I, (by omega), (fun k => (gI_eq rfl).trans (if_neg (by omega)).symm), (fun k => (gI_eq rfl).trans (if_neg (by omega)).symm), (fun k => (gI_eq rfl).trans (if_neg (by omega)).symm), (fun k => (gI_eq rfl).trans (if_neg (by omega)).symm)⟩
        · refine z_iload_n (pc := 21) O dX9_rank_21 rfl ?_
          refine z_ldcw (pc := 22) O tw_989 dX9_rank_22 ?_
          refine zi_val (100000) (by decide) ?_
          refine zi_icmp_gt (pc := 25) (tgt := 37) O dX9_rank_25 (by decide) (by omega) (by decide) (fun h25 => ?_) (fun h25 => ?_)
          · refine z_iconst (pc := 37) (v := iz (-1)) O dX9_rank_37 (by decide) ?_
            refine z_iret (pc := 38) O dX9_rank_38 ?_
            exact ⟨(-1), rfl, (by decide), (by omega), (Fr.rf [(62, 99999), (63, 99999), (64, 99999), (65, 99999), (33, 53)] σ), I, (by omega), (fun k => (gI_eq rfl).trans (if_neg (by omega)).symm), (fun k => (gI_eq rfl).trans (if_neg (by omega)).symm), (fun k => (gI_eq rfl).trans (if_neg (by omega)).symm), (fun k => (gI_eq rfl).trans (if_neg (by omega)).symm)⟩
          · refine z_aload_n (pc := 28) O dX9_rank_28 rfl ?_
            refine zi_getv (pc := 29) (gI σ 33 53) O fl_X9_362 rfl (jo_33 I.1) (izg σ 33 53) dX9_rank_29 ?_
            have := rgI σ 33 53
            refine z_bipush (pc := 32) (v := iz (60)) O dX9_rank_32 (by decide) ?_
            refine zi_icmp_ne (pc := 34) (tgt := 39) O dX9_rank_34 (by decide) (by omega) (by decide) (fun h34 => ?_) (fun h34 => ?_)
            · refine z_aload_n (pc := 39) O dX9_rank_39 rfl ?_
              refine z_getR (pc := 40) 62 O fl_X9_101 rfl (jo_33 I.1) (jr_33_44 I.1) dX9_rank_40 ?_
              refine z_aload_n (pc := 43) O dX9_rank_43 rfl ?_
              refine zi_getv (pc := 44) (gI σ 33 53) O fl_X9_362 rfl (jo_33 I.1) (izg σ 33 53) dX9_rank_44 ?_
              refine z_iload_n (pc := 47) O dX9_rank_47 rfl ?_
              refine zi_iast (pc := 48) ((gI σ 33 53).toNat) O (ja_62 I.1) (by omega) (by omega) (by omega) dX9_rank_48 ?_
              refine z_aload_n (pc := 49) O dX9_rank_49 rfl ?_
              refine z_getR (pc := 50) 63 O fl_X9_104 rfl (jo_33 I.1) (jr_33_45 I.1) dX9_rank_50 ?_
              refine z_aload_n (pc := 53) O dX9_rank_53 rfl ?_
              refine zi_getv (pc := 54) (gI σ 33 53) O fl_X9_362 rfl (jo_33 I.1) (sk1t (by decide) (izg σ 33 53)) dX9_rank_54 ?_
              refine z_iload_n (pc := 57) O dX9_rank_57 rfl ?_
              refine zi_iast (pc := 58) ((gI σ 33 53).toNat) O (ja_63 I.1) (by omega) (by omega) (by omega) dX9_rank_58 ?_
              refine z_aload_n (pc := 59) O dX9_rank_59 rfl ?_
              refine z_getR (pc := 60) 64 O fl_X9_107 rfl (jo_33 I.1) (jr_33_46 I.1) dX9_rank_60 ?_
              refine z_aload_n (pc := 63) O dX9_rank_63 rfl ?_
              refine zi_getv (pc := 64) (gI σ 33 53) O fl_X9_362 rfl (jo_33 I.1) (sk1t (by decide) (sk1t (by decide) (izg σ 33 53))) dX9_rank_64 ?_
              refine z_iload_n (pc := 67) O dX9_rank_67 rfl ?_
              refine zi_iast (pc := 68) ((gI σ 33 53).toNat) O (ja_64 I.1) (by omega) (by omega) (by omega) dX9_rank_68 ?_
              refine z_aload_n (pc := 69) O dX9_rank_69 rfl ?_
              refine z_getR (pc := 70) 65 O fl_X9_110 rfl (jo_33 I.1) (jr_33_47 I.1) dX9_rank_70 ?_
              refine z_aload_n (pc := 73) O dX9_rank_73 rfl ?_
              refine zi_getv (pc := 74) (gI σ 33 53) O fl_X9_362 rfl (jo_33 I.1) (sk1t (by decide) (sk1t (by decide) (sk1t (by decide) (izg σ 33 53)))) dX9_rank_74 ?_
              refine z_aload_n (pc := 77) O dX9_rank_77 rfl ?_
              refine zi_getv (pc := 78) (gI σ 33 6) O fl_X9_365 rfl (jo_33 I.1) (sk1t (by decide) (sk1t (by decide) (sk1t (by decide) (izg σ 33 6)))) dX9_rank_78 ?_
              have := rgI σ 33 6
              refine zi_iast (pc := 81) ((gI σ 33 53).toNat) O (ja_65 I.1) (by omega) (by omega) (by omega) dX9_rank_81 ?_
              refine z_aload_n (pc := 82) O dX9_rank_82 rfl ?_
              refine z_dup (pc := 83) O dX9_rank_83 rfl ?_
              refine zi_getv (pc := 84) (gI σ 33 53) O fl_X9_362 rfl (jo_33 I.1) (sk1t (by decide) (sk1t (by decide) (sk1t (by decide) (sk1t (by decide) (izg σ 33 53))))) dX9_rank_84 ?_
              refine z_iconst (pc := 87) (v := iz (1)) O dX9_rank_87 (by decide) ?_
              refine zi_iadd (pc := 88) O dX9_rank_88 ?_
              refine z_putI (pc := 89) O fl_X9_362 rfl ⟨rfl, rfl⟩ (jo_33 I.1) dX9_rank_89 ?_
              refine z_aload_n (pc := 92) O dX9_rank_92 rfl ?_
              refine zi_getv (pc := 93) ((gI σ 33 53) + 1) O fl_X9_362 rfl (jo_33 I.1) (hI_at _ _ _ _) dX9_rank_93 ?_
              refine z_iret (pc := 96) O dX9_rank_96 ?_
              exact ⟨((gI σ 33 53) + 1), rfl, (by omega), (by omega), ((((((Fr.rf [(62, 99999), (63, 99999), (64, 99999), (65, 99999), (33, 53)] σ).pI rfl).pI rfl).pI rfl).pI rfl).pI rfl), (InvM.fr ((((((Fr.rf [(62, 99999), (63, 99999), (64, 99999), (65, 99999), (33, 53)] σ).pI rfl).pI rfl).pI rfl).pI rfl).pI rfl) I (by unfold InvM1; have : gI (sI (sI (sI (sI (sI σ 62 ((gI σ 33 53).toNat) (iz p)) 63 ((gI σ 33 53).toNat) (iz e)) 64 ((gI σ 33 53).toNat) (iz d)) 65 ((gI σ 33 53).toNat) (iz (gI σ 33 6))) 33 53 (iz ((gI σ 33 53) + 1))) 33 2 = gI σ 33 2 := gI_iz (sk2t (by decide) (sk1t (by decide) (sk1t (by decide) (sk1t (by decide) (sk1t (by decide) (izg σ 33 2)))))) (rgI _ _ _); have : gI (sI (sI (sI (sI (sI σ 62 ((gI σ 33 53).toNat) (iz p)) 63 ((gI σ 33 53).toNat) (iz e)) 64 ((gI σ 33 53).toNat) (iz d)) 65 ((gI σ 33 53).toNat) (iz (gI σ 33 6))) 33 53 (iz ((gI σ 33 53) + 1))) 33 52 = gI σ 33 52 := gI_iz (sk2t (by decide) (sk1t (by decide) (sk1t (by decide) (sk1t (by decide) (sk1t (by decide) (izg σ 33 52)))))) (rgI _ _ _); have : gI (sI (sI (sI (sI (sI σ 62 ((gI σ 33 53).toNat) (iz p)) 63 ((gI σ 33 53).toNat) (iz e)) 64 ((gI σ 33 53).toNat) (iz d)) 65 ((gI σ 33 53).toNat) (iz (gI σ 33 6))) 33 53 (iz ((gI σ 33 53) + 1))) 33 53 = (gI σ 33 53) + 1 := gI_iz (hI_at _ _ _ _) (by omega); have : gI (sI (sI (sI (sI (sI σ 62 ((gI σ 33 53).toNat) (iz p)) 63 ((gI σ 33 53).toNat) (iz e)) 64 ((gI σ 33 53).toNat) (iz d)) 65 ((gI σ 33 53).toNat) (iz (gI σ 33 6))) 33 53 (iz ((gI σ 33 53) + 1))) 33 54 = gI σ 33 54 := gI_iz (sk2t (by decide) (sk1t (by decide) (sk1t (by decide) (sk1t (by decide) (sk1t (by decide) (izg σ 33 54)))))) (rgI _ _ _); have : gI (sI (sI (sI (sI (sI σ 62 ((gI σ 33 53).toNat) (iz p)) 63 ((gI σ 33 53).toNat) (iz e)) 64 ((gI σ 33 53).toNat) (iz d)) 65 ((gI σ 33 53).toNat) (iz (gI σ 33 6))) 33 53 (iz ((gI σ 33 53) + 1))) 33 73 = gI σ 33 73 := gI_iz (sk2t (by decide) (sk1t (by decide) (sk1t (by decide) (sk1t (by decide) (sk1t (by decide) (izg σ 33 73)))))) (rgI _ _ _); have : gI (sI (sI (sI (sI (sI σ 62 ((gI σ 33 53).toNat) (iz p)) 63 ((gI σ 33 53).toNat) (iz e)) 64 ((gI σ 33 53).toNat) (iz d)) 65 ((gI σ 33 53).toNat) (iz (gI σ 33 6))) 33 53 (iz ((gI σ 33 53) + 1))) 33 74 = gI σ 33 74 := gI_iz (sk2t (by decide) (sk1t (by decide) (sk1t (by decide) (sk1t (by decide) (sk1t (by decide) (izg σ 33 74)))))) (rgI _ _ _); have : gI (sI (sI (sI (sI (sI σ 62 ((gI σ 33 53).toNat) (iz p)) 63 ((gI σ 33 53).toNat) (iz e)) 64 ((gI σ 33 53).toNat) (iz d)) 65 ((gI σ 33 53).toNat) (iz (gI σ 33 6))) 33 53 (iz ((gI σ 33 53) + 1))) 33 6 = gI σ 33 6 := gI_iz (sk2t (by decide) (sk1t (by decide) (sk1t (by decide) (sk1t (by decide) (sk1t (by decide) (izg σ 33 6)))))) (rgI _ _ _); omega) rfl), (by have : gI (sI (sI (sI (sI (sI σ 62 ((gI σ 33 53).toNat) (iz p)) 63 ((gI σ 33 53).toNat) (iz e)) 64 ((gI σ 33 53).toNat) (iz d)) 65 ((gI σ 33 53).toNat) (iz (gI σ 33 6))) 33 53 (iz ((gI σ 33 53) + 1))) 33 53 = (gI σ 33 53) + 1 := gI_iz (hI_at _ _ _ _) (by omega); omega), (fun k => by by_cases hk9 : k = ((gI σ 33 53).toNat); (rw [if_pos (by omega), hk9]; exact gI_iz (sk1t (by decide) (sk1t (by decide) (sk1t (by decide) (sk1t (by decide) (hI_at _ _ _ _))))) (by omega)); (exact (gI_eq (sk1t (by decide) (sk1t (by decide) (sk1t (by decide) (sk1t (by decide) (sk2t hk9 rfl)))))).trans (if_neg (by omega)).symm)), (fun k => by by_cases hk9 : k = ((gI σ 33 53).toNat); (rw [if_pos (by omega), hk9]; exact gI_iz (sk1t (by decide) (sk1t (by decide) (sk1t (by decide) (hI_at _ _ _ _)))) (by omega)); (exact (gI_eq (sk1t (by decide) (sk1t (by decide) (sk1t (by decide) (sk2t hk9 (sk1t (by decide) rfl)))))).trans (if_neg (by omega)).symm)), (fun k => by by_cases hk9 : k = ((gI σ 33 53).toNat); (rw [if_pos (by omega), hk9]; exact gI_iz (sk1t (by decide) (sk1t (by decide) (hI_at _ _ _ _))) (by omega)); (exact (gI_eq (sk1t (by decide) (sk1t (by decide) (sk2t hk9 (sk1t (by decide) (sk1t (by decide) rfl)))))).trans (if_neg (by omega)).symm)), (fun k => by by_cases hk9 : k = ((gI σ 33 53).toNat); (rw [if_pos (by omega), hk9]; exact gI_iz (sk1t (by decide) (hI_at _ _ _ _)) (by omega)); (exact (gI_eq (sk1t (by decide) (sk2t hk9 (sk1t (by decide) (sk1t (by decide) (sk1t (by decide) rfl)))))).trans (if_neg (by omega)).symm))⟩
            · refine z_iconst (pc := 37) (v := iz (-1)) O dX9_rank_37 (by decide) ?_
              refine z_iret (pc := 38) O dX9_rank_38 ?_
              exact ⟨(-1), rfl, (by decide), (by omega), (Fr.rf [(62, 99999), (63, 99999), (64, 99999), (65, 99999), (33, 53)] σ), I, (by omega), (fun k => (gI_eq rfl).trans (if_neg (by omega)).symm), (fun k => (gI_eq rfl).trans (if_neg (by omega)).symm), (fun k => (gI_eq rfl).trans (if_neg (by omega)).symm), (fun k => (gI_eq rfl).trans (if_neg (by omega)).symm)⟩
