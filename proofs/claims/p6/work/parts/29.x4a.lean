set_option maxHeartbeats 4000000 in
set_option maxRecDepth 20000 in
theorem k4_refuse (l : Launch) (σ : VH) (b : Nat) (y : Int) (ry : (-2147483648 ≤ y ∧ y < 2147483648)) (J : Lay σ) (R : RdX σ b) : Ct l yX4_refuse cX4_refuse 2 (some .boolean) 0 0 0 [.ref (b + 9), .int (iz y)] σ (fun r τ => ∃ z : Int, r = some (.int (iz z)) ∧ (z = 0 ∨ z = 1) ∧ (FrD b σ τ) ∧ (RdX τ b)) := by
  refine Ct.enter rfl (Nat.le_of_ble_eq_true rfl) ?_
  intro κ γ hκ O hrc hrs
  subst hκ
  have hR0 := R.1.1
  have hR4 := R.2.2.2.1
  have hR5 := R.2.2.2.2
  have hR6 := R.1.2.2.2.2.1
  have hR7 := R.1.2.2.2.2.2.1
  refine z_aload_n (pc := 0) O dX4_refuse_0 rfl ?_
  refine z_aload_n (pc := 1) O dX4_refuse_1 rfl ?_
  refine zi_getLv (pc := 2) (hL σ (b + 9) 3) O fl_X4_29 rfl (R).2.1 rfl dX4_refuse_2 ?_
  refine z_lconst (pc := 5) (v := 0) O dX4_refuse_5 (by decide) ?_
  refine z_lcmp (pc := 6) O dX4_refuse_6 ?_
  refine zi_lc_ne (pc := 7) (tgt := 14) O dX4_refuse_7 (by decide) (fun h7 => ?_) (fun h7 => ?_)
  · refine z_iload_n (pc := 14) O dX4_refuse_14 rfl ?_
    refine z_putI (pc := 15) O fl_X4_176 rfl ⟨rfl, rfl⟩ (R).2.1 dX4_refuse_15 ?_
    refine z_aload_n (pc := 18) O dX4_refuse_18 rfl ?_
    refine z_aload_n (pc := 19) O dX4_refuse_19 rfl ?_
    refine z_getR (pc := 20) 4 O fl_X4_15 rfl (R).2.1 (R).2.2.1.1 dX4_refuse_20 ?_
    refine z_getR (pc := 23) 6 O fl_X4_179 rfl (jo_4 J) (jr_4_1 J) dX4_refuse_23 ?_
    refine z_aload_n (pc := 26) O dX4_refuse_26 rfl ?_
    refine zi_getv (pc := 27) (gI σ (b + 9) 2) O fl_X4_182 rfl (R).2.1 (sk2t (by decide) (izg σ (b + 9) 2)) dX4_refuse_27 ?_
    have := rgI σ (b + 9) 2
    refine zi_ialdv (pc := 30) ((gI σ (b + 9) 2).toNat) (gI σ 6 ((gI σ (b + 9) 2).toNat)) O (ja_6 J) (by omega) (by omega) (by omega) (sk1t (by omega) (izg σ 6 ((gI σ (b + 9) 2).toNat))) dX4_refuse_30 ?_
    have := rgI σ 6 ((gI σ (b + 9) 2).toNat)
    refine z_putI (pc := 31) O fl_X4_9 rfl ⟨rfl, rfl⟩ (R).2.1 dX4_refuse_31 ?_
    refine z_iconst (pc := 34) (v := iz (0)) O dX4_refuse_34 (by decide) ?_
    refine z_zret (pc := 35) O dX4_refuse_35 rfl ?_
    exact ⟨0, rfl, (by decide), (((FrD.rf b σ).pI (by omega)).pI (by omega)), (RdX.up R (τ := (sI (sI σ (b + 9) 8 (iz y)) (b + 9) 9 (iz (gI σ 6 ((gI σ (b + 9) 2).toNat))))) (((FrD.rf b σ).pI (by omega)).pI (by omega)) (by have : gI (sI (sI σ (b + 9) 8 (iz y)) (b + 9) 9 (iz (gI σ 6 ((gI σ (b + 9) 2).toNat)))) (b + 9) 2 = gI σ (b + 9) 2 := gI_iz (sk2t (by decide) (sk2t (by decide) (izg σ (b + 9) 2))) (rgI _ _ _); omega) (by have : gI (sI (sI σ (b + 9) 8 (iz y)) (b + 9) 9 (iz (gI σ 6 ((gI σ (b + 9) 2).toNat)))) b 14 = gI σ b 14 := gI_iz (sk1t (by omega) (sk1t (by omega) (izg σ b 14))) (rgI _ _ _); omega) (by have : gI (sI (sI σ (b + 9) 8 (iz y)) (b + 9) 9 (iz (gI σ 6 ((gI σ (b + 9) 2).toNat)))) b 3 = gI σ b 3 := gI_iz (sk1t (by omega) (sk1t (by omega) (izg σ b 3))) (rgI _ _ _); omega) (by have : gI (sI (sI σ (b + 9) 8 (iz y)) (b + 9) 9 (iz (gI σ 6 ((gI σ (b + 9) 2).toNat)))) b 4 = gI σ b 4 := gI_iz (sk1t (by omega) (sk1t (by omega) (izg σ b 4))) (rgI _ _ _); omega) (fun w hw => by rw [show gI (sI (sI σ (b + 9) 8 (iz y)) (b + 9) 9 (iz (gI σ 6 ((gI σ (b + 9) 2).toNat)))) (b + 6) w = gI σ (b + 6) w from gI_eq (sk1t (by omega) (sk1t (by omega) rfl))]; exact (R).1.2.2.2.2.2.2 w hw))⟩
  · refine z_iconst (pc := 10) (v := iz (1)) O dX4_refuse_10 (by decide) ?_
    refine z_goto (pc := 11) (tgt := 15) O dX4_refuse_11 (by decide) ?_
    refine z_putI (pc := 15) O fl_X4_176 rfl ⟨rfl, rfl⟩ (R).2.1 dX4_refuse_15 ?_
    refine z_aload_n (pc := 18) O dX4_refuse_18 rfl ?_
    refine z_aload_n (pc := 19) O dX4_refuse_19 rfl ?_
    refine z_getR (pc := 20) 4 O fl_X4_15 rfl (R).2.1 (R).2.2.1.1 dX4_refuse_20 ?_
    refine z_getR (pc := 23) 6 O fl_X4_179 rfl (jo_4 J) (jr_4_1 J) dX4_refuse_23 ?_
    refine z_aload_n (pc := 26) O dX4_refuse_26 rfl ?_
    refine zi_getv (pc := 27) (gI σ (b + 9) 2) O fl_X4_182 rfl (R).2.1 (sk2t (by decide) (izg σ (b + 9) 2)) dX4_refuse_27 ?_
    have := rgI σ (b + 9) 2
    refine zi_ialdv (pc := 30) ((gI σ (b + 9) 2).toNat) (gI σ 6 ((gI σ (b + 9) 2).toNat)) O (ja_6 J) (by omega) (by omega) (by omega) (sk1t (by omega) (izg σ 6 ((gI σ (b + 9) 2).toNat))) dX4_refuse_30 ?_
    have := rgI σ 6 ((gI σ (b + 9) 2).toNat)
    refine z_putI (pc := 31) O fl_X4_9 rfl ⟨rfl, rfl⟩ (R).2.1 dX4_refuse_31 ?_
    refine z_iconst (pc := 34) (v := iz (0)) O dX4_refuse_34 (by decide) ?_
    refine z_zret (pc := 35) O dX4_refuse_35 rfl ?_
    exact ⟨0, rfl, (by decide), (((FrD.rf b σ).pI (by omega)).pI (by omega)), (RdX.up R (τ := (sI (sI σ (b + 9) 8 (iz 1)) (b + 9) 9 (iz (gI σ 6 ((gI σ (b + 9) 2).toNat))))) (((FrD.rf b σ).pI (by omega)).pI (by omega)) (by have : gI (sI (sI σ (b + 9) 8 (iz 1)) (b + 9) 9 (iz (gI σ 6 ((gI σ (b + 9) 2).toNat)))) (b + 9) 2 = gI σ (b + 9) 2 := gI_iz (sk2t (by decide) (sk2t (by decide) (izg σ (b + 9) 2))) (rgI _ _ _); omega) (by have : gI (sI (sI σ (b + 9) 8 (iz 1)) (b + 9) 9 (iz (gI σ 6 ((gI σ (b + 9) 2).toNat)))) b 14 = gI σ b 14 := gI_iz (sk1t (by omega) (sk1t (by omega) (izg σ b 14))) (rgI _ _ _); omega) (by have : gI (sI (sI σ (b + 9) 8 (iz 1)) (b + 9) 9 (iz (gI σ 6 ((gI σ (b + 9) 2).toNat)))) b 3 = gI σ b 3 := gI_iz (sk1t (by omega) (sk1t (by omega) (izg σ b 3))) (rgI _ _ _); omega) (by have : gI (sI (sI σ (b + 9) 8 (iz 1)) (b + 9) 9 (iz (gI σ 6 ((gI σ (b + 9) 2).toNat)))) b 4 = gI σ b 4 := gI_iz (sk1t (by omega) (sk1t (by omega) (izg σ b 4))) (rgI _ _ _); omega) (fun w hw => by rw [show gI (sI (sI σ (b + 9) 8 (iz 1)) (b + 9) 9 (iz (gI σ 6 ((gI σ (b + 9) 2).toNat)))) (b + 6) w = gI σ (b + 6) w from gI_eq (sk1t (by omega) (sk1t (by omega) rfl))]; exact (R).1.2.2.2.2.2.2 w hw))⟩
set_option maxHeartbeats 4000000 in
set_option maxRecDepth 20000 in
theorem k4_advance (l : Launch) (σ : VH) (b : Nat) (J : Lay σ) (R : RdX σ b) : Ct l yX4_advance cX4_advance 1 none 0 0 0 [.ref (b + 9)] σ (fun r τ => r = none ∧ (FrD b σ τ) ∧ (RdX τ b)) := by
  refine Ct.enter rfl (Nat.le_of_ble_eq_true rfl) ?_
  intro κ γ hκ O hrc hrs
  subst hκ
  have hR0 := R.1.1
  have hR4 := R.2.2.2.1
  have hR5 := R.2.2.2.2
  have hR6 := R.1.2.2.2.2.1
  have hR7 := R.1.2.2.2.2.2.1
  refine z_aload_n (pc := 0) O dX4_advance_0 rfl ?_
  refine zi_getv (pc := 1) (gI σ (b + 9) 2) O fl_X4_182 rfl (R).2.1 (izg σ (b + 9) 2) dX4_advance_1 ?_
  have := rgI σ (b + 9) 2
  refine z_iconst (pc := 4) (v := iz (1)) O dX4_advance_4 (by decide) ?_
  refine zi_iadd (pc := 5) O dX4_advance_5 ?_
  refine z_aload_n (pc := 6) O dX4_advance_6 rfl ?_
  refine z_getR (pc := 7) 4 O fl_X4_15 rfl (R).2.1 (R).2.2.1.1 dX4_advance_7 ?_
  refine zi_getv (pc := 10) (gI σ 4 2) O fl_X4_185 rfl (jo_4 J) (izg σ 4 2) dX4_advance_10 ?_
  have := rgI σ 4 2
  refine zi_icmp_ge (pc := 13) (tgt := 42) O dX4_advance_13 (by decide) (by omega) (by omega) (fun h13 => ?_) (fun h13 => ?_)
  · refine z_vret (pc := 42) O dX4_advance_42 ?_
    exact ⟨rfl, (FrD.rf b σ), R⟩
  · refine z_aload_n (pc := 16) O dX4_advance_16 rfl ?_
    refine z_dup (pc := 17) O dX4_advance_17 rfl ?_
    refine zi_getv (pc := 18) (gI σ (b + 9) 2) O fl_X4_182 rfl (R).2.1 (izg σ (b + 9) 2) dX4_advance_18 ?_
    refine z_iconst (pc := 21) (v := iz (1)) O dX4_advance_21 (by decide) ?_
    refine zi_iadd (pc := 22) O dX4_advance_22 ?_
    refine z_putI (pc := 23) O fl_X4_182 rfl ⟨rfl, rfl⟩ (R).2.1 dX4_advance_23 ?_
    refine z_aload_n (pc := 26) O dX4_advance_26 rfl ?_
    refine z_aload_n (pc := 27) O dX4_advance_27 rfl ?_
    refine z_getR (pc := 28) 4 O fl_X4_15 rfl (R).2.1 (R).2.2.1.1 dX4_advance_28 ?_
    refine z_getR (pc := 31) 5 O fl_X4_23 rfl (jo_4 J) (jr_4_0 J) dX4_advance_31 ?_
    refine z_aload_n (pc := 34) O dX4_advance_34 rfl ?_
    refine zi_getv (pc := 35) ((gI σ (b + 9) 2) + 1) O fl_X4_182 rfl (R).2.1 (hI_at _ _ _ _) dX4_advance_35 ?_
    refine zi_lald (pc := 38) (((gI σ (b + 9) 2) + 1).toNat) O (Or.inl (ja_5 J)) (by omega) (by omega) (by omega) dX4_advance_38 ?_
    refine z_putL (pc := 39) O fl_X4_29 rfl ⟨rfl, rfl⟩ (R).2.1 dX4_advance_39 ?_
    refine z_vret (pc := 42) O dX4_advance_42 ?_
    exact ⟨rfl, (((FrD.rf b σ).pI (by omega)).pL (by omega)), (RdX.up R (τ := (sL (sI σ (b + 9) 2 (iz ((gI σ (b + 9) 2) + 1))) (b + 9) 3 (hL (sI σ (b + 9) 2 (iz ((gI σ (b + 9) 2) + 1))) 5 (((gI σ (b + 9) 2) + 1).toNat)))) (((FrD.rf b σ).pI (by omega)).pL (by omega)) (by have : gI (sL (sI σ (b + 9) 2 (iz ((gI σ (b + 9) 2) + 1))) (b + 9) 3 (hL (sI σ (b + 9) 2 (iz ((gI σ (b + 9) 2) + 1))) 5 (((gI σ (b + 9) 2) + 1).toNat))) (b + 9) 2 = (gI σ (b + 9) 2) + 1 := gI_iz (skL (hI_at _ _ _ _)) (by omega); omega) (by have : gI (sL (sI σ (b + 9) 2 (iz ((gI σ (b + 9) 2) + 1))) (b + 9) 3 (hL (sI σ (b + 9) 2 (iz ((gI σ (b + 9) 2) + 1))) 5 (((gI σ (b + 9) 2) + 1).toNat))) b 14 = gI σ b 14 := gI_iz (skL (sk1t (by omega) (izg σ b 14))) (rgI _ _ _); omega) (by have : gI (sL (sI σ (b + 9) 2 (iz ((gI σ (b + 9) 2) + 1))) (b + 9) 3 (hL (sI σ (b + 9) 2 (iz ((gI σ (b + 9) 2) + 1))) 5 (((gI σ (b + 9) 2) + 1).toNat))) b 3 = gI σ b 3 := gI_iz (skL (sk1t (by omega) (izg σ b 3))) (rgI _ _ _); omega) (by have : gI (sL (sI σ (b + 9) 2 (iz ((gI σ (b + 9) 2) + 1))) (b + 9) 3 (hL (sI σ (b + 9) 2 (iz ((gI σ (b + 9) 2) + 1))) 5 (((gI σ (b + 9) 2) + 1).toNat))) b 4 = gI σ b 4 := gI_iz (skL (sk1t (by omega) (izg σ b 4))) (rgI _ _ _); omega) (fun w hw => by rw [show gI (sL (sI σ (b + 9) 2 (iz ((gI σ (b + 9) 2) + 1))) (b + 9) 3 (hL (sI σ (b + 9) 2 (iz ((gI σ (b + 9) 2) + 1))) 5 (((gI σ (b + 9) 2) + 1).toNat))) (b + 6) w = gI σ (b + 6) w from gI_eq (skL (sk1t (by omega) rfl))]; exact (R).1.2.2.2.2.2.2 w hw))⟩
set_option maxHeartbeats 4000000 in
set_option maxRecDepth 20000 in
theorem k1_addStep (l : Launch) (σ : VH) (b : Nat) (y : Int) (ry : (-2147483648 ≤ y ∧ y < 2147483648)) (J : Lay σ) (R : RdX σ b) : Ct l yX1_addStep cX1_addStep 2 none 0 0 0 [.ref b, .int (iz y)] σ (fun r τ => r = none ∧ (FrD b σ τ) ∧ (RdX τ b)) := by
  refine Ct.enter rfl (Nat.le_of_ble_eq_true rfl) ?_
  intro κ γ hκ O hrc hrs
  subst hκ
  have hR0 := R.1.1
  have hR4 := R.2.2.2.1
  have hR5 := R.2.2.2.2
  have hR6 := R.1.2.2.2.2.1
  have hR7 := R.1.2.2.2.2.2.1
  refine z_aload_n (pc := 0) O dX1_addStep_0 rfl ?_
  refine zi_getv (pc := 1) (gI σ b 14) O fl_X1_50 rfl (R).1.2.1 (izg σ b 14) dX1_addStep_1 ?_
  have := rgI σ b 14
  refine z_aload_n (pc := 4) O dX1_addStep_4 rfl ?_
  refine z_getR (pc := 5) (b + 8) O fl_X1_44 rfl (R).1.2.1 (R).1.2.2.1.2.2.2.2.2.2.2 dX1_addStep_5 ?_
  have hsl := R.1.2.2.2.1.2.2.2.2.2.2.2.2
  refine z_alen (pc := 8) (t0 := 2) (n := iz ((hS σ (b + 8)).2 : Int)) O (R).1.2.2.2.1.2.2.2.2.2.2.2.1 (by decide) rfl (iz_nI rfl).symm dX1_addStep_8 ?_
  refine zi_icmp_ge (pc := 9) (tgt := 32) O dX1_addStep_9 (by decide) (by omega) (by omega) (fun h9 => ?_) (fun h9 => ?_)
  · refine z_vret (pc := 32) O dX1_addStep_32 ?_
    exact ⟨rfl, (FrD.rf b σ), R⟩
  · refine z_aload_n (pc := 12) O dX1_addStep_12 rfl ?_
    refine z_getR (pc := 13) (b + 8) O fl_X1_44 rfl (R).1.2.1 (R).1.2.2.1.2.2.2.2.2.2.2 dX1_addStep_13 ?_
    refine z_aload_n (pc := 16) O dX1_addStep_16 rfl ?_
    refine zi_getv (pc := 17) (gI σ b 14) O fl_X1_50 rfl (R).1.2.1 (izg σ b 14) dX1_addStep_17 ?_
    refine z_iload_n (pc := 20) O dX1_addStep_20 rfl ?_
    refine zi_iast (pc := 21) ((gI σ b 14).toNat) O (R).1.2.2.2.1.2.2.2.2.2.2.2.1 (by omega) (by omega) (by omega) dX1_addStep_21 ?_
    refine z_aload_n (pc := 22) O dX1_addStep_22 rfl ?_
    refine z_dup (pc := 23) O dX1_addStep_23 rfl ?_
    refine zi_getv (pc := 24) (gI σ b 14) O fl_X1_50 rfl (R).1.2.1 (sk1t (by omega) (izg σ b 14)) dX1_addStep_24 ?_
    refine z_iconst (pc := 27) (v := iz (1)) O dX1_addStep_27 (by decide) ?_
    refine zi_iadd (pc := 28) O dX1_addStep_28 ?_
    refine z_putI (pc := 29) O fl_X1_50 rfl ⟨rfl, rfl⟩ (R).1.2.1 dX1_addStep_29 ?_
    refine z_vret (pc := 32) O dX1_addStep_32 ?_
    exact ⟨rfl, (((FrD.rf b σ).pI (by omega)).pI (by omega)), (RdX.up R (τ := (sI (sI σ (b + 8) ((gI σ b 14).toNat) (iz y)) b 14 (iz ((gI σ b 14) + 1)))) (((FrD.rf b σ).pI (by omega)).pI (by omega)) (by have : gI (sI (sI σ (b + 8) ((gI σ b 14).toNat) (iz y)) b 14 (iz ((gI σ b 14) + 1))) (b + 9) 2 = gI σ (b + 9) 2 := gI_iz (sk1t (by omega) (sk1t (by omega) (izg σ (b + 9) 2))) (rgI _ _ _); omega) (by have : gI (sI (sI σ (b + 8) ((gI σ b 14).toNat) (iz y)) b 14 (iz ((gI σ b 14) + 1))) b 14 = (gI σ b 14) + 1 := gI_iz (hI_at _ _ _ _) (by omega); omega) (by have : gI (sI (sI σ (b + 8) ((gI σ b 14).toNat) (iz y)) b 14 (iz ((gI σ b 14) + 1))) b 3 = gI σ b 3 := gI_iz (sk2t (by decide) (sk1t (by omega) (izg σ b 3))) (rgI _ _ _); omega) (by have : gI (sI (sI σ (b + 8) ((gI σ b 14).toNat) (iz y)) b 14 (iz ((gI σ b 14) + 1))) b 4 = gI σ b 4 := gI_iz (sk2t (by decide) (sk1t (by omega) (izg σ b 4))) (rgI _ _ _); omega) (fun w hw => by rw [show gI (sI (sI σ (b + 8) ((gI σ b 14).toNat) (iz y)) b 14 (iz ((gI σ b 14) + 1))) (b + 6) w = gI σ (b + 6) w from gI_eq (sk1t (by omega) (sk1t (by omega) rfl))]; exact (R).1.2.2.2.2.2.2 w hw))⟩
set_option maxHeartbeats 4000000 in
set_option maxRecDepth 20000 in
theorem k1_addHurt (l : Launch) (σ : VH) (b : Nat) (v : Int64) (y : Int) (ry : (-2147483648 ≤ y ∧ y < 2147483648)) (J : Lay σ) (R : RdX σ b) : Ct l yX1_addHurt cX1_addHurt 4 none 0 0 0 [.ref b, .long v, .int (iz y)] σ (fun r τ => r = none ∧ (FrD b σ τ) ∧ (RdX τ b)) := by
  refine Ct.enter rfl (Nat.le_of_ble_eq_true rfl) ?_
  intro κ γ hκ O hrc hrs
  subst hκ
  have hR0 := R.1.1
  have hR4 := R.2.2.2.1
  have hR5 := R.2.2.2.2
  have hR6 := R.1.2.2.2.2.1
  have hR7 := R.1.2.2.2.2.2.1
  refine z_aload_n (pc := 0) O dX1_addHurt_0 rfl ?_
  refine zi_getv (pc := 1) (gI σ b 3) O fl_X1_47 rfl (R).1.2.1 (izg σ b 3) dX1_addHurt_1 ?_
  have := rgI σ b 3
  refine z_bipush (pc := 4) (v := iz (12)) O dX1_addHurt_4 (by decide) ?_
  refine zi_icmp_ge (pc := 6) (tgt := 39) O dX1_addHurt_6 (by decide) (by omega) (by decide) (fun h6 => ?_) (fun h6 => ?_)
  · refine z_vret (pc := 39) O dX1_addHurt_39 ?_
    exact ⟨rfl, (FrD.rf b σ), R⟩
  · refine z_aload_n (pc := 9) O dX1_addHurt_9 rfl ?_
    refine z_getR (pc := 10) (b + 1) O fl_X1_9 rfl (R).1.2.1 (R).1.2.2.1.1 dX1_addHurt_10 ?_
    refine z_aload_n (pc := 13) O dX1_addHurt_13 rfl ?_
    refine zi_getv (pc := 14) (gI σ b 3) O fl_X1_47 rfl (R).1.2.1 (izg σ b 3) dX1_addHurt_14 ?_
    refine z_lload_n (pc := 17) O dX1_addHurt_17 rfl ?_
    refine zi_last (pc := 18) ((gI σ b 3).toNat) O (R).1.2.2.2.1.1 (by omega) (by omega) (by omega) dX1_addHurt_18 ?_
    refine z_aload_n (pc := 19) O dX1_addHurt_19 rfl ?_
    refine z_getR (pc := 20) (b + 3) O fl_X1_26 rfl (R).1.2.1 (R).1.2.2.1.2.2.1 dX1_addHurt_20 ?_
    refine z_aload_n (pc := 23) O dX1_addHurt_23 rfl ?_
    refine zi_getv (pc := 24) (gI σ b 3) O fl_X1_47 rfl (R).1.2.1 (skL (izg σ b 3)) dX1_addHurt_24 ?_
    refine z_iload_n (pc := 27) O dX1_addHurt_27 rfl ?_
    refine zi_iast (pc := 28) ((gI σ b 3).toNat) O (R).1.2.2.2.1.2.2.1 (by omega) (by omega) (by omega) dX1_addHurt_28 ?_
    refine z_aload_n (pc := 29) O dX1_addHurt_29 rfl ?_
    refine z_dup (pc := 30) O dX1_addHurt_30 rfl ?_
    refine zi_getv (pc := 31) (gI σ b 3) O fl_X1_47 rfl (R).1.2.1 (sk1t (by omega) (skL (izg σ b 3))) dX1_addHurt_31 ?_
    refine z_iconst (pc := 34) (v := iz (1)) O dX1_addHurt_34 (by decide) ?_
    refine zi_iadd (pc := 35) O dX1_addHurt_35 ?_
    refine z_putI (pc := 36) O fl_X1_47 rfl ⟨rfl, rfl⟩ (R).1.2.1 dX1_addHurt_36 ?_
    refine z_vret (pc := 39) O dX1_addHurt_39 ?_
    exact ⟨rfl, ((((FrD.rf b σ).pL (by omega)).pI (by omega)).pI (by omega)), (RdX.up R (τ := (sI (sI (sL σ (b + 1) ((gI σ b 3).toNat) v) (b + 3) ((gI σ b 3).toNat) (iz y)) b 3 (iz ((gI σ b 3) + 1)))) ((((FrD.rf b σ).pL (by omega)).pI (by omega)).pI (by omega)) (by have : gI (sI (sI (sL σ (b + 1) ((gI σ b 3).toNat) v) (b + 3) ((gI σ b 3).toNat) (iz y)) b 3 (iz ((gI σ b 3) + 1))) (b + 9) 2 = gI σ (b + 9) 2 := gI_iz (sk1t (by omega) (sk1t (by omega) (skL (izg σ (b + 9) 2)))) (rgI _ _ _); omega) (by have : gI (sI (sI (sL σ (b + 1) ((gI σ b 3).toNat) v) (b + 3) ((gI σ b 3).toNat) (iz y)) b 3 (iz ((gI σ b 3) + 1))) b 14 = gI σ b 14 := gI_iz (sk2t (by decide) (sk1t (by omega) (skL (izg σ b 14)))) (rgI _ _ _); omega) (by have : gI (sI (sI (sL σ (b + 1) ((gI σ b 3).toNat) v) (b + 3) ((gI σ b 3).toNat) (iz y)) b 3 (iz ((gI σ b 3) + 1))) b 3 = (gI σ b 3) + 1 := gI_iz (hI_at _ _ _ _) (by omega); omega) (by have : gI (sI (sI (sL σ (b + 1) ((gI σ b 3).toNat) v) (b + 3) ((gI σ b 3).toNat) (iz y)) b 3 (iz ((gI σ b 3) + 1))) b 4 = gI σ b 4 := gI_iz (sk2t (by decide) (sk1t (by omega) (skL (izg σ b 4)))) (rgI _ _ _); omega) (fun w hw => by rw [show gI (sI (sI (sL σ (b + 1) ((gI σ b 3).toNat) v) (b + 3) ((gI σ b 3).toNat) (iz y)) b 3 (iz ((gI σ b 3) + 1))) (b + 6) w = gI σ (b + 6) w from gI_eq (sk1t (by omega) (sk1t (by omega) (skL rfl)))]; exact (R).1.2.2.2.2.2.2 w hw))⟩
set_option maxHeartbeats 4000000 in
set_option maxRecDepth 20000 in
theorem k1_addWhen (l : Launch) (σ : VH) (b : Nat) (y : Int) (ry : (-2147483648 ≤ y ∧ y < 2147483648)) (n : Int) (rn : (-2147483648 ≤ n ∧ n < 2147483648)) (J : Lay σ) (R : RdX σ b) : Ct l yX1_addWhen cX1_addWhen 3 none 0 0 0 [.ref b, .int (iz y), .int (iz n)] σ (fun r τ => r = none ∧ (FrD b σ τ) ∧ (RdX τ b)) := by
  refine Ct.enter rfl (Nat.le_of_ble_eq_true rfl) ?_
  intro κ γ hκ O hrc hrs
  subst hκ
  have hR0 := R.1.1
  have hR4 := R.2.2.2.1
  have hR5 := R.2.2.2.2
  have hR6 := R.1.2.2.2.2.1
  have hR7 := R.1.2.2.2.2.2.1
  refine z_aload_n (pc := 0) O dX1_addWhen_0 rfl ?_
  refine zi_getv (pc := 1) (gI σ b 4) O fl_X1_53 rfl (R).1.2.1 (izg σ b 4) dX1_addWhen_1 ?_
  have := rgI σ b 4
  refine z_bipush (pc := 4) (v := iz (16)) O dX1_addWhen_4 (by decide) ?_
  refine zi_icmp_ge (pc := 6) (tgt := 52) O dX1_addWhen_6 (by decide) (by omega) (by decide) (fun h6 => ?_) (fun h6 => ?_)
  · refine z_vret (pc := 52) O dX1_addWhen_52 ?_
    exact ⟨rfl, (FrD.rf b σ), R⟩
  · refine z_aload_n (pc := 9) O dX1_addWhen_9 rfl ?_
    refine z_getR (pc := 10) (b + 4) O fl_X1_29 rfl (R).1.2.1 (R).1.2.2.1.2.2.2.1 dX1_addWhen_10 ?_
    refine z_aload_n (pc := 13) O dX1_addWhen_13 rfl ?_
    refine zi_getv (pc := 14) (gI σ b 4) O fl_X1_53 rfl (R).1.2.1 (izg σ b 4) dX1_addWhen_14 ?_
    refine z_iload_n (pc := 17) O dX1_addWhen_17 rfl ?_
    refine zi_iast (pc := 18) ((gI σ b 4).toNat) O (R).1.2.2.2.1.2.2.2.1 (by omega) (by omega) (by omega) dX1_addWhen_18 ?_
    refine z_aload_n (pc := 19) O dX1_addWhen_19 rfl ?_
    refine z_getR (pc := 20) (b + 5) O fl_X1_32 rfl (R).1.2.1 (R).1.2.2.1.2.2.2.2.1 dX1_addWhen_20 ?_
    refine z_aload_n (pc := 23) O dX1_addWhen_23 rfl ?_
    refine zi_getv (pc := 24) (gI σ b 4) O fl_X1_53 rfl (R).1.2.1 (sk1t (by omega) (izg σ b 4)) dX1_addWhen_24 ?_
    refine z_iload_n (pc := 27) O dX1_addWhen_27 rfl ?_
    refine zi_iast (pc := 28) ((gI σ b 4).toNat) O (R).1.2.2.2.1.2.2.2.2.1 (by omega) (by omega) (by omega) dX1_addWhen_28 ?_
    refine z_aload_n (pc := 29) O dX1_addWhen_29 rfl ?_
    refine z_getR (pc := 30) (b + 6) O fl_X1_35 rfl (R).1.2.1 (R).1.2.2.1.2.2.2.2.2.1 dX1_addWhen_30 ?_
    refine z_aload_n (pc := 33) O dX1_addWhen_33 rfl ?_
    refine zi_getv (pc := 34) (gI σ b 4) O fl_X1_53 rfl (R).1.2.1 (sk1t (by omega) (sk1t (by omega) (izg σ b 4))) dX1_addWhen_34 ?_
    refine z_aload_n (pc := 37) O dX1_addWhen_37 rfl ?_
    refine zi_getv (pc := 38) (gI σ b 14) O fl_X1_50 rfl (R).1.2.1 (sk1t (by omega) (sk1t (by omega) (izg σ b 14))) dX1_addWhen_38 ?_
    have := rgI σ b 14
    refine zi_iast (pc := 41) ((gI σ b 4).toNat) O (R).1.2.2.2.1.2.2.2.2.2.1 (by omega) (by omega) (by omega) dX1_addWhen_41 ?_
    refine z_aload_n (pc := 42) O dX1_addWhen_42 rfl ?_
    refine z_dup (pc := 43) O dX1_addWhen_43 rfl ?_
    refine zi_getv (pc := 44) (gI σ b 4) O fl_X1_53 rfl (R).1.2.1 (sk1t (by omega) (sk1t (by omega) (sk1t (by omega) (izg σ b 4)))) dX1_addWhen_44 ?_
    refine z_iconst (pc := 47) (v := iz (1)) O dX1_addWhen_47 (by decide) ?_
    refine zi_iadd (pc := 48) O dX1_addWhen_48 ?_
    refine z_putI (pc := 49) O fl_X1_53 rfl ⟨rfl, rfl⟩ (R).1.2.1 dX1_addWhen_49 ?_
    refine z_vret (pc := 52) O dX1_addWhen_52 ?_
    exact ⟨rfl, (((((FrD.rf b σ).pI (by omega)).pI (by omega)).pI (by omega)).pI (by omega)), (RdX.up R (τ := (sI (sI (sI (sI σ (b + 4) ((gI σ b 4).toNat) (iz y)) (b + 5) ((gI σ b 4).toNat) (iz n)) (b + 6) ((gI σ b 4).toNat) (iz (gI σ b 14))) b 4 (iz ((gI σ b 4) + 1)))) (((((FrD.rf b σ).pI (by omega)).pI (by omega)).pI (by omega)).pI (by omega)) (by have : gI (sI (sI (sI (sI σ (b + 4) ((gI σ b 4).toNat) (iz y)) (b + 5) ((gI σ b 4).toNat) (iz n)) (b + 6) ((gI σ b 4).toNat) (iz (gI σ b 14))) b 4 (iz ((gI σ b 4) + 1))) (b + 9) 2 = gI σ (b + 9) 2 := gI_iz (sk1t (by omega) (sk1t (by omega) (sk1t (by omega) (sk1t (by omega) (izg σ (b + 9) 2))))) (rgI _ _ _); omega) (by have : gI (sI (sI (sI (sI σ (b + 4) ((gI σ b 4).toNat) (iz y)) (b + 5) ((gI σ b 4).toNat) (iz n)) (b + 6) ((gI σ b 4).toNat) (iz (gI σ b 14))) b 4 (iz ((gI σ b 4) + 1))) b 14 = gI σ b 14 := gI_iz (sk2t (by decide) (sk1t (by omega) (sk1t (by omega) (sk1t (by omega) (izg σ b 14))))) (rgI _ _ _); omega) (by have : gI (sI (sI (sI (sI σ (b + 4) ((gI σ b 4).toNat) (iz y)) (b + 5) ((gI σ b 4).toNat) (iz n)) (b + 6) ((gI σ b 4).toNat) (iz (gI σ b 14))) b 4 (iz ((gI σ b 4) + 1))) b 3 = gI σ b 3 := gI_iz (sk2t (by decide) (sk1t (by omega) (sk1t (by omega) (sk1t (by omega) (izg σ b 3))))) (rgI _ _ _); omega) (by have : gI (sI (sI (sI (sI σ (b + 4) ((gI σ b 4).toNat) (iz y)) (b + 5) ((gI σ b 4).toNat) (iz n)) (b + 6) ((gI σ b 4).toNat) (iz (gI σ b 14))) b 4 (iz ((gI σ b 4) + 1))) b 4 = (gI σ b 4) + 1 := gI_iz (hI_at _ _ _ _) (by omega); omega) (fun w hw => by by_cases hw9 : w = ((gI σ b 4).toNat); (rw [hw9, show gI (sI (sI (sI (sI σ (b + 4) ((gI σ b 4).toNat) (iz y)) (b + 5) ((gI σ b 4).toNat) (iz n)) (b + 6) ((gI σ b 4).toNat) (iz (gI σ b 14))) b 4 (iz ((gI σ b 4) + 1))) (b + 6) ((gI σ b 4).toNat) = gI σ b 14 from gI_iz (sk1t (by omega) (hI_at _ _ _ _)) (by omega)]; omega); (rw [show gI (sI (sI (sI (sI σ (b + 4) ((gI σ b 4).toNat) (iz y)) (b + 5) ((gI σ b 4).toNat) (iz n)) (b + 6) ((gI σ b 4).toNat) (iz (gI σ b 14))) b 4 (iz ((gI σ b 4) + 1))) (b + 6) w = gI σ (b + 6) w from gI_eq (sk1t (by omega) (sk2t hw9 (sk1t (by omega) (sk1t (by omega) rfl))))]; exact (R).1.2.2.2.2.2.2 w hw)))⟩
