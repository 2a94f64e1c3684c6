set_option maxHeartbeats 4000000 in
set_option maxRecDepth 20000 in
theorem k4_advance3 (l : Launch) (σ : VH) (b : Nat) (tk : Nat → Int) (pl : Nat → Int) (m : Nat) (j : Nat) (J : Lay σ) (R : RdS σ b tk pl m j) : Ct l yX4_advance cX4_advance 1 none 0 0 0 [.ref (b + 9)] σ (fun r τ => r = none ∧ (FrX b [(9, 2), (9, 3)] σ τ) ∧ (RdX τ b) ∧ (RdS τ b tk pl m (adv m j))) := by
  refine Ct.enter rfl (Nat.le_of_ble_eq_true rfl) ?_
  intro κ γ hκ O hrc hrs
  subst hκ
  have hX := R.1
  have hR0 := hX.1.1
  have hR4 := hX.2.2.2.1
  have hR5 := hX.2.2.2.2
  have hR6 := hX.1.2.2.2.2.1
  have hR7 := hX.1.2.2.2.2.2.1
  have hT := R.2.1
  have hct := R.2.1.2.2.1
  have hat := R.2.2.1
  have hcur := R.2.2.2.1
  have hfl := R.2.2.2.2
  refine z_aload_n (pc := 0) O dX4_advance_0 rfl ?_
  refine zi_getv (pc := 1) (gI σ (b + 9) 2) O fl_X4_182 rfl (hX).2.1 (izg σ (b + 9) 2) dX4_advance_1 ?_
  have := rgI σ (b + 9) 2
  refine z_iconst (pc := 4) (v := iz (1)) O dX4_advance_4 (by decide) ?_
  refine zi_iadd (pc := 5) O dX4_advance_5 ?_
  refine z_aload_n (pc := 6) O dX4_advance_6 rfl ?_
  refine z_getR (pc := 7) 4 O fl_X4_15 rfl (hX).2.1 (hX).2.2.1.1 dX4_advance_7 ?_
  refine zi_getv (pc := 10) (gI σ 4 2) O fl_X4_185 rfl (jo_4 J) (izg σ 4 2) dX4_advance_10 ?_
  have := rgI σ 4 2
  refine zi_icmp_ge (pc := 13) (tgt := 42) O dX4_advance_13 (by decide) (by omega) (by omega) (fun h13 => ?_) (fun h13 => ?_)
  · refine z_vret (pc := 42) O dX4_advance_42 ?_
    exact ⟨rfl, (FrX.rf b [(9, 2), (9, 3)] σ), hX, (by rw [show adv m j = j by unfold adv; rw [if_neg (by omega)]]; exact R)⟩
  · refine z_aload_n (pc := 16) O dX4_advance_16 rfl ?_
    refine z_dup (pc := 17) O dX4_advance_17 rfl ?_
    refine zi_getv (pc := 18) (gI σ (b + 9) 2) O fl_X4_182 rfl (hX).2.1 (izg σ (b + 9) 2) dX4_advance_18 ?_
    refine z_iconst (pc := 21) (v := iz (1)) O dX4_advance_21 (by decide) ?_
    refine zi_iadd (pc := 22) O dX4_advance_22 ?_
    refine z_putI (pc := 23) O fl_X4_182 rfl ⟨rfl, rfl⟩ (hX).2.1 dX4_advance_23 ?_
    refine z_aload_n (pc := 26) O dX4_advance_26 rfl ?_
    refine z_aload_n (pc := 27) O dX4_advance_27 rfl ?_
    refine z_getR (pc := 28) 4 O fl_X4_15 rfl (hX).2.1 (hX).2.2.1.1 dX4_advance_28 ?_
    refine z_getR (pc := 31) 5 O fl_X4_23 rfl (jo_4 J) (jr_4_0 J) dX4_advance_31 ?_
    refine z_aload_n (pc := 34) O dX4_advance_34 rfl ?_
    refine zi_getv (pc := 35) ((gI σ (b + 9) 2) + 1) O fl_X4_182 rfl (hX).2.1 (hI_at _ _ _ _) dX4_advance_35 ?_
    refine zi_lald (pc := 38) (((gI σ (b + 9) 2) + 1).toNat) O (Or.inl (ja_5 J)) (by omega) (by omega) (by omega) dX4_advance_38 ?_
    refine z_putL (pc := 39) O fl_X4_29 rfl ⟨rfl, rfl⟩ (hX).2.1 dX4_advance_39 ?_
    refine z_vret (pc := 42) O dX4_advance_42 ?_
    have ea : adv m j = j + 1 := by
      unfold adv
      rw [if_pos (by omega)]
    have q2 := (gI_iz (skL (hI_at _ _ _ _)) (by omega) : gI (sL (sI σ (b + 9) 2 (iz ((gI σ (b + 9) 2) + 1))) (b + 9) 3 (hL (sI σ (b + 9) 2 (iz ((gI σ (b + 9) 2) + 1))) 5 (((gI σ (b + 9) 2) + 1).toNat))) (b + 9) 2 = (gI σ (b + 9) 2) + 1)
    have q3 : (hL (sL (sI σ (b + 9) 2 (iz ((gI σ (b + 9) 2) + 1))) (b + 9) 3 (hL (sI σ (b + 9) 2 (iz ((gI σ (b + 9) 2) + 1))) 5 (((gI σ (b + 9) 2) + 1).toNat))) (b + 9) 3).toInt = tk (j + 1) := by
      show (hL (sL (sI σ (b + 9) 2 (iz ((gI σ (b + 9) 2) + 1))) (b + 9) 3 (hL (sI σ (b + 9) 2 (iz ((gI σ (b + 9) 2) + 1))) 5 (((gI σ (b + 9) 2) + 1).toNat))) (b + 9) 3).toInt = _
      rw [hL_sL, if_pos ⟨rfl, rfl⟩]
      show tkr σ (((gI σ (b + 9) 2) + 1).toNat) = _
      rw [show ((gI σ (b + 9) 2) + 1).toNat = j + 1 by omega]
      exact hT.1 (j + 1) (by omega)
    have FX : FrX b [(9, 2), (9, 3)] σ (sL (sI σ (b + 9) 2 (iz ((gI σ (b + 9) 2) + 1))) (b + 9) 3 (hL (sI σ (b + 9) 2 (iz ((gI σ (b + 9) 2) + 1))) 5 (((gI σ (b + 9) 2) + 1).toNat))) := (FrX.pL 9 (FrX.pI 9 (FrX.rf b [(9, 2), (9, 3)] σ) (by decide) rfl) (by decide) rfl)
    have RX : RdX (sL (sI σ (b + 9) 2 (iz ((gI σ (b + 9) 2) + 1))) (b + 9) 3 (hL (sI σ (b + 9) 2 (iz ((gI σ (b + 9) 2) + 1))) 5 (((gI σ (b + 9) 2) + 1).toNat))) b := (RdX.up hX (τ := (sL (sI σ (b + 9) 2 (iz ((gI σ (b + 9) 2) + 1))) (b + 9) 3 (hL (sI σ (b + 9) 2 (iz ((gI σ (b + 9) 2) + 1))) 5 (((gI σ (b + 9) 2) + 1).toNat)))) (((FrD.rf b σ).pI (by omega)).pL (by omega)) (by have : gI (sL (sI σ (b + 9) 2 (iz ((gI σ (b + 9) 2) + 1))) (b + 9) 3 (hL (sI σ (b + 9) 2 (iz ((gI σ (b + 9) 2) + 1))) 5 (((gI σ (b + 9) 2) + 1).toNat))) (b + 9) 2 = (gI σ (b + 9) 2) + 1 := gI_iz (skL (hI_at _ _ _ _)) (by omega); omega) (by have : gI (sL (sI σ (b + 9) 2 (iz ((gI σ (b + 9) 2) + 1))) (b + 9) 3 (hL (sI σ (b + 9) 2 (iz ((gI σ (b + 9) 2) + 1))) 5 (((gI σ (b + 9) 2) + 1).toNat))) b 14 = gI σ b 14 := gI_iz (skL (sk1t (by omega) (izg σ b 14))) (rgI _ _ _); omega) (by have : gI (sL (sI σ (b + 9) 2 (iz ((gI σ (b + 9) 2) + 1))) (b + 9) 3 (hL (sI σ (b + 9) 2 (iz ((gI σ (b + 9) 2) + 1))) 5 (((gI σ (b + 9) 2) + 1).toNat))) b 3 = gI σ b 3 := gI_iz (skL (sk1t (by omega) (izg σ b 3))) (rgI _ _ _); omega) (by have : gI (sL (sI σ (b + 9) 2 (iz ((gI σ (b + 9) 2) + 1))) (b + 9) 3 (hL (sI σ (b + 9) 2 (iz ((gI σ (b + 9) 2) + 1))) 5 (((gI σ (b + 9) 2) + 1).toNat))) b 4 = gI σ b 4 := gI_iz (skL (sk1t (by omega) (izg σ b 4))) (rgI _ _ _); omega) (fun w hw => by rw [show gI (sL (sI σ (b + 9) 2 (iz ((gI σ (b + 9) 2) + 1))) (b + 9) 3 (hL (sI σ (b + 9) 2 (iz ((gI σ (b + 9) 2) + 1))) 5 (((gI σ (b + 9) 2) + 1).toNat))) (b + 6) w = gI σ (b + 6) w from gI_eq (skL (sk1t (by omega) rfl))]; exact (hX).1.2.2.2.2.2.2 w hw))
    exact ⟨rfl, FX, RX, by rw [ea]; exact ⟨RX, hT.fr FX hR0, ⟨by omega, by omega⟩, q3, (gI_eq (FrX.it 9 FX rfl rfl)).trans hfl.1, (gI_eq (FrX.it 9 FX rfl rfl)).trans hfl.2⟩⟩
set_option maxHeartbeats 4000000 in
set_option maxRecDepth 20000 in
theorem k4_refuse3 (l : Launch) (σ : VH) (b : Nat) (y : Int) (ry : (-2147483648 ≤ y ∧ y < 2147483648)) (tk : Nat → Int) (pl : Nat → Int) (m : Nat) (j : Nat) (J : Lay σ) (R : RdS σ b tk pl m j) : Ct l yX4_refuse cX4_refuse 2 (some .boolean) 0 0 0 [.ref (b + 9), .int (iz y)] σ (fun r τ => ∃ z : Int, r = some (.int (iz z)) ∧ (z = 0 ∨ z = 1) ∧ (z = 0) ∧ (FrX b [(9, 8), (9, 9)] σ τ) ∧ (RdX τ b) ∧ (Fl τ b pl (flt tk j y) j)) := by
  refine Ct.enter rfl (Nat.le_of_ble_eq_true rfl) ?_
  intro κ γ hκ O hrc hrs
  subst hκ
  have hX := R.1
  have hR0 := hX.1.1
  have hR4 := hX.2.2.2.1
  have hR5 := hX.2.2.2.2
  have hR6 := hX.1.2.2.2.2.1
  have hR7 := hX.1.2.2.2.2.2.1
  have hT := R.2.1
  have hct := R.2.1.2.2.1
  have hat := R.2.2.1
  have hcur := R.2.2.2.1
  have hfl := R.2.2.2.2
  refine z_aload_n (pc := 0) O dX4_refuse_0 rfl ?_
  refine z_aload_n (pc := 1) O dX4_refuse_1 rfl ?_
  refine zi_getLv (pc := 2) (hL σ (b + 9) 3) O fl_X4_29 rfl (hX).2.1 rfl dX4_refuse_2 ?_
  refine z_lconst (pc := 5) (v := 0) O dX4_refuse_5 (by decide) ?_
  refine z_lcmp (pc := 6) O dX4_refuse_6 ?_
  refine zi_lci_ne (pc := 7) (tgt := 14) (0) O dX4_refuse_7 (by decide) (by decide) (fun h7 => ?_) (fun h7 => ?_)
  · refine z_iload_n (pc := 14) O dX4_refuse_14 rfl ?_
    refine z_putI (pc := 15) O fl_X4_176 rfl ⟨rfl, rfl⟩ (hX).2.1 dX4_refuse_15 ?_
    refine z_aload_n (pc := 18) O dX4_refuse_18 rfl ?_
    refine z_aload_n (pc := 19) O dX4_refuse_19 rfl ?_
    refine z_getR (pc := 20) 4 O fl_X4_15 rfl (hX).2.1 (hX).2.2.1.1 dX4_refuse_20 ?_
    refine z_getR (pc := 23) 6 O fl_X4_179 rfl (jo_4 J) (jr_4_1 J) dX4_refuse_23 ?_
    refine z_aload_n (pc := 26) O dX4_refuse_26 rfl ?_
    refine zi_getv (pc := 27) (gI σ (b + 9) 2) O fl_X4_182 rfl (hX).2.1 (sk2t (by decide) (izg σ (b + 9) 2)) dX4_refuse_27 ?_
    have := rgI σ (b + 9) 2
    refine zi_ialdv (pc := 30) ((gI σ (b + 9) 2).toNat) (gI σ 6 ((gI σ (b + 9) 2).toNat)) O (ja_6 J) (by omega) (by omega) (by omega) (sk1t (by omega) (izg σ 6 ((gI σ (b + 9) 2).toNat))) dX4_refuse_30 ?_
    have := rgI σ 6 ((gI σ (b + 9) 2).toNat)
    refine z_putI (pc := 31) O fl_X4_9 rfl ⟨rfl, rfl⟩ (hX).2.1 dX4_refuse_31 ?_
    refine z_iconst (pc := 34) (v := iz (0)) O dX4_refuse_34 (by decide) ?_
    refine z_zret (pc := 35) O dX4_refuse_35 rfl ?_
    have q8 : gI (sI (sI σ (b + 9) 8 (iz y)) (b + 9) 9 (iz (gI σ 6 ((gI σ (b + 9) 2).toNat)))) (b + 9) 8 = flt tk j y := by
      unfold flt
      rw [if_neg (by omega)]
      exact gI_iz (sk2t (by decide) (hI_at _ _ _ _)) (by omega)
    have q9 : gI (sI (sI σ (b + 9) 8 (iz y)) (b + 9) 9 (iz (gI σ 6 ((gI σ (b + 9) 2).toNat)))) (b + 9) 9 = pl j := (gI_iz (hI_at _ _ _ _) (rgI _ _ _)).trans (by
      rw [show (gI σ (b + 9) 2).toNat = j by omega]
      exact hT.2.1 j (by omega))
    exact ⟨0, rfl, (by decide), (by omega), (FrX.pI 9 (FrX.pI 9 (FrX.rf b [(9, 8), (9, 9)] σ) (by decide) rfl) (by decide) rfl), (RdX.up hX (τ := (sI (sI σ (b + 9) 8 (iz y)) (b + 9) 9 (iz (gI σ 6 ((gI σ (b + 9) 2).toNat))))) (((FrD.rf b σ).pI (by omega)).pI (by omega)) (by have : gI (sI (sI σ (b + 9) 8 (iz y)) (b + 9) 9 (iz (gI σ 6 ((gI σ (b + 9) 2).toNat)))) (b + 9) 2 = gI σ (b + 9) 2 := gI_iz (sk2t (by decide) (sk2t (by decide) (izg σ (b + 9) 2))) (rgI _ _ _); omega) (by have : gI (sI (sI σ (b + 9) 8 (iz y)) (b + 9) 9 (iz (gI σ 6 ((gI σ (b + 9) 2).toNat)))) b 14 = gI σ b 14 := gI_iz (sk1t (by omega) (sk1t (by omega) (izg σ b 14))) (rgI _ _ _); omega) (by have : gI (sI (sI σ (b + 9) 8 (iz y)) (b + 9) 9 (iz (gI σ 6 ((gI σ (b + 9) 2).toNat)))) b 3 = gI σ b 3 := gI_iz (sk1t (by omega) (sk1t (by omega) (izg σ b 3))) (rgI _ _ _); omega) (by have : gI (sI (sI σ (b + 9) 8 (iz y)) (b + 9) 9 (iz (gI σ 6 ((gI σ (b + 9) 2).toNat)))) b 4 = gI σ b 4 := gI_iz (sk1t (by omega) (sk1t (by omega) (izg σ b 4))) (rgI _ _ _); omega) (fun w hw => by rw [show gI (sI (sI σ (b + 9) 8 (iz y)) (b + 9) 9 (iz (gI σ 6 ((gI σ (b + 9) 2).toNat)))) (b + 6) w = gI σ (b + 6) w from gI_eq (sk1t (by omega) (sk1t (by omega) rfl))]; exact (hX).1.2.2.2.2.2.2 w hw)), ⟨q8, q9⟩⟩
  · refine z_iconst (pc := 10) (v := iz (1)) O dX4_refuse_10 (by decide) ?_
    refine z_goto (pc := 11) (tgt := 15) O dX4_refuse_11 (by decide) ?_
    refine z_putI (pc := 15) O fl_X4_176 rfl ⟨rfl, rfl⟩ (hX).2.1 dX4_refuse_15 ?_
    refine z_aload_n (pc := 18) O dX4_refuse_18 rfl ?_
    refine z_aload_n (pc := 19) O dX4_refuse_19 rfl ?_
    refine z_getR (pc := 20) 4 O fl_X4_15 rfl (hX).2.1 (hX).2.2.1.1 dX4_refuse_20 ?_
    refine z_getR (pc := 23) 6 O fl_X4_179 rfl (jo_4 J) (jr_4_1 J) dX4_refuse_23 ?_
    refine z_aload_n (pc := 26) O dX4_refuse_26 rfl ?_
    refine zi_getv (pc := 27) (gI σ (b + 9) 2) O fl_X4_182 rfl (hX).2.1 (sk2t (by decide) (izg σ (b + 9) 2)) dX4_refuse_27 ?_
    have := rgI σ (b + 9) 2
    refine zi_ialdv (pc := 30) ((gI σ (b + 9) 2).toNat) (gI σ 6 ((gI σ (b + 9) 2).toNat)) O (ja_6 J) (by omega) (by omega) (by omega) (sk1t (by omega) (izg σ 6 ((gI σ (b + 9) 2).toNat))) dX4_refuse_30 ?_
    have := rgI σ 6 ((gI σ (b + 9) 2).toNat)
    refine z_putI (pc := 31) O fl_X4_9 rfl ⟨rfl, rfl⟩ (hX).2.1 dX4_refuse_31 ?_
    refine z_iconst (pc := 34) (v := iz (0)) O dX4_refuse_34 (by decide) ?_
    refine z_zret (pc := 35) O dX4_refuse_35 rfl ?_
    have q8 : gI (sI (sI σ (b + 9) 8 (iz 1)) (b + 9) 9 (iz (gI σ 6 ((gI σ (b + 9) 2).toNat)))) (b + 9) 8 = flt tk j y := by
      unfold flt
      rw [if_pos (by omega)]
      exact gI_iz (sk2t (by decide) (hI_at _ _ _ _)) (by omega)
    have q9 : gI (sI (sI σ (b + 9) 8 (iz 1)) (b + 9) 9 (iz (gI σ 6 ((gI σ (b + 9) 2).toNat)))) (b + 9) 9 = pl j := (gI_iz (hI_at _ _ _ _) (rgI _ _ _)).trans (by
      rw [show (gI σ (b + 9) 2).toNat = j by omega]
      exact hT.2.1 j (by omega))
    exact ⟨0, rfl, (by decide), (by omega), (FrX.pI 9 (FrX.pI 9 (FrX.rf b [(9, 8), (9, 9)] σ) (by decide) rfl) (by decide) rfl), (RdX.up hX (τ := (sI (sI σ (b + 9) 8 (iz 1)) (b + 9) 9 (iz (gI σ 6 ((gI σ (b + 9) 2).toNat))))) (((FrD.rf b σ).pI (by omega)).pI (by omega)) (by have : gI (sI (sI σ (b + 9) 8 (iz 1)) (b + 9) 9 (iz (gI σ 6 ((gI σ (b + 9) 2).toNat)))) (b + 9) 2 = gI σ (b + 9) 2 := gI_iz (sk2t (by decide) (sk2t (by decide) (izg σ (b + 9) 2))) (rgI _ _ _); omega) (by have : gI (sI (sI σ (b + 9) 8 (iz 1)) (b + 9) 9 (iz (gI σ 6 ((gI σ (b + 9) 2).toNat)))) b 14 = gI σ b 14 := gI_iz (sk1t (by omega) (sk1t (by omega) (izg σ b 14))) (rgI _ _ _); omega) (by have : gI (sI (sI σ (b + 9) 8 (iz 1)) (b + 9) 9 (iz (gI σ 6 ((gI σ (b + 9) 2).toNat)))) b 3 = gI σ b 3 := gI_iz (sk1t (by omega) (sk1t (by omega) (izg σ b 3))) (rgI _ _ _); omega) (by have : gI (sI (sI σ (b + 9) 8 (iz 1)) (b + 9) 9 (iz (gI σ 6 ((gI σ (b + 9) 2).toNat)))) b 4 = gI σ b 4 := gI_iz (sk1t (by omega) (sk1t (by omega) (izg σ b 4))) (rgI _ _ _); omega) (fun w hw => by rw [show gI (sI (sI σ (b + 9) 8 (iz 1)) (b + 9) 9 (iz (gI σ 6 ((gI σ (b + 9) 2).toNat)))) (b + 6) w = gI σ (b + 6) w from gI_eq (sk1t (by omega) (sk1t (by omega) rfl))]; exact (hX).1.2.2.2.2.2.2 w hw)), ⟨q8, q9⟩⟩
set_option maxHeartbeats 4000000 in
set_option maxRecDepth 20000 in
theorem k1_addStep3 (l : Launch) (σ : VH) (b : Nat) (y : Int) (ry : (-2147483648 ≤ y ∧ y < 2147483648)) (J : Lay σ) (hX : RdX σ b) : Ct l yX1_addStep cX1_addStep 2 none 0 0 0 [.ref b, .int (iz y)] σ (fun r τ => r = none ∧ (FrX b [(8, 99999), (0, 14)] σ τ) ∧ (RdX τ b)) := by
  refine Ct.enter rfl (Nat.le_of_ble_eq_true rfl) ?_
  intro κ γ hκ O hrc hrs
  subst hκ
  have hR0 := hX.1.1
  have hR4 := hX.2.2.2.1
  have hR5 := hX.2.2.2.2
  have hR6 := hX.1.2.2.2.2.1
  have hR7 := hX.1.2.2.2.2.2.1
  refine z_aload_n (pc := 0) O dX1_addStep_0 rfl ?_
  refine zi_getv (pc := 1) (gI σ b 14) O fl_X1_50 rfl (hX).1.2.1 (izg σ b 14) dX1_addStep_1 ?_
  have := rgI σ b 14
  refine z_aload_n (pc := 4) O dX1_addStep_4 rfl ?_
  refine z_getR (pc := 5) (b + 8) O fl_X1_44 rfl (hX).1.2.1 (hX).1.2.2.1.2.2.2.2.2.2.2 dX1_addStep_5 ?_
  have hsl := hX.1.2.2.2.1.2.2.2.2.2.2.2.2
  refine z_alen (pc := 8) (t0 := 2) (n := iz ((hS σ (b + 8)).2 : Int)) O (hX).1.2.2.2.1.2.2.2.2.2.2.2.1 (by decide) rfl (iz_nI rfl).symm dX1_addStep_8 ?_
  refine zi_icmp_ge (pc := 9) (tgt := 32) O dX1_addStep_9 (by decide) (by omega) (by omega) (fun h9 => ?_) (fun h9 => ?_)
  · refine z_vret (pc := 32) O dX1_addStep_32 ?_
    exact ⟨rfl, (FrX.rf b [(8, 99999), (0, 14)] σ), hX⟩
  · refine z_aload_n (pc := 12) O dX1_addStep_12 rfl ?_
    refine z_getR (pc := 13) (b + 8) O fl_X1_44 rfl (hX).1.2.1 (hX).1.2.2.1.2.2.2.2.2.2.2 dX1_addStep_13 ?_
    refine z_aload_n (pc := 16) O dX1_addStep_16 rfl ?_
    refine zi_getv (pc := 17) (gI σ b 14) O fl_X1_50 rfl (hX).1.2.1 (izg σ b 14) dX1_addStep_17 ?_
    refine z_iload_n (pc := 20) O dX1_addStep_20 rfl ?_
    refine zi_iast (pc := 21) ((gI σ b 14).toNat) O (hX).1.2.2.2.1.2.2.2.2.2.2.2.1 (by omega) (by omega) (by omega) dX1_addStep_21 ?_
    refine z_aload_n (pc := 22) O dX1_addStep_22 rfl ?_
    refine z_dup (pc := 23) O dX1_addStep_23 rfl ?_
    refine zi_getv (pc := 24) (gI σ b 14) O fl_X1_50 rfl (hX).1.2.1 (sk1t (by omega) (izg σ b 14)) dX1_addStep_24 ?_
    refine z_iconst (pc := 27) (v := iz (1)) O dX1_addStep_27 (by decide) ?_
    refine zi_iadd (pc := 28) O dX1_addStep_28 ?_
    refine z_putI (pc := 29) O fl_X1_50 rfl ⟨rfl, rfl⟩ (hX).1.2.1 dX1_addStep_29 ?_
    refine z_vret (pc := 32) O dX1_addStep_32 ?_
    exact ⟨rfl, (FrX.pI 0 (FrX.pI 8 (FrX.rf b [(8, 99999), (0, 14)] σ) (by decide) rfl) (by decide) rfl), (RdX.up hX (τ := (sI (sI σ (b + 8) ((gI σ b 14).toNat) (iz y)) b 14 (iz ((gI σ b 14) + 1)))) (((FrD.rf b σ).pI (by omega)).pI (by omega)) (by have : gI (sI (sI σ (b + 8) ((gI σ b 14).toNat) (iz y)) b 14 (iz ((gI σ b 14) + 1))) (b + 9) 2 = gI σ (b + 9) 2 := gI_iz (sk1t (by omega) (sk1t (by omega) (izg σ (b + 9) 2))) (rgI _ _ _); omega) (by have : gI (sI (sI σ (b + 8) ((gI σ b 14).toNat) (iz y)) b 14 (iz ((gI σ b 14) + 1))) b 14 = (gI σ b 14) + 1 := gI_iz (hI_at _ _ _ _) (by omega); omega) (by have : gI (sI (sI σ (b + 8) ((gI σ b 14).toNat) (iz y)) b 14 (iz ((gI σ b 14) + 1))) b 3 = gI σ b 3 := gI_iz (sk2t (by decide) (sk1t (by omega) (izg σ b 3))) (rgI _ _ _); omega) (by have : gI (sI (sI σ (b + 8) ((gI σ b 14).toNat) (iz y)) b 14 (iz ((gI σ b 14) + 1))) b 4 = gI σ b 4 := gI_iz (sk2t (by decide) (sk1t (by omega) (izg σ b 4))) (rgI _ _ _); omega) (fun w hw => by rw [show gI (sI (sI σ (b + 8) ((gI σ b 14).toNat) (iz y)) b 14 (iz ((gI σ b 14) + 1))) (b + 6) w = gI σ (b + 6) w from gI_eq (sk1t (by omega) (sk1t (by omega) rfl))]; exact (hX).1.2.2.2.2.2.2 w hw))⟩
