set_option maxHeartbeats 4000000 in
set_option maxRecDepth 20000 in
theorem k1_addHurt3 (l : Launch) (σ : VH) (b : Nat) (v : Int64) (y : Int) (ry : (-2147483648 ≤ y ∧ y < 2147483648)) (J : Lay σ) (hX : RdX σ b) (h12 : gI σ b 3 < 12) : Ct l yX1_addHurt cX1_addHurt 4 none 0 0 0 [.ref b, .long v, .int (iz y)] σ (fun r τ => r = none ∧ (FrX b [(1, 99999), (3, 99999), (0, 3)] σ τ) ∧ (RdX τ b) ∧ (gI τ b 3 = gI σ b 3 + 1) ∧ (∀ i : Nat, (hL τ (b + 1) i).toInt = if (i : Int) = gI σ b 3 then v.toInt else (hL σ (b + 1) i).toInt)) := by
  refine Ct.enter rfl (Nat.le_of_ble_eq_true rfl) ?_
  intro κ γ hκ O hrc hrs
  subst hκ
  have hR0 := hX.1.1
  have hR4 := hX.2.2.2.1
  have hR5 := hX.2.2.2.2
  have hR6 := hX.1.2.2.2.2.1
  have hR7 := hX.1.2.2.2.2.2.1
  refine z_aload_n (pc := 0) O dX1_addHurt_0 rfl ?_
  refine zi_getv (pc := 1) (gI σ b 3) O fl_X1_47 rfl (hX).1.2.1 (izg σ b 3) dX1_addHurt_1 ?_
  have := rgI σ b 3
  refine z_bipush (pc := 4) (v := iz (12)) O dX1_addHurt_4 (by decide) ?_
  refine zi_icmp_ge (pc := 6) (tgt := 39) O dX1_addHurt_6 (by decide) (by omega) (by decide) (fun h6 => ?_) (fun h6 => ?_)
  · refine z_vret (pc := 39) O dX1_addHurt_39 ?_
    exfalso; omega
  · refine z_aload_n (pc := 9) O dX1_addHurt_9 rfl ?_
    refine z_getR (pc := 10) (b + 1) O fl_X1_9 rfl (hX).1.2.1 (hX).1.2.2.1.1 dX1_addHurt_10 ?_
    refine z_aload_n (pc := 13) O dX1_addHurt_13 rfl ?_
    refine zi_getv (pc := 14) (gI σ b 3) O fl_X1_47 rfl (hX).1.2.1 (izg σ b 3) dX1_addHurt_14 ?_
    refine z_lload_n (pc := 17) O dX1_addHurt_17 rfl ?_
    refine zi_last (pc := 18) ((gI σ b 3).toNat) O (hX).1.2.2.2.1.1 (by omega) (by omega) (by omega) dX1_addHurt_18 ?_
    refine z_aload_n (pc := 19) O dX1_addHurt_19 rfl ?_
    refine z_getR (pc := 20) (b + 3) O fl_X1_26 rfl (hX).1.2.1 (hX).1.2.2.1.2.2.1 dX1_addHurt_20 ?_
    refine z_aload_n (pc := 23) O dX1_addHurt_23 rfl ?_
    refine zi_getv (pc := 24) (gI σ b 3) O fl_X1_47 rfl (hX).1.2.1 (skL (izg σ b 3)) dX1_addHurt_24 ?_
    refine z_iload_n (pc := 27) O dX1_addHurt_27 rfl ?_
    refine zi_iast (pc := 28) ((gI σ b 3).toNat) O (hX).1.2.2.2.1.2.2.1 (by omega) (by omega) (by omega) dX1_addHurt_28 ?_
    refine z_aload_n (pc := 29) O dX1_addHurt_29 rfl ?_
    refine z_dup (pc := 30) O dX1_addHurt_30 rfl ?_
    refine zi_getv (pc := 31) (gI σ b 3) O fl_X1_47 rfl (hX).1.2.1 (sk1t (by omega) (skL (izg σ b 3))) dX1_addHurt_31 ?_
    refine z_iconst (pc := 34) (v := iz (1)) O dX1_addHurt_34 (by decide) ?_
    refine zi_iadd (pc := 35) O dX1_addHurt_35 ?_
    refine z_putI (pc := 36) O fl_X1_47 rfl ⟨rfl, rfl⟩ (hX).1.2.1 dX1_addHurt_36 ?_
    refine z_vret (pc := 39) O dX1_addHurt_39 ?_
    exact ⟨rfl, (FrX.pI 0 (FrX.pI 3 (FrX.pL 1 (FrX.rf b [(1, 99999), (3, 99999), (0, 3)] σ) (by decide) rfl) (by decide) rfl) (by decide) rfl), (RdX.up hX (τ := (sI (sI (sL σ (b + 1) ((gI σ b 3).toNat) v) (b + 3) ((gI σ b 3).toNat) (iz y)) b 3 (iz ((gI σ b 3) + 1)))) ((((FrD.rf b σ).pL (by omega)).pI (by omega)).pI (by omega)) (by have : gI (sI (sI (sL σ (b + 1) ((gI σ b 3).toNat) v) (b + 3) ((gI σ b 3).toNat) (iz y)) b 3 (iz ((gI σ b 3) + 1))) (b + 9) 2 = gI σ (b + 9) 2 := gI_iz (sk1t (by omega) (sk1t (by omega) (skL (izg σ (b + 9) 2)))) (rgI _ _ _); omega) (by have : gI (sI (sI (sL σ (b + 1) ((gI σ b 3).toNat) v) (b + 3) ((gI σ b 3).toNat) (iz y)) b 3 (iz ((gI σ b 3) + 1))) b 14 = gI σ b 14 := gI_iz (sk2t (by decide) (sk1t (by omega) (skL (izg σ b 14)))) (rgI _ _ _); omega) (by have : gI (sI (sI (sL σ (b + 1) ((gI σ b 3).toNat) v) (b + 3) ((gI σ b 3).toNat) (iz y)) b 3 (iz ((gI σ b 3) + 1))) b 3 = (gI σ b 3) + 1 := gI_iz (hI_at _ _ _ _) (by omega); omega) (by have : gI (sI (sI (sL σ (b + 1) ((gI σ b 3).toNat) v) (b + 3) ((gI σ b 3).toNat) (iz y)) b 3 (iz ((gI σ b 3) + 1))) b 4 = gI σ b 4 := gI_iz (sk2t (by decide) (sk1t (by omega) (skL (izg σ b 4)))) (rgI _ _ _); omega) (fun w hw => by rw [show gI (sI (sI (sL σ (b + 1) ((gI σ b 3).toNat) v) (b + 3) ((gI σ b 3).toNat) (iz y)) b 3 (iz ((gI σ b 3) + 1))) (b + 6) w = gI σ (b + 6) w from gI_eq (sk1t (by omega) (sk1t (by omega) (skL rfl)))]; exact (hX).1.2.2.2.2.2.2 w hw)), (by have q3 := (gI_iz (hI_at _ _ _ _) (by omega) : gI (sI (sI (sL σ (b + 1) ((gI σ b 3).toNat) v) (b + 3) ((gI σ b 3).toNat) (iz y)) b 3 (iz ((gI σ b 3) + 1))) b 3 = (gI σ b 3) + 1); omega), (fun i => by show (hL (sL σ (b + 1) ((gI σ b 3).toNat) v) (b + 1) i).toInt = _; rw [hL_sL]; by_cases hk9 : i = ((gI σ b 3).toNat); (rw [if_pos ⟨rfl, hk9⟩, if_pos (by omega)]); (rw [if_neg (fun e => hk9 e.2), if_neg (by omega)]; first | done | rfl))⟩
set_option maxHeartbeats 4000000 in
set_option maxRecDepth 20000 in
theorem k1_addWhen3 (l : Launch) (σ : VH) (b : Nat) (y : Int) (ry : (-2147483648 ≤ y ∧ y < 2147483648)) (n : Int) (rn : (-2147483648 ≤ n ∧ n < 2147483648)) (J : Lay σ) (hX : RdX σ b) (h16 : gI σ b 4 < 16) : Ct l yX1_addWhen cX1_addWhen 3 none 0 0 0 [.ref b, .int (iz y), .int (iz n)] σ (fun r τ => r = none ∧ (FrX b [(4, 99999), (5, 99999), (6, 99999), (0, 4)] σ τ) ∧ (RdX τ b) ∧ (gI τ b 4 = gI σ b 4 + 1)) := by
  refine Ct.enter rfl (Nat.le_of_ble_eq_true rfl) ?_
  intro κ γ hκ O hrc hrs
  subst hκ
  have hR0 := hX.1.1
  have hR4 := hX.2.2.2.1
  have hR5 := hX.2.2.2.2
  have hR6 := hX.1.2.2.2.2.1
  have hR7 := hX.1.2.2.2.2.2.1
  refine z_aload_n (pc := 0) O dX1_addWhen_0 rfl ?_
  refine zi_getv (pc := 1) (gI σ b 4) O fl_X1_53 rfl (hX).1.2.1 (izg σ b 4) dX1_addWhen_1 ?_
  have := rgI σ b 4
  refine z_bipush (pc := 4) (v := iz (16)) O dX1_addWhen_4 (by decide) ?_
  refine zi_icmp_ge (pc := 6) (tgt := 52) O dX1_addWhen_6 (by decide) (by omega) (by decide) (fun h6 => ?_) (fun h6 => ?_)
  · refine z_vret (pc := 52) O dX1_addWhen_52 ?_
    exfalso; omega
  · refine z_aload_n (pc := 9) O dX1_addWhen_9 rfl ?_
    refine z_getR (pc := 10) (b + 4) O fl_X1_29 rfl (hX).1.2.1 (hX).1.2.2.1.2.2.2.1 dX1_addWhen_10 ?_
    refine z_aload_n (pc := 13) O dX1_addWhen_13 rfl ?_
    refine zi_getv (pc := 14) (gI σ b 4) O fl_X1_53 rfl (hX).1.2.1 (izg σ b 4) dX1_addWhen_14 ?_
    refine z_iload_n (pc := 17) O dX1_addWhen_17 rfl ?_
    refine zi_iast (pc := 18) ((gI σ b 4).toNat) O (hX).1.2.2.2.1.2.2.2.1 (by omega) (by omega) (by omega) dX1_addWhen_18 ?_
    refine z_aload_n (pc := 19) O dX1_addWhen_19 rfl ?_
    refine z_getR (pc := 20) (b + 5) O fl_X1_32 rfl (hX).1.2.1 (hX).1.2.2.1.2.2.2.2.1 dX1_addWhen_20 ?_
    refine z_aload_n (pc := 23) O dX1_addWhen_23 rfl ?_
    refine zi_getv (pc := 24) (gI σ b 4) O fl_X1_53 rfl (hX).1.2.1 (sk1t (by omega) (izg σ b 4)) dX1_addWhen_24 ?_
    refine z_iload_n (pc := 27) O dX1_addWhen_27 rfl ?_
    refine zi_iast (pc := 28) ((gI σ b 4).toNat) O (hX).1.2.2.2.1.2.2.2.2.1 (by omega) (by omega) (by omega) dX1_addWhen_28 ?_
    refine z_aload_n (pc := 29) O dX1_addWhen_29 rfl ?_
    refine z_getR (pc := 30) (b + 6) O fl_X1_35 rfl (hX).1.2.1 (hX).1.2.2.1.2.2.2.2.2.1 dX1_addWhen_30 ?_
    refine z_aload_n (pc := 33) O dX1_addWhen_33 rfl ?_
    refine zi_getv (pc := 34) (gI σ b 4) O fl_X1_53 rfl (hX).1.2.1 (sk1t (by omega) (sk1t (by omega) (izg σ b 4))) dX1_addWhen_34 ?_
    refine z_aload_n (pc := 37) O dX1_addWhen_37 rfl ?_
    refine zi_getv (pc := 38) (gI σ b 14) O fl_X1_50 rfl (hX).1.2.1 (sk1t (by omega) (sk1t (by omega) (izg σ b 14))) dX1_addWhen_38 ?_
    have := rgI σ b 14
    refine zi_iast (pc := 41) ((gI σ b 4).toNat) O (hX).1.2.2.2.1.2.2.2.2.2.1 (by omega) (by omega) (by omega) dX1_addWhen_41 ?_
    refine z_aload_n (pc := 42) O dX1_addWhen_42 rfl ?_
    refine z_dup (pc := 43) O dX1_addWhen_43 rfl ?_
    refine zi_getv (pc := 44) (gI σ b 4) O fl_X1_53 rfl (hX).1.2.1 (sk1t (by omega) (sk1t (by omega) (sk1t (by omega) (izg σ b 4)))) dX1_addWhen_44 ?_
    refine z_iconst (pc := 47) (v := iz (1)) O dX1_addWhen_47 (by decide) ?_
    refine zi_iadd (pc := 48) O dX1_addWhen_48 ?_
    refine z_putI (pc := 49) O fl_X1_53 rfl ⟨rfl, rfl⟩ (hX).1.2.1 dX1_addWhen_49 ?_
    refine z_vret (pc := 52) O dX1_addWhen_52 ?_
    exact ⟨rfl, (FrX.pI 0 (FrX.pI 6 (FrX.pI 5 (FrX.pI 4 (FrX.rf b [(4, 99999), (5, 99999), (6, 99999), (0, 4)] σ) (by decide) rfl) (by decide) rfl) (by decide) rfl) (by decide) rfl), (RdX.up hX (τ := (sI (sI (sI (sI σ (b + 4) ((gI σ b 4).toNat) (iz y)) (b + 5) ((gI σ b 4).toNat) (iz n)) (b + 6) ((gI σ b 4).toNat) (iz (gI σ b 14))) b 4 (iz ((gI σ b 4) + 1)))) (((((FrD.rf b σ).pI (by omega)).pI (by omega)).pI (by omega)).pI (by omega)) (by have : gI (sI (sI (sI (sI σ (b + 4) ((gI σ b 4).toNat) (iz y)) (b + 5) ((gI σ b 4).toNat) (iz n)) (b + 6) ((gI σ b 4).toNat) (iz (gI σ b 14))) b 4 (iz ((gI σ b 4) + 1))) (b + 9) 2 = gI σ (b + 9) 2 := gI_iz (sk1t (by omega) (sk1t (by omega) (sk1t (by omega) (sk1t (by omega) (izg σ (b + 9) 2))))) (rgI _ _ _); omega) (by have : gI (sI (sI (sI (sI σ (b + 4) ((gI σ b 4).toNat) (iz y)) (b + 5) ((gI σ b 4).toNat) (iz n)) (b + 6) ((gI σ b 4).toNat) (iz (gI σ b 14))) b 4 (iz ((gI σ b 4) + 1))) b 14 = gI σ b 14 := gI_iz (sk2t (by decide) (sk1t (by omega) (sk1t (by omega) (sk1t (by omega) (izg σ b 14))))) (rgI _ _ _); omega) (by have : gI (sI (sI (sI (sI σ (b + 4) ((gI σ b 4).toNat) (iz y)) (b + 5) ((gI σ b 4).toNat) (iz n)) (b + 6) ((gI σ b 4).toNat) (iz (gI σ b 14))) b 4 (iz ((gI σ b 4) + 1))) b 3 = gI σ b 3 := gI_iz (sk2t (by decide) (sk1t (by omega) (sk1t (by omega) (sk1t (by omega) (izg σ b 3))))) (rgI _ _ _); omega) (by have : gI (sI (sI (sI (sI σ (b + 4) ((gI σ b 4).toNat) (iz y)) (b + 5) ((gI σ b 4).toNat) (iz n)) (b + 6) ((gI σ b 4).toNat) (iz (gI σ b 14))) b 4 (iz ((gI σ b 4) + 1))) b 4 = (gI σ b 4) + 1 := gI_iz (hI_at _ _ _ _) (by omega); omega) (fun w hw => by by_cases hw9 : w = ((gI σ b 4).toNat); (rw [hw9, show gI (sI (sI (sI (sI σ (b + 4) ((gI σ b 4).toNat) (iz y)) (b + 5) ((gI σ b 4).toNat) (iz n)) (b + 6) ((gI σ b 4).toNat) (iz (gI σ b 14))) b 4 (iz ((gI σ b 4) + 1))) (b + 6) ((gI σ b 4).toNat) = gI σ b 14 from gI_iz (sk1t (by omega) (hI_at _ _ _ _)) (by omega)]; omega); (rw [show gI (sI (sI (sI (sI σ (b + 4) ((gI σ b 4).toNat) (iz y)) (b + 5) ((gI σ b 4).toNat) (iz n)) (b + 6) ((gI σ b 4).toNat) (iz (gI σ b 14))) b 4 (iz ((gI σ b 4) + 1))) (b + 6) w = gI σ (b + 6) w from gI_eq (sk1t (by omega) (sk2t hw9 (sk1t (by omega) (sk1t (by omega) rfl))))]; exact (hX).1.2.2.2.2.2.2 w hw))), (by have q3 := (gI_iz (hI_at _ _ _ _) (by omega) : gI (sI (sI (sI (sI σ (b + 4) ((gI σ b 4).toNat) (iz y)) (b + 5) ((gI σ b 4).toNat) (iz n)) (b + 6) ((gI σ b 4).toNat) (iz (gI σ b 14))) b 4 (iz ((gI σ b 4) + 1))) b 4 = (gI σ b 4) + 1); omega)⟩
set_option maxHeartbeats 4000000 in
set_option maxRecDepth 20000 in
theorem k4_readNeed3 (l : Launch) (σ : VH) (b : Nat) (tk : Nat → Int) (pl : Nat → Int) (m : Nat) (j : Nat) (J : Lay σ) (R : RdS σ b tk pl m j) (hf6 : gI σ (b + 9) 6 = 0 ∨ gI σ (b + 9) 6 = 1) : Ct l yX4_readNeed cX4_readNeed 1 (some .boolean) 2 0 0 [.ref (b + 9)] σ (fun r τ => ∃ z : Int, r = some (.int (iz z)) ∧ (z = 0 ∨ z = 1) ∧ (FrX b [(9, 8), (9, 9), (9, 2), (9, 3), (9, 6), (0, 5), (0, 6)] σ τ) ∧ (RdX τ b) ∧ (Rt τ b tk pl m z (needR tk m j (gI σ (b + 9) 6))) ∧ (gI σ (b + 9) 6 = 1 ∨ gI τ (b + 9) 6 = 1)) := by
  refine Ct.enter rfl (Nat.le_of_ble_eq_true rfl) ?_
  intro κ γ hκ O hrc hrs
  subst hκ
  have hX := R.1
  have hR0 := hX.1.1
  have hR4 := hX.2.2.2.1
  have hR5 := hX.2.2.2.2
  have hR6 := hX.1.2.2.2.2.1
  have hR7 := hX.1.2.2.2.2.2.1
  have hT := R.2.1
  have hct := R.2.1.2.2.1
  have hat := R.2.2.1
  have hcur := R.2.2.2.1
  have hfl := R.2.2.2.2
  refine z_aload_n (pc := 0) O dX4_readNeed_0 rfl ?_
  refine zi_getv (pc := 1) (gI σ (b + 9) 6) O fl_X4_120 rfl (hX).2.1 (izg σ (b + 9) 6) dX4_readNeed_1 ?_
  have := rgI σ (b + 9) 6
  refine zi_if_eq (pc := 4) (tgt := 13) O dX4_readNeed_4 (by decide) (by omega) (fun h4 => ?_) (fun h4 => ?_)
  · refine z_aload_n (pc := 13) O dX4_readNeed_13 rfl ?_
    refine z_iconst (pc := 14) (v := iz (1)) O dX4_readNeed_14 (by decide) ?_
    refine z_putI (pc := 15) O fl_X4_120 rfl ⟨nar_z (by omega), rfl⟩ (hX).2.1 dX4_readNeed_15 ?_
    refine z_aload_n (pc := 18) O dX4_readNeed_18 rfl ?_
    refine z_callV (pc := 19) O cl_X4_68 (k4_advance3 _ _ b tk pl m j J (RdS.fr R (FrX.pI 9 (FrX.rf b [(9, 6)] σ) (by decide) rfl) (RdX.up hX (τ := (sI σ (b + 9) 6 (iz 1))) ((FrD.rf b σ).pI (by omega)) (by have : gI (sI σ (b + 9) 6 (iz 1)) (b + 9) 2 = gI σ (b + 9) 2 := gI_iz (sk2t (by decide) (izg σ (b + 9) 2)) (rgI _ _ _); omega) (by have : gI (sI σ (b + 9) 6 (iz 1)) b 14 = gI σ b 14 := gI_iz (sk1t (by omega) (izg σ b 14)) (rgI _ _ _); omega) (by have : gI (sI σ (b + 9) 6 (iz 1)) b 3 = gI σ b 3 := gI_iz (sk1t (by omega) (izg σ b 3)) (rgI _ _ _); omega) (by have : gI (sI σ (b + 9) 6 (iz 1)) b 4 = gI σ b 4 := gI_iz (sk1t (by omega) (izg σ b 4)) (rgI _ _ _); omega) (fun w hw => by rw [show gI (sI σ (b + 9) 6 (iz 1)) (b + 6) w = gI σ (b + 6) w from gI_eq (sk1t (by omega) rfl)]; exact (hX).1.2.2.2.2.2.2 w hw)) rfl rfl rfl rfl)) (by decide) (hX).2.1 kc_4 rfl rfl (Nat.le_of_ble_eq_true rfl) ⟨Nat.zero_le _, Nat.zero_le _⟩ dX4_readNeed_19 (fun r τ1 hp => ?_)
    obtain ⟨rfl, frτ1, ivτ1_RdX, eτ1_0⟩ := hp
    have := (ivτ1_RdX).2.2.2.1
    have := (ivτ1_RdX).2.2.2.2
    have := (ivτ1_RdX).1.2.2.2.2.1
    have := (ivτ1_RdX).1.2.2.2.2.2.1
    have : gI τ1 4 2 = gI σ 4 2 := gI_iz (FrD.it frτ1.1 (by omega) (sk1t (by omega) (izg σ 4 2))) (rgI _ _ _)
    refine z_aload_n (pc := 22) O dX4_readNeed_22 rfl ?_
    refine z_getR (pc := 23) b O fl_X4_19 rfl (ivτ1_RdX).2.1 (ivτ1_RdX).2.2.1.2 dX4_readNeed_23 ?_
    refine z_aload_n (pc := 26) O dX4_readNeed_26 rfl ?_
    refine z_iconst (pc := 27) (v := iz (0)) O dX4_readNeed_27 (by decide) ?_
    refine z_bipush (pc := 28) (v := iz (12)) O dX4_readNeed_28 (by decide) ?_
    refine z_callV (pc := 30) O cl_X4_83 (k4_readNumber3 _ _ b 0 (by decide) 12 (by decide) tk pl m (adv m j) (frτ1.lay J) eτ1_0 (by omega)) (by decide) (ivτ1_RdX).2.1 kc_4 rfl rfl (Nat.le_of_ble_eq_true rfl) ⟨Nat.zero_le _, Nat.zero_le _⟩ dX4_readNeed_30 (fun r τ3 hp => ?_)
    obtain ⟨z4, rfl, fτ3_0, fτ3_1, frτ3, ivτ3_RdX, eτ3_0⟩ := hp
    have := (ivτ3_RdX).2.2.2.1
    have := (ivτ3_RdX).2.2.2.2
    have := (ivτ3_RdX).1.2.2.2.2.1
    have := (ivτ3_RdX).1.2.2.2.2.2.1
    have : gI τ3 4 2 = gI σ 4 2 := gI_iz (FrD.it frτ3.1 (by omega) (FrD.it frτ1.1 (by omega) (sk1t (by omega) (izg σ 4 2)))) (rgI _ _ _)
    refine z_putI (pc := 33) O fl_X4_123 rfl ⟨rfl, rfl⟩ (ivτ3_RdX).1.2.1 dX4_readNeed_33 ?_
    refine z_aload_n (pc := 36) O dX4_readNeed_36 rfl ?_
    refine z_getR (pc := 37) b O fl_X4_19 rfl (ivτ3_RdX).2.1 (ivτ3_RdX).2.2.1.2 dX4_readNeed_37 ?_
    refine zi_getv (pc := 40) (z4) O fl_X4_123 rfl (ivτ3_RdX).1.2.1 (hI_at _ _ _ _) dX4_readNeed_40 ?_
    refine z_iconst (pc := 43) (v := iz (-1)) O dX4_readNeed_43 (by decide) ?_
    refine zi_icmp_eq (pc := 44) (tgt := 57) O dX4_readNeed_44 (by decide) (by omega) (by decide) (fun h44 => ?_) (fun h44 => ?_)
    · refine z_iconst (pc := 57) (v := iz (0)) O dX4_readNeed_57 (by decide) ?_
      refine z_zret (pc := 58) O dX4_readNeed_58 rfl ?_
      have o1 := NmR.no eτ3_0 (by omega)
      have er : needR tk m j (gI σ (b + 9) 6) = _ := (cif_neg (by omega)).trans (thn_f o1.1)
      exact ⟨0, rfl, (by decide), (FrX.pI 0 (((FrX.pI 9 (FrX.rf b [(9, 8), (9, 9), (9, 2), (9, 3), (9, 6), (0, 5), (0, 6)] σ) (by decide) rfl).tr (frτ1.mono (V := [(9, 8), (9, 9), (9, 2), (9, 3), (9, 6), (0, 5), (0, 6)]) rfl)).tr (frτ3.mono (V := [(9, 8), (9, 9), (9, 2), (9, 3), (9, 6), (0, 5), (0, 6)]) rfl)) (by decide) rfl), (RdX.up ivτ3_RdX (τ := (sI τ3 b 5 (iz z4))) ((FrD.rf b τ3).pI (by omega)) (by have : gI (sI τ3 b 5 (iz z4)) (b + 9) 2 = gI τ3 (b + 9) 2 := gI_iz (sk1t (by omega) (izg τ3 (b + 9) 2)) (rgI _ _ _); omega) (by have : gI (sI τ3 b 5 (iz z4)) b 14 = gI τ3 b 14 := gI_iz (sk2t (by decide) (izg τ3 b 14)) (rgI _ _ _); omega) (by have : gI (sI τ3 b 5 (iz z4)) b 3 = gI τ3 b 3 := gI_iz (sk2t (by decide) (izg τ3 b 3)) (rgI _ _ _); omega) (by have : gI (sI τ3 b 5 (iz z4)) b 4 = gI τ3 b 4 := gI_iz (sk2t (by decide) (izg τ3 b 4)) (rgI _ _ _); omega) (fun w hw => by rw [show gI (sI τ3 b 5 (iz z4)) (b + 6) w = gI τ3 (b + 6) w from gI_eq (sk1t (by omega) rfl)]; exact (ivτ3_RdX).1.2.2.2.2.2.2 w hw)), (by rw [er]; exact Or.inr ⟨rfl, o1.1, (Fl.fr o1.2 (FrX.pI 0 (FrX.rf b [(0, 5)] τ3) (by decide) rfl) rfl rfl)⟩), (by have qf := (gI_iz (sk1t (by omega) (FrX.it 9 frτ3 rfl (FrX.it 9 frτ1 rfl (hI_at _ _ _ _)))) (by omega) : gI (sI τ3 b 5 (iz z4)) (b + 9) 6 = 1); omega)⟩
    · refine z_aload_n (pc := 47) O dX4_readNeed_47 rfl ?_
      refine z_ldc2 (pc := 48) O tw_469 dX4_readNeed_48 ?_
      refine z_callV (pc := 51) O cl_X4_89 (k4_expect3 _ _ b 1918987883 tk pl m (adv m (adv m j)) (frτ3.lay (frτ1.lay J)) (RdS.fr (NmR.ok eτ3_0 (by omega)).2.2.2 (FrX.pI 0 (FrX.rf b [(0, 5)] τ3) (by decide) rfl) (RdX.up ivτ3_RdX (τ := (sI τ3 b 5 (iz z4))) ((FrD.rf b τ3).pI (by omega)) (by have : gI (sI τ3 b 5 (iz z4)) (b + 9) 2 = gI τ3 (b + 9) 2 := gI_iz (sk1t (by omega) (izg τ3 (b + 9) 2)) (rgI _ _ _); omega) (by have : gI (sI τ3 b 5 (iz z4)) b 14 = gI τ3 b 14 := gI_iz (sk2t (by decide) (izg τ3 b 14)) (rgI _ _ _); omega) (by have : gI (sI τ3 b 5 (iz z4)) b 3 = gI τ3 b 3 := gI_iz (sk2t (by decide) (izg τ3 b 3)) (rgI _ _ _); omega) (by have : gI (sI τ3 b 5 (iz z4)) b 4 = gI τ3 b 4 := gI_iz (sk2t (by decide) (izg τ3 b 4)) (rgI _ _ _); omega) (fun w hw => by rw [show gI (sI τ3 b 5 (iz z4)) (b + 6) w = gI τ3 (b + 6) w from gI_eq (sk1t (by omega) rfl)]; exact (ivτ3_RdX).1.2.2.2.2.2.2 w hw)) rfl rfl rfl rfl)) (by decide) (ivτ3_RdX).2.1 kc_4 rfl rfl (Nat.le_of_ble_eq_true rfl) ⟨Nat.zero_le _, Nat.zero_le _⟩ dX4_readNeed_51 (fun r τ5 hp => ?_)
      obtain ⟨z6, rfl, fτ5_0, frτ5, ivτ5_RdX, eτ5_0⟩ := hp
      have := (ivτ5_RdX).2.2.2.1
      have := (ivτ5_RdX).2.2.2.2
      have := (ivτ5_RdX).1.2.2.2.2.1
      have := (ivτ5_RdX).1.2.2.2.2.2.1
      have : gI τ5 4 2 = gI σ 4 2 := gI_iz (FrD.it frτ5.1 (by omega) (sk1t (by omega) (FrD.it frτ3.1 (by omega) (FrD.it frτ1.1 (by omega) (sk1t (by omega) (izg σ 4 2)))))) (rgI _ _ _)
      rw [show (1918987883 : Int64).toInt = 1918987883 by decide] at eτ5_0
      refine zi_if_ne (pc := 54) (tgt := 59) O dX4_readNeed_54 (by decide) (by omega) (fun h54 => ?_) (fun h54 => ?_)
      · refine z_aload_n (pc := 59) O dX4_readNeed_59 rfl ?_
        refine z_getR (pc := 60) b O fl_X4_19 rfl (ivτ5_RdX).2.1 (ivτ5_RdX).2.2.1.2 dX4_readNeed_60 ?_
        refine z_aload_n (pc := 63) O dX4_readNeed_63 rfl ?_
        refine z_iconst (pc := 64) (v := iz (0)) O dX4_readNeed_64 (by decide) ?_
        refine z_iconst (pc := 65) (v := iz (3)) O dX4_readNeed_65 (by decide) ?_
        refine z_callV (pc := 66) O cl_X4_83 (k4_readNumber3 _ _ b 0 (by decide) 3 (by decide) tk pl m (exR tk m (adv m (adv m j)) 1918987883).2 (frτ5.lay (frτ3.lay (frτ1.lay J))) (Rt.is1 eτ5_0 (by omega)).2 (by omega)) (by decide) (ivτ5_RdX).2.1 kc_4 rfl rfl (Nat.le_of_ble_eq_true rfl) ⟨Nat.zero_le _, Nat.zero_le _⟩ dX4_readNeed_66 (fun r τ7 hp => ?_)
        obtain ⟨z8, rfl, fτ7_0, fτ7_1, frτ7, ivτ7_RdX, eτ7_0⟩ := hp
        have := (ivτ7_RdX).2.2.2.1
        have := (ivτ7_RdX).2.2.2.2
        have := (ivτ7_RdX).1.2.2.2.2.1
        have := (ivτ7_RdX).1.2.2.2.2.2.1
        have : gI τ7 4 2 = gI σ 4 2 := gI_iz (FrD.it frτ7.1 (by omega) (FrD.it frτ5.1 (by omega) (sk1t (by omega) (FrD.it frτ3.1 (by omega) (FrD.it frτ1.1 (by omega) (sk1t (by omega) (izg σ 4 2))))))) (rgI _ _ _)
        refine z_putI (pc := 69) O fl_X4_128 rfl ⟨rfl, rfl⟩ (ivτ7_RdX).1.2.1 dX4_readNeed_69 ?_
        refine z_aload_n (pc := 72) O dX4_readNeed_72 rfl ?_
        refine z_getR (pc := 73) b O fl_X4_19 rfl (ivτ7_RdX).2.1 (ivτ7_RdX).2.2.1.2 dX4_readNeed_73 ?_
        refine zi_getv (pc := 76) (z8) O fl_X4_128 rfl (ivτ7_RdX).1.2.1 (hI_at _ _ _ _) dX4_readNeed_76 ?_
        refine z_iconst (pc := 79) (v := iz (-1)) O dX4_readNeed_79 (by decide) ?_
        refine zi_icmp_eq (pc := 80) (tgt := 97) O dX4_readNeed_80 (by decide) (by omega) (by decide) (fun h80 => ?_) (fun h80 => ?_)
        · refine z_iconst (pc := 97) (v := iz (0)) O dX4_readNeed_97 (by decide) ?_
          refine z_zret (pc := 98) O dX4_readNeed_98 rfl ?_
          have o1 := NmR.ok eτ3_0 (by omega)
          have o2 := Rt.is1 eτ5_0 (by omega)
          have o3 := NmR.no eτ7_0 (by omega)
          have er : needR tk m j (gI σ (b + 9) 6) = _ := (cif_neg (by omega)).trans ((thn_ok o1.2.2.1).trans ((thn_t o2.1).trans (thn_f o3.1)))
          exact ⟨0, rfl, (by decide), (FrX.pI 0 (((FrX.pI 0 (((FrX.pI 9 (FrX.rf b [(9, 8), (9, 9), (9, 2), (9, 3), (9, 6), (0, 5), (0, 6)] σ) (by decide) rfl).tr (frτ1.mono (V := [(9, 8), (9, 9), (9, 2), (9, 3), (9, 6), (0, 5), (0, 6)]) rfl)).tr (frτ3.mono (V := [(9, 8), (9, 9), (9, 2), (9, 3), (9, 6), (0, 5), (0, 6)]) rfl)) (by decide) rfl).tr (frτ5.mono (V := [(9, 8), (9, 9), (9, 2), (9, 3), (9, 6), (0, 5), (0, 6)]) rfl)).tr (frτ7.mono (V := [(9, 8), (9, 9), (9, 2), (9, 3), (9, 6), (0, 5), (0, 6)]) rfl)) (by decide) rfl), (RdX.up ivτ7_RdX (τ := (sI τ7 b 6 (iz z8))) ((FrD.rf b τ7).pI (by omega)) (by have : gI (sI τ7 b 6 (iz z8)) (b + 9) 2 = gI τ7 (b + 9) 2 := gI_iz (sk1t (by omega) (izg τ7 (b + 9) 2)) (rgI _ _ _); omega) (by have : gI (sI τ7 b 6 (iz z8)) b 14 = gI τ7 b 14 := gI_iz (sk2t (by decide) (izg τ7 b 14)) (rgI _ _ _); omega) (by have : gI (sI τ7 b 6 (iz z8)) b 3 = gI τ7 b 3 := gI_iz (sk2t (by decide) (izg τ7 b 3)) (rgI _ _ _); omega) (by have : gI (sI τ7 b 6 (iz z8)) b 4 = gI τ7 b 4 := gI_iz (sk2t (by decide) (izg τ7 b 4)) (rgI _ _ _); omega) (fun w hw => by rw [show gI (sI τ7 b 6 (iz z8)) (b + 6) w = gI τ7 (b + 6) w from gI_eq (sk1t (by omega) rfl)]; exact (ivτ7_RdX).1.2.2.2.2.2.2 w hw)), (by rw [er]; exact Or.inr ⟨rfl, o3.1, (Fl.fr o3.2 (FrX.pI 0 (FrX.rf b [(0, 6)] τ7) (by decide) rfl) rfl rfl)⟩), (by have qf := (gI_iz (sk1t (by omega) (FrX.it 9 frτ7 rfl (FrX.it 9 frτ5 rfl (sk1t (by omega) (FrX.it 9 frτ3 rfl (FrX.it 9 frτ1 rfl (hI_at _ _ _ _))))))) (by omega) : gI (sI τ7 b 6 (iz z8)) (b + 9) 6 = 1); omega)⟩
        · refine z_aload_n (pc := 83) O dX4_readNeed_83 rfl ?_
          refine z_ldc2 (pc := 84) O tw_400 dX4_readNeed_84 ?_
          refine z_callV (pc := 87) O cl_X4_89 (k4_expect3 _ _ b 59 tk pl m (adv m (exR tk m (adv m (adv m j)) 1918987883).2) (frτ7.lay (frτ5.lay (frτ3.lay (frτ1.lay J)))) (RdS.fr (NmR.ok eτ7_0 (by omega)).2.2.2 (FrX.pI 0 (FrX.rf b [(0, 6)] τ7) (by decide) rfl) (RdX.up ivτ7_RdX (τ := (sI τ7 b 6 (iz z8))) ((FrD.rf b τ7).pI (by omega)) (by have : gI (sI τ7 b 6 (iz z8)) (b + 9) 2 = gI τ7 (b + 9) 2 := gI_iz (sk1t (by omega) (izg τ7 (b + 9) 2)) (rgI _ _ _); omega) (by have : gI (sI τ7 b 6 (iz z8)) b 14 = gI τ7 b 14 := gI_iz (sk2t (by decide) (izg τ7 b 14)) (rgI _ _ _); omega) (by have : gI (sI τ7 b 6 (iz z8)) b 3 = gI τ7 b 3 := gI_iz (sk2t (by decide) (izg τ7 b 3)) (rgI _ _ _); omega) (by have : gI (sI τ7 b 6 (iz z8)) b 4 = gI τ7 b 4 := gI_iz (sk2t (by decide) (izg τ7 b 4)) (rgI _ _ _); omega) (fun w hw => by rw [show gI (sI τ7 b 6 (iz z8)) (b + 6) w = gI τ7 (b + 6) w from gI_eq (sk1t (by omega) rfl)]; exact (ivτ7_RdX).1.2.2.2.2.2.2 w hw)) rfl rfl rfl rfl)) (by decide) (ivτ7_RdX).2.1 kc_4 rfl rfl (Nat.le_of_ble_eq_true rfl) ⟨Nat.zero_le _, Nat.zero_le _⟩ dX4_readNeed_87 (fun r τ9 hp => ?_)
          obtain ⟨z10, rfl, fτ9_0, frτ9, ivτ9_RdX, eτ9_0⟩ := hp
          have := (ivτ9_RdX).2.2.2.1
          have := (ivτ9_RdX).2.2.2.2
          have := (ivτ9_RdX).1.2.2.2.2.1
          have := (ivτ9_RdX).1.2.2.2.2.2.1
          have : gI τ9 4 2 = gI σ 4 2 := gI_iz (FrD.it frτ9.1 (by omega) (sk1t (by omega) (FrD.it frτ7.1 (by omega) (FrD.it frτ5.1 (by omega) (sk1t (by omega) (FrD.it frτ3.1 (by omega) (FrD.it frτ1.1 (by omega) (sk1t (by omega) (izg σ 4 2))))))))) (rgI _ _ _)
          rw [show (59 : Int64).toInt = 59 by decide] at eτ9_0
          refine zi_if_eq (pc := 90) (tgt := 97) O dX4_readNeed_90 (by decide) (by omega) (fun h90 => ?_) (fun h90 => ?_)
          · refine z_iconst (pc := 97) (v := iz (0)) O dX4_readNeed_97 (by decide) ?_
            refine z_zret (pc := 98) O dX4_readNeed_98 rfl ?_
            have o1 := NmR.ok eτ3_0 (by omega)
            have o2 := Rt.is1 eτ5_0 (by omega)
            have o3 := NmR.ok eτ7_0 (by omega)
            have o4 := Rt.is0 eτ9_0 (by omega)
            have er : needR tk m j (gI σ (b + 9) 6) = _ := (cif_neg (by omega)).trans ((thn_ok o1.2.2.1).trans ((thn_t o2.1).trans (thn_ok o3.2.2.1)))
            exact ⟨0, rfl, (by decide), ((FrX.pI 0 (((FrX.pI 0 (((FrX.pI 9 (FrX.rf b [(9, 8), (9, 9), (9, 2), (9, 3), (9, 6), (0, 5), (0, 6)] σ) (by decide) rfl).tr (frτ1.mono (V := [(9, 8), (9, 9), (9, 2), (9, 3), (9, 6), (0, 5), (0, 6)]) rfl)).tr (frτ3.mono (V := [(9, 8), (9, 9), (9, 2), (9, 3), (9, 6), (0, 5), (0, 6)]) rfl)) (by decide) rfl).tr (frτ5.mono (V := [(9, 8), (9, 9), (9, 2), (9, 3), (9, 6), (0, 5), (0, 6)]) rfl)).tr (frτ7.mono (V := [(9, 8), (9, 9), (9, 2), (9, 3), (9, 6), (0, 5), (0, 6)]) rfl)) (by decide) rfl).tr (frτ9.mono (V := [(9, 8), (9, 9), (9, 2), (9, 3), (9, 6), (0, 5), (0, 6)]) rfl)), ivτ9_RdX, (by rw [er]; exact Or.inr ⟨rfl, o4.1, o4.2⟩), (by have qf := (gI_iz (FrX.it 9 frτ9 rfl (sk1t (by omega) (FrX.it 9 frτ7 rfl (FrX.it 9 frτ5 rfl (sk1t (by omega) (FrX.it 9 frτ3 rfl (FrX.it 9 frτ1 rfl (hI_at _ _ _ _)))))))) (by omega) : gI τ9 (b + 9) 6 = 1); omega)⟩
          · refine z_iconst (pc := 93) (v := iz (1)) O dX4_readNeed_93 (by decide) ?_
            refine z_goto (pc := 94) (tgt := 98) O dX4_readNeed_94 (by decide) ?_
            refine z_zret (pc := 98) O dX4_readNeed_98 rfl ?_
            have o1 := NmR.ok eτ3_0 (by omega)
            have o2 := Rt.is1 eτ5_0 (by omega)
            have o3 := NmR.ok eτ7_0 (by omega)
            have o4 := Rt.is1 eτ9_0 (by omega)
            have er : needR tk m j (gI σ (b + 9) 6) = _ := (cif_neg (by omega)).trans ((thn_ok o1.2.2.1).trans ((thn_t o2.1).trans (thn_ok o3.2.2.1)))
            exact ⟨1, rfl, (by decide), ((FrX.pI 0 (((FrX.pI 0 (((FrX.pI 9 (FrX.rf b [(9, 8), (9, 9), (9, 2), (9, 3), (9, 6), (0, 5), (0, 6)] σ) (by decide) rfl).tr (frτ1.mono (V := [(9, 8), (9, 9), (9, 2), (9, 3), (9, 6), (0, 5), (0, 6)]) rfl)).tr (frτ3.mono (V := [(9, 8), (9, 9), (9, 2), (9, 3), (9, 6), (0, 5), (0, 6)]) rfl)) (by decide) rfl).tr (frτ5.mono (V := [(9, 8), (9, 9), (9, 2), (9, 3), (9, 6), (0, 5), (0, 6)]) rfl)).tr (frτ7.mono (V := [(9, 8), (9, 9), (9, 2), (9, 3), (9, 6), (0, 5), (0, 6)]) rfl)) (by decide) rfl).tr (frτ9.mono (V := [(9, 8), (9, 9), (9, 2), (9, 3), (9, 6), (0, 5), (0, 6)]) rfl)), ivτ9_RdX, (by rw [er]; exact Or.inl ⟨rfl, o4.1, o4.2⟩), (by have qf := (gI_iz (FrX.it 9 frτ9 rfl (sk1t (by omega) (FrX.it 9 frτ7 rfl (FrX.it 9 frτ5 rfl (sk1t (by omega) (FrX.it 9 frτ3 rfl (FrX.it 9 frτ1 rfl (hI_at _ _ _ _)))))))) (by omega) : gI τ9 (b + 9) 6 = 1); omega)⟩
      · refine z_iconst (pc := 57) (v := iz (0)) O dX4_readNeed_57 (by decide) ?_
        refine z_zret (pc := 58) O dX4_readNeed_58 rfl ?_
        have o1 := NmR.ok eτ3_0 (by omega)
        have o2 := Rt.is0 eτ5_0 (by omega)
        have er : needR tk m j (gI σ (b + 9) 6) = _ := (cif_neg (by omega)).trans ((thn_ok o1.2.2.1).trans (thn_f o2.1))
        exact ⟨0, rfl, (by decide), ((FrX.pI 0 (((FrX.pI 9 (FrX.rf b [(9, 8), (9, 9), (9, 2), (9, 3), (9, 6), (0, 5), (0, 6)] σ) (by decide) rfl).tr (frτ1.mono (V := [(9, 8), (9, 9), (9, 2), (9, 3), (9, 6), (0, 5), (0, 6)]) rfl)).tr (frτ3.mono (V := [(9, 8), (9, 9), (9, 2), (9, 3), (9, 6), (0, 5), (0, 6)]) rfl)) (by decide) rfl).tr (frτ5.mono (V := [(9, 8), (9, 9), (9, 2), (9, 3), (9, 6), (0, 5), (0, 6)]) rfl)), ivτ5_RdX, (by rw [er]; exact Or.inr ⟨rfl, o2.1, o2.2⟩), (by have qf := (gI_iz (FrX.it 9 frτ5 rfl (sk1t (by omega) (FrX.it 9 frτ3 rfl (FrX.it 9 frτ1 rfl (hI_at _ _ _ _))))) (by omega) : gI τ5 (b + 9) 6 = 1); omega)⟩
  · refine z_aload_n (pc := 7) O dX4_readNeed_7 rfl ?_
    refine z_iconst (pc := 8) (v := iz (2)) O dX4_readNeed_8 (by decide) ?_
    refine z_callV (pc := 9) O cl_X4_59 (k4_refuse3 _ _ b 2 (by decide) tk pl m j J R) (by decide) (hX).2.1 kc_4 rfl rfl (Nat.le_of_ble_eq_true rfl) ⟨Nat.zero_le _, Nat.zero_le _⟩ dX4_readNeed_9 (fun r τ11 hp => ?_)
    obtain ⟨z12, rfl, fτ11_0, fτ11_1, frτ11, ivτ11_RdX, eτ11_0⟩ := hp
    have := (ivτ11_RdX).2.2.2.1
    have := (ivτ11_RdX).2.2.2.2
    have := (ivτ11_RdX).1.2.2.2.2.1
    have := (ivτ11_RdX).1.2.2.2.2.2.1
    have : gI τ11 4 2 = gI σ 4 2 := gI_iz (FrD.it frτ11.1 (by omega) (izg σ 4 2)) (rgI _ _ _)
    refine z_zret (pc := 12) O dX4_readNeed_12 (nar_z (by omega)) ?_
    exact ⟨z12, rfl, (by omega), ((FrX.rf b [(9, 8), (9, 9), (9, 2), (9, 3), (9, 6), (0, 5), (0, 6)] σ).tr (frτ11.mono (V := [(9, 8), (9, 9), (9, 2), (9, 3), (9, 6), (0, 5), (0, 6)]) rfl)), ivτ11_RdX, (by rw [show z12 = 0 by omega]; exact Rt.no (cif_pos (by omega)) (flt_ne (by decide)) eτ11_0), (by omega)⟩
set_option maxHeartbeats 4000000 in
set_option maxRecDepth 20000 in
theorem k4_readTerms3 (l : Launch) (σ : VH) (b : Nat) (tk : Nat → Int) (pl : Nat → Int) (m : Nat) (j : Nat) (J : Lay σ) (R : RdS σ b tk pl m j) (hf6 : gI σ (b + 9) 7 = 0 ∨ gI σ (b + 9) 7 = 1) : Ct l yX4_readTerms cX4_readTerms 1 (some .boolean) 2 0 0 [.ref (b + 9)] σ (fun r τ => ∃ z : Int, r = some (.int (iz z)) ∧ (z = 0 ∨ z = 1) ∧ (FrX b [(9, 8), (9, 9), (9, 2), (9, 3), (9, 7), (0, 7), (0, 8)] σ τ) ∧ (RdX τ b) ∧ (Rt τ b tk pl m z (termsR tk m j (gI σ (b + 9) 7))) ∧ (gI σ (b + 9) 7 = 1 ∨ gI τ (b + 9) 7 = 1)) := by
  refine Ct.enter rfl (Nat.le_of_ble_eq_true rfl) ?_
  intro κ γ hκ O hrc hrs
  subst hκ
  have hX := R.1
  have hR0 := hX.1.1
  have hR4 := hX.2.2.2.1
  have hR5 := hX.2.2.2.2
  have hR6 := hX.1.2.2.2.2.1
  have hR7 := hX.1.2.2.2.2.2.1
  have hT := R.2.1
  have hct := R.2.1.2.2.1
  have hat := R.2.2.1
  have hcur := R.2.2.2.1
  have hfl := R.2.2.2.2
  refine z_aload_n (pc := 0) O dX4_readTerms_0 rfl ?_
  refine zi_getv (pc := 1) (gI σ (b + 9) 7) O fl_X4_131 rfl (hX).2.1 (izg σ (b + 9) 7) dX4_readTerms_1 ?_
  have := rgI σ (b + 9) 7
  refine zi_if_eq (pc := 4) (tgt := 13) O dX4_readTerms_4 (by decide) (by omega) (fun h4 => ?_) (fun h4 => ?_)
  · refine z_aload_n (pc := 13) O dX4_readTerms_13 rfl ?_
    refine z_iconst (pc := 14) (v := iz (1)) O dX4_readTerms_14 (by decide) ?_
    refine z_putI (pc := 15) O fl_X4_131 rfl ⟨nar_z (by omega), rfl⟩ (hX).2.1 dX4_readTerms_15 ?_
    refine z_aload_n (pc := 18) O dX4_readTerms_18 rfl ?_
    refine z_callV (pc := 19) O cl_X4_68 (k4_advance3 _ _ b tk pl m j J (RdS.fr R (FrX.pI 9 (FrX.rf b [(9, 7)] σ) (by decide) rfl) (RdX.up hX (τ := (sI σ (b + 9) 7 (iz 1))) ((FrD.rf b σ).pI (by omega)) (by have : gI (sI σ (b + 9) 7 (iz 1)) (b + 9) 2 = gI σ (b + 9) 2 := gI_iz (sk2t (by decide) (izg σ (b + 9) 2)) (rgI _ _ _); omega) (by have : gI (sI σ (b + 9) 7 (iz 1)) b 14 = gI σ b 14 := gI_iz (sk1t (by omega) (izg σ b 14)) (rgI _ _ _); omega) (by have : gI (sI σ (b + 9) 7 (iz 1)) b 3 = gI σ b 3 := gI_iz (sk1t (by omega) (izg σ b 3)) (rgI _ _ _); omega) (by have : gI (sI σ (b + 9) 7 (iz 1)) b 4 = gI σ b 4 := gI_iz (sk1t (by omega) (izg σ b 4)) (rgI _ _ _); omega) (fun w hw => by rw [show gI (sI σ (b + 9) 7 (iz 1)) (b + 6) w = gI σ (b + 6) w from gI_eq (sk1t (by omega) rfl)]; exact (hX).1.2.2.2.2.2.2 w hw)) rfl rfl rfl rfl)) (by decide) (hX).2.1 kc_4 rfl rfl (Nat.le_of_ble_eq_true rfl) ⟨Nat.zero_le _, Nat.zero_le _⟩ dX4_readTerms_19 (fun r τ1 hp => ?_)
    obtain ⟨rfl, frτ1, ivτ1_RdX, eτ1_0⟩ := hp
    have := (ivτ1_RdX).2.2.2.1
    have := (ivτ1_RdX).2.2.2.2
    have := (ivτ1_RdX).1.2.2.2.2.1
    have := (ivτ1_RdX).1.2.2.2.2.2.1
    have : gI τ1 4 2 = gI σ 4 2 := gI_iz (FrD.it frτ1.1 (by omega) (sk1t (by omega) (izg σ 4 2))) (rgI _ _ _)
    refine z_aload_n (pc := 22) O dX4_readTerms_22 rfl ?_
    refine z_getR (pc := 23) b O fl_X4_19 rfl (ivτ1_RdX).2.1 (ivτ1_RdX).2.2.1.2 dX4_readTerms_23 ?_
    refine z_aload_n (pc := 26) O dX4_readTerms_26 rfl ?_
    refine z_iconst (pc := 27) (v := iz (1)) O dX4_readTerms_27 (by decide) ?_
    refine z_bipush (pc := 28) (v := iz (6)) O dX4_readTerms_28 (by decide) ?_
    refine z_callV (pc := 30) O cl_X4_83 (k4_readNumber3 _ _ b 1 (by decide) 6 (by decide) tk pl m (adv m j) (frτ1.lay J) eτ1_0 (by omega)) (by decide) (ivτ1_RdX).2.1 kc_4 rfl rfl (Nat.le_of_ble_eq_true rfl) ⟨Nat.zero_le _, Nat.zero_le _⟩ dX4_readTerms_30 (fun r τ3 hp => ?_)
    obtain ⟨z4, rfl, fτ3_0, fτ3_1, frτ3, ivτ3_RdX, eτ3_0⟩ := hp
    have := (ivτ3_RdX).2.2.2.1
    have := (ivτ3_RdX).2.2.2.2
    have := (ivτ3_RdX).1.2.2.2.2.1
    have := (ivτ3_RdX).1.2.2.2.2.2.1
    have : gI τ3 4 2 = gI σ 4 2 := gI_iz (FrD.it frτ3.1 (by omega) (FrD.it frτ1.1 (by omega) (sk1t (by omega) (izg σ 4 2)))) (rgI _ _ _)
    refine z_putI (pc := 33) O fl_X4_134 rfl ⟨rfl, rfl⟩ (ivτ3_RdX).1.2.1 dX4_readTerms_33 ?_
    refine z_aload_n (pc := 36) O dX4_readTerms_36 rfl ?_
    refine z_getR (pc := 37) b O fl_X4_19 rfl (ivτ3_RdX).2.1 (ivτ3_RdX).2.2.1.2 dX4_readTerms_37 ?_
    refine zi_getv (pc := 40) (z4) O fl_X4_134 rfl (ivτ3_RdX).1.2.1 (hI_at _ _ _ _) dX4_readTerms_40 ?_
    refine z_iconst (pc := 43) (v := iz (-1)) O dX4_readTerms_43 (by decide) ?_
    refine zi_icmp_eq (pc := 44) (tgt := 57) O dX4_readTerms_44 (by decide) (by omega) (by decide) (fun h44 => ?_) (fun h44 => ?_)
    · refine z_iconst (pc := 57) (v := iz (0)) O dX4_readTerms_57 (by decide) ?_
      refine z_zret (pc := 58) O dX4_readTerms_58 rfl ?_
      have o1 := NmR.no eτ3_0 (by omega)
      have er : termsR tk m j (gI σ (b + 9) 7) = _ := (cif_neg (by omega)).trans (thn_f o1.1)
      exact ⟨0, rfl, (by decide), (FrX.pI 0 (((FrX.pI 9 (FrX.rf b [(9, 8), (9, 9), (9, 2), (9, 3), (9, 7), (0, 7), (0, 8)] σ) (by decide) rfl).tr (frτ1.mono (V := [(9, 8), (9, 9), (9, 2), (9, 3), (9, 7), (0, 7), (0, 8)]) rfl)).tr (frτ3.mono (V := [(9, 8), (9, 9), (9, 2), (9, 3), (9, 7), (0, 7), (0, 8)]) rfl)) (by decide) rfl), (RdX.up ivτ3_RdX (τ := (sI τ3 b 7 (iz z4))) ((FrD.rf b τ3).pI (by omega)) (by have : gI (sI τ3 b 7 (iz z4)) (b + 9) 2 = gI τ3 (b + 9) 2 := gI_iz (sk1t (by omega) (izg τ3 (b + 9) 2)) (rgI _ _ _); omega) (by have : gI (sI τ3 b 7 (iz z4)) b 14 = gI τ3 b 14 := gI_iz (sk2t (by decide) (izg τ3 b 14)) (rgI _ _ _); omega) (by have : gI (sI τ3 b 7 (iz z4)) b 3 = gI τ3 b 3 := gI_iz (sk2t (by decide) (izg τ3 b 3)) (rgI _ _ _); omega) (by have : gI (sI τ3 b 7 (iz z4)) b 4 = gI τ3 b 4 := gI_iz (sk2t (by decide) (izg τ3 b 4)) (rgI _ _ _); omega) (fun w hw => by rw [show gI (sI τ3 b 7 (iz z4)) (b + 6) w = gI τ3 (b + 6) w from gI_eq (sk1t (by omega) rfl)]; exact (ivτ3_RdX).1.2.2.2.2.2.2 w hw)), (by rw [er]; exact Or.inr ⟨rfl, o1.1, (Fl.fr o1.2 (FrX.pI 0 (FrX.rf b [(0, 7)] τ3) (by decide) rfl) rfl rfl)⟩), (by have qf := (gI_iz (sk1t (by omega) (FrX.it 9 frτ3 rfl (FrX.it 9 frτ1 rfl (hI_at _ _ _ _)))) (by omega) : gI (sI τ3 b 7 (iz z4)) (b + 9) 7 = 1); omega)⟩
    · refine z_aload_n (pc := 47) O dX4_readTerms_47 rfl ?_
      refine z_ldc2 (pc := 48) O tw_475 dX4_readTerms_48 ?_
      refine z_callV (pc := 51) O cl_X4_89 (k4_expect3 _ _ b 1684109683 tk pl m (adv m (adv m j)) (frτ3.lay (frτ1.lay J)) (RdS.fr (NmR.ok eτ3_0 (by omega)).2.2.2 (FrX.pI 0 (FrX.rf b [(0, 7)] τ3) (by decide) rfl) (RdX.up ivτ3_RdX (τ := (sI τ3 b 7 (iz z4))) ((FrD.rf b τ3).pI (by omega)) (by have : gI (sI τ3 b 7 (iz z4)) (b + 9) 2 = gI τ3 (b + 9) 2 := gI_iz (sk1t (by omega) (izg τ3 (b + 9) 2)) (rgI _ _ _); omega) (by have : gI (sI τ3 b 7 (iz z4)) b 14 = gI τ3 b 14 := gI_iz (sk2t (by decide) (izg τ3 b 14)) (rgI _ _ _); omega) (by have : gI (sI τ3 b 7 (iz z4)) b 3 = gI τ3 b 3 := gI_iz (sk2t (by decide) (izg τ3 b 3)) (rgI _ _ _); omega) (by have : gI (sI τ3 b 7 (iz z4)) b 4 = gI τ3 b 4 := gI_iz (sk2t (by decide) (izg τ3 b 4)) (rgI _ _ _); omega) (fun w hw => by rw [show gI (sI τ3 b 7 (iz z4)) (b + 6) w = gI τ3 (b + 6) w from gI_eq (sk1t (by omega) rfl)]; exact (ivτ3_RdX).1.2.2.2.2.2.2 w hw)) rfl rfl rfl rfl)) (by decide) (ivτ3_RdX).2.1 kc_4 rfl rfl (Nat.le_of_ble_eq_true rfl) ⟨Nat.zero_le _, Nat.zero_le _⟩ dX4_readTerms_51 (fun r τ5 hp => ?_)
      obtain ⟨z6, rfl, fτ5_0, frτ5, ivτ5_RdX, eτ5_0⟩ := hp
      have := (ivτ5_RdX).2.2.2.1
      have := (ivτ5_RdX).2.2.2.2
      have := (ivτ5_RdX).1.2.2.2.2.1
      have := (ivτ5_RdX).1.2.2.2.2.2.1
      have : gI τ5 4 2 = gI σ 4 2 := gI_iz (FrD.it frτ5.1 (by omega) (sk1t (by omega) (FrD.it frτ3.1 (by omega) (FrD.it frτ1.1 (by omega) (sk1t (by omega) (izg σ 4 2)))))) (rgI _ _ _)
      rw [show (1684109683 : Int64).toInt = 1684109683 by decide] at eτ5_0
      refine zi_if_ne (pc := 54) (tgt := 59) O dX4_readTerms_54 (by decide) (by omega) (fun h54 => ?_) (fun h54 => ?_)
      · refine z_aload_n (pc := 59) O dX4_readTerms_59 rfl ?_
        refine z_getR (pc := 60) b O fl_X4_19 rfl (ivτ5_RdX).2.1 (ivτ5_RdX).2.2.1.2 dX4_readTerms_60 ?_
        refine z_aload_n (pc := 63) O dX4_readTerms_63 rfl ?_
        refine z_iconst (pc := 64) (v := iz (1)) O dX4_readTerms_64 (by decide) ?_
        refine z_sipush (pc := 65) (v := iz (400)) O dX4_readTerms_65 (by decide) ?_
        refine z_callV (pc := 68) O cl_X4_83 (k4_readNumber3 _ _ b 1 (by decide) 400 (by decide) tk pl m (exR tk m (adv m (adv m j)) 1684109683).2 (frτ5.lay (frτ3.lay (frτ1.lay J))) (Rt.is1 eτ5_0 (by omega)).2 (by omega)) (by decide) (ivτ5_RdX).2.1 kc_4 rfl rfl (Nat.le_of_ble_eq_true rfl) ⟨Nat.zero_le _, Nat.zero_le _⟩ dX4_readTerms_68 (fun r τ7 hp => ?_)
        obtain ⟨z8, rfl, fτ7_0, fτ7_1, frτ7, ivτ7_RdX, eτ7_0⟩ := hp
        have := (ivτ7_RdX).2.2.2.1
        have := (ivτ7_RdX).2.2.2.2
        have := (ivτ7_RdX).1.2.2.2.2.1
        have := (ivτ7_RdX).1.2.2.2.2.2.1
        have : gI τ7 4 2 = gI σ 4 2 := gI_iz (FrD.it frτ7.1 (by omega) (FrD.it frτ5.1 (by omega) (sk1t (by omega) (FrD.it frτ3.1 (by omega) (FrD.it frτ1.1 (by omega) (sk1t (by omega) (izg σ 4 2))))))) (rgI _ _ _)
        refine z_putI (pc := 71) O fl_X4_139 rfl ⟨rfl, rfl⟩ (ivτ7_RdX).1.2.1 dX4_readTerms_71 ?_
        refine z_aload_n (pc := 74) O dX4_readTerms_74 rfl ?_
        refine z_getR (pc := 75) b O fl_X4_19 rfl (ivτ7_RdX).2.1 (ivτ7_RdX).2.2.1.2 dX4_readTerms_75 ?_
        refine zi_getv (pc := 78) (z8) O fl_X4_139 rfl (ivτ7_RdX).1.2.1 (hI_at _ _ _ _) dX4_readTerms_78 ?_
        refine z_iconst (pc := 81) (v := iz (-1)) O dX4_readTerms_81 (by decide) ?_
        refine zi_icmp_eq (pc := 82) (tgt := 99) O dX4_readTerms_82 (by decide) (by omega) (by decide) (fun h82 => ?_) (fun h82 => ?_)
        · refine z_iconst (pc := 99) (v := iz (0)) O dX4_readTerms_99 (by decide) ?_
          refine z_zret (pc := 100) O dX4_readTerms_100 rfl ?_
          have o1 := NmR.ok eτ3_0 (by omega)
          have o2 := Rt.is1 eτ5_0 (by omega)
          have o3 := NmR.no eτ7_0 (by omega)
          have er : termsR tk m j (gI σ (b + 9) 7) = _ := (cif_neg (by omega)).trans ((thn_ok o1.2.2.1).trans ((thn_t o2.1).trans (thn_f o3.1)))
          exact ⟨0, rfl, (by decide), (FrX.pI 0 (((FrX.pI 0 (((FrX.pI 9 (FrX.rf b [(9, 8), (9, 9), (9, 2), (9, 3), (9, 7), (0, 7), (0, 8)] σ) (by decide) rfl).tr (frτ1.mono (V := [(9, 8), (9, 9), (9, 2), (9, 3), (9, 7), (0, 7), (0, 8)]) rfl)).tr (frτ3.mono (V := [(9, 8), (9, 9), (9, 2), (9, 3), (9, 7), (0, 7), (0, 8)]) rfl)) (by decide) rfl).tr (frτ5.mono (V := [(9, 8), (9, 9), (9, 2), (9, 3), (9, 7), (0, 7), (0, 8)]) rfl)).tr (frτ7.mono (V := [(9, 8), (9, 9), (9, 2), (9, 3), (9, 7), (0, 7), (0, 8)]) rfl)) (by decide) rfl), (RdX.up ivτ7_RdX (τ := (sI τ7 b 8 (iz z8))) ((FrD.rf b τ7).pI (by omega)) (by have : gI (sI τ7 b 8 (iz z8)) (b + 9) 2 = gI τ7 (b + 9) 2 := gI_iz (sk1t (by omega) (izg τ7 (b + 9) 2)) (rgI _ _ _); omega) (by have : gI (sI τ7 b 8 (iz z8)) b 14 = gI τ7 b 14 := gI_iz (sk2t (by decide) (izg τ7 b 14)) (rgI _ _ _); omega) (by have : gI (sI τ7 b 8 (iz z8)) b 3 = gI τ7 b 3 := gI_iz (sk2t (by decide) (izg τ7 b 3)) (rgI _ _ _); omega) (by have : gI (sI τ7 b 8 (iz z8)) b 4 = gI τ7 b 4 := gI_iz (sk2t (by decide) (izg τ7 b 4)) (rgI _ _ _); omega) (fun w hw => by rw [show gI (sI τ7 b 8 (iz z8)) (b + 6) w = gI τ7 (b + 6) w from gI_eq (sk1t (by omega) rfl)]; exact (ivτ7_RdX).1.2.2.2.2.2.2 w hw)), (by rw [er]; exact Or.inr ⟨rfl, o3.1, (Fl.fr o3.2 (FrX.pI 0 (FrX.rf b [(0, 8)] τ7) (by decide) rfl) rfl rfl)⟩), (by have qf := (gI_iz (sk1t (by omega) (FrX.it 9 frτ7 rfl (FrX.it 9 frτ5 rfl (sk1t (by omega) (FrX.it 9 frτ3 rfl (FrX.it 9 frτ1 rfl (hI_at _ _ _ _))))))) (by omega) : gI (sI τ7 b 8 (iz z8)) (b + 9) 7 = 1); omega)⟩
        · refine z_aload_n (pc := 85) O dX4_readTerms_85 rfl ?_
          refine z_ldc2 (pc := 86) O tw_400 dX4_readTerms_86 ?_
          refine z_callV (pc := 89) O cl_X4_89 (k4_expect3 _ _ b 59 tk pl m (adv m (exR tk m (adv m (adv m j)) 1684109683).2) (frτ7.lay (frτ5.lay (frτ3.lay (frτ1.lay J)))) (RdS.fr (NmR.ok eτ7_0 (by omega)).2.2.2 (FrX.pI 0 (FrX.rf b [(0, 8)] τ7) (by decide) rfl) (RdX.up ivτ7_RdX (τ := (sI τ7 b 8 (iz z8))) ((FrD.rf b τ7).pI (by omega)) (by have : gI (sI τ7 b 8 (iz z8)) (b + 9) 2 = gI τ7 (b + 9) 2 := gI_iz (sk1t (by omega) (izg τ7 (b + 9) 2)) (rgI _ _ _); omega) (by have : gI (sI τ7 b 8 (iz z8)) b 14 = gI τ7 b 14 := gI_iz (sk2t (by decide) (izg τ7 b 14)) (rgI _ _ _); omega) (by have : gI (sI τ7 b 8 (iz z8)) b 3 = gI τ7 b 3 := gI_iz (sk2t (by decide) (izg τ7 b 3)) (rgI _ _ _); omega) (by have : gI (sI τ7 b 8 (iz z8)) b 4 = gI τ7 b 4 := gI_iz (sk2t (by decide) (izg τ7 b 4)) (rgI _ _ _); omega) (fun w hw => by rw [show gI (sI τ7 b 8 (iz z8)) (b + 6) w = gI τ7 (b + 6) w from gI_eq (sk1t (by omega) rfl)]; exact (ivτ7_RdX).1.2.2.2.2.2.2 w hw)) rfl rfl rfl rfl)) (by decide) (ivτ7_RdX).2.1 kc_4 rfl rfl (Nat.le_of_ble_eq_true rfl) ⟨Nat.zero_le _, Nat.zero_le _⟩ dX4_readTerms_89 (fun r τ9 hp => ?_)
          obtain ⟨z10, rfl, fτ9_0, frτ9, ivτ9_RdX, eτ9_0⟩ := hp
          have := (ivτ9_RdX).2.2.2.1
          have := (ivτ9_RdX).2.2.2.2
          have := (ivτ9_RdX).1.2.2.2.2.1
          have := (ivτ9_RdX).1.2.2.2.2.2.1
          have : gI τ9 4 2 = gI σ 4 2 := gI_iz (FrD.it frτ9.1 (by omega) (sk1t (by omega) (FrD.it frτ7.1 (by omega) (FrD.it frτ5.1 (by omega) (sk1t (by omega) (FrD.it frτ3.1 (by omega) (FrD.it frτ1.1 (by omega) (sk1t (by omega) (izg σ 4 2))))))))) (rgI _ _ _)
          rw [show (59 : Int64).toInt = 59 by decide] at eτ9_0
          refine zi_if_eq (pc := 92) (tgt := 99) O dX4_readTerms_92 (by decide) (by omega) (fun h92 => ?_) (fun h92 => ?_)
          · refine z_iconst (pc := 99) (v := iz (0)) O dX4_readTerms_99 (by decide) ?_
            refine z_zret (pc := 100) O dX4_readTerms_100 rfl ?_
            have o1 := NmR.ok eτ3_0 (by omega)
            have o2 := Rt.is1 eτ5_0 (by omega)
            have o3 := NmR.ok eτ7_0 (by omega)
            have o4 := Rt.is0 eτ9_0 (by omega)
            have er : termsR tk m j (gI σ (b + 9) 7) = _ := (cif_neg (by omega)).trans ((thn_ok o1.2.2.1).trans ((thn_t o2.1).trans (thn_ok o3.2.2.1)))
            exact ⟨0, rfl, (by decide), ((FrX.pI 0 (((FrX.pI 0 (((FrX.pI 9 (FrX.rf b [(9, 8), (9, 9), (9, 2), (9, 3), (9, 7), (0, 7), (0, 8)] σ) (by decide) rfl).tr (frτ1.mono (V := [(9, 8), (9, 9), (9, 2), (9, 3), (9, 7), (0, 7), (0, 8)]) rfl)).tr (frτ3.mono (V := [(9, 8), (9, 9), (9, 2), (9, 3), (9, 7), (0, 7), (0, 8)]) rfl)) (by decide) rfl).tr (frτ5.mono (V := [(9, 8), (9, 9), (9, 2), (9, 3), (9, 7), (0, 7), (0, 8)]) rfl)).tr (frτ7.mono (V := [(9, 8), (9, 9), (9, 2), (9, 3), (9, 7), (0, 7), (0, 8)]) rfl)) (by decide) rfl).tr (frτ9.mono (V := [(9, 8), (9, 9), (9, 2), (9, 3), (9, 7), (0, 7), (0, 8)]) rfl)), ivτ9_RdX, (by rw [er]; exact Or.inr ⟨rfl, o4.1, o4.2⟩), (by have qf := (gI_iz (FrX.it 9 frτ9 rfl (sk1t (by omega) (FrX.it 9 frτ7 rfl (FrX.it 9 frτ5 rfl (sk1t (by omega) (FrX.it 9 frτ3 rfl (FrX.it 9 frτ1 rfl (hI_at _ _ _ _)))))))) (by omega) : gI τ9 (b + 9) 7 = 1); omega)⟩
          · refine z_iconst (pc := 95) (v := iz (1)) O dX4_readTerms_95 (by decide) ?_
            refine z_goto (pc := 96) (tgt := 100) O dX4_readTerms_96 (by decide) ?_
            refine z_zret (pc := 100) O dX4_readTerms_100 rfl ?_
            have o1 := NmR.ok eτ3_0 (by omega)
            have o2 := Rt.is1 eτ5_0 (by omega)
            have o3 := NmR.ok eτ7_0 (by omega)
            have o4 := Rt.is1 eτ9_0 (by omega)
            have er : termsR tk m j (gI σ (b + 9) 7) = _ := (cif_neg (by omega)).trans ((thn_ok o1.2.2.1).trans ((thn_t o2.1).trans (thn_ok o3.2.2.1)))
            exact ⟨1, rfl, (by decide), ((FrX.pI 0 (((FrX.pI 0 (((FrX.pI 9 (FrX.rf b [(9, 8), (9, 9), (9, 2), (9, 3), (9, 7), (0, 7), (0, 8)] σ) (by decide) rfl).tr (frτ1.mono (V := [(9, 8), (9, 9), (9, 2), (9, 3), (9, 7), (0, 7), (0, 8)]) rfl)).tr (frτ3.mono (V := [(9, 8), (9, 9), (9, 2), (9, 3), (9, 7), (0, 7), (0, 8)]) rfl)) (by decide) rfl).tr (frτ5.mono (V := [(9, 8), (9, 9), (9, 2), (9, 3), (9, 7), (0, 7), (0, 8)]) rfl)).tr (frτ7.mono (V := [(9, 8), (9, 9), (9, 2), (9, 3), (9, 7), (0, 7), (0, 8)]) rfl)) (by decide) rfl).tr (frτ9.mono (V := [(9, 8), (9, 9), (9, 2), (9, 3), (9, 7), (0, 7), (0, 8)]) rfl)), ivτ9_RdX, (by rw [er]; exact Or.inl ⟨rfl, o4.1, o4.2⟩), (by have qf := (gI_iz (FrX.it 9 frτ9 rfl (sk1t (by omega) (FrX.it 9 frτ7 rfl (FrX.it 9 frτ5 rfl (sk1t (by omega) (FrX.it 9 frτ3 rfl (FrX.it 9 frτ1 rfl (hI_at _ _ _ _)))))))) (by omega) : gI τ9 (b + 9) 7 = 1); omega)⟩
      · refine z_iconst (pc := 57) (v := iz (0)) O dX4_readTerms_57 (by decide) ?_
        refine z_zret (pc := 58) O dX4_readTerms_58 rfl ?_
        have o1 := NmR.ok eτ3_0 (by omega)
        have o2 := Rt.is0 eτ5_0 (by omega)
        have er : termsR tk m j (gI σ (b + 9) 7) = _ := (cif_neg (by omega)).trans ((thn_ok o1.2.2.1).trans (thn_f o2.1))
        exact ⟨0, rfl, (by decide), ((FrX.pI 0 (((FrX.pI 9 (FrX.rf b [(9, 8), (9, 9), (9, 2), (9, 3), (9, 7), (0, 7), (0, 8)] σ) (by decide) rfl).tr (frτ1.mono (V := [(9, 8), (9, 9), (9, 2), (9, 3), (9, 7), (0, 7), (0, 8)]) rfl)).tr (frτ3.mono (V := [(9, 8), (9, 9), (9, 2), (9, 3), (9, 7), (0, 7), (0, 8)]) rfl)) (by decide) rfl).tr (frτ5.mono (V := [(9, 8), (9, 9), (9, 2), (9, 3), (9, 7), (0, 7), (0, 8)]) rfl)), ivτ5_RdX, (by rw [er]; exact Or.inr ⟨rfl, o2.1, o2.2⟩), (by have qf := (gI_iz (FrX.it 9 frτ5 rfl (sk1t (by omega) (FrX.it 9 frτ3 rfl (FrX.it 9 frτ1 rfl (hI_at _ _ _ _))))) (by omega) : gI τ5 (b + 9) 7 = 1); omega)⟩
  · refine z_aload_n (pc := 7) O dX4_readTerms_7 rfl ?_
    refine z_iconst (pc := 8) (v := iz (2)) O dX4_readTerms_8 (by decide) ?_
    refine z_callV (pc := 9) O cl_X4_59 (k4_refuse3 _ _ b 2 (by decide) tk pl m j J R) (by decide) (hX).2.1 kc_4 rfl rfl (Nat.le_of_ble_eq_true rfl) ⟨Nat.zero_le _, Nat.zero_le _⟩ dX4_readTerms_9 (fun r τ11 hp => ?_)
    obtain ⟨z12, rfl, fτ11_0, fτ11_1, frτ11, ivτ11_RdX, eτ11_0⟩ := hp
    have := (ivτ11_RdX).2.2.2.1
    have := (ivτ11_RdX).2.2.2.2
    have := (ivτ11_RdX).1.2.2.2.2.1
    have := (ivτ11_RdX).1.2.2.2.2.2.1
    have : gI τ11 4 2 = gI σ 4 2 := gI_iz (FrD.it frτ11.1 (by omega) (izg σ 4 2)) (rgI _ _ _)
    refine z_zret (pc := 12) O dX4_readTerms_12 (nar_z (by omega)) ?_
    exact ⟨z12, rfl, (by omega), ((FrX.rf b [(9, 8), (9, 9), (9, 2), (9, 3), (9, 7), (0, 7), (0, 8)] σ).tr (frτ11.mono (V := [(9, 8), (9, 9), (9, 2), (9, 3), (9, 7), (0, 7), (0, 8)]) rfl)), ivτ11_RdX, (by rw [show z12 = 0 by omega]; exact Rt.no (cif_pos (by omega)) (flt_ne (by decide)) eτ11_0), (by omega)⟩
