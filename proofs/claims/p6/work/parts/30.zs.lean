set_option maxHeartbeats 4000000 in
set_option maxRecDepth 20000 in
theorem k4_readShare3 (l : Launch) (σ : VH) (b : Nat) (tk : Nat → Int) (pl : Nat → Int) (m : Nat) (j : Nat) (J : Lay σ) (R : RdS σ b tk pl m j) (hf6 : gI σ (b + 9) 5 = 0 ∨ gI σ (b + 9) 5 = 1) : Ct l yX4_readShare cX4_readShare 5 (some .boolean) 2 0 0 [.ref (b + 9)] σ (fun r τ => ∃ z : Int, r = some (.int (iz z)) ∧ (z = 0 ∨ z = 1) ∧ (FrX b [(9, 8), (9, 9), (9, 2), (9, 3), (9, 5), (2, 99999)] σ τ) ∧ (RdX τ b) ∧ (Rt τ b tk pl m z (shareR tk m j (gI σ (b + 9) 5))) ∧ (gI σ (b + 9) 5 = 1 ∨ gI τ (b + 9) 5 = 1)) := by
  refine Ct.enter rfl (Nat.le_of_ble_eq_true rfl) ?_
  intro κ γ hκ O hrc hrs
  subst hκ
  have hX := R.1
  have hR0 := hX.1.1
  have hR4 := hX.2.2.2.1
  have hR5 := hX.2.2.2.2
  have hR6 := hX.1.2.2.2.2.1
  have hR7 := hX.1.2.2.2.2.2.1
  have hT := R.2.1
  have hct := R.2.1.2.2.1
  have hat := R.2.2.1
  have hcur := R.2.2.2.1
  have hfl := R.2.2.2.2
  refine z_aload_n (pc := 0) O dX4_readShare_0 rfl ?_
  refine zi_getv (pc := 1) (gI σ (b + 9) 5) O fl_X4_112 rfl (hX).2.1 (izg σ (b + 9) 5) dX4_readShare_1 ?_
  have := rgI σ (b + 9) 5
  refine zi_if_eq (pc := 4) (tgt := 13) O dX4_readShare_4 (by decide) (by omega) (fun h4 => ?_) (fun h4 => ?_)
  · refine z_aload_n (pc := 13) O dX4_readShare_13 rfl ?_
    refine z_iconst (pc := 14) (v := iz (1)) O dX4_readShare_14 (by decide) ?_
    refine z_putI (pc := 15) O fl_X4_112 rfl ⟨nar_z (by omega), rfl⟩ (hX).2.1 dX4_readShare_15 ?_
    refine z_aload_n (pc := 18) O dX4_readShare_18 rfl ?_
    refine z_callV (pc := 19) O cl_X4_68 (k4_advance3 _ _ b tk pl m j J (RdS.fr R (FrX.pI 9 (FrX.rf b [(9, 5)] σ) (by decide) rfl) (RdX.up hX (τ := (sI σ (b + 9) 5 (iz 1))) ((FrD.rf b σ).pI (by omega)) (by have : gI (sI σ (b + 9) 5 (iz 1)) (b + 9) 2 = gI σ (b + 9) 2 := gI_iz (sk2t (by decide) (izg σ (b + 9) 2)) (rgI _ _ _); omega) (by have : gI (sI σ (b + 9) 5 (iz 1)) b 14 = gI σ b 14 := gI_iz (sk1t (by omega) (izg σ b 14)) (rgI _ _ _); omega) (by have : gI (sI σ (b + 9) 5 (iz 1)) b 3 = gI σ b 3 := gI_iz (sk1t (by omega) (izg σ b 3)) (rgI _ _ _); omega) (by have : gI (sI σ (b + 9) 5 (iz 1)) b 4 = gI σ b 4 := gI_iz (sk1t (by omega) (izg σ b 4)) (rgI _ _ _); omega) (fun w hw => by rw [show gI (sI σ (b + 9) 5 (iz 1)) (b + 6) w = gI σ (b + 6) w from gI_eq (sk1t (by omega) rfl)]; exact (hX).1.2.2.2.2.2.2 w hw)) rfl rfl rfl rfl)) (by decide) (hX).2.1 kc_4 rfl rfl (Nat.le_of_ble_eq_true rfl) ⟨Nat.zero_le _, Nat.zero_le _⟩ dX4_readShare_19 (fun r τ1 hp => ?_)
    obtain ⟨rfl, frτ1, ivτ1_RdX, eτ1_0⟩ := hp
    have := (ivτ1_RdX).2.2.2.1
    have := (ivτ1_RdX).2.2.2.2
    have := (ivτ1_RdX).1.2.2.2.2.1
    have := (ivτ1_RdX).1.2.2.2.2.2.1
    have : gI τ1 4 2 = gI σ 4 2 := gI_iz (FrD.it frτ1.1 (by omega) (sk1t (by omega) (izg σ 4 2))) (rgI _ _ _)
    refine z_iconst (pc := 22) (v := iz (0)) O dX4_readShare_22 (by decide) ?_
    refine z_istore_n (pc := 23) [(0, .ref (b + 9)), (1, .int (iz 0))] O dX4_readShare_23 (by decide) rfl ?_
    refine z_aload_n (pc := 24) O dX4_readShare_24 rfl ?_
    refine z_getR (pc := 25) b O fl_X4_19 rfl (ivτ1_RdX).2.1 (ivτ1_RdX).2.2.1.2 dX4_readShare_25 ?_
    refine z_getR (pc := 28) (b + 2) O fl_X4_116 rfl (ivτ1_RdX).1.2.1 (ivτ1_RdX).1.2.2.1.2.1 dX4_readShare_28 ?_
    refine z_alen (pc := 31) (t0 := 2) (n := iz 4) O (ivτ1_RdX).1.2.2.2.1.2.1 (by decide) rfl (by decide) dX4_readShare_31 ?_
    refine z_iconst (pc := 32) (v := iz (1)) O dX4_readShare_32 (by decide) ?_
    refine zi_isub (pc := 33) O dX4_readShare_33 ?_
    refine zi_val (3) rfl ?_
    refine z_istore_n (pc := 34) [(0, .ref (b + 9)), (1, .int (iz 0)), (2, .int (iz 3))] O dX4_readShare_34 (by decide) rfl ?_
    refine z_iconst (pc := 35) (v := iz (0)) O dX4_readShare_35 (by decide) ?_
    refine z_istore_n (pc := 36) [(0, .ref (b + 9)), (1, .int (iz 0)), (2, .int (iz 3)), (3, .int (iz 0))] O dX4_readShare_36 (by decide) rfl ?_
    refine z_iload_n (pc := 37) O dX4_readShare_37 rfl ?_
    refine z_iload_n (pc := 38) O dX4_readShare_38 rfl ?_
    refine zi_icmp_gt (pc := 39) (tgt := 94) O dX4_readShare_39 (by decide) (by decide) (by decide) (fun hh => absurd hh (by decide)) (fun _ => ?_)
    refine z_aload_n (pc := 42) O dX4_readShare_42 rfl ?_
    refine z_iload_n (pc := 43) O dX4_readShare_43 rfl ?_
    refine z_iload_n (pc := 44) O dX4_readShare_44 rfl ?_
    refine zi_icmp_ne (pc := 45) (tgt := 56) O dX4_readShare_45 (by decide) (by decide) (by decide) (fun _ => ?_) (fun hh => absurd hh (by decide))
    refine z_iconst (pc := 56) (v := iz (0)) O dX4_readShare_56 (by decide) ?_
    refine z_bipush (pc := 57) (v := iz (100)) O dX4_readShare_57 (by decide) ?_
    refine z_callV (pc := 59) O cl_X4_83 (k4_readNumber3 _ _ b 0 (by decide) 100 (by decide) tk pl m (adv m j) (frτ1.lay J) eτ1_0 (by omega)) (by decide) (ivτ1_RdX).2.1 kc_4 rfl rfl (Nat.le_of_ble_eq_true rfl) ⟨Nat.zero_le _, Nat.zero_le _⟩ dX4_readShare_59 (fun r τ3 hp => ?_)
    obtain ⟨z4, rfl, fτ3_0, fτ3_1, frτ3, ivτ3_RdX, eτ3_0⟩ := hp
    have := (ivτ3_RdX).2.2.2.1
    have := (ivτ3_RdX).2.2.2.2
    have := (ivτ3_RdX).1.2.2.2.2.1
    have := (ivτ3_RdX).1.2.2.2.2.2.1
    have : gI τ3 4 2 = gI σ 4 2 := gI_iz (FrD.it frτ3.1 (by omega) (FrD.it frτ1.1 (by omega) (sk1t (by omega) (izg σ 4 2)))) (rgI _ _ _)
    refine z_istore (pc := 62) [(0, .ref (b + 9)), (1, .int (iz 0)), (2, .int (iz 3)), (3, .int (iz 0)), (4, .int (iz z4))] O dX4_readShare_62 (by decide) rfl ?_
    refine z_iload (pc := 64) O dX4_readShare_64 rfl ?_
    refine z_iconst (pc := 66) (v := iz (-1)) O dX4_readShare_66 (by decide) ?_
    refine zi_icmp_ne (pc := 67) (tgt := 72) O dX4_readShare_67 (by decide) (by omega) (by decide) (fun h67 => ?_) (fun h67 => ?_)
    · refine z_aload_n (pc := 72) O dX4_readShare_72 rfl ?_
      refine z_getR (pc := 73) b O fl_X4_19 rfl (ivτ3_RdX).2.1 (ivτ3_RdX).2.2.1.2 dX4_readShare_73 ?_
      refine z_getR (pc := 76) (b + 2) O fl_X4_116 rfl (ivτ3_RdX).1.2.1 (ivτ3_RdX).1.2.2.1.2.1 dX4_readShare_76 ?_
      refine z_iload_n (pc := 79) O dX4_readShare_79 rfl ?_
      refine z_iload (pc := 80) O dX4_readShare_80 rfl ?_
      refine zi_iast (pc := 82) 0 O (ivτ3_RdX).1.2.2.2.1.2.1 rfl (by decide) (by omega) dX4_readShare_82 ?_
      refine z_iload_n (pc := 83) O dX4_readShare_83 rfl ?_
      refine z_iload (pc := 84) O dX4_readShare_84 rfl ?_
      refine zi_iadd (pc := 86) O dX4_readShare_86 ?_
      refine z_istore_n (pc := 87) [(0, .ref (b + 9)), (1, .int (iz (0 + z4))), (2, .int (iz 3)), (3, .int (iz 0)), (4, .int (iz z4))] O dX4_readShare_87 (by decide) rfl ?_
      refine zi_iinc (pc := 88) (1) [(0, .ref (b + 9)), (1, .int (iz (0 + z4))), (2, .int (iz 3)), (3, .int (iz 1)), (4, .int (iz z4))] O dX4_readShare_88 rfl (by omega) (by decide) rfl ?_
      refine z_goto (pc := 91) (tgt := 37) O dX4_readShare_91 (by decide) ?_
      refine z_iload_n (pc := 37) O dX4_readShare_37 rfl ?_
      refine z_iload_n (pc := 38) O dX4_readShare_38 rfl ?_
      refine zi_icmp_gt (pc := 39) (tgt := 94) O dX4_readShare_39 (by decide) (by decide) (by decide) (fun hh => absurd hh (by decide)) (fun _ => ?_)
      refine z_aload_n (pc := 42) O dX4_readShare_42 rfl ?_
      refine z_iload_n (pc := 43) O dX4_readShare_43 rfl ?_
      refine z_iload_n (pc := 44) O dX4_readShare_44 rfl ?_
      refine zi_icmp_ne (pc := 45) (tgt := 56) O dX4_readShare_45 (by decide) (by decide) (by decide) (fun _ => ?_) (fun hh => absurd hh (by decide))
      refine z_iconst (pc := 56) (v := iz (0)) O dX4_readShare_56 (by decide) ?_
      refine z_bipush (pc := 57) (v := iz (100)) O dX4_readShare_57 (by decide) ?_
      refine z_callV (pc := 59) O cl_X4_83 (k4_readNumber3 _ _ b 0 (by decide) 100 (by decide) tk pl m (adv m (adv m j)) (frτ3.lay (frτ1.lay J)) (RdS.fr (NmR.ok eτ3_0 (by omega)).2.2.2 (FrX.pI 2 (FrX.rf b [(2, 99999)] τ3) (by decide) rfl) (RdX.up ivτ3_RdX (τ := (sI τ3 (b + 2) 0 (iz z4))) ((FrD.rf b τ3).pI (by omega)) (by have : gI (sI τ3 (b + 2) 0 (iz z4)) (b + 9) 2 = gI τ3 (b + 9) 2 := gI_iz (sk1t (by omega) (izg τ3 (b + 9) 2)) (rgI _ _ _); omega) (by have : gI (sI τ3 (b + 2) 0 (iz z4)) b 14 = gI τ3 b 14 := gI_iz (sk1t (by omega) (izg τ3 b 14)) (rgI _ _ _); omega) (by have : gI (sI τ3 (b + 2) 0 (iz z4)) b 3 = gI τ3 b 3 := gI_iz (sk1t (by omega) (izg τ3 b 3)) (rgI _ _ _); omega) (by have : gI (sI τ3 (b + 2) 0 (iz z4)) b 4 = gI τ3 b 4 := gI_iz (sk1t (by omega) (izg τ3 b 4)) (rgI _ _ _); omega) (fun w hw => by rw [show gI (sI τ3 (b + 2) 0 (iz z4)) (b + 6) w = gI τ3 (b + 6) w from gI_eq (sk1t (by omega) rfl)]; exact (ivτ3_RdX).1.2.2.2.2.2.2 w hw)) rfl rfl rfl rfl) (by omega)) (by decide) (ivτ3_RdX).2.1 kc_4 rfl rfl (Nat.le_of_ble_eq_true rfl) ⟨Nat.zero_le _, Nat.zero_le _⟩ dX4_readShare_59 (fun r τ5 hp => ?_)
      obtain ⟨z6, rfl, fτ5_0, fτ5_1, frτ5, ivτ5_RdX, eτ5_0⟩ := hp
      have := (ivτ5_RdX).2.2.2.1
      have := (ivτ5_RdX).2.2.2.2
      have := (ivτ5_RdX).1.2.2.2.2.1
      have := (ivτ5_RdX).1.2.2.2.2.2.1
      have : gI τ5 4 2 = gI σ 4 2 := gI_iz (FrD.it frτ5.1 (by omega) (sk1t (by omega) (FrD.it frτ3.1 (by omega) (FrD.it frτ1.1 (by omega) (sk1t (by omega) (izg σ 4 2)))))) (rgI _ _ _)
      refine z_istore (pc := 62) [(0, .ref (b + 9)), (1, .int (iz (0 + z4))), (2, .int (iz 3)), (3, .int (iz 1)), (4, .int (iz z6))] O dX4_readShare_62 (by decide) rfl ?_
      refine z_iload (pc := 64) O dX4_readShare_64 rfl ?_
      refine z_iconst (pc := 66) (v := iz (-1)) O dX4_readShare_66 (by decide) ?_
      refine zi_icmp_ne (pc := 67) (tgt := 72) O dX4_readShare_67 (by decide) (by omega) (by decide) (fun h67 => ?_) (fun h67 => ?_)
      · refine z_aload_n (pc := 72) O dX4_readShare_72 rfl ?_
        refine z_getR (pc := 73) b O fl_X4_19 rfl (ivτ5_RdX).2.1 (ivτ5_RdX).2.2.1.2 dX4_readShare_73 ?_
        refine z_getR (pc := 76) (b + 2) O fl_X4_116 rfl (ivτ5_RdX).1.2.1 (ivτ5_RdX).1.2.2.1.2.1 dX4_readShare_76 ?_
        refine z_iload_n (pc := 79) O dX4_readShare_79 rfl ?_
        refine z_iload (pc := 80) O dX4_readShare_80 rfl ?_
        refine zi_iast (pc := 82) 1 O (ivτ5_RdX).1.2.2.2.1.2.1 rfl (by decide) (by omega) dX4_readShare_82 ?_
        refine z_iload_n (pc := 83) O dX4_readShare_83 rfl ?_
        refine z_iload (pc := 84) O dX4_readShare_84 rfl ?_
        refine zi_iadd (pc := 86) O dX4_readShare_86 ?_
        refine z_istore_n (pc := 87) [(0, .ref (b + 9)), (1, .int (iz ((0 + z4) + z6))), (2, .int (iz 3)), (3, .int (iz 1)), (4, .int (iz z6))] O dX4_readShare_87 (by decide) rfl ?_
        refine zi_iinc (pc := 88) (2) [(0, .ref (b + 9)), (1, .int (iz ((0 + z4) + z6))), (2, .int (iz 3)), (3, .int (iz 2)), (4, .int (iz z6))] O dX4_readShare_88 rfl (by omega) (by decide) rfl ?_
        refine z_goto (pc := 91) (tgt := 37) O dX4_readShare_91 (by decide) ?_
        refine z_iload_n (pc := 37) O dX4_readShare_37 rfl ?_
        refine z_iload_n (pc := 38) O dX4_readShare_38 rfl ?_
        refine zi_icmp_gt (pc := 39) (tgt := 94) O dX4_readShare_39 (by decide) (by decide) (by decide) (fun hh => absurd hh (by decide)) (fun _ => ?_)
        refine z_aload_n (pc := 42) O dX4_readShare_42 rfl ?_
        refine z_iload_n (pc := 43) O dX4_readShare_43 rfl ?_
        refine z_iload_n (pc := 44) O dX4_readShare_44 rfl ?_
        refine zi_icmp_ne (pc := 45) (tgt := 56) O dX4_readShare_45 (by decide) (by decide) (by decide) (fun _ => ?_) (fun hh => absurd hh (by decide))
        refine z_iconst (pc := 56) (v := iz (0)) O dX4_readShare_56 (by decide) ?_
        refine z_bipush (pc := 57) (v := iz (100)) O dX4_readShare_57 (by decide) ?_
        refine z_callV (pc := 59) O cl_X4_83 (k4_readNumber3 _ _ b 0 (by decide) 100 (by decide) tk pl m (adv m (adv m (adv m j))) (frτ5.lay (frτ3.lay (frτ1.lay J))) (RdS.fr (NmR.ok eτ5_0 (by omega)).2.2.2 (FrX.pI 2 (FrX.rf b [(2, 99999)] τ5) (by decide) rfl) (RdX.up ivτ5_RdX (τ := (sI τ5 (b + 2) 1 (iz z6))) ((FrD.rf b τ5).pI (by omega)) (by have : gI (sI τ5 (b + 2) 1 (iz z6)) (b + 9) 2 = gI τ5 (b + 9) 2 := gI_iz (sk1t (by omega) (izg τ5 (b + 9) 2)) (rgI _ _ _); omega) (by have : gI (sI τ5 (b + 2) 1 (iz z6)) b 14 = gI τ5 b 14 := gI_iz (sk1t (by omega) (izg τ5 b 14)) (rgI _ _ _); omega) (by have : gI (sI τ5 (b + 2) 1 (iz z6)) b 3 = gI τ5 b 3 := gI_iz (sk1t (by omega) (izg τ5 b 3)) (rgI _ _ _); omega) (by have : gI (sI τ5 (b + 2) 1 (iz z6)) b 4 = gI τ5 b 4 := gI_iz (sk1t (by omega) (izg τ5 b 4)) (rgI _ _ _); omega) (fun w hw => by rw [show gI (sI τ5 (b + 2) 1 (iz z6)) (b + 6) w = gI τ5 (b + 6) w from gI_eq (sk1t (by omega) rfl)]; exact (ivτ5_RdX).1.2.2.2.2.2.2 w hw)) rfl rfl rfl rfl) (by omega)) (by decide) (ivτ5_RdX).2.1 kc_4 rfl rfl (Nat.le_of_ble_eq_true rfl) ⟨Nat.zero_le _, Nat.zero_le _⟩ dX4_readShare_59 (fun r τ7 hp => ?_)
        obtain ⟨z8, rfl, fτ7_0, fτ7_1, frτ7, ivτ7_RdX, eτ7_0⟩ := hp
        have := (ivτ7_RdX).2.2.2.1
        have := (ivτ7_RdX).2.2.2.2
        have := (ivτ7_RdX).1.2.2.2.2.1
        have := (ivτ7_RdX).1.2.2.2.2.2.1
        have : gI τ7 4 2 = gI σ 4 2 := gI_iz (FrD.it frτ7.1 (by omega) (sk1t (by omega) (FrD.it frτ5.1 (by omega) (sk1t (by omega) (FrD.it frτ3.1 (by omega) (FrD.it frτ1.1 (by omega) (sk1t (by omega) (izg σ 4 2)))))))) (rgI _ _ _)
        refine z_istore (pc := 62) [(0, .ref (b + 9)), (1, .int (iz ((0 + z4) + z6))), (2, .int (iz 3)), (3, .int (iz 2)), (4, .int (iz z8))] O dX4_readShare_62 (by decide) rfl ?_
        refine z_iload (pc := 64) O dX4_readShare_64 rfl ?_
        refine z_iconst (pc := 66) (v := iz (-1)) O dX4_readShare_66 (by decide) ?_
        refine zi_icmp_ne (pc := 67) (tgt := 72) O dX4_readShare_67 (by decide) (by omega) (by decide) (fun h67 => ?_) (fun h67 => ?_)
        · refine z_aload_n (pc := 72) O dX4_readShare_72 rfl ?_
          refine z_getR (pc := 73) b O fl_X4_19 rfl (ivτ7_RdX).2.1 (ivτ7_RdX).2.2.1.2 dX4_readShare_73 ?_
          refine z_getR (pc := 76) (b + 2) O fl_X4_116 rfl (ivτ7_RdX).1.2.1 (ivτ7_RdX).1.2.2.1.2.1 dX4_readShare_76 ?_
          refine z_iload_n (pc := 79) O dX4_readShare_79 rfl ?_
          refine z_iload (pc := 80) O dX4_readShare_80 rfl ?_
          refine zi_iast (pc := 82) 2 O (ivτ7_RdX).1.2.2.2.1.2.1 rfl (by decide) (by omega) dX4_readShare_82 ?_
          refine z_iload_n (pc := 83) O dX4_readShare_83 rfl ?_
          refine z_iload (pc := 84) O dX4_readShare_84 rfl ?_
          refine zi_iadd (pc := 86) O dX4_readShare_86 ?_
          refine z_istore_n (pc := 87) [(0, .ref (b + 9)), (1, .int (iz (((0 + z4) + z6) + z8))), (2, .int (iz 3)), (3, .int (iz 2)), (4, .int (iz z8))] O dX4_readShare_87 (by decide) rfl ?_
          refine zi_iinc (pc := 88) (3) [(0, .ref (b + 9)), (1, .int (iz (((0 + z4) + z6) + z8))), (2, .int (iz 3)), (3, .int (iz 3)), (4, .int (iz z8))] O dX4_readShare_88 rfl (by omega) (by decide) rfl ?_
          refine z_goto (pc := 91) (tgt := 37) O dX4_readShare_91 (by decide) ?_
          refine z_iload_n (pc := 37) O dX4_readShare_37 rfl ?_
          refine z_iload_n (pc := 38) O dX4_readShare_38 rfl ?_
          refine zi_icmp_gt (pc := 39) (tgt := 94) O dX4_readShare_39 (by decide) (by decide) (by decide) (fun hh => absurd hh (by decide)) (fun _ => ?_)
          refine z_aload_n (pc := 42) O dX4_readShare_42 rfl ?_
          refine z_iload_n (pc := 43) O dX4_readShare_43 rfl ?_
          refine z_iload_n (pc := 44) O dX4_readShare_44 rfl ?_
          refine zi_icmp_ne (pc := 45) (tgt := 56) O dX4_readShare_45 (by decide) (by decide) (by decide) (fun hh => absurd hh (by decide)) (fun _ => ?_)
          refine z_iload_n (pc := 48) O dX4_readShare_48 rfl ?_
          refine zi_if_ne (pc := 49) (tgt := 56) O dX4_readShare_49 (by decide) (by omega) (fun h49 => ?_) (fun h49 => ?_)
          · refine z_iconst (pc := 56) (v := iz (0)) O dX4_readShare_56 (by decide) ?_
            refine z_bipush (pc := 57) (v := iz (100)) O dX4_readShare_57 (by decide) ?_
            refine z_callV (pc := 59) O cl_X4_83 (k4_readNumber3 _ _ b 0 (by decide) 100 (by decide) tk pl m (adv m (adv m (adv m (adv m j)))) (frτ7.lay (frτ5.lay (frτ3.lay (frτ1.lay J)))) (RdS.fr (NmR.ok eτ7_0 (by omega)).2.2.2 (FrX.pI 2 (FrX.rf b [(2, 99999)] τ7) (by decide) rfl) (RdX.up ivτ7_RdX (τ := (sI τ7 (b + 2) 2 (iz z8))) ((FrD.rf b τ7).pI (by omega)) (by have : gI (sI τ7 (b + 2) 2 (iz z8)) (b + 9) 2 = gI τ7 (b + 9) 2 := gI_iz (sk1t (by omega) (izg τ7 (b + 9) 2)) (rgI _ _ _); omega) (by have : gI (sI τ7 (b + 2) 2 (iz z8)) b 14 = gI τ7 b 14 := gI_iz (sk1t (by omega) (izg τ7 b 14)) (rgI _ _ _); omega) (by have : gI (sI τ7 (b + 2) 2 (iz z8)) b 3 = gI τ7 b 3 := gI_iz (sk1t (by omega) (izg τ7 b 3)) (rgI _ _ _); omega) (by have : gI (sI τ7 (b + 2) 2 (iz z8)) b 4 = gI τ7 b 4 := gI_iz (sk1t (by omega) (izg τ7 b 4)) (rgI _ _ _); omega) (fun w hw => by rw [show gI (sI τ7 (b + 2) 2 (iz z8)) (b + 6) w = gI τ7 (b + 6) w from gI_eq (sk1t (by omega) rfl)]; exact (ivτ7_RdX).1.2.2.2.2.2.2 w hw)) rfl rfl rfl rfl) (by omega)) (by decide) (ivτ7_RdX).2.1 kc_4 rfl rfl (Nat.le_of_ble_eq_true rfl) ⟨Nat.zero_le _, Nat.zero_le _⟩ dX4_readShare_59 (fun r τ9 hp => ?_)
            obtain ⟨z10, rfl, fτ9_0, fτ9_1, frτ9, ivτ9_RdX, eτ9_0⟩ := hp
            have := (ivτ9_RdX).2.2.2.1
            have := (ivτ9_RdX).2.2.2.2
            have := (ivτ9_RdX).1.2.2.2.2.1
            have := (ivτ9_RdX).1.2.2.2.2.2.1
            have : gI τ9 4 2 = gI σ 4 2 := gI_iz (FrD.it frτ9.1 (by omega) (sk1t (by omega) (FrD.it frτ7.1 (by omega) (sk1t (by omega) (FrD.it frτ5.1 (by omega) (sk1t (by omega) (FrD.it frτ3.1 (by omega) (FrD.it frτ1.1 (by omega) (sk1t (by omega) (izg σ 4 2)))))))))) (rgI _ _ _)
            refine z_istore (pc := 62) [(0, .ref (b + 9)), (1, .int (iz (((0 + z4) + z6) + z8))), (2, .int (iz 3)), (3, .int (iz 3)), (4, .int (iz z10))] O dX4_readShare_62 (by decide) rfl ?_
            refine z_iload (pc := 64) O dX4_readShare_64 rfl ?_
            refine z_iconst (pc := 66) (v := iz (-1)) O dX4_readShare_66 (by decide) ?_
            refine zi_icmp_ne (pc := 67) (tgt := 72) O dX4_readShare_67 (by decide) (by omega) (by decide) (fun h67 => ?_) (fun h67 => ?_)
            · refine z_aload_n (pc := 72) O dX4_readShare_72 rfl ?_
              refine z_getR (pc := 73) b O fl_X4_19 rfl (ivτ9_RdX).2.1 (ivτ9_RdX).2.2.1.2 dX4_readShare_73 ?_
              refine z_getR (pc := 76) (b + 2) O fl_X4_116 rfl (ivτ9_RdX).1.2.1 (ivτ9_RdX).1.2.2.1.2.1 dX4_readShare_76 ?_
              refine z_iload_n (pc := 79) O dX4_readShare_79 rfl ?_
              refine z_iload (pc := 80) O dX4_readShare_80 rfl ?_
              refine zi_iast (pc := 82) 3 O (ivτ9_RdX).1.2.2.2.1.2.1 rfl (by decide) (by omega) dX4_readShare_82 ?_
              refine z_iload_n (pc := 83) O dX4_readShare_83 rfl ?_
              refine z_iload (pc := 84) O dX4_readShare_84 rfl ?_
              refine zi_iadd (pc := 86) O dX4_readShare_86 ?_
              refine z_istore_n (pc := 87) [(0, .ref (b + 9)), (1, .int (iz ((((0 + z4) + z6) + z8) + z10))), (2, .int (iz 3)), (3, .int (iz 3)), (4, .int (iz z10))] O dX4_readShare_87 (by decide) rfl ?_
              refine zi_iinc (pc := 88) (4) [(0, .ref (b + 9)), (1, .int (iz ((((0 + z4) + z6) + z8) + z10))), (2, .int (iz 3)), (3, .int (iz 4)), (4, .int (iz z10))] O dX4_readShare_88 rfl (by omega) (by decide) rfl ?_
              refine z_goto (pc := 91) (tgt := 37) O dX4_readShare_91 (by decide) ?_
              refine z_iload_n (pc := 37) O dX4_readShare_37 rfl ?_
              refine z_iload_n (pc := 38) O dX4_readShare_38 rfl ?_
              refine zi_icmp_gt (pc := 39) (tgt := 94) O dX4_readShare_39 (by decide) (by decide) (by decide) (fun _ => ?_) (fun hh => absurd hh (by decide))
              refine z_aload_n (pc := 94) O dX4_readShare_94 rfl ?_
              refine z_ldc2 (pc := 95) O tw_400 dX4_readShare_95 ?_
              refine z_callV (pc := 98) O cl_X4_89 (k4_expect3 _ _ b 59 tk pl m (adv m (adv m (adv m (adv m (adv m j))))) (frτ9.lay (frτ7.lay (frτ5.lay (frτ3.lay (frτ1.lay J))))) (RdS.fr (NmR.ok eτ9_0 (by omega)).2.2.2 (FrX.pI 2 (FrX.rf b [(2, 99999)] τ9) (by decide) rfl) (RdX.up ivτ9_RdX (τ := (sI τ9 (b + 2) 3 (iz z10))) ((FrD.rf b τ9).pI (by omega)) (by have : gI (sI τ9 (b + 2) 3 (iz z10)) (b + 9) 2 = gI τ9 (b + 9) 2 := gI_iz (sk1t (by omega) (izg τ9 (b + 9) 2)) (rgI _ _ _); omega) (by have : gI (sI τ9 (b + 2) 3 (iz z10)) b 14 = gI τ9 b 14 := gI_iz (sk1t (by omega) (izg τ9 b 14)) (rgI _ _ _); omega) (by have : gI (sI τ9 (b + 2) 3 (iz z10)) b 3 = gI τ9 b 3 := gI_iz (sk1t (by omega) (izg τ9 b 3)) (rgI _ _ _); omega) (by have : gI (sI τ9 (b + 2) 3 (iz z10)) b 4 = gI τ9 b 4 := gI_iz (sk1t (by omega) (izg τ9 b 4)) (rgI _ _ _); omega) (fun w hw => by rw [show gI (sI τ9 (b + 2) 3 (iz z10)) (b + 6) w = gI τ9 (b + 6) w from gI_eq (sk1t (by omega) rfl)]; exact (ivτ9_RdX).1.2.2.2.2.2.2 w hw)) rfl rfl rfl rfl)) (by decide) (ivτ9_RdX).2.1 kc_4 rfl rfl (Nat.le_of_ble_eq_true rfl) ⟨Nat.zero_le _, Nat.zero_le _⟩ dX4_readShare_98 (fun r τ11 hp => ?_)
              obtain ⟨z12, rfl, fτ11_0, frτ11, ivτ11_RdX, eτ11_0⟩ := hp
              have := (ivτ11_RdX).2.2.2.1
              have := (ivτ11_RdX).2.2.2.2
              have := (ivτ11_RdX).1.2.2.2.2.1
              have := (ivτ11_RdX).1.2.2.2.2.2.1
              have : gI τ11 4 2 = gI σ 4 2 := gI_iz (FrD.it frτ11.1 (by omega) (sk1t (by omega) (FrD.it frτ9.1 (by omega) (sk1t (by omega) (FrD.it frτ7.1 (by omega) (sk1t (by omega) (FrD.it frτ5.1 (by omega) (sk1t (by omega) (FrD.it frτ3.1 (by omega) (FrD.it frτ1.1 (by omega) (sk1t (by omega) (izg σ 4 2)))))))))))) (rgI _ _ _)
              rw [show (59 : Int64).toInt = 59 by decide] at eτ11_0
              refine z_zret (pc := 101) O dX4_readShare_101 (nar_z (by omega)) ?_
              have o0 := NmR.ok eτ3_0 (by omega)
              have v0 := o0.2.1
              have o1 := NmR.ok eτ5_0 (by omega)
              have v1 := o1.2.1
              have o2 := NmR.ok eτ7_0 (by omega)
              have v2 := o2.2.1
              have h4 : (if (-1 - tk (adv m j)) + (-1 - tk (adv m (adv m j))) + (-1 - tk (adv m (adv m (adv m j)))) = 0 then (1 : Int) else 0) = 0 := by
                rw [if_neg (by omega)]
              have e4 : NmR τ9 b tk pl m (adv m (adv m (adv m (adv m j)))) (if (-1 - tk (adv m j)) + (-1 - tk (adv m (adv m j))) + (-1 - tk (adv m (adv m (adv m j)))) = 0 then (1 : Int) else 0) 100 z10 := by
                rw [h4]
                exact eτ9_0
              have o3 := NmR.ok e4 (by omega)
              have er : shareR tk m j (gI σ (b + 9) 5) = _ := (cif_neg (by omega)).trans ((thn_ok o0.2.2.1).trans ((thn_ok o1.2.2.1).trans ((thn_ok o2.2.2.1).trans (thn_ok o3.2.2.1))))
              exact ⟨z12, rfl, (by omega), ((FrX.pI 2 ((FrX.pI 2 ((FrX.pI 2 ((FrX.pI 2 (((FrX.pI 9 (FrX.rf b [(9, 8), (9, 9), (9, 2), (9, 3), (9, 5), (2, 99999)] σ) (by decide) rfl).tr (frτ1.mono (V := [(9, 8), (9, 9), (9, 2), (9, 3), (9, 5), (2, 99999)]) rfl)).tr (frτ3.mono (V := [(9, 8), (9, 9), (9, 2), (9, 3), (9, 5), (2, 99999)]) rfl)) (by decide) rfl).tr (frτ5.mono (V := [(9, 8), (9, 9), (9, 2), (9, 3), (9, 5), (2, 99999)]) rfl)) (by decide) rfl).tr (frτ7.mono (V := [(9, 8), (9, 9), (9, 2), (9, 3), (9, 5), (2, 99999)]) rfl)) (by decide) rfl).tr (frτ9.mono (V := [(9, 8), (9, 9), (9, 2), (9, 3), (9, 5), (2, 99999)]) rfl)) (by decide) rfl).tr (frτ11.mono (V := [(9, 8), (9, 9), (9, 2), (9, 3), (9, 5), (2, 99999)]) rfl)), ivτ11_RdX, (by rw [er]; exact eτ11_0), (by have qf := (gI_iz (FrX.it 9 frτ11 rfl (sk1t (by omega) (FrX.it 9 frτ9 rfl (sk1t (by omega) (FrX.it 9 frτ7 rfl (sk1t (by omega) (FrX.it 9 frτ5 rfl (sk1t (by omega) (FrX.it 9 frτ3 rfl (FrX.it 9 frτ1 rfl (hI_at _ _ _ _))))))))))) (by omega) : gI τ11 (b + 9) 5 = 1); omega)⟩
            · refine z_iconst (pc := 70) (v := iz (0)) O dX4_readShare_70 (by decide) ?_
              refine z_zret (pc := 71) O dX4_readShare_71 rfl ?_
              have o0 := NmR.ok eτ3_0 (by omega)
              have v0 := o0.2.1
              have o1 := NmR.ok eτ5_0 (by omega)
              have v1 := o1.2.1
              have o2 := NmR.ok eτ7_0 (by omega)
              have v2 := o2.2.1
              have h4 : (if (-1 - tk (adv m j)) + (-1 - tk (adv m (adv m j))) + (-1 - tk (adv m (adv m (adv m j)))) = 0 then (1 : Int) else 0) = 0 := by
                rw [if_neg (by omega)]
              have e4 : NmR τ9 b tk pl m (adv m (adv m (adv m (adv m j)))) (if (-1 - tk (adv m j)) + (-1 - tk (adv m (adv m j))) + (-1 - tk (adv m (adv m (adv m j)))) = 0 then (1 : Int) else 0) 100 z10 := by
                rw [h4]
                exact eτ9_0
              have oz := NmR.no e4 (by omega)
              have er : shareR tk m j (gI σ (b + 9) 5) = _ := (cif_neg (by omega)).trans ((thn_ok o0.2.2.1).trans ((thn_ok o1.2.2.1).trans ((thn_ok o2.2.2.1).trans (thn_f oz.1))))
              exact ⟨0, rfl, (by decide), ((FrX.pI 2 ((FrX.pI 2 ((FrX.pI 2 (((FrX.pI 9 (FrX.rf b [(9, 8), (9, 9), (9, 2), (9, 3), (9, 5), (2, 99999)] σ) (by decide) rfl).tr (frτ1.mono (V := [(9, 8), (9, 9), (9, 2), (9, 3), (9, 5), (2, 99999)]) rfl)).tr (frτ3.mono (V := [(9, 8), (9, 9), (9, 2), (9, 3), (9, 5), (2, 99999)]) rfl)) (by decide) rfl).tr (frτ5.mono (V := [(9, 8), (9, 9), (9, 2), (9, 3), (9, 5), (2, 99999)]) rfl)) (by decide) rfl).tr (frτ7.mono (V := [(9, 8), (9, 9), (9, 2), (9, 3), (9, 5), (2, 99999)]) rfl)) (by decide) rfl).tr (frτ9.mono (V := [(9, 8), (9, 9), (9, 2), (9, 3), (9, 5), (2, 99999)]) rfl)), ivτ9_RdX, (by rw [er]; exact Or.inr ⟨rfl, oz.1, oz.2⟩), (by have qf := (gI_iz (FrX.it 9 frτ9 rfl (sk1t (by omega) (FrX.it 9 frτ7 rfl (sk1t (by omega) (FrX.it 9 frτ5 rfl (sk1t (by omega) (FrX.it 9 frτ3 rfl (FrX.it 9 frτ1 rfl (hI_at _ _ _ _))))))))) (by omega) : gI τ9 (b + 9) 5 = 1); omega)⟩
          · refine z_iconst (pc := 52) (v := iz (1)) O dX4_readShare_52 (by decide) ?_
            refine z_goto (pc := 53) (tgt := 57) O dX4_readShare_53 (by decide) ?_
            refine z_bipush (pc := 57) (v := iz (100)) O dX4_readShare_57 (by decide) ?_
            refine z_callV (pc := 59) O cl_X4_83 (k4_readNumber3 _ _ b 1 (by decide) 100 (by decide) tk pl m (adv m (adv m (adv m (adv m j)))) (frτ7.lay (frτ5.lay (frτ3.lay (frτ1.lay J)))) (RdS.fr (NmR.ok eτ7_0 (by omega)).2.2.2 (FrX.pI 2 (FrX.rf b [(2, 99999)] τ7) (by decide) rfl) (RdX.up ivτ7_RdX (τ := (sI τ7 (b + 2) 2 (iz z8))) ((FrD.rf b τ7).pI (by omega)) (by have : gI (sI τ7 (b + 2) 2 (iz z8)) (b + 9) 2 = gI τ7 (b + 9) 2 := gI_iz (sk1t (by omega) (izg τ7 (b + 9) 2)) (rgI _ _ _); omega) (by have : gI (sI τ7 (b + 2) 2 (iz z8)) b 14 = gI τ7 b 14 := gI_iz (sk1t (by omega) (izg τ7 b 14)) (rgI _ _ _); omega) (by have : gI (sI τ7 (b + 2) 2 (iz z8)) b 3 = gI τ7 b 3 := gI_iz (sk1t (by omega) (izg τ7 b 3)) (rgI _ _ _); omega) (by have : gI (sI τ7 (b + 2) 2 (iz z8)) b 4 = gI τ7 b 4 := gI_iz (sk1t (by omega) (izg τ7 b 4)) (rgI _ _ _); omega) (fun w hw => by rw [show gI (sI τ7 (b + 2) 2 (iz z8)) (b + 6) w = gI τ7 (b + 6) w from gI_eq (sk1t (by omega) rfl)]; exact (ivτ7_RdX).1.2.2.2.2.2.2 w hw)) rfl rfl rfl rfl) (by omega)) (by decide) (ivτ7_RdX).2.1 kc_4 rfl rfl (Nat.le_of_ble_eq_true rfl) ⟨Nat.zero_le _, Nat.zero_le _⟩ dX4_readShare_59 (fun r τ13 hp => ?_)
            obtain ⟨z14, rfl, fτ13_0, fτ13_1, frτ13, ivτ13_RdX, eτ13_0⟩ := hp
            have := (ivτ13_RdX).2.2.2.1
            have := (ivτ13_RdX).2.2.2.2
            have := (ivτ13_RdX).1.2.2.2.2.1
            have := (ivτ13_RdX).1.2.2.2.2.2.1
            have : gI τ13 4 2 = gI σ 4 2 := gI_iz (FrD.it frτ13.1 (by omega) (sk1t (by omega) (FrD.it frτ7.1 (by omega) (sk1t (by omega) (FrD.it frτ5.1 (by omega) (sk1t (by omega) (FrD.it frτ3.1 (by omega) (FrD.it frτ1.1 (by omega) (sk1t (by omega) (izg σ 4 2)))))))))) (rgI _ _ _)
            refine z_istore (pc := 62) [(0, .ref (b + 9)), (1, .int (iz (((0 + z4) + z6) + z8))), (2, .int (iz 3)), (3, .int (iz 3)), (4, .int (iz z14))] O dX4_readShare_62 (by decide) rfl ?_
            refine z_iload (pc := 64) O dX4_readShare_64 rfl ?_
            refine z_iconst (pc := 66) (v := iz (-1)) O dX4_readShare_66 (by decide) ?_
            refine zi_icmp_ne (pc := 67) (tgt := 72) O dX4_readShare_67 (by decide) (by omega) (by decide) (fun h67 => ?_) (fun h67 => ?_)
            · refine z_aload_n (pc := 72) O dX4_readShare_72 rfl ?_
              refine z_getR (pc := 73) b O fl_X4_19 rfl (ivτ13_RdX).2.1 (ivτ13_RdX).2.2.1.2 dX4_readShare_73 ?_
              refine z_getR (pc := 76) (b + 2) O fl_X4_116 rfl (ivτ13_RdX).1.2.1 (ivτ13_RdX).1.2.2.1.2.1 dX4_readShare_76 ?_
              refine z_iload_n (pc := 79) O dX4_readShare_79 rfl ?_
              refine z_iload (pc := 80) O dX4_readShare_80 rfl ?_
              refine zi_iast (pc := 82) 3 O (ivτ13_RdX).1.2.2.2.1.2.1 rfl (by decide) (by omega) dX4_readShare_82 ?_
              refine z_iload_n (pc := 83) O dX4_readShare_83 rfl ?_
              refine z_iload (pc := 84) O dX4_readShare_84 rfl ?_
              refine zi_iadd (pc := 86) O dX4_readShare_86 ?_
              refine z_istore_n (pc := 87) [(0, .ref (b + 9)), (1, .int (iz ((((0 + z4) + z6) + z8) + z14))), (2, .int (iz 3)), (3, .int (iz 3)), (4, .int (iz z14))] O dX4_readShare_87 (by decide) rfl ?_
              refine zi_iinc (pc := 88) (4) [(0, .ref (b + 9)), (1, .int (iz ((((0 + z4) + z6) + z8) + z14))), (2, .int (iz 3)), (3, .int (iz 4)), (4, .int (iz z14))] O dX4_readShare_88 rfl (by omega) (by decide) rfl ?_
              refine z_goto (pc := 91) (tgt := 37) O dX4_readShare_91 (by decide) ?_
              refine z_iload_n (pc := 37) O dX4_readShare_37 rfl ?_
              refine z_iload_n (pc := 38) O dX4_readShare_38 rfl ?_
              refine zi_icmp_gt (pc := 39) (tgt := 94) O dX4_readShare_39 (by decide) (by decide) (by decide) (fun _ => ?_) (fun hh => absurd hh (by decide))
              refine z_aload_n (pc := 94) O dX4_readShare_94 rfl ?_
              refine z_ldc2 (pc := 95) O tw_400 dX4_readShare_95 ?_
              refine z_callV (pc := 98) O cl_X4_89 (k4_expect3 _ _ b 59 tk pl m (adv m (adv m (adv m (adv m (adv m j))))) (frτ13.lay (frτ7.lay (frτ5.lay (frτ3.lay (frτ1.lay J))))) (RdS.fr (NmR.ok eτ13_0 (by omega)).2.2.2 (FrX.pI 2 (FrX.rf b [(2, 99999)] τ13) (by decide) rfl) (RdX.up ivτ13_RdX (τ := (sI τ13 (b + 2) 3 (iz z14))) ((FrD.rf b τ13).pI (by omega)) (by have : gI (sI τ13 (b + 2) 3 (iz z14)) (b + 9) 2 = gI τ13 (b + 9) 2 := gI_iz (sk1t (by omega) (izg τ13 (b + 9) 2)) (rgI _ _ _); omega) (by have : gI (sI τ13 (b + 2) 3 (iz z14)) b 14 = gI τ13 b 14 := gI_iz (sk1t (by omega) (izg τ13 b 14)) (rgI _ _ _); omega) (by have : gI (sI τ13 (b + 2) 3 (iz z14)) b 3 = gI τ13 b 3 := gI_iz (sk1t (by omega) (izg τ13 b 3)) (rgI _ _ _); omega) (by have : gI (sI τ13 (b + 2) 3 (iz z14)) b 4 = gI τ13 b 4 := gI_iz (sk1t (by omega) (izg τ13 b 4)) (rgI _ _ _); omega) (fun w hw => by rw [show gI (sI τ13 (b + 2) 3 (iz z14)) (b + 6) w = gI τ13 (b + 6) w from gI_eq (sk1t (by omega) rfl)]; exact (ivτ13_RdX).1.2.2.2.2.2.2 w hw)) rfl rfl rfl rfl)) (by decide) (ivτ13_RdX).2.1 kc_4 rfl rfl (Nat.le_of_ble_eq_true rfl) ⟨Nat.zero_le _, Nat.zero_le _⟩ dX4_readShare_98 (fun r τ15 hp => ?_)
              obtain ⟨z16, rfl, fτ15_0, frτ15, ivτ15_RdX, eτ15_0⟩ := hp
              have := (ivτ15_RdX).2.2.2.1
              have := (ivτ15_RdX).2.2.2.2
              have := (ivτ15_RdX).1.2.2.2.2.1
              have := (ivτ15_RdX).1.2.2.2.2.2.1
              have : gI τ15 4 2 = gI σ 4 2 := gI_iz (FrD.it frτ15.1 (by omega) (sk1t (by omega) (FrD.it frτ13.1 (by omega) (sk1t (by omega) (FrD.it frτ7.1 (by omega) (sk1t (by omega) (FrD.it frτ5.1 (by omega) (sk1t (by omega) (FrD.it frτ3.1 (by omega) (FrD.it frτ1.1 (by omega) (sk1t (by omega) (izg σ 4 2)))))))))))) (rgI _ _ _)
              rw [show (59 : Int64).toInt = 59 by decide] at eτ15_0
              refine z_zret (pc := 101) O dX4_readShare_101 (nar_z (by omega)) ?_
              have o0 := NmR.ok eτ3_0 (by omega)
              have v0 := o0.2.1
              have o1 := NmR.ok eτ5_0 (by omega)
              have v1 := o1.2.1
              have o2 := NmR.ok eτ7_0 (by omega)
              have v2 := o2.2.1
              have h4 : (if (-1 - tk (adv m j)) + (-1 - tk (adv m (adv m j))) + (-1 - tk (adv m (adv m (adv m j)))) = 0 then (1 : Int) else 0) = 1 := by
                rw [if_pos (by omega)]
              have e4 : NmR τ13 b tk pl m (adv m (adv m (adv m (adv m j)))) (if (-1 - tk (adv m j)) + (-1 - tk (adv m (adv m j))) + (-1 - tk (adv m (adv m (adv m j)))) = 0 then (1 : Int) else 0) 100 z14 := by
                rw [h4]
                exact eτ13_0
              have o3 := NmR.ok e4 (by omega)
              have er : shareR tk m j (gI σ (b + 9) 5) = _ := (cif_neg (by omega)).trans ((thn_ok o0.2.2.1).trans ((thn_ok o1.2.2.1).trans ((thn_ok o2.2.2.1).trans (thn_ok o3.2.2.1))))
              exact ⟨z16, rfl, (by omega), ((FrX.pI 2 ((FrX.pI 2 ((FrX.pI 2 ((FrX.pI 2 (((FrX.pI 9 (FrX.rf b [(9, 8), (9, 9), (9, 2), (9, 3), (9, 5), (2, 99999)] σ) (by decide) rfl).tr (frτ1.mono (V := [(9, 8), (9, 9), (9, 2), (9, 3), (9, 5), (2, 99999)]) rfl)).tr (frτ3.mono (V := [(9, 8), (9, 9), (9, 2), (9, 3), (9, 5), (2, 99999)]) rfl)) (by decide) rfl).tr (frτ5.mono (V := [(9, 8), (9, 9), (9, 2), (9, 3), (9, 5), (2, 99999)]) rfl)) (by decide) rfl).tr (frτ7.mono (V := [(9, 8), (9, 9), (9, 2), (9, 3), (9, 5), (2, 99999)]) rfl)) (by decide) rfl).tr (frτ13.mono (V := [(9, 8), (9, 9), (9, 2), (9, 3), (9, 5), (2, 99999)]) rfl)) (by decide) rfl).tr (frτ15.mono (V := [(9, 8), (9, 9), (9, 2), (9, 3), (9, 5), (2, 99999)]) rfl)), ivτ15_RdX, (by rw [er]; exact eτ15_0), (by have qf := (gI_iz (FrX.it 9 frτ15 rfl (sk1t (by omega) (FrX.it 9 frτ13 rfl (sk1t (by omega) (FrX.it 9 frτ7 rfl (sk1t (by omega) (FrX.it 9 frτ5 rfl (sk1t (by omega) (FrX.it 9 frτ3 rfl (FrX.it 9 frτ1 rfl (hI_at _ _ _ _))))))))))) (by omega) : gI τ15 (b + 9) 5 = 1); omega)⟩
            · refine z_iconst (pc := 70) (v := iz (0)) O dX4_readShare_70 (by decide) ?_
              refine z_zret (pc := 71) O dX4_readShare_71 rfl ?_
              have o0 := NmR.ok eτ3_0 (by omega)
              have v0 := o0.2.1
              have o1 := NmR.ok eτ5_0 (by omega)
              have v1 := o1.2.1
              have o2 := NmR.ok eτ7_0 (by omega)
              have v2 := o2.2.1
              have h4 : (if (-1 - tk (adv m j)) + (-1 - tk (adv m (adv m j))) + (-1 - tk (adv m (adv m (adv m j)))) = 0 then (1 : Int) else 0) = 1 := by
                rw [if_pos (by omega)]
              have e4 : NmR τ13 b tk pl m (adv m (adv m (adv m (adv m j)))) (if (-1 - tk (adv m j)) + (-1 - tk (adv m (adv m j))) + (-1 - tk (adv m (adv m (adv m j)))) = 0 then (1 : Int) else 0) 100 z14 := by
                rw [h4]
                exact eτ13_0
              have oz := NmR.no e4 (by omega)
              have er : shareR tk m j (gI σ (b + 9) 5) = _ := (cif_neg (by omega)).trans ((thn_ok o0.2.2.1).trans ((thn_ok o1.2.2.1).trans ((thn_ok o2.2.2.1).trans (thn_f oz.1))))
              exact ⟨0, rfl, (by decide), ((FrX.pI 2 ((FrX.pI 2 ((FrX.pI 2 (((FrX.pI 9 (FrX.rf b [(9, 8), (9, 9), (9, 2), (9, 3), (9, 5), (2, 99999)] σ) (by decide) rfl).tr (frτ1.mono (V := [(9, 8), (9, 9), (9, 2), (9, 3), (9, 5), (2, 99999)]) rfl)).tr (frτ3.mono (V := [(9, 8), (9, 9), (9, 2), (9, 3), (9, 5), (2, 99999)]) rfl)) (by decide) rfl).tr (frτ5.mono (V := [(9, 8), (9, 9), (9, 2), (9, 3), (9, 5), (2, 99999)]) rfl)) (by decide) rfl).tr (frτ7.mono (V := [(9, 8), (9, 9), (9, 2), (9, 3), (9, 5), (2, 99999)]) rfl)) (by decide) rfl).tr (frτ13.mono (V := [(9, 8), (9, 9), (9, 2), (9, 3), (9, 5), (2, 99999)]) rfl)), ivτ13_RdX, (by rw [er]; exact Or.inr ⟨rfl, oz.1, oz.2⟩), (by have qf := (gI_iz (FrX.it 9 frτ13 rfl (sk1t (by omega) (FrX.it 9 frτ7 rfl (sk1t (by omega) (FrX.it 9 frτ5 rfl (sk1t (by omega) (FrX.it 9 frτ3 rfl (FrX.it 9 frτ1 rfl (hI_at _ _ _ _))))))))) (by omega) : gI τ13 (b + 9) 5 = 1); omega)⟩
        · refine z_iconst (pc := 70) (v := iz (0)) O dX4_readShare_70 (by decide) ?_
          refine z_zret (pc := 71) O dX4_readShare_71 rfl ?_
          have o0 := NmR.ok eτ3_0 (by omega)
          have v0 := o0.2.1
          have o1 := NmR.ok eτ5_0 (by omega)
          have v1 := o1.2.1
          have oz := NmR.no eτ7_0 (by omega)
          have er : shareR tk m j (gI σ (b + 9) 5) = _ := (cif_neg (by omega)).trans ((thn_ok o0.2.2.1).trans ((thn_ok o1.2.2.1).trans (thn_f oz.1)))
          exact ⟨0, rfl, (by decide), ((FrX.pI 2 ((FrX.pI 2 (((FrX.pI 9 (FrX.rf b [(9, 8), (9, 9), (9, 2), (9, 3), (9, 5), (2, 99999)] σ) (by decide) rfl).tr (frτ1.mono (V := [(9, 8), (9, 9), (9, 2), (9, 3), (9, 5), (2, 99999)]) rfl)).tr (frτ3.mono (V := [(9, 8), (9, 9), (9, 2), (9, 3), (9, 5), (2, 99999)]) rfl)) (by decide) rfl).tr (frτ5.mono (V := [(9, 8), (9, 9), (9, 2), (9, 3), (9, 5), (2, 99999)]) rfl)) (by decide) rfl).tr (frτ7.mono (V := [(9, 8), (9, 9), (9, 2), (9, 3), (9, 5), (2, 99999)]) rfl)), ivτ7_RdX, (by rw [er]; exact Or.inr ⟨rfl, oz.1, oz.2⟩), (by have qf := (gI_iz (FrX.it 9 frτ7 rfl (sk1t (by omega) (FrX.it 9 frτ5 rfl (sk1t (by omega) (FrX.it 9 frτ3 rfl (FrX.it 9 frτ1 rfl (hI_at _ _ _ _))))))) (by omega) : gI τ7 (b + 9) 5 = 1); omega)⟩
      · refine z_iconst (pc := 70) (v := iz (0)) O dX4_readShare_70 (by decide) ?_
        refine z_zret (pc := 71) O dX4_readShare_71 rfl ?_
        have o0 := NmR.ok eτ3_0 (by omega)
        have v0 := o0.2.1
        have oz := NmR.no eτ5_0 (by omega)
        have er : shareR tk m j (gI σ (b + 9) 5) = _ := (cif_neg (by omega)).trans ((thn_ok o0.2.2.1).trans (thn_f oz.1))
        exact ⟨0, rfl, (by decide), ((FrX.pI 2 (((FrX.pI 9 (FrX.rf b [(9, 8), (9, 9), (9, 2), (9, 3), (9, 5), (2, 99999)] σ) (by decide) rfl).tr (frτ1.mono (V := [(9, 8), (9, 9), (9, 2), (9, 3), (9, 5), (2, 99999)]) rfl)).tr (frτ3.mono (V := [(9, 8), (9, 9), (9, 2), (9, 3), (9, 5), (2, 99999)]) rfl)) (by decide) rfl).tr (frτ5.mono (V := [(9, 8), (9, 9), (9, 2), (9, 3), (9, 5), (2, 99999)]) rfl)), ivτ5_RdX, (by rw [er]; exact Or.inr ⟨rfl, oz.1, oz.2⟩), (by have qf := (gI_iz (FrX.it 9 frτ5 rfl (sk1t (by omega) (FrX.it 9 frτ3 rfl (FrX.it 9 frτ1 rfl (hI_at _ _ _ _))))) (by omega) : gI τ5 (b + 9) 5 = 1); omega)⟩
    · refine z_iconst (pc := 70) (v := iz (0)) O dX4_readShare_70 (by decide) ?_
      refine z_zret (pc := 71) O dX4_readShare_71 rfl ?_
      have oz := NmR.no eτ3_0 (by omega)
      have er : shareR tk m j (gI σ (b + 9) 5) = _ := (cif_neg (by omega)).trans (thn_f oz.1)
      exact ⟨0, rfl, (by decide), (((FrX.pI 9 (FrX.rf b [(9, 8), (9, 9), (9, 2), (9, 3), (9, 5), (2, 99999)] σ) (by decide) rfl).tr (frτ1.mono (V := [(9, 8), (9, 9), (9, 2), (9, 3), (9, 5), (2, 99999)]) rfl)).tr (frτ3.mono (V := [(9, 8), (9, 9), (9, 2), (9, 3), (9, 5), (2, 99999)]) rfl)), ivτ3_RdX, (by rw [er]; exact Or.inr ⟨rfl, oz.1, oz.2⟩), (by have qf := (gI_iz (FrX.it 9 frτ3 rfl (FrX.it 9 frτ1 rfl (hI_at _ _ _ _))) (by omega) : gI τ3 (b + 9) 5 = 1); omega)⟩
  · refine z_aload_n (pc := 7) O dX4_readShare_7 rfl ?_
    refine z_iconst (pc := 8) (v := iz (2)) O dX4_readShare_8 (by decide) ?_
    refine z_callV (pc := 9) O cl_X4_59 (k4_refuse3 _ _ b 2 (by decide) tk pl m j J R) (by decide) (hX).2.1 kc_4 rfl rfl (Nat.le_of_ble_eq_true rfl) ⟨Nat.zero_le _, Nat.zero_le _⟩ dX4_readShare_9 (fun r τ17 hp => ?_)
    obtain ⟨z18, rfl, fτ17_0, fτ17_1, frτ17, ivτ17_RdX, eτ17_0⟩ := hp
    have := (ivτ17_RdX).2.2.2.1
    have := (ivτ17_RdX).2.2.2.2
    have := (ivτ17_RdX).1.2.2.2.2.1
    have := (ivτ17_RdX).1.2.2.2.2.2.1
    have : gI τ17 4 2 = gI σ 4 2 := gI_iz (FrD.it frτ17.1 (by omega) (izg σ 4 2)) (rgI _ _ _)
    refine z_zret (pc := 12) O dX4_readShare_12 (nar_z (by omega)) ?_
    exact ⟨z18, rfl, (by omega), ((FrX.rf b [(9, 8), (9, 9), (9, 2), (9, 3), (9, 5), (2, 99999)] σ).tr (frτ17.mono (V := [(9, 8), (9, 9), (9, 2), (9, 3), (9, 5), (2, 99999)]) rfl)), ivτ17_RdX, (by rw [show z18 = 0 by omega]; exact Rt.no (cif_pos (by omega)) (flt_ne (by decide)) eτ17_0), (by omega)⟩
