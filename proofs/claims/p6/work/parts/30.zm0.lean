set_option maxHeartbeats 4000000 in
set_option maxRecDepth 20000 in
theorem k4_readOne3_6 (l : Launch) (σ : VH) (b : Nat) (tk : Nat → Int) (pl : Nat → Int) (m : Nat) (j : Nat) (J : Lay σ) (R : RdS σ b tk pl m j) (hsr : SRw σ) (hs0 : 0 ≤ gI σ (b + 9) 4) : Ct l yX4_readOne cX4_readOne 4 (some .boolean) 2 0 0 [.ref (b + 9), .int (iz 6)] σ (fun r τ => ∃ z : Int, r = some (.int (iz z)) ∧ (z = 0 ∨ z = 1) ∧ (FrX b [(9, 8), (9, 9), (9, 2), (9, 3), (9, 4), (8, 99999), (0, 14)] σ τ) ∧ (RdX τ b) ∧ (∃ r : Rs, PR tk m 0 6 j (gI σ (b + 9) 4) r ∧ RtS τ b tk pl m z r)) := by
  refine Ct.enter rfl (Nat.le_of_ble_eq_true rfl) ?_
  intro κ γ hκ O hrc hrs
  subst hκ
  have hX := R.1
  have hR0 := hX.1.1
  have hR4 := hX.2.2.2.1
  have hR5 := hX.2.2.2.2
  have hR6 := hX.1.2.2.2.2.1
  have hR7 := hX.1.2.2.2.2.2.1
  have hT := R.2.1
  have hct := R.2.1.2.2.1
  have hat := R.2.2.1
  have hcur := R.2.2.2.1
  have hfl := R.2.2.2.2
  refine z_iload_n (pc := 0) O dX4_readOne_0 rfl ?_
  refine z_bipush (pc := 1) (v := iz (6)) O dX4_readOne_1 (by decide) ?_
  refine zi_icmp_lt (pc := 3) (tgt := 12) O dX4_readOne_3 (by decide) (by decide) (by decide) (fun hh => absurd hh (by decide)) (fun _ => ?_)
  refine z_aload_n (pc := 6) O dX4_readOne_6 rfl ?_
  refine z_iconst (pc := 7) (v := iz (2)) O dX4_readOne_7 (by decide) ?_
  refine z_callV (pc := 8) O cl_X4_59 (k4_refuse3 _ _ b 2 (by decide) tk pl m j J R) (by decide) (hX).2.1 kc_4 rfl rfl (Nat.le_of_ble_eq_true rfl) ⟨Nat.zero_le _, Nat.zero_le _⟩ dX4_readOne_8 (fun r τ1 hp => ?_)
  obtain ⟨z2, rfl, fτ1_0, fτ1_1, frτ1, ivτ1_RdX, eτ1_0⟩ := hp
  have := (ivτ1_RdX).2.2.2.1
  have := (ivτ1_RdX).2.2.2.2
  have := (ivτ1_RdX).1.2.2.2.2.1
  have := (ivτ1_RdX).1.2.2.2.2.2.1
  have : gI τ1 4 2 = gI σ 4 2 := gI_iz (FrD.it frτ1.1 (by omega) (izg σ 4 2)) (rgI _ _ _)
  refine z_zret (pc := 11) O dX4_readOne_11 (nar_z (by omega)) ?_
  exact ⟨z2, rfl, (by omega), ((FrX.rf b [(9, 8), (9, 9), (9, 2), (9, 3), (9, 4), (8, 99999), (0, 14)] σ).tr (frτ1.mono (V := [(9, 8), (9, 9), (9, 2), (9, 3), (9, 4), (8, 99999), (0, 14)]) rfl)), ivτ1_RdX, (by rw [show z2 = 0 by omega]; exact ⟨_, PR.deep (by decide), RtS.no rfl (flt_ne (by decide)) eτ1_0⟩)⟩
set_option maxHeartbeats 4000000 in
set_option maxRecDepth 20000 in
theorem k4_readBoth3_6 (l : Launch) (σ : VH) (b : Nat) (tk : Nat → Int) (pl : Nat → Int) (m : Nat) (j : Nat) (J : Lay σ) (R : RdS σ b tk pl m j) (hsr : SRw σ) (hs0 : 0 ≤ gI σ (b + 9) 4) : Ct l yX4_readBoth cX4_readBoth 4 (some .boolean) 3 0 0 [.ref (b + 9), .int (iz 6)] σ (fun r τ => ∃ z : Int, r = some (.int (iz z)) ∧ (z = 0 ∨ z = 1) ∧ (FrX b [(9, 8), (9, 9), (9, 2), (9, 3), (9, 4), (8, 99999), (0, 14)] σ τ) ∧ (RdX τ b) ∧ (BtE τ b tk pl m z 6 j (gI σ (b + 9) 4) 0)) := by
  refine Ct.enter rfl (Nat.le_of_ble_eq_true rfl) ?_
  intro κ γ hκ O hrc hrs
  subst hκ
  have hX := R.1
  have hR0 := hX.1.1
  have hR4 := hX.2.2.2.1
  have hR5 := hX.2.2.2.2
  have hR6 := hX.1.2.2.2.2.1
  have hR7 := hX.1.2.2.2.2.2.1
  have hT := R.2.1
  have hct := R.2.1.2.2.1
  have hat := R.2.2.1
  have hcur := R.2.2.2.1
  have hfl := R.2.2.2.2
  refine z_aload_n (pc := 0) O dX4_readBoth_0 rfl ?_
  refine z_iload_n (pc := 1) O dX4_readBoth_1 rfl ?_
  refine z_callV (pc := 2) O cl_X4_151 (k4_readOne3_6 _ _ b tk pl m j J R hsr (by have q4 := (gI_iz (izg σ (b + 9) 4) (rgI _ _ _) : gI σ (b + 9) 4 = gI σ (b + 9) 4); omega)) (by decide) (hX).2.1 kc_4 rfl rfl (Nat.le_of_ble_eq_true rfl) ⟨Nat.zero_le _, Nat.zero_le _⟩ dX4_readBoth_2 (fun r τ1 hp => ?_)
  obtain ⟨z2, rfl, fτ1_0, frτ1, ivτ1_RdX, eτ1_0⟩ := hp
  have := (ivτ1_RdX).2.2.2.1
  have := (ivτ1_RdX).2.2.2.2
  have := (ivτ1_RdX).1.2.2.2.2.1
  have := (ivτ1_RdX).1.2.2.2.2.2.1
  have : gI τ1 4 2 = gI σ 4 2 := gI_iz (FrD.it frτ1.1 (by omega) (izg σ 4 2)) (rgI _ _ _)
  obtain ⟨rτ1, prτ1, rtτ1⟩ := eτ1_0
  refine z_istore_n (pc := 5) [(0, .ref (b + 9)), (1, .int (iz 6)), (2, .int (iz z2))] O dX4_readBoth_5 (by decide) rfl ?_
  refine z_iconst (pc := 6) (v := iz (0)) O dX4_readBoth_6 (by decide) ?_
  refine z_istore_n (pc := 7) [(0, .ref (b + 9)), (1, .int (iz 6)), (2, .int (iz z2)), (3, .int (iz 0))] O dX4_readBoth_7 (by decide) rfl ?_
  have cut8 : ∀ (mu8 : Nat) (gd : Int) (k : Int) (ρ8 : VH), (mu8 = (60 - k).toNat) → (-2147483648 ≤ gd ∧ gd < 2147483648) → (-2147483648 ≤ k ∧ k < 2147483648) → ((gd = 0 ∨ gd = 1) ∧ 0 ≤ k ∧ k ≤ 60) → (BtI ρ8 b tk pl m gd 6 j (gI σ (b + 9) 4) k) → (FrX b [(9, 8), (9, 9), (9, 2), (9, 3), (9, 4), (8, 99999), (0, 14)] τ1 ρ8) → (RdX ρ8 b) → Z κ γ 4 ρ8 0 0 (QM κ γ (fun r τ => ∃ z : Int, r = some (.int (iz z)) ∧ (z = 0 ∨ z = 1) ∧ (FrX b [(9, 8), (9, 9), (9, 2), (9, 3), (9, 4), (8, 99999), (0, 14)] σ τ) ∧ (RdX τ b) ∧ (BtE τ b tk pl m z 6 j (gI σ (b + 9) 4) 0)) 0 0) 8 [(0, .ref (b + 9)), (1, .int (iz 6)), (2, .int (iz gd)), (3, .int (iz k))] [] := by
    intro mu8
    induction mu8 using Nat.strongRecOn with
    | ind mu8 ih8 =>
    intro gd k ρ8 hmu8 rr8_0 rr8_1 ff8_0 ff8_1 frρ8 ivρ8_RdX
    have := (ivρ8_RdX).2.2.2.1
    have := (ivρ8_RdX).2.2.2.2
    have := (ivρ8_RdX).1.2.2.2.2.1
    have := (ivρ8_RdX).1.2.2.2.2.2.1
    have := rgI ρ8 (b + 9) 4
    refine z_iload_n (pc := 8) O dX4_readBoth_8 rfl ?_
    refine z_bipush (pc := 9) (v := iz (60)) O dX4_readBoth_9 (by decide) ?_
    refine zi_icmp_ge (pc := 11) (tgt := 54) O dX4_readBoth_11 (by decide) (by omega) (by decide) (fun h11 => ?_) (fun h11 => ?_)
    · refine z_iload_n (pc := 54) O dX4_readBoth_54 rfl ?_
      refine z_zret (pc := 55) O dX4_readBoth_55 (nar_z (by omega)) ?_
      exact ⟨gd, rfl, (by omega), (((FrX.rf b [(9, 8), (9, 9), (9, 2), (9, 3), (9, 4), (8, 99999), (0, 14)] σ).tr frτ1).tr frρ8), ivρ8_RdX, (BtI.out ff8_1 (by omega) (by omega))⟩
    · refine z_iload_n (pc := 14) O dX4_readBoth_14 rfl ?_
      refine zi_if_eq (pc := 15) (tgt := 54) O dX4_readBoth_15 (by decide) (by omega) (fun h15 => ?_) (fun h15 => ?_)
      · refine z_iload_n (pc := 54) O dX4_readBoth_54 rfl ?_
        refine z_zret (pc := 55) O dX4_readBoth_55 (nar_z (by omega)) ?_
        exact ⟨gd, rfl, (by omega), (((FrX.rf b [(9, 8), (9, 9), (9, 2), (9, 3), (9, 4), (8, 99999), (0, 14)] σ).tr frτ1).tr frρ8), ivρ8_RdX, (BtI.out ff8_1 (by omega) (by omega))⟩
      · obtain ⟨j1, rs1, ⟨hk8, hk9⟩, hold8⟩ := BtI.is1 ff8_1 (by omega)
        have hcur1 := rs1.2.2.2.1
        refine z_aload_n (pc := 18) O dX4_readBoth_18 rfl ?_
        refine zi_getLv (pc := 19) (hL ρ8 (b + 9) 3) O fl_X4_29 rfl (ivρ8_RdX).2.1 rfl dX4_readBoth_19 ?_
        refine z_ldc2 (pc := 22) O tw_445 dX4_readBoth_22 ?_
        refine z_lcmp (pc := 25) O dX4_readBoth_25 ?_
        refine zi_lci_ne (pc := 26) (tgt := 54) (6385252) O dX4_readBoth_26 (by decide) (by decide) (fun h26 => ?_) (fun h26 => ?_)
        · refine z_iload_n (pc := 54) O dX4_readBoth_54 rfl ?_
          refine z_zret (pc := 55) O dX4_readBoth_55 (nar_z (by omega)) ?_
          exact ⟨gd, rfl, (by omega), (((FrX.rf b [(9, 8), (9, 9), (9, 2), (9, 3), (9, 4), (8, 99999), (0, 14)] σ).tr frτ1).tr frρ8), ivρ8_RdX, (BtI.out ff8_1 (by omega) (by omega))⟩
        · refine z_aload_n (pc := 29) O dX4_readBoth_29 rfl ?_
          refine z_callV (pc := 30) O cl_X4_68 (k4_advance3 _ _ b tk pl m j1 (frρ8.lay (frτ1.lay J)) rs1) (by decide) (ivρ8_RdX).2.1 kc_4 rfl rfl (Nat.le_of_ble_eq_true rfl) ⟨Nat.zero_le _, Nat.zero_le _⟩ dX4_readBoth_30 (fun r τ3 hp => ?_)
          obtain ⟨rfl, frτ3, ivτ3_RdX, eτ3_0⟩ := hp
          have := (ivτ3_RdX).2.2.2.1
          have := (ivτ3_RdX).2.2.2.2
          have := (ivτ3_RdX).1.2.2.2.2.1
          have := (ivτ3_RdX).1.2.2.2.2.2.1
          have : gI τ3 4 2 = gI σ 4 2 := gI_iz (FrD.it frτ3.1 (by omega) (FrD.it frρ8.1 (by omega) (FrD.it frτ1.1 (by omega) (izg σ 4 2)))) (rgI _ _ _)
          refine z_aload_n (pc := 33) O dX4_readBoth_33 rfl ?_
          refine z_iload_n (pc := 34) O dX4_readBoth_34 rfl ?_
          refine z_callV (pc := 35) O cl_X4_151 (k4_readOne3_6 _ _ b tk pl m (adv m j1) (frτ3.lay (frρ8.lay (frτ1.lay J))) eτ3_0 (SRw.fr hsr ((((FrX.rf b [(0, 99999), (1, 99999), (2, 99999), (3, 99999), (4, 99999), (5, 99999), (6, 99999), (7, 99999), (8, 99999), (9, 99999)] σ).tr (frτ1.mono (V := [(0, 99999), (1, 99999), (2, 99999), (3, 99999), (4, 99999), (5, 99999), (6, 99999), (7, 99999), (8, 99999), (9, 99999)]) rfl)).tr (frρ8.mono (V := [(0, 99999), (1, 99999), (2, 99999), (3, 99999), (4, 99999), (5, 99999), (6, 99999), (7, 99999), (8, 99999), (9, 99999)]) rfl)).tr (frτ3.mono (V := [(0, 99999), (1, 99999), (2, 99999), (3, 99999), (4, 99999), (5, 99999), (6, 99999), (7, 99999), (8, 99999), (9, 99999)]) rfl)) hR0) (by have q4 := (gI_iz (FrX.it 9 frτ3 rfl (izg ρ8 (b + 9) 4)) (rgI _ _ _) : gI τ3 (b + 9) 4 = gI ρ8 (b + 9) 4); omega)) (by decide) (ivτ3_RdX).2.1 kc_4 rfl rfl (Nat.le_of_ble_eq_true rfl) ⟨Nat.zero_le _, Nat.zero_le _⟩ dX4_readBoth_35 (fun r τ5 hp => ?_)
          obtain ⟨z6, rfl, fτ5_0, frτ5, ivτ5_RdX, eτ5_0⟩ := hp
          have := (ivτ5_RdX).2.2.2.1
          have := (ivτ5_RdX).2.2.2.2
          have := (ivτ5_RdX).1.2.2.2.2.1
          have := (ivτ5_RdX).1.2.2.2.2.2.1
          have : gI τ5 4 2 = gI σ 4 2 := gI_iz (FrD.it frτ5.1 (by omega) (FrD.it frτ3.1 (by omega) (FrD.it frρ8.1 (by omega) (FrD.it frτ1.1 (by omega) (izg σ 4 2))))) (rgI _ _ _)
          obtain ⟨rτ5, prτ5, rtτ5⟩ := eτ5_0
          rw [(gI_iz (FrX.it 9 frτ3 rfl (izg ρ8 (b + 9) 4)) (rgI _ _ _) : gI τ3 (b + 9) 4 = gI ρ8 (b + 9) 4)] at prτ5
          refine z_istore_n (pc := 38) [(0, .ref (b + 9)), (1, .int (iz 6)), (2, .int (iz z6)), (3, .int (iz k))] O dX4_readBoth_38 (by decide) rfl ?_
          refine z_aload_n (pc := 39) O dX4_readBoth_39 rfl ?_
          refine z_getR (pc := 40) b O fl_X4_19 rfl (ivτ5_RdX).2.1 (ivτ5_RdX).2.2.1.2 dX4_readBoth_40 ?_
          refine z_bipush (pc := 43) (v := iz (-12)) O dX4_readBoth_43 (by decide) ?_
          refine z_callV (pc := 45) O cl_X4_147 (k1_addStep3 _ _ b (-12) (by decide) (frτ5.lay (frτ3.lay (frρ8.lay (frτ1.lay J)))) ivτ5_RdX) (by decide) (ivτ5_RdX).1.2.1 kc_1 rfl rfl (Nat.le_of_ble_eq_true rfl) ⟨Nat.zero_le _, Nat.zero_le _⟩ dX4_readBoth_45 (fun r τ7 hp => ?_)
          obtain ⟨rfl, frτ7, ivτ7_RdX⟩ := hp
          have := (ivτ7_RdX).2.2.2.1
          have := (ivτ7_RdX).2.2.2.2
          have := (ivτ7_RdX).1.2.2.2.2.1
          have := (ivτ7_RdX).1.2.2.2.2.2.1
          have : gI τ7 4 2 = gI σ 4 2 := gI_iz (FrD.it frτ7.1 (by omega) (FrD.it frτ5.1 (by omega) (FrD.it frτ3.1 (by omega) (FrD.it frρ8.1 (by omega) (FrD.it frτ1.1 (by omega) (izg σ 4 2)))))) (rgI _ _ _)
          refine zi_iinc (pc := 48) (k + 1) [(0, .ref (b + 9)), (1, .int (iz 6)), (2, .int (iz z6)), (3, .int (iz (k + 1)))] O dX4_readBoth_48 rfl (by omega) (by decide) rfl ?_
          refine z_goto (pc := 51) (tgt := 8) O dX4_readBoth_51 (by decide) ?_
          refine z_lk [(0, .ref (b + 9)), (1, .int (iz 6)), (2, .int (iz z6)), (3, .int (iz (k + 1)))] ⟨rfl, rfl, rfl, rfl, trivial⟩ ?_
          exact ih8 _ (by omega) z6 (k + 1) τ7 rfl (by omega) (by omega) (by omega) (BtI.fr (BtI.step hk8 hold8 (by omega) prτ5 rtτ5) frτ7 ivτ7_RdX rfl) (((((FrX.rf b [(9, 8), (9, 9), (9, 2), (9, 3), (9, 4), (8, 99999), (0, 14)] τ1).tr frρ8).tr (frτ3.mono (V := [(9, 8), (9, 9), (9, 2), (9, 3), (9, 4), (8, 99999), (0, 14)]) rfl)).tr frτ5).tr (frτ7.mono (V := [(9, 8), (9, 9), (9, 2), (9, 3), (9, 4), (8, 99999), (0, 14)]) rfl)) ivτ7_RdX
  refine z_lk [(0, .ref (b + 9)), (1, .int (iz 6)), (2, .int (iz z2)), (3, .int (iz 0))] ⟨rfl, rfl, rfl, rfl, trivial⟩ ?_
  exact cut8 _ z2 0 τ1 rfl (by omega) (by omega) (by omega) (BtI.start prτ1 rtτ1) (FrX.rf b [(9, 8), (9, 9), (9, 2), (9, 3), (9, 4), (8, 99999), (0, 14)] τ1) ivτ1_RdX
set_option maxHeartbeats 4000000 in
set_option maxRecDepth 20000 in
theorem k4_readEither3_6 (l : Launch) (σ : VH) (b : Nat) (tk : Nat → Int) (pl : Nat → Int) (m : Nat) (j : Nat) (J : Lay σ) (R : RdS σ b tk pl m j) (hsr : SRw σ) (hs0 : 0 ≤ gI σ (b + 9) 4) : Ct l yX4_readEither cX4_readEither 4 (some .boolean) 4 0 0 [.ref (b + 9), .int (iz 6)] σ (fun r τ => ∃ z : Int, r = some (.int (iz z)) ∧ (z = 0 ∨ z = 1) ∧ (FrX b [(9, 8), (9, 9), (9, 2), (9, 3), (9, 4), (8, 99999), (0, 14)] σ τ) ∧ (RdX τ b) ∧ (∃ r : Rs, PR tk m 2 6 j (gI σ (b + 9) 4) r ∧ RtS τ b tk pl m z r)) := by
  refine Ct.enter rfl (Nat.le_of_ble_eq_true rfl) ?_
  intro κ γ hκ O hrc hrs
  subst hκ
  have hX := R.1
  have hR0 := hX.1.1
  have hR4 := hX.2.2.2.1
  have hR5 := hX.2.2.2.2
  have hR6 := hX.1.2.2.2.2.1
  have hR7 := hX.1.2.2.2.2.2.1
  have hT := R.2.1
  have hct := R.2.1.2.2.1
  have hat := R.2.2.1
  have hcur := R.2.2.2.1
  have hfl := R.2.2.2.2
  refine z_iload_n (pc := 0) O dX4_readEither_0 rfl ?_
  refine z_bipush (pc := 1) (v := iz (6)) O dX4_readEither_1 (by decide) ?_
  refine zi_icmp_lt (pc := 3) (tgt := 12) O dX4_readEither_3 (by decide) (by decide) (by decide) (fun hh => absurd hh (by decide)) (fun _ => ?_)
  refine z_aload_n (pc := 6) O dX4_readEither_6 rfl ?_
  refine z_iconst (pc := 7) (v := iz (2)) O dX4_readEither_7 (by decide) ?_
  refine z_callV (pc := 8) O cl_X4_59 (k4_refuse3 _ _ b 2 (by decide) tk pl m j J R) (by decide) (hX).2.1 kc_4 rfl rfl (Nat.le_of_ble_eq_true rfl) ⟨Nat.zero_le _, Nat.zero_le _⟩ dX4_readEither_8 (fun r τ1 hp => ?_)
  obtain ⟨z2, rfl, fτ1_0, fτ1_1, frτ1, ivτ1_RdX, eτ1_0⟩ := hp
  have := (ivτ1_RdX).2.2.2.1
  have := (ivτ1_RdX).2.2.2.2
  have := (ivτ1_RdX).1.2.2.2.2.1
  have := (ivτ1_RdX).1.2.2.2.2.2.1
  have : gI τ1 4 2 = gI σ 4 2 := gI_iz (FrD.it frτ1.1 (by omega) (izg σ 4 2)) (rgI _ _ _)
  refine z_zret (pc := 11) O dX4_readEither_11 (nar_z (by omega)) ?_
  exact ⟨z2, rfl, (by omega), ((FrX.rf b [(9, 8), (9, 9), (9, 2), (9, 3), (9, 4), (8, 99999), (0, 14)] σ).tr (frτ1.mono (V := [(9, 8), (9, 9), (9, 2), (9, 3), (9, 4), (8, 99999), (0, 14)]) rfl)), ivτ1_RdX, (by rw [show z2 = 0 by omega]; exact ⟨_, PR.bad (PR.deep (by decide)) (flt_ne (by decide)), RtS.no rfl (flt_ne (by decide)) eτ1_0⟩)⟩
