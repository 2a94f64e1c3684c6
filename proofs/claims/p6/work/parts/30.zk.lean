set_option maxHeartbeats 4000000 in
set_option maxRecDepth 20000 in
theorem k4_readOperand3 (l : Launch) (σ : VH) (b : Nat) (tk : Nat → Int) (pl : Nat → Int) (m : Nat) (j : Nat) (J : Lay σ) (R : RdS σ b tk pl m j) (hsr : SRw σ) : Ct l yX4_readOperand cX4_readOperand 2 (some .boolean) 1 0 0 [.ref (b + 9)] σ (fun r τ => ∃ z : Int, r = some (.int (iz z)) ∧ (z = 0 ∨ z = 1) ∧ (FrX b [(9, 8), (9, 9), (9, 2), (9, 3), (9, 4), (8, 99999), (0, 14)] σ τ) ∧ (RdX τ b) ∧ (RtS τ b tk pl m z (pOp tk m j (gI σ (b + 9) 4)))) := by
  refine Ct.enter rfl (Nat.le_of_ble_eq_true rfl) ?_
  intro κ γ hκ O hrc hrs
  subst hκ
  have hX := R.1
  have hR0 := hX.1.1
  have hR4 := hX.2.2.2.1
  have hR5 := hX.2.2.2.2
  have hR6 := hX.1.2.2.2.2.1
  have hR7 := hX.1.2.2.2.2.2.1
  have hT := R.2.1
  have hct := R.2.1.2.2.1
  have hat := R.2.2.1
  have hcur := R.2.2.2.1
  have hfl := R.2.2.2.2
  refine z_getsF (pc := 0) O dX4_readOperand_0 ?_
  refine z_aload_n (pc := 3) O dX4_readOperand_3 rfl ?_
  refine zi_getLv (pc := 4) (hL σ (b + 9) 3) O fl_X4_29 rfl (hX).2.1 rfl dX4_readOperand_4 ?_
  refine z_callSN (pc := 7) O cl_X4_78 (k8_placeIn3 _ _ 1 (hL σ (b + 9) 3) 7 (Or.inr (Or.inr ⟨rfl, rfl⟩)) (by decide)) (by decide) rfl rfl (Nat.le_of_ble_eq_true rfl) ⟨Nat.zero_le _, Nat.zero_le _⟩ dX4_readOperand_7 (fun r τ1 hp => ?_)
  obtain ⟨z2, rfl, fτ1_0, fτ1_1, rfl⟩ := hp
  have hfw : z2 = -1 ↔ ¬ Fw (tk j) := fwp hsr hcur fτ1_1
  refine z_istore_n (pc := 10) [(0, .ref (b + 9)), (1, .int (iz z2))] O dX4_readOperand_10 (by decide) rfl ?_
  refine z_aload_n (pc := 11) O dX4_readOperand_11 rfl ?_
  refine zi_getLv (pc := 12) (hL σ (b + 9) 3) O fl_X4_29 rfl (hX).2.1 rfl dX4_readOperand_12 ?_
  refine z_lconst (pc := 15) (v := 0) O dX4_readOperand_15 (by decide) ?_
  refine z_lcmp (pc := 16) O dX4_readOperand_16 ?_
  refine zi_lci_lt (pc := 17) (tgt := 25) (0) O dX4_readOperand_17 (by decide) (by decide) (fun h17 => ?_) (fun h17 => ?_)
  · refine z_aload_n (pc := 25) O dX4_readOperand_25 rfl ?_
    refine zi_getv (pc := 26) (gI σ (b + 9) 4) O fl_X4_171 rfl (hX).2.1 (izg σ (b + 9) 4) dX4_readOperand_26 ?_
    have := rgI σ (b + 9) 4
    refine z_bipush (pc := 29) (v := iz (60)) O dX4_readOperand_29 (by decide) ?_
    refine zi_icmp_lt (pc := 31) (tgt := 40) O dX4_readOperand_31 (by decide) (by omega) (by decide) (fun h31 => ?_) (fun h31 => ?_)
    · have cut68 : ∀ (stp9 : Int), (-2147483648 ≤ stp9 ∧ stp9 < 2147483648) → Z κ γ 2 σ 0 0 (QM κ γ (fun r τ => ∃ z : Int, r = some (.int (iz z)) ∧ (z = 0 ∨ z = 1) ∧ (FrX b [(9, 8), (9, 9), (9, 2), (9, 3), (9, 4), (8, 99999), (0, 14)] σ τ) ∧ (RdX τ b) ∧ (RtS τ b tk pl m z (pOp tk m j (gI σ (b + 9) 4)))) 0 0) 68 [(0, .ref (b + 9)), (1, .int (iz z2))] [.int (iz stp9), .ref b] := by
        intro stp9 rr68_0
        refine z_callV (pc := 68) O cl_X4_147 (k1_addStep3 _ _ b stp9 (by omega) J hX) (by decide) (hX).1.2.1 kc_1 rfl rfl (Nat.le_of_ble_eq_true rfl) ⟨Nat.zero_le _, Nat.zero_le _⟩ dX4_readOperand_68 (fun r τ3 hp => ?_)
        obtain ⟨rfl, frτ3, ivτ3_RdX⟩ := hp
        have := (ivτ3_RdX).2.2.2.1
        have := (ivτ3_RdX).2.2.2.2
        have := (ivτ3_RdX).1.2.2.2.2.1
        have := (ivτ3_RdX).1.2.2.2.2.2.1
        have : gI τ3 4 2 = gI σ 4 2 := gI_iz (FrD.it frτ3.1 (by omega) (izg σ 4 2)) (rgI _ _ _)
        refine z_aload_n (pc := 71) O dX4_readOperand_71 rfl ?_
        refine z_dup (pc := 72) O dX4_readOperand_72 rfl ?_
        refine zi_getv (pc := 73) (gI σ (b + 9) 4) O fl_X4_171 rfl (ivτ3_RdX).2.1 (FrX.it 9 frτ3 rfl (izg σ (b + 9) 4)) dX4_readOperand_73 ?_
        refine z_iconst (pc := 76) (v := iz (1)) O dX4_readOperand_76 (by decide) ?_
        refine zi_iadd (pc := 77) O dX4_readOperand_77 ?_
        refine z_putI (pc := 78) O fl_X4_171 rfl ⟨rfl, rfl⟩ (ivτ3_RdX).2.1 dX4_readOperand_78 ?_
        refine z_aload_n (pc := 81) O dX4_readOperand_81 rfl ?_
        refine z_callV (pc := 82) O cl_X4_68 (k4_advance3 _ _ b tk pl m j (frτ3.lay J) (RdS.fr (RdS.fr R frτ3 ivτ3_RdX rfl rfl rfl rfl) (FrX.pI 9 (FrX.rf b [(9, 4)] τ3) (by decide) rfl) (RdX.up ivτ3_RdX (τ := (sI τ3 (b + 9) 4 (iz ((gI σ (b + 9) 4) + 1)))) ((FrD.rf b τ3).pI (by omega)) (by have : gI (sI τ3 (b + 9) 4 (iz ((gI σ (b + 9) 4) + 1))) (b + 9) 2 = gI τ3 (b + 9) 2 := gI_iz (sk2t (by decide) (izg τ3 (b + 9) 2)) (rgI _ _ _); omega) (by have : gI (sI τ3 (b + 9) 4 (iz ((gI σ (b + 9) 4) + 1))) b 14 = gI τ3 b 14 := gI_iz (sk1t (by omega) (izg τ3 b 14)) (rgI _ _ _); omega) (by have : gI (sI τ3 (b + 9) 4 (iz ((gI σ (b + 9) 4) + 1))) b 3 = gI τ3 b 3 := gI_iz (sk1t (by omega) (izg τ3 b 3)) (rgI _ _ _); omega) (by have : gI (sI τ3 (b + 9) 4 (iz ((gI σ (b + 9) 4) + 1))) b 4 = gI τ3 b 4 := gI_iz (sk1t (by omega) (izg τ3 b 4)) (rgI _ _ _); omega) (fun w hw => by rw [show gI (sI τ3 (b + 9) 4 (iz ((gI σ (b + 9) 4) + 1))) (b + 6) w = gI τ3 (b + 6) w from gI_eq (sk1t (by omega) rfl)]; exact (ivτ3_RdX).1.2.2.2.2.2.2 w hw)) rfl rfl rfl rfl)) (by decide) (ivτ3_RdX).2.1 kc_4 rfl rfl (Nat.le_of_ble_eq_true rfl) ⟨Nat.zero_le _, Nat.zero_le _⟩ dX4_readOperand_82 (fun r τ5 hp => ?_)
        obtain ⟨rfl, frτ5, ivτ5_RdX, eτ5_0⟩ := hp
        have := (ivτ5_RdX).2.2.2.1
        have := (ivτ5_RdX).2.2.2.2
        have := (ivτ5_RdX).1.2.2.2.2.1
        have := (ivτ5_RdX).1.2.2.2.2.2.1
        have : gI τ5 4 2 = gI σ 4 2 := gI_iz (FrD.it frτ5.1 (by omega) (sk1t (by omega) (FrD.it frτ3.1 (by omega) (izg σ 4 2)))) (rgI _ _ _)
        refine z_iconst (pc := 85) (v := iz (1)) O dX4_readOperand_85 (by decide) ?_
        refine z_zret (pc := 86) O dX4_readOperand_86 rfl ?_
        exact ⟨1, rfl, (by decide), ((FrX.pI 9 ((FrX.rf b [(9, 8), (9, 9), (9, 2), (9, 3), (9, 4), (8, 99999), (0, 14)] σ).tr (frτ3.mono (V := [(9, 8), (9, 9), (9, 2), (9, 3), (9, 4), (8, 99999), (0, 14)]) rfl)) (by decide) rfl).tr (frτ5.mono (V := [(9, 8), (9, 9), (9, 2), (9, 3), (9, 4), (8, 99999), (0, 14)]) rfl)), ivτ5_RdX, (RtS.ok (cif_neg (fun h9 => h9.elim (fun q => by have q1 := q.1; first | (exfalso; omega) | exact absurd (hfw.mpr q.2) (by omega)) (fun q => by omega))) eτ5_0 (by have q4 := (gI_iz (FrX.it 9 frτ5 rfl (hI_at _ _ _ _)) (by omega) : gI τ5 (b + 9) 4 = (gI σ (b + 9) 4) + 1); omega))⟩
      refine z_aload_n (pc := 40) O dX4_readOperand_40 rfl ?_
      refine z_getR (pc := 41) b O fl_X4_19 rfl (hX).2.1 (hX).2.2.1.2 dX4_readOperand_41 ?_
      refine z_aload_n (pc := 44) O dX4_readOperand_44 rfl ?_
      refine zi_getLv (pc := 45) (hL σ (b + 9) 3) O fl_X4_29 rfl (hX).2.1 rfl dX4_readOperand_45 ?_
      refine z_lconst (pc := 48) (v := 0) O dX4_readOperand_48 (by decide) ?_
      refine z_lcmp (pc := 49) O dX4_readOperand_49 ?_
      refine zi_lci_ge (pc := 50) (tgt := 65) (0) O dX4_readOperand_50 (by decide) (by decide) (fun h50 => ?_) (fun h50 => ?_)
      · refine z_iconst (pc := 65) (v := iz (-1)) O dX4_readOperand_65 (by decide) ?_
        refine z_iload_n (pc := 66) O dX4_readOperand_66 rfl ?_
        refine zi_isub (pc := 67) O dX4_readOperand_67 ?_
        refine z_lk [(0, .ref (b + 9)), (1, .int (iz z2))] ⟨rfl, rfl, trivial⟩ ?_
        exact cut68 ((-1) - z2) (by omega)
      · refine z_aload_n (pc := 53) O dX4_readOperand_53 rfl ?_
        refine zi_getLv (pc := 54) (hL σ (b + 9) 3) O fl_X4_29 rfl (hX).2.1 rfl dX4_readOperand_54 ?_
        refine z_ldc2 (pc := 57) O tw_399 dX4_readOperand_57 ?_
        refine z_lxor (pc := 60) O dX4_readOperand_60 ?_
        refine z_topl (pc := 61) (fun w7 ew7 => ?_)
        refine z_l2i (pc := 61) O dX4_readOperand_61 ?_
        refine zi_any (fun z8 rz8 ez8 => ?_)
        refine z_goto (pc := 62) (tgt := 68) O dX4_readOperand_62 (by decide) ?_
        refine z_lk [(0, .ref (b + 9)), (1, .int (iz z2))] ⟨rfl, rfl, trivial⟩ ?_
        exact cut68 z8 (by omega)
    · refine z_aload_n (pc := 34) O dX4_readOperand_34 rfl ?_
      refine z_iconst (pc := 35) (v := iz (2)) O dX4_readOperand_35 (by decide) ?_
      refine z_callV (pc := 36) O cl_X4_59 (k4_refuse3 _ _ b 2 (by decide) tk pl m j J R) (by decide) (hX).2.1 kc_4 rfl rfl (Nat.le_of_ble_eq_true rfl) ⟨Nat.zero_le _, Nat.zero_le _⟩ dX4_readOperand_36 (fun r τ9 hp => ?_)
      obtain ⟨z10, rfl, fτ9_0, fτ9_1, frτ9, ivτ9_RdX, eτ9_0⟩ := hp
      have := (ivτ9_RdX).2.2.2.1
      have := (ivτ9_RdX).2.2.2.2
      have := (ivτ9_RdX).1.2.2.2.2.1
      have := (ivτ9_RdX).1.2.2.2.2.2.1
      have : gI τ9 4 2 = gI σ 4 2 := gI_iz (FrD.it frτ9.1 (by omega) (izg σ 4 2)) (rgI _ _ _)
      refine z_zret (pc := 39) O dX4_readOperand_39 (nar_z (by omega)) ?_
      exact ⟨z10, rfl, (by omega), ((FrX.rf b [(9, 8), (9, 9), (9, 2), (9, 3), (9, 4), (8, 99999), (0, 14)] σ).tr (frτ9.mono (V := [(9, 8), (9, 9), (9, 2), (9, 3), (9, 4), (8, 99999), (0, 14)]) rfl)), ivτ9_RdX, (by rw [show z10 = 0 by omega]; exact RtS.no (cif_pos (by first | exact Or.inr (by omega) | exact Or.inl ⟨by omega, hfw.mp (by omega)⟩)) (flt_ne (by decide)) eτ9_0)⟩
  · refine z_iload_n (pc := 20) O dX4_readOperand_20 rfl ?_
    refine z_iconst (pc := 21) (v := iz (-1)) O dX4_readOperand_21 (by decide) ?_
    refine zi_icmp_eq (pc := 22) (tgt := 34) O dX4_readOperand_22 (by decide) (by omega) (by decide) (fun h22 => ?_) (fun h22 => ?_)
    · refine z_aload_n (pc := 34) O dX4_readOperand_34 rfl ?_
      refine z_iconst (pc := 35) (v := iz (2)) O dX4_readOperand_35 (by decide) ?_
      refine z_callV (pc := 36) O cl_X4_59 (k4_refuse3 _ _ b 2 (by decide) tk pl m j J R) (by decide) (hX).2.1 kc_4 rfl rfl (Nat.le_of_ble_eq_true rfl) ⟨Nat.zero_le _, Nat.zero_le _⟩ dX4_readOperand_36 (fun r τ11 hp => ?_)
      obtain ⟨z12, rfl, fτ11_0, fτ11_1, frτ11, ivτ11_RdX, eτ11_0⟩ := hp
      have := (ivτ11_RdX).2.2.2.1
      have := (ivτ11_RdX).2.2.2.2
      have := (ivτ11_RdX).1.2.2.2.2.1
      have := (ivτ11_RdX).1.2.2.2.2.2.1
      have : gI τ11 4 2 = gI σ 4 2 := gI_iz (FrD.it frτ11.1 (by omega) (izg σ 4 2)) (rgI _ _ _)
      refine z_zret (pc := 39) O dX4_readOperand_39 (nar_z (by omega)) ?_
      exact ⟨z12, rfl, (by omega), ((FrX.rf b [(9, 8), (9, 9), (9, 2), (9, 3), (9, 4), (8, 99999), (0, 14)] σ).tr (frτ11.mono (V := [(9, 8), (9, 9), (9, 2), (9, 3), (9, 4), (8, 99999), (0, 14)]) rfl)), ivτ11_RdX, (by rw [show z12 = 0 by omega]; exact RtS.no (cif_pos (by first | exact Or.inr (by omega) | exact Or.inl ⟨by omega, hfw.mp (by omega)⟩)) (flt_ne (by decide)) eτ11_0)⟩
    · refine z_aload_n (pc := 25) O dX4_readOperand_25 rfl ?_
      refine zi_getv (pc := 26) (gI σ (b + 9) 4) O fl_X4_171 rfl (hX).2.1 (izg σ (b + 9) 4) dX4_readOperand_26 ?_
      have := rgI σ (b + 9) 4
      refine z_bipush (pc := 29) (v := iz (60)) O dX4_readOperand_29 (by decide) ?_
      refine zi_icmp_lt (pc := 31) (tgt := 40) O dX4_readOperand_31 (by decide) (by omega) (by decide) (fun h31 => ?_) (fun h31 => ?_)
      · have cut68 : ∀ (stp9 : Int), (-2147483648 ≤ stp9 ∧ stp9 < 2147483648) → Z κ γ 2 σ 0 0 (QM κ γ (fun r τ => ∃ z : Int, r = some (.int (iz z)) ∧ (z = 0 ∨ z = 1) ∧ (FrX b [(9, 8), (9, 9), (9, 2), (9, 3), (9, 4), (8, 99999), (0, 14)] σ τ) ∧ (RdX τ b) ∧ (RtS τ b tk pl m z (pOp tk m j (gI σ (b + 9) 4)))) 0 0) 68 [(0, .ref (b + 9)), (1, .int (iz z2))] [.int (iz stp9), .ref b] := by
          intro stp9 rr68_0
          refine z_callV (pc := 68) O cl_X4_147 (k1_addStep3 _ _ b stp9 (by omega) J hX) (by decide) (hX).1.2.1 kc_1 rfl rfl (Nat.le_of_ble_eq_true rfl) ⟨Nat.zero_le _, Nat.zero_le _⟩ dX4_readOperand_68 (fun r τ13 hp => ?_)
          obtain ⟨rfl, frτ13, ivτ13_RdX⟩ := hp
          have := (ivτ13_RdX).2.2.2.1
          have := (ivτ13_RdX).2.2.2.2
          have := (ivτ13_RdX).1.2.2.2.2.1
          have := (ivτ13_RdX).1.2.2.2.2.2.1
          have : gI τ13 4 2 = gI σ 4 2 := gI_iz (FrD.it frτ13.1 (by omega) (izg σ 4 2)) (rgI _ _ _)
          refine z_aload_n (pc := 71) O dX4_readOperand_71 rfl ?_
          refine z_dup (pc := 72) O dX4_readOperand_72 rfl ?_
          refine zi_getv (pc := 73) (gI σ (b + 9) 4) O fl_X4_171 rfl (ivτ13_RdX).2.1 (FrX.it 9 frτ13 rfl (izg σ (b + 9) 4)) dX4_readOperand_73 ?_
          refine z_iconst (pc := 76) (v := iz (1)) O dX4_readOperand_76 (by decide) ?_
          refine zi_iadd (pc := 77) O dX4_readOperand_77 ?_
          refine z_putI (pc := 78) O fl_X4_171 rfl ⟨rfl, rfl⟩ (ivτ13_RdX).2.1 dX4_readOperand_78 ?_
          refine z_aload_n (pc := 81) O dX4_readOperand_81 rfl ?_
          refine z_callV (pc := 82) O cl_X4_68 (k4_advance3 _ _ b tk pl m j (frτ13.lay J) (RdS.fr (RdS.fr R frτ13 ivτ13_RdX rfl rfl rfl rfl) (FrX.pI 9 (FrX.rf b [(9, 4)] τ13) (by decide) rfl) (RdX.up ivτ13_RdX (τ := (sI τ13 (b + 9) 4 (iz ((gI σ (b + 9) 4) + 1)))) ((FrD.rf b τ13).pI (by omega)) (by have : gI (sI τ13 (b + 9) 4 (iz ((gI σ (b + 9) 4) + 1))) (b + 9) 2 = gI τ13 (b + 9) 2 := gI_iz (sk2t (by decide) (izg τ13 (b + 9) 2)) (rgI _ _ _); omega) (by have : gI (sI τ13 (b + 9) 4 (iz ((gI σ (b + 9) 4) + 1))) b 14 = gI τ13 b 14 := gI_iz (sk1t (by omega) (izg τ13 b 14)) (rgI _ _ _); omega) (by have : gI (sI τ13 (b + 9) 4 (iz ((gI σ (b + 9) 4) + 1))) b 3 = gI τ13 b 3 := gI_iz (sk1t (by omega) (izg τ13 b 3)) (rgI _ _ _); omega) (by have : gI (sI τ13 (b + 9) 4 (iz ((gI σ (b + 9) 4) + 1))) b 4 = gI τ13 b 4 := gI_iz (sk1t (by omega) (izg τ13 b 4)) (rgI _ _ _); omega) (fun w hw => by rw [show gI (sI τ13 (b + 9) 4 (iz ((gI σ (b + 9) 4) + 1))) (b + 6) w = gI τ13 (b + 6) w from gI_eq (sk1t (by omega) rfl)]; exact (ivτ13_RdX).1.2.2.2.2.2.2 w hw)) rfl rfl rfl rfl)) (by decide) (ivτ13_RdX).2.1 kc_4 rfl rfl (Nat.le_of_ble_eq_true rfl) ⟨Nat.zero_le _, Nat.zero_le _⟩ dX4_readOperand_82 (fun r τ15 hp => ?_)
          obtain ⟨rfl, frτ15, ivτ15_RdX, eτ15_0⟩ := hp
          have := (ivτ15_RdX).2.2.2.1
          have := (ivτ15_RdX).2.2.2.2
          have := (ivτ15_RdX).1.2.2.2.2.1
          have := (ivτ15_RdX).1.2.2.2.2.2.1
          have : gI τ15 4 2 = gI σ 4 2 := gI_iz (FrD.it frτ15.1 (by omega) (sk1t (by omega) (FrD.it frτ13.1 (by omega) (izg σ 4 2)))) (rgI _ _ _)
          refine z_iconst (pc := 85) (v := iz (1)) O dX4_readOperand_85 (by decide) ?_
          refine z_zret (pc := 86) O dX4_readOperand_86 rfl ?_
          exact ⟨1, rfl, (by decide), ((FrX.pI 9 ((FrX.rf b [(9, 8), (9, 9), (9, 2), (9, 3), (9, 4), (8, 99999), (0, 14)] σ).tr (frτ13.mono (V := [(9, 8), (9, 9), (9, 2), (9, 3), (9, 4), (8, 99999), (0, 14)]) rfl)) (by decide) rfl).tr (frτ15.mono (V := [(9, 8), (9, 9), (9, 2), (9, 3), (9, 4), (8, 99999), (0, 14)]) rfl)), ivτ15_RdX, (RtS.ok (cif_neg (fun h9 => h9.elim (fun q => by have q1 := q.1; first | (exfalso; omega) | exact absurd (hfw.mpr q.2) (by omega)) (fun q => by omega))) eτ15_0 (by have q4 := (gI_iz (FrX.it 9 frτ15 rfl (hI_at _ _ _ _)) (by omega) : gI τ15 (b + 9) 4 = (gI σ (b + 9) 4) + 1); omega))⟩
        refine z_aload_n (pc := 40) O dX4_readOperand_40 rfl ?_
        refine z_getR (pc := 41) b O fl_X4_19 rfl (hX).2.1 (hX).2.2.1.2 dX4_readOperand_41 ?_
        refine z_aload_n (pc := 44) O dX4_readOperand_44 rfl ?_
        refine zi_getLv (pc := 45) (hL σ (b + 9) 3) O fl_X4_29 rfl (hX).2.1 rfl dX4_readOperand_45 ?_
        refine z_lconst (pc := 48) (v := 0) O dX4_readOperand_48 (by decide) ?_
        refine z_lcmp (pc := 49) O dX4_readOperand_49 ?_
        refine zi_lci_ge (pc := 50) (tgt := 65) (0) O dX4_readOperand_50 (by decide) (by decide) (fun h50 => ?_) (fun h50 => ?_)
        · refine z_iconst (pc := 65) (v := iz (-1)) O dX4_readOperand_65 (by decide) ?_
          refine z_iload_n (pc := 66) O dX4_readOperand_66 rfl ?_
          refine zi_isub (pc := 67) O dX4_readOperand_67 ?_
          refine z_lk [(0, .ref (b + 9)), (1, .int (iz z2))] ⟨rfl, rfl, trivial⟩ ?_
          exact cut68 ((-1) - z2) (by omega)
        · refine z_aload_n (pc := 53) O dX4_readOperand_53 rfl ?_
          refine zi_getLv (pc := 54) (hL σ (b + 9) 3) O fl_X4_29 rfl (hX).2.1 rfl dX4_readOperand_54 ?_
          refine z_ldc2 (pc := 57) O tw_399 dX4_readOperand_57 ?_
          refine z_lxor (pc := 60) O dX4_readOperand_60 ?_
          refine z_topl (pc := 61) (fun w17 ew17 => ?_)
          refine z_l2i (pc := 61) O dX4_readOperand_61 ?_
          refine zi_any (fun z18 rz18 ez18 => ?_)
          refine z_goto (pc := 62) (tgt := 68) O dX4_readOperand_62 (by decide) ?_
          refine z_lk [(0, .ref (b + 9)), (1, .int (iz z2))] ⟨rfl, rfl, trivial⟩ ?_
          exact cut68 z18 (by omega)
      · refine z_aload_n (pc := 34) O dX4_readOperand_34 rfl ?_
        refine z_iconst (pc := 35) (v := iz (2)) O dX4_readOperand_35 (by decide) ?_
        refine z_callV (pc := 36) O cl_X4_59 (k4_refuse3 _ _ b 2 (by decide) tk pl m j J R) (by decide) (hX).2.1 kc_4 rfl rfl (Nat.le_of_ble_eq_true rfl) ⟨Nat.zero_le _, Nat.zero_le _⟩ dX4_readOperand_36 (fun r τ19 hp => ?_)
        obtain ⟨z20, rfl, fτ19_0, fτ19_1, frτ19, ivτ19_RdX, eτ19_0⟩ := hp
        have := (ivτ19_RdX).2.2.2.1
        have := (ivτ19_RdX).2.2.2.2
        have := (ivτ19_RdX).1.2.2.2.2.1
        have := (ivτ19_RdX).1.2.2.2.2.2.1
        have : gI τ19 4 2 = gI σ 4 2 := gI_iz (FrD.it frτ19.1 (by omega) (izg σ 4 2)) (rgI _ _ _)
        refine z_zret (pc := 39) O dX4_readOperand_39 (nar_z (by omega)) ?_
        exact ⟨z20, rfl, (by omega), ((FrX.rf b [(9, 8), (9, 9), (9, 2), (9, 3), (9, 4), (8, 99999), (0, 14)] σ).tr (frτ19.mono (V := [(9, 8), (9, 9), (9, 2), (9, 3), (9, 4), (8, 99999), (0, 14)]) rfl)), ivτ19_RdX, (by rw [show z20 = 0 by omega]; exact RtS.no (cif_pos (by first | exact Or.inr (by omega) | exact Or.inl ⟨by omega, hfw.mp (by omega)⟩)) (flt_ne (by decide)) eτ19_0)⟩
