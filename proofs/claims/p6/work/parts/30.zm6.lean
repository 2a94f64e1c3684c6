set_option maxHeartbeats 4000000 in
set_option maxRecDepth 20000 in
theorem k4_readOne3_0 (l : Launch) (σ : VH) (b : Nat) (tk : Nat → Int) (pl : Nat → Int) (m : Nat) (j : Nat) (J : Lay σ) (R : RdS σ b tk pl m j) (hsr : SRw σ) (hs0 : 0 ≤ gI σ (b + 9) 4) : Ct l yX4_readOne cX4_readOne 4 (some .boolean) 20 0 0 [.ref (b + 9), .int (iz 0)] σ (fun r τ => ∃ z : Int, r = some (.int (iz z)) ∧ (z = 0 ∨ z = 1) ∧ (FrX b [(9, 8), (9, 9), (9, 2), (9, 3), (9, 4), (8, 99999), (0, 14)] σ τ) ∧ (RdX τ b) ∧ (∃ r : Rs, PR tk m 0 0 j (gI σ (b + 9) 4) r ∧ RtS τ b tk pl m z r)) := by
  refine Ct.enter rfl (Nat.le_of_ble_eq_true rfl) ?_
  intro κ γ hκ O hrc hrs
  subst hκ
  have hX := R.1
  have hR0 := hX.1.1
  have hR4 := hX.2.2.2.1
  have hR5 := hX.2.2.2.2
  have hR6 := hX.1.2.2.2.2.1
  have hR7 := hX.1.2.2.2.2.2.1
  have hT := R.2.1
  have hct := R.2.1.2.2.1
  have hat := R.2.2.1
  have hcur := R.2.2.2.1
  have hfl := R.2.2.2.2
  refine z_iload_n (pc := 0) O dX4_readOne_0 rfl ?_
  refine z_bipush (pc := 1) (v := iz (6)) O dX4_readOne_1 (by decide) ?_
  refine zi_icmp_lt (pc := 3) (tgt := 12) O dX4_readOne_3 (by decide) (by decide) (by decide) (fun _ => ?_) (fun hh => absurd hh (by decide))
  refine z_aload_n (pc := 12) O dX4_readOne_12 rfl ?_
  refine zi_getLv (pc := 13) (hL σ (b + 9) 3) O fl_X4_29 rfl (hX).2.1 rfl dX4_readOne_13 ?_
  refine z_ldc2 (pc := 16) O tw_426 dX4_readOne_16 ?_
  refine z_lcmp (pc := 19) O dX4_readOne_19 ?_
  refine zi_lci_ne (pc := 20) (tgt := 46) (7237492) O dX4_readOne_20 (by decide) (by decide) (fun h20 => ?_) (fun h20 => ?_)
  · refine z_aload_n (pc := 46) O dX4_readOne_46 rfl ?_
    refine zi_getLv (pc := 47) (hL σ (b + 9) 3) O fl_X4_29 rfl (hX).2.1 rfl dX4_readOne_47 ?_
    refine z_ldc2 (pc := 50) O tw_431 dX4_readOne_50 ?_
    refine z_lcmp (pc := 53) O dX4_readOne_53 ?_
    refine zi_lci_ne (pc := 54) (tgt := 87) (40) O dX4_readOne_54 (by decide) (by decide) (fun h54 => ?_) (fun h54 => ?_)
    · refine z_aload_n (pc := 87) O dX4_readOne_87 rfl ?_
      refine z_callV (pc := 88) O cl_X4_162 (k4_readOperand3 _ _ b tk pl m j J R hsr) (by decide) (hX).2.1 kc_4 rfl rfl (Nat.le_of_ble_eq_true rfl) ⟨Nat.zero_le _, Nat.zero_le _⟩ dX4_readOne_88 (fun r τ1 hp => ?_)
      obtain ⟨z2, rfl, fτ1_0, frτ1, ivτ1_RdX, eτ1_0⟩ := hp
      have := (ivτ1_RdX).2.2.2.1
      have := (ivτ1_RdX).2.2.2.2
      have := (ivτ1_RdX).1.2.2.2.2.1
      have := (ivτ1_RdX).1.2.2.2.2.2.1
      have : gI τ1 4 2 = gI σ 4 2 := gI_iz (FrD.it frτ1.1 (by omega) (izg σ 4 2)) (rgI _ _ _)
      refine zi_if_ne (pc := 91) (tgt := 96) O dX4_readOne_91 (by decide) (by omega) (fun h91 => ?_) (fun h91 => ?_)
      · have o1 := RtS.is1 eτ1_0 (by omega)
        have hcur1 := o1.2.1.2.2.2.1
        have ps1 := pOp_s o1.1
        refine z_aload_n (pc := 96) O dX4_readOne_96 rfl ?_
        refine zi_getLv (pc := 97) (hL τ1 (b + 9) 3) O fl_X4_29 rfl (ivτ1_RdX).2.1 rfl dX4_readOne_97 ?_
        refine z_callS (pc := 100) O cl_X4_165 (k4_comparisonOf3 _ _ (hL τ1 (b + 9) 3)) (by decide) rfl rfl (Nat.le_of_ble_eq_true rfl) ⟨Nat.zero_le _, Nat.zero_le _⟩ dX4_readOne_100 (fun r τ3 hp => ?_)
        obtain ⟨z4, rfl, fτ3_0, fτ3_1, rfl⟩ := hp
        refine z_istore_n (pc := 103) [(0, .ref (b + 9)), (1, .int (iz 0)), (2, .int (iz z4))] O dX4_readOne_103 (by decide) rfl ?_
        refine z_iload_n (pc := 104) O dX4_readOne_104 rfl ?_
        refine z_iconst (pc := 105) (v := iz (-1)) O dX4_readOne_105 (by decide) ?_
        refine zi_icmp_ne (pc := 106) (tgt := 111) O dX4_readOne_106 (by decide) (by omega) (by decide) (fun h106 => ?_) (fun h106 => ?_)
        · refine z_aload_n (pc := 111) O dX4_readOne_111 rfl ?_
          refine z_callV (pc := 112) O cl_X4_68 (k4_advance3 _ _ b tk pl m (pOp tk m j (gI σ (b + 9) 4)).2.1 (frτ1.lay J) (RtS.is1 eτ1_0 (by omega)).2.1) (by decide) (ivτ1_RdX).2.1 kc_4 rfl rfl (Nat.le_of_ble_eq_true rfl) ⟨Nat.zero_le _, Nat.zero_le _⟩ dX4_readOne_112 (fun r τ5 hp => ?_)
          obtain ⟨rfl, frτ5, ivτ5_RdX, eτ5_0⟩ := hp
          have := (ivτ5_RdX).2.2.2.1
          have := (ivτ5_RdX).2.2.2.2
          have := (ivτ5_RdX).1.2.2.2.2.1
          have := (ivτ5_RdX).1.2.2.2.2.2.1
          have : gI τ5 4 2 = gI σ 4 2 := gI_iz (FrD.it frτ5.1 (by omega) (FrD.it frτ1.1 (by omega) (izg σ 4 2))) (rgI _ _ _)
          refine z_aload_n (pc := 115) O dX4_readOne_115 rfl ?_
          refine z_callV (pc := 116) O cl_X4_162 (k4_readOperand3 _ _ b tk pl m (adv m (pOp tk m j (gI σ (b + 9) 4)).2.1) (frτ5.lay (frτ1.lay J)) eτ5_0 (SRw.fr hsr (((FrX.rf b [(0, 99999), (1, 99999), (2, 99999), (3, 99999), (4, 99999), (5, 99999), (6, 99999), (7, 99999), (8, 99999), (9, 99999)] σ).tr (frτ1.mono (V := [(0, 99999), (1, 99999), (2, 99999), (3, 99999), (4, 99999), (5, 99999), (6, 99999), (7, 99999), (8, 99999), (9, 99999)]) rfl)).tr (frτ5.mono (V := [(0, 99999), (1, 99999), (2, 99999), (3, 99999), (4, 99999), (5, 99999), (6, 99999), (7, 99999), (8, 99999), (9, 99999)]) rfl)) hR0)) (by decide) (ivτ5_RdX).2.1 kc_4 rfl rfl (Nat.le_of_ble_eq_true rfl) ⟨Nat.zero_le _, Nat.zero_le _⟩ dX4_readOne_116 (fun r τ7 hp => ?_)
          obtain ⟨z8, rfl, fτ7_0, frτ7, ivτ7_RdX, eτ7_0⟩ := hp
          have := (ivτ7_RdX).2.2.2.1
          have := (ivτ7_RdX).2.2.2.2
          have := (ivτ7_RdX).1.2.2.2.2.1
          have := (ivτ7_RdX).1.2.2.2.2.2.1
          have : gI τ7 4 2 = gI σ 4 2 := gI_iz (FrD.it frτ7.1 (by omega) (FrD.it frτ5.1 (by omega) (FrD.it frτ1.1 (by omega) (izg σ 4 2)))) (rgI _ _ _)
          refine z_istore_n (pc := 119) [(0, .ref (b + 9)), (1, .int (iz 0)), (2, .int (iz z4)), (3, .int (iz z8))] O dX4_readOne_119 (by decide) rfl ?_
          refine z_aload_n (pc := 120) O dX4_readOne_120 rfl ?_
          refine z_getR (pc := 121) b O fl_X4_19 rfl (ivτ7_RdX).2.1 (ivτ7_RdX).2.2.1.2 dX4_readOne_121 ?_
          refine z_iload_n (pc := 124) O dX4_readOne_124 rfl ?_
          refine z_callV (pc := 125) O cl_X4_147 (k1_addStep3 _ _ b z4 (by omega) (frτ7.lay (frτ5.lay (frτ1.lay J))) ivτ7_RdX) (by decide) (ivτ7_RdX).1.2.1 kc_1 rfl rfl (Nat.le_of_ble_eq_true rfl) ⟨Nat.zero_le _, Nat.zero_le _⟩ dX4_readOne_125 (fun r τ9 hp => ?_)
          obtain ⟨rfl, frτ9, ivτ9_RdX⟩ := hp
          have := (ivτ9_RdX).2.2.2.1
          have := (ivτ9_RdX).2.2.2.2
          have := (ivτ9_RdX).1.2.2.2.2.1
          have := (ivτ9_RdX).1.2.2.2.2.2.1
          have : gI τ9 4 2 = gI σ 4 2 := gI_iz (FrD.it frτ9.1 (by omega) (FrD.it frτ7.1 (by omega) (FrD.it frτ5.1 (by omega) (FrD.it frτ1.1 (by omega) (izg σ 4 2))))) (rgI _ _ _)
          refine z_iload_n (pc := 128) O dX4_readOne_128 rfl ?_
          refine z_zret (pc := 129) O dX4_readOne_129 (nar_z (by omega)) ?_
          rw [(gI_eq (FrX.it 9 frτ5 rfl rfl)).trans o1.2.2] at eτ7_0
          exact ⟨z8, rfl, (by omega), (((((FrX.rf b [(9, 8), (9, 9), (9, 2), (9, 3), (9, 4), (8, 99999), (0, 14)] σ).tr frτ1).tr (frτ5.mono (V := [(9, 8), (9, 9), (9, 2), (9, 3), (9, 4), (8, 99999), (0, 14)]) rfl)).tr frτ7).tr (frτ9.mono (V := [(9, 8), (9, 9), (9, 2), (9, 3), (9, 4), (8, 99999), (0, 14)]) rfl)), ivτ9_RdX, ⟨_, PR.opn (by decide) (by omega) (by omega), by rw [cif_pos o1.1, cif_pos (by omega)]; exact RtS.fr eτ7_0 frτ9 ivτ9_RdX rfl⟩⟩
        · refine z_iconst (pc := 109) (v := iz (1)) O dX4_readOne_109 (by decide) ?_
          refine z_zret (pc := 110) O dX4_readOne_110 rfl ?_
          exact ⟨1, rfl, (by decide), ((FrX.rf b [(9, 8), (9, 9), (9, 2), (9, 3), (9, 4), (8, 99999), (0, 14)] σ).tr frτ1), ivτ1_RdX, ⟨_, PR.opn (by decide) (by omega) (by omega), by rw [cif_pos o1.1, cif_neg (by omega)]; exact Or.inl ⟨rfl, o1.1, o1.2.1, o1.2.2⟩⟩⟩
      · refine z_iconst (pc := 94) (v := iz (0)) O dX4_readOne_94 (by decide) ?_
        refine z_zret (pc := 95) O dX4_readOne_95 rfl ?_
        have o0 := RtS.is0 eτ1_0 (by omega)
        exact ⟨0, rfl, (by decide), ((FrX.rf b [(9, 8), (9, 9), (9, 2), (9, 3), (9, 4), (8, 99999), (0, 14)] σ).tr frτ1), ivτ1_RdX, ⟨_, PR.opn (by decide) (by omega) (by omega), by rw [cif_neg o0.1]; exact Or.inr ⟨rfl, o0.1, o0.2⟩⟩⟩
    · refine z_aload_n (pc := 57) O dX4_readOne_57 rfl ?_
      refine z_callV (pc := 58) O cl_X4_68 (k4_advance3 _ _ b tk pl m j J R) (by decide) (hX).2.1 kc_4 rfl rfl (Nat.le_of_ble_eq_true rfl) ⟨Nat.zero_le _, Nat.zero_le _⟩ dX4_readOne_58 (fun r τ11 hp => ?_)
      obtain ⟨rfl, frτ11, ivτ11_RdX, eτ11_0⟩ := hp
      have := (ivτ11_RdX).2.2.2.1
      have := (ivτ11_RdX).2.2.2.2
      have := (ivτ11_RdX).1.2.2.2.2.1
      have := (ivτ11_RdX).1.2.2.2.2.2.1
      have : gI τ11 4 2 = gI σ 4 2 := gI_iz (FrD.it frτ11.1 (by omega) (izg σ 4 2)) (rgI _ _ _)
      refine z_aload_n (pc := 61) O dX4_readOne_61 rfl ?_
      refine z_iload_n (pc := 62) O dX4_readOne_62 rfl ?_
      refine z_iconst (pc := 63) (v := iz (1)) O dX4_readOne_63 (by decide) ?_
      refine zi_iadd (pc := 64) O dX4_readOne_64 ?_
      refine zi_val (1) rfl ?_
      refine z_callV (pc := 65) O cl_X4_99 (k4_readEither3_1 _ _ b tk pl m (adv m j) (frτ11.lay J) eτ11_0 (SRw.fr hsr ((FrX.rf b [(0, 99999), (1, 99999), (2, 99999), (3, 99999), (4, 99999), (5, 99999), (6, 99999), (7, 99999), (8, 99999), (9, 99999)] σ).tr (frτ11.mono (V := [(0, 99999), (1, 99999), (2, 99999), (3, 99999), (4, 99999), (5, 99999), (6, 99999), (7, 99999), (8, 99999), (9, 99999)]) rfl)) hR0) (by have q4 := (gI_iz (FrX.it 9 frτ11 rfl (izg σ (b + 9) 4)) (rgI _ _ _) : gI τ11 (b + 9) 4 = gI σ (b + 9) 4); omega)) (by decide) (ivτ11_RdX).2.1 kc_4 rfl rfl (Nat.le_of_ble_eq_true rfl) ⟨Nat.zero_le _, Nat.zero_le _⟩ dX4_readOne_65 (fun r τ13 hp => ?_)
      obtain ⟨z14, rfl, fτ13_0, frτ13, ivτ13_RdX, eτ13_0⟩ := hp
      have := (ivτ13_RdX).2.2.2.1
      have := (ivτ13_RdX).2.2.2.2
      have := (ivτ13_RdX).1.2.2.2.2.1
      have := (ivτ13_RdX).1.2.2.2.2.2.1
      have : gI τ13 4 2 = gI σ 4 2 := gI_iz (FrD.it frτ13.1 (by omega) (FrD.it frτ11.1 (by omega) (izg σ 4 2))) (rgI _ _ _)
      obtain ⟨rτ13, prτ13, rtτ13⟩ := eτ13_0
      rw [(gI_iz (FrX.it 9 frτ11 rfl (izg σ (b + 9) 4)) (rgI _ _ _) : gI τ11 (b + 9) 4 = gI σ (b + 9) 4)] at prτ13
      refine zi_if_eq (pc := 68) (tgt := 85) O dX4_readOne_68 (by decide) (by omega) (fun h68 => ?_) (fun h68 => ?_)
      · refine z_iconst (pc := 85) (v := iz (0)) O dX4_readOne_85 (by decide) ?_
        refine z_zret (pc := 86) O dX4_readOne_86 rfl ?_
        have i0 := RtS.is0 rtτ13 (by omega)
        exact ⟨0, rfl, (by decide), (((FrX.rf b [(9, 8), (9, 9), (9, 2), (9, 3), (9, 4), (8, 99999), (0, 14)] σ).tr (frτ11.mono (V := [(9, 8), (9, 9), (9, 2), (9, 3), (9, 4), (8, 99999), (0, 14)]) rfl)).tr frτ13), ivτ13_RdX, ⟨_, PR.opens (by decide) (by omega) prτ13, by rw [cif_neg i0.1]; exact Or.inr ⟨rfl, i0.1, i0.2⟩⟩⟩
      · refine z_aload_n (pc := 71) O dX4_readOne_71 rfl ?_
        refine z_ldc2 (pc := 72) O tw_432 dX4_readOne_72 ?_
        refine z_callV (pc := 75) O cl_X4_89 (k4_expect3 _ _ b 41 tk pl m rτ13.2.1 (frτ13.lay (frτ11.lay J)) (RtS.is1 rtτ13 (by omega)).2.1) (by decide) (ivτ13_RdX).2.1 kc_4 rfl rfl (Nat.le_of_ble_eq_true rfl) ⟨Nat.zero_le _, Nat.zero_le _⟩ dX4_readOne_75 (fun r τ15 hp => ?_)
        obtain ⟨z16, rfl, fτ15_0, frτ15, ivτ15_RdX, eτ15_0⟩ := hp
        have := (ivτ15_RdX).2.2.2.1
        have := (ivτ15_RdX).2.2.2.2
        have := (ivτ15_RdX).1.2.2.2.2.1
        have := (ivτ15_RdX).1.2.2.2.2.2.1
        have : gI τ15 4 2 = gI σ 4 2 := gI_iz (FrD.it frτ15.1 (by omega) (FrD.it frτ13.1 (by omega) (FrD.it frτ11.1 (by omega) (izg σ 4 2)))) (rgI _ _ _)
        rw [show (41 : Int64).toInt = 41 by decide] at eτ15_0
        refine zi_if_eq (pc := 78) (tgt := 85) O dX4_readOne_78 (by decide) (by omega) (fun h78 => ?_) (fun h78 => ?_)
        · refine z_iconst (pc := 85) (v := iz (0)) O dX4_readOne_85 (by decide) ?_
          refine z_zret (pc := 86) O dX4_readOne_86 rfl ?_
          have i1 := RtS.is1 rtτ13 (by omega)
          have x0 := Rt.is0 eτ15_0 (by omega)
          have n41 : ¬ tk rτ13.2.1 = 41 := fun h9 => x0.1 (by rw [exR_t h9])
          have x2 := x0.2
          rw [exR_f n41] at x2
          exact ⟨0, rfl, (by decide), ((((FrX.rf b [(9, 8), (9, 9), (9, 2), (9, 3), (9, 4), (8, 99999), (0, 14)] σ).tr (frτ11.mono (V := [(9, 8), (9, 9), (9, 2), (9, 3), (9, 4), (8, 99999), (0, 14)]) rfl)).tr frτ13).tr (frτ15.mono (V := [(9, 8), (9, 9), (9, 2), (9, 3), (9, 4), (8, 99999), (0, 14)]) rfl)), ivτ15_RdX, ⟨_, PR.opens (by decide) (by omega) prτ13, by rw [cif_pos i1.1, cif_neg n41]; exact Or.inr ⟨rfl, flt_ne (by decide), x2⟩⟩⟩
        · refine z_iconst (pc := 81) (v := iz (1)) O dX4_readOne_81 (by decide) ?_
          refine z_goto (pc := 82) (tgt := 86) O dX4_readOne_82 (by decide) ?_
          refine z_zret (pc := 86) O dX4_readOne_86 rfl ?_
          have i1 := RtS.is1 rtτ13 (by omega)
          have x1 := Rt.is1 eτ15_0 (by omega)
          have t41 : tk rτ13.2.1 = 41 := Classical.byContradiction (fun h9 => by
            have x2 := x1.1
            rw [exR_f h9] at x2
            exact flt_ne (by decide) x2)
          have x3 := x1.2
          rw [exR_t t41] at x3
          exact ⟨1, rfl, (by decide), ((((FrX.rf b [(9, 8), (9, 9), (9, 2), (9, 3), (9, 4), (8, 99999), (0, 14)] σ).tr (frτ11.mono (V := [(9, 8), (9, 9), (9, 2), (9, 3), (9, 4), (8, 99999), (0, 14)]) rfl)).tr frτ13).tr (frτ15.mono (V := [(9, 8), (9, 9), (9, 2), (9, 3), (9, 4), (8, 99999), (0, 14)]) rfl)), ivτ15_RdX, ⟨_, PR.opens (by decide) (by omega) prτ13, by rw [cif_pos i1.1, cif_pos t41]; exact Or.inl ⟨rfl, rfl, x3, (gI_eq (FrX.it 9 frτ15 rfl rfl)).trans i1.2.2⟩⟩⟩
  · refine z_aload_n (pc := 23) O dX4_readOne_23 rfl ?_
    refine z_callV (pc := 24) O cl_X4_68 (k4_advance3 _ _ b tk pl m j J R) (by decide) (hX).2.1 kc_4 rfl rfl (Nat.le_of_ble_eq_true rfl) ⟨Nat.zero_le _, Nat.zero_le _⟩ dX4_readOne_24 (fun r τ17 hp => ?_)
    obtain ⟨rfl, frτ17, ivτ17_RdX, eτ17_0⟩ := hp
    have := (ivτ17_RdX).2.2.2.1
    have := (ivτ17_RdX).2.2.2.2
    have := (ivτ17_RdX).1.2.2.2.2.1
    have := (ivτ17_RdX).1.2.2.2.2.2.1
    have : gI τ17 4 2 = gI σ 4 2 := gI_iz (FrD.it frτ17.1 (by omega) (izg σ 4 2)) (rgI _ _ _)
    refine z_aload_n (pc := 27) O dX4_readOne_27 rfl ?_
    refine z_iload_n (pc := 28) O dX4_readOne_28 rfl ?_
    refine z_iconst (pc := 29) (v := iz (1)) O dX4_readOne_29 (by decide) ?_
    refine zi_iadd (pc := 30) O dX4_readOne_30 ?_
    refine zi_val (1) rfl ?_
    refine z_callV (pc := 31) O cl_X4_151 (k4_readOne3_1 _ _ b tk pl m (adv m j) (frτ17.lay J) eτ17_0 (SRw.fr hsr ((FrX.rf b [(0, 99999), (1, 99999), (2, 99999), (3, 99999), (4, 99999), (5, 99999), (6, 99999), (7, 99999), (8, 99999), (9, 99999)] σ).tr (frτ17.mono (V := [(0, 99999), (1, 99999), (2, 99999), (3, 99999), (4, 99999), (5, 99999), (6, 99999), (7, 99999), (8, 99999), (9, 99999)]) rfl)) hR0) (by have q4 := (gI_iz (FrX.it 9 frτ17 rfl (izg σ (b + 9) 4)) (rgI _ _ _) : gI τ17 (b + 9) 4 = gI σ (b + 9) 4); omega)) (by decide) (ivτ17_RdX).2.1 kc_4 rfl rfl (Nat.le_of_ble_eq_true rfl) ⟨Nat.zero_le _, Nat.zero_le _⟩ dX4_readOne_31 (fun r τ19 hp => ?_)
    obtain ⟨z20, rfl, fτ19_0, frτ19, ivτ19_RdX, eτ19_0⟩ := hp
    have := (ivτ19_RdX).2.2.2.1
    have := (ivτ19_RdX).2.2.2.2
    have := (ivτ19_RdX).1.2.2.2.2.1
    have := (ivτ19_RdX).1.2.2.2.2.2.1
    have : gI τ19 4 2 = gI σ 4 2 := gI_iz (FrD.it frτ19.1 (by omega) (FrD.it frτ17.1 (by omega) (izg σ 4 2))) (rgI _ _ _)
    obtain ⟨rτ19, prτ19, rtτ19⟩ := eτ19_0
    rw [(gI_iz (FrX.it 9 frτ17 rfl (izg σ (b + 9) 4)) (rgI _ _ _) : gI τ17 (b + 9) 4 = gI σ (b + 9) 4)] at prτ19
    refine z_istore_n (pc := 34) [(0, .ref (b + 9)), (1, .int (iz 0)), (2, .int (iz z20))] O dX4_readOne_34 (by decide) rfl ?_
    refine z_aload_n (pc := 35) O dX4_readOne_35 rfl ?_
    refine z_getR (pc := 36) b O fl_X4_19 rfl (ivτ19_RdX).2.1 (ivτ19_RdX).2.2.1.2 dX4_readOne_36 ?_
    refine z_bipush (pc := 39) (v := iz (-11)) O dX4_readOne_39 (by decide) ?_
    refine z_callV (pc := 41) O cl_X4_147 (k1_addStep3 _ _ b (-11) (by decide) (frτ19.lay (frτ17.lay J)) ivτ19_RdX) (by decide) (ivτ19_RdX).1.2.1 kc_1 rfl rfl (Nat.le_of_ble_eq_true rfl) ⟨Nat.zero_le _, Nat.zero_le _⟩ dX4_readOne_41 (fun r τ21 hp => ?_)
    obtain ⟨rfl, frτ21, ivτ21_RdX⟩ := hp
    have := (ivτ21_RdX).2.2.2.1
    have := (ivτ21_RdX).2.2.2.2
    have := (ivτ21_RdX).1.2.2.2.2.1
    have := (ivτ21_RdX).1.2.2.2.2.2.1
    have : gI τ21 4 2 = gI σ 4 2 := gI_iz (FrD.it frτ21.1 (by omega) (FrD.it frτ19.1 (by omega) (FrD.it frτ17.1 (by omega) (izg σ 4 2)))) (rgI _ _ _)
    refine z_iload_n (pc := 44) O dX4_readOne_44 rfl ?_
    refine z_zret (pc := 45) O dX4_readOne_45 (nar_z (by omega)) ?_
    exact ⟨z20, rfl, (by omega), ((((FrX.rf b [(9, 8), (9, 9), (9, 2), (9, 3), (9, 4), (8, 99999), (0, 14)] σ).tr (frτ17.mono (V := [(9, 8), (9, 9), (9, 2), (9, 3), (9, 4), (8, 99999), (0, 14)]) rfl)).tr frτ19).tr (frτ21.mono (V := [(9, 8), (9, 9), (9, 2), (9, 3), (9, 4), (8, 99999), (0, 14)]) rfl)), ivτ21_RdX, ⟨rτ19, PR.nots (by decide) (by omega) prτ19, RtS.fr rtτ19 frτ21 ivτ21_RdX rfl⟩⟩
set_option maxHeartbeats 4000000 in
set_option maxRecDepth 20000 in
theorem k4_readBoth3_0 (l : Launch) (σ : VH) (b : Nat) (tk : Nat → Int) (pl : Nat → Int) (m : Nat) (j : Nat) (J : Lay σ) (R : RdS σ b tk pl m j) (hsr : SRw σ) (hs0 : 0 ≤ gI σ (b + 9) 4) : Ct l yX4_readBoth cX4_readBoth 4 (some .boolean) 21 0 0 [.ref (b + 9), .int (iz 0)] σ (fun r τ => ∃ z : Int, r = some (.int (iz z)) ∧ (z = 0 ∨ z = 1) ∧ (FrX b [(9, 8), (9, 9), (9, 2), (9, 3), (9, 4), (8, 99999), (0, 14)] σ τ) ∧ (RdX τ b) ∧ (BtE τ b tk pl m z 0 j (gI σ (b + 9) 4) 0)) := by
  refine Ct.enter rfl (Nat.le_of_ble_eq_true rfl) ?_
  intro κ γ hκ O hrc hrs
  subst hκ
  have hX := R.1
  have hR0 := hX.1.1
  have hR4 := hX.2.2.2.1
  have hR5 := hX.2.2.2.2
  have hR6 := hX.1.2.2.2.2.1
  have hR7 := hX.1.2.2.2.2.2.1
  have hT := R.2.1
  have hct := R.2.1.2.2.1
  have hat := R.2.2.1
  have hcur := R.2.2.2.1
  have hfl := R.2.2.2.2
  refine z_aload_n (pc := 0) O dX4_readBoth_0 rfl ?_
  refine z_iload_n (pc := 1) O dX4_readBoth_1 rfl ?_
  refine z_callV (pc := 2) O cl_X4_151 (k4_readOne3_0 _ _ b tk pl m j J R hsr (by have q4 := (gI_iz (izg σ (b + 9) 4) (rgI _ _ _) : gI σ (b + 9) 4 = gI σ (b + 9) 4); omega)) (by decide) (hX).2.1 kc_4 rfl rfl (Nat.le_of_ble_eq_true rfl) ⟨Nat.zero_le _, Nat.zero_le _⟩ dX4_readBoth_2 (fun r τ1 hp => ?_)
  obtain ⟨z2, rfl, fτ1_0, frτ1, ivτ1_RdX, eτ1_0⟩ := hp
  have := (ivτ1_RdX).2.2.2.1
  have := (ivτ1_RdX).2.2.2.2
  have := (ivτ1_RdX).1.2.2.2.2.1
  have := (ivτ1_RdX).1.2.2.2.2.2.1
  have : gI τ1 4 2 = gI σ 4 2 := gI_iz (FrD.it frτ1.1 (by omega) (izg σ 4 2)) (rgI _ _ _)
  obtain ⟨rτ1, prτ1, rtτ1⟩ := eτ1_0
  refine z_istore_n (pc := 5) [(0, .ref (b + 9)), (1, .int (iz 0)), (2, .int (iz z2))] O dX4_readBoth_5 (by decide) rfl ?_
  refine z_iconst (pc := 6) (v := iz (0)) O dX4_readBoth_6 (by decide) ?_
  refine z_istore_n (pc := 7) [(0, .ref (b + 9)), (1, .int (iz 0)), (2, .int (iz z2)), (3, .int (iz 0))] O dX4_readBoth_7 (by decide) rfl ?_
  have cut8 : ∀ (mu8 : Nat) (gd : Int) (k : Int) (ρ8 : VH), (mu8 = (60 - k).toNat) → (-2147483648 ≤ gd ∧ gd < 2147483648) → (-2147483648 ≤ k ∧ k < 2147483648) → ((gd = 0 ∨ gd = 1) ∧ 0 ≤ k ∧ k ≤ 60) → (BtI ρ8 b tk pl m gd 0 j (gI σ (b + 9) 4) k) → (FrX b [(9, 8), (9, 9), (9, 2), (9, 3), (9, 4), (8, 99999), (0, 14)] τ1 ρ8) → (RdX ρ8 b) → Z κ γ 4 ρ8 0 0 (QM κ γ (fun r τ => ∃ z : Int, r = some (.int (iz z)) ∧ (z = 0 ∨ z = 1) ∧ (FrX b [(9, 8), (9, 9), (9, 2), (9, 3), (9, 4), (8, 99999), (0, 14)] σ τ) ∧ (RdX τ b) ∧ (BtE τ b tk pl m z 0 j (gI σ (b + 9) 4) 0)) 0 0) 8 [(0, .ref (b + 9)), (1, .int (iz 0)), (2, .int (iz gd)), (3, .int (iz k))] [] := by
    intro mu8
    induction mu8 using Nat.strongRecOn with
    | ind mu8 ih8 =>
    intro gd k ρ8 hmu8 rr8_0 rr8_1 ff8_0 ff8_1 frρ8 ivρ8_RdX
    have := (ivρ8_RdX).2.2.2.1
    have := (ivρ8_RdX).2.2.2.2
    have := (ivρ8_RdX).1.2.2.2.2.1
    have := (ivρ8_RdX).1.2.2.2.2.2.1
    have := rgI ρ8 (b + 9) 4
    refine z_iload_n (pc := 8) O dX4_readBoth_8 rfl ?_
    refine z_bipush (pc := 9) (v := iz (60)) O dX4_readBoth_9 (by decide) ?_
    refine zi_icmp_ge (pc := 11) (tgt := 54) O dX4_readBoth_11 (by decide) (by omega) (by decide) (fun h11 => ?_) (fun h11 => ?_)
    · refine z_iload_n (pc := 54) O dX4_readBoth_54 rfl ?_
      refine z_zret (pc := 55) O dX4_readBoth_55 (nar_z (by omega)) ?_
      exact ⟨gd, rfl, (by omega), (((FrX.rf b [(9, 8), (9, 9), (9, 2), (9, 3), (9, 4), (8, 99999), (0, 14)] σ).tr frτ1).tr frρ8), ivρ8_RdX, (BtI.out ff8_1 (by omega) (by omega))⟩
    · refine z_iload_n (pc := 14) O dX4_readBoth_14 rfl ?_
      refine zi_if_eq (pc := 15) (tgt := 54) O dX4_readBoth_15 (by decide) (by omega) (fun h15 => ?_) (fun h15 => ?_)
      · refine z_iload_n (pc := 54) O dX4_readBoth_54 rfl ?_
        refine z_zret (pc := 55) O dX4_readBoth_55 (nar_z (by omega)) ?_
        exact ⟨gd, rfl, (by omega), (((FrX.rf b [(9, 8), (9, 9), (9, 2), (9, 3), (9, 4), (8, 99999), (0, 14)] σ).tr frτ1).tr frρ8), ivρ8_RdX, (BtI.out ff8_1 (by omega) (by omega))⟩
      · obtain ⟨j1, rs1, ⟨hk8, hk9⟩, hold8⟩ := BtI.is1 ff8_1 (by omega)
        have hcur1 := rs1.2.2.2.1
        refine z_aload_n (pc := 18) O dX4_readBoth_18 rfl ?_
        refine zi_getLv (pc := 19) (hL ρ8 (b + 9) 3) O fl_X4_29 rfl (ivρ8_RdX).2.1 rfl dX4_readBoth_19 ?_
        refine z_ldc2 (pc := 22) O tw_445 dX4_readBoth_22 ?_
        refine z_lcmp (pc := 25) O dX4_readBoth_25 ?_
        refine zi_lci_ne (pc := 26) (tgt := 54) (6385252) O dX4_readBoth_26 (by decide) (by decide) (fun h26 => ?_) (fun h26 => ?_)
        · refine z_iload_n (pc := 54) O dX4_readBoth_54 rfl ?_
          refine z_zret (pc := 55) O dX4_readBoth_55 (nar_z (by omega)) ?_
          exact ⟨gd, rfl, (by omega), (((FrX.rf b [(9, 8), (9, 9), (9, 2), (9, 3), (9, 4), (8, 99999), (0, 14)] σ).tr frτ1).tr frρ8), ivρ8_RdX, (BtI.out ff8_1 (by omega) (by omega))⟩
        · refine z_aload_n (pc := 29) O dX4_readBoth_29 rfl ?_
          refine z_callV (pc := 30) O cl_X4_68 (k4_advance3 _ _ b tk pl m j1 (frρ8.lay (frτ1.lay J)) rs1) (by decide) (ivρ8_RdX).2.1 kc_4 rfl rfl (Nat.le_of_ble_eq_true rfl) ⟨Nat.zero_le _, Nat.zero_le _⟩ dX4_readBoth_30 (fun r τ3 hp => ?_)
          obtain ⟨rfl, frτ3, ivτ3_RdX, eτ3_0⟩ := hp
          have := (ivτ3_RdX).2.2.2.1
          have := (ivτ3_RdX).2.2.2.2
          have := (ivτ3_RdX).1.2.2.2.2.1
          have := (ivτ3_RdX).1.2.2.2.2.2.1
          have : gI τ3 4 2 = gI σ 4 2 := gI_iz (FrD.it frτ3.1 (by omega) (FrD.it frρ8.1 (by omega) (FrD.it frτ1.1 (by omega) (izg σ 4 2)))) (rgI _ _ _)
          refine z_aload_n (pc := 33) O dX4_readBoth_33 rfl ?_
          refine z_iload_n (pc := 34) O dX4_readBoth_34 rfl ?_
          refine z_callV (pc := 35) O cl_X4_151 (k4_readOne3_0 _ _ b tk pl m (adv m j1) (frτ3.lay (frρ8.lay (frτ1.lay J))) eτ3_0 (SRw.fr hsr ((((FrX.rf b [(0, 99999), (1, 99999), (2, 99999), (3, 99999), (4, 99999), (5, 99999), (6, 99999), (7, 99999), (8, 99999), (9, 99999)] σ).tr (frτ1.mono (V := [(0, 99999), (1, 99999), (2, 99999), (3, 99999), (4, 99999), (5, 99999), (6, 99999), (7, 99999), (8, 99999), (9, 99999)]) rfl)).tr (frρ8.mono (V := [(0, 99999), (1, 99999), (2, 99999), (3, 99999), (4, 99999), (5, 99999), (6, 99999), (7, 99999), (8, 99999), (9, 99999)]) rfl)).tr (frτ3.mono (V := [(0, 99999), (1, 99999), (2, 99999), (3, 99999), (4, 99999), (5, 99999), (6, 99999), (7, 99999), (8, 99999), (9, 99999)]) rfl)) hR0) (by have q4 := (gI_iz (FrX.it 9 frτ3 rfl (izg ρ8 (b + 9) 4)) (rgI _ _ _) : gI τ3 (b + 9) 4 = gI ρ8 (b + 9) 4); omega)) (by decide) (ivτ3_RdX).2.1 kc_4 rfl rfl (Nat.le_of_ble_eq_true rfl) ⟨Nat.zero_le _, Nat.zero_le _⟩ dX4_readBoth_35 (fun r τ5 hp => ?_)
          obtain ⟨z6, rfl, fτ5_0, frτ5, ivτ5_RdX, eτ5_0⟩ := hp
          have := (ivτ5_RdX).2.2.2.1
          have := (ivτ5_RdX).2.2.2.2
          have := (ivτ5_RdX).1.2.2.2.2.1
          have := (ivτ5_RdX).1.2.2.2.2.2.1
          have : gI τ5 4 2 = gI σ 4 2 := gI_iz (FrD.it frτ5.1 (by omega) (FrD.it frτ3.1 (by omega) (FrD.it frρ8.1 (by omega) (FrD.it frτ1.1 (by omega) (izg σ 4 2))))) (rgI _ _ _)
          obtain ⟨rτ5, prτ5, rtτ5⟩ := eτ5_0
          rw [(gI_iz (FrX.it 9 frτ3 rfl (izg ρ8 (b + 9) 4)) (rgI _ _ _) : gI τ3 (b + 9) 4 = gI ρ8 (b + 9) 4)] at prτ5
          refine z_istore_n (pc := 38) [(0, .ref (b + 9)), (1, .int (iz 0)), (2, .int (iz z6)), (3, .int (iz k))] O dX4_readBoth_38 (by decide) rfl ?_
          refine z_aload_n (pc := 39) O dX4_readBoth_39 rfl ?_
          refine z_getR (pc := 40) b O fl_X4_19 rfl (ivτ5_RdX).2.1 (ivτ5_RdX).2.2.1.2 dX4_readBoth_40 ?_
          refine z_bipush (pc := 43) (v := iz (-12)) O dX4_readBoth_43 (by decide) ?_
          refine z_callV (pc := 45) O cl_X4_147 (k1_addStep3 _ _ b (-12) (by decide) (frτ5.lay (frτ3.lay (frρ8.lay (frτ1.lay J)))) ivτ5_RdX) (by decide) (ivτ5_RdX).1.2.1 kc_1 rfl rfl (Nat.le_of_ble_eq_true rfl) ⟨Nat.zero_le _, Nat.zero_le _⟩ dX4_readBoth_45 (fun r τ7 hp => ?_)
          obtain ⟨rfl, frτ7, ivτ7_RdX⟩ := hp
          have := (ivτ7_RdX).2.2.2.1
          have := (ivτ7_RdX).2.2.2.2
          have := (ivτ7_RdX).1.2.2.2.2.1
          have := (ivτ7_RdX).1.2.2.2.2.2.1
          have : gI τ7 4 2 = gI σ 4 2 := gI_iz (FrD.it frτ7.1 (by omega) (FrD.it frτ5.1 (by omega) (FrD.it frτ3.1 (by omega) (FrD.it frρ8.1 (by omega) (FrD.it frτ1.1 (by omega) (izg σ 4 2)))))) (rgI _ _ _)
          refine zi_iinc (pc := 48) (k + 1) [(0, .ref (b + 9)), (1, .int (iz 0)), (2, .int (iz z6)), (3, .int (iz (k + 1)))] O dX4_readBoth_48 rfl (by omega) (by decide) rfl ?_
          refine z_goto (pc := 51) (tgt := 8) O dX4_readBoth_51 (by decide) ?_
          refine z_lk [(0, .ref (b + 9)), (1, .int (iz 0)), (2, .int (iz z6)), (3, .int (iz (k + 1)))] ⟨rfl, rfl, rfl, rfl, trivial⟩ ?_
          exact ih8 _ (by omega) z6 (k + 1) τ7 rfl (by omega) (by omega) (by omega) (BtI.fr (BtI.step hk8 hold8 (by omega) prτ5 rtτ5) frτ7 ivτ7_RdX rfl) (((((FrX.rf b [(9, 8), (9, 9), (9, 2), (9, 3), (9, 4), (8, 99999), (0, 14)] τ1).tr frρ8).tr (frτ3.mono (V := [(9, 8), (9, 9), (9, 2), (9, 3), (9, 4), (8, 99999), (0, 14)]) rfl)).tr frτ5).tr (frτ7.mono (V := [(9, 8), (9, 9), (9, 2), (9, 3), (9, 4), (8, 99999), (0, 14)]) rfl)) ivτ7_RdX
  refine z_lk [(0, .ref (b + 9)), (1, .int (iz 0)), (2, .int (iz z2)), (3, .int (iz 0))] ⟨rfl, rfl, rfl, rfl, trivial⟩ ?_
  exact cut8 _ z2 0 τ1 rfl (by omega) (by omega) (by omega) (BtI.start prτ1 rtτ1) (FrX.rf b [(9, 8), (9, 9), (9, 2), (9, 3), (9, 4), (8, 99999), (0, 14)] τ1) ivτ1_RdX
set_option maxHeartbeats 4000000 in
set_option maxRecDepth 20000 in
theorem k4_readEither3_0 (l : Launch) (σ : VH) (b : Nat) (tk : Nat → Int) (pl : Nat → Int) (m : Nat) (j : Nat) (J : Lay σ) (R : RdS σ b tk pl m j) (hsr : SRw σ) (hs0 : 0 ≤ gI σ (b + 9) 4) : Ct l yX4_readEither cX4_readEither 4 (some .boolean) 22 0 0 [.ref (b + 9), .int (iz 0)] σ (fun r τ => ∃ z : Int, r = some (.int (iz z)) ∧ (z = 0 ∨ z = 1) ∧ (FrX b [(9, 8), (9, 9), (9, 2), (9, 3), (9, 4), (8, 99999), (0, 14)] σ τ) ∧ (RdX τ b) ∧ (∃ r : Rs, PR tk m 2 0 j (gI σ (b + 9) 4) r ∧ RtS τ b tk pl m z r)) := by
  refine Ct.enter rfl (Nat.le_of_ble_eq_true rfl) ?_
  intro κ γ hκ O hrc hrs
  subst hκ
  have hX := R.1
  have hR0 := hX.1.1
  have hR4 := hX.2.2.2.1
  have hR5 := hX.2.2.2.2
  have hR6 := hX.1.2.2.2.2.1
  have hR7 := hX.1.2.2.2.2.2.1
  have hT := R.2.1
  have hct := R.2.1.2.2.1
  have hat := R.2.2.1
  have hcur := R.2.2.2.1
  have hfl := R.2.2.2.2
  refine z_iload_n (pc := 0) O dX4_readEither_0 rfl ?_
  refine z_bipush (pc := 1) (v := iz (6)) O dX4_readEither_1 (by decide) ?_
  refine zi_icmp_lt (pc := 3) (tgt := 12) O dX4_readEither_3 (by decide) (by decide) (by decide) (fun _ => ?_) (fun hh => absurd hh (by decide))
  refine z_aload_n (pc := 12) O dX4_readEither_12 rfl ?_
  refine z_iload_n (pc := 13) O dX4_readEither_13 rfl ?_
  refine z_callV (pc := 14) O cl_X4_142 (k4_readBoth3_0 _ _ b tk pl m j J R hsr (by have q4 := (gI_iz (izg σ (b + 9) 4) (rgI _ _ _) : gI σ (b + 9) 4 = gI σ (b + 9) 4); omega)) (by decide) (hX).2.1 kc_4 rfl rfl (Nat.le_of_ble_eq_true rfl) ⟨Nat.zero_le _, Nat.zero_le _⟩ dX4_readEither_14 (fun r τ1 hp => ?_)
  obtain ⟨z2, rfl, fτ1_0, frτ1, ivτ1_RdX, eτ1_0⟩ := hp
  have := (ivτ1_RdX).2.2.2.1
  have := (ivτ1_RdX).2.2.2.2
  have := (ivτ1_RdX).1.2.2.2.2.1
  have := (ivτ1_RdX).1.2.2.2.2.2.1
  have : gI τ1 4 2 = gI σ 4 2 := gI_iz (FrD.it frτ1.1 (by omega) (izg σ 4 2)) (rgI _ _ _)
  refine z_istore_n (pc := 17) [(0, .ref (b + 9)), (1, .int (iz 0)), (2, .int (iz z2))] O dX4_readEither_17 (by decide) rfl ?_
  refine z_iconst (pc := 18) (v := iz (0)) O dX4_readEither_18 (by decide) ?_
  refine z_istore_n (pc := 19) [(0, .ref (b + 9)), (1, .int (iz 0)), (2, .int (iz z2)), (3, .int (iz 0))] O dX4_readEither_19 (by decide) rfl ?_
  have cut20 : ∀ (mu20 : Nat) (gd : Int) (k : Int) (ρ20 : VH), (mu20 = (60 - k).toNat) → (-2147483648 ≤ gd ∧ gd < 2147483648) → (-2147483648 ≤ k ∧ k < 2147483648) → ((gd = 0 ∨ gd = 1) ∧ 0 ≤ k ∧ k ≤ 60) → (BtE ρ20 b tk pl m gd 0 j (gI σ (b + 9) 4) k) → (FrX b [(9, 8), (9, 9), (9, 2), (9, 3), (9, 4), (8, 99999), (0, 14)] τ1 ρ20) → (RdX ρ20 b) → Z κ γ 4 ρ20 0 0 (QM κ γ (fun r τ => ∃ z : Int, r = some (.int (iz z)) ∧ (z = 0 ∨ z = 1) ∧ (FrX b [(9, 8), (9, 9), (9, 2), (9, 3), (9, 4), (8, 99999), (0, 14)] σ τ) ∧ (RdX τ b) ∧ (∃ r : Rs, PR tk m 2 0 j (gI σ (b + 9) 4) r ∧ RtS τ b tk pl m z r)) 0 0) 20 [(0, .ref (b + 9)), (1, .int (iz 0)), (2, .int (iz gd)), (3, .int (iz k))] [] := by
    intro mu20
    induction mu20 using Nat.strongRecOn with
    | ind mu20 ih20 =>
    intro gd k ρ20 hmu20 rr20_0 rr20_1 ff20_0 ff20_1 frρ20 ivρ20_RdX
    have := (ivρ20_RdX).2.2.2.1
    have := (ivρ20_RdX).2.2.2.2
    have := (ivρ20_RdX).1.2.2.2.2.1
    have := (ivρ20_RdX).1.2.2.2.2.2.1
    have := rgI ρ20 (b + 9) 4
    refine z_iload_n (pc := 20) O dX4_readEither_20 rfl ?_
    refine z_bipush (pc := 21) (v := iz (60)) O dX4_readEither_21 (by decide) ?_
    refine zi_icmp_ge (pc := 23) (tgt := 66) O dX4_readEither_23 (by decide) (by omega) (by decide) (fun h23 => ?_) (fun h23 => ?_)
    · refine z_iload_n (pc := 66) O dX4_readEither_66 rfl ?_
      refine z_zret (pc := 67) O dX4_readEither_67 (nar_z (by omega)) ?_
      exact ⟨gd, rfl, (by omega), (((FrX.rf b [(9, 8), (9, 9), (9, 2), (9, 3), (9, 4), (8, 99999), (0, 14)] σ).tr frτ1).tr frρ20), ivρ20_RdX, (BtE.out ff20_1 (by omega))⟩
    · refine z_iload_n (pc := 26) O dX4_readEither_26 rfl ?_
      refine zi_if_eq (pc := 27) (tgt := 66) O dX4_readEither_27 (by decide) (by omega) (fun h27 => ?_) (fun h27 => ?_)
      · refine z_iload_n (pc := 66) O dX4_readEither_66 rfl ?_
        refine z_zret (pc := 67) O dX4_readEither_67 (nar_z (by omega)) ?_
        exact ⟨gd, rfl, (by omega), (((FrX.rf b [(9, 8), (9, 9), (9, 2), (9, 3), (9, 4), (8, 99999), (0, 14)] σ).tr frτ1).tr frρ20), ivρ20_RdX, (BtE.out ff20_1 (by omega))⟩
      · obtain ⟨j1, rs1, ⟨hk8, hk9⟩, hold8⟩ := BtE.is1 ff20_1 (by omega)
        have hcur1 := rs1.1.2.2.2.1
        refine z_aload_n (pc := 30) O dX4_readEither_30 rfl ?_
        refine zi_getLv (pc := 31) (hL ρ20 (b + 9) 3) O fl_X4_29 rfl (ivρ20_RdX).2.1 rfl dX4_readEither_31 ?_
        refine z_ldc2 (pc := 34) O tw_446 dX4_readEither_34 ?_
        refine z_lcmp (pc := 37) O dX4_readEither_37 ?_
        refine zi_lci_ne (pc := 38) (tgt := 66) (28530) O dX4_readEither_38 (by decide) (by decide) (fun h38 => ?_) (fun h38 => ?_)
        · refine z_iload_n (pc := 66) O dX4_readEither_66 rfl ?_
          refine z_zret (pc := 67) O dX4_readEither_67 (nar_z (by omega)) ?_
          exact ⟨gd, rfl, (by omega), (((FrX.rf b [(9, 8), (9, 9), (9, 2), (9, 3), (9, 4), (8, 99999), (0, 14)] σ).tr frτ1).tr frρ20), ivρ20_RdX, (BtE.out ff20_1 (by omega))⟩
        · refine z_aload_n (pc := 41) O dX4_readEither_41 rfl ?_
          refine z_callV (pc := 42) O cl_X4_68 (k4_advance3 _ _ b tk pl m j1 (frρ20.lay (frτ1.lay J)) rs1.1) (by decide) (ivρ20_RdX).2.1 kc_4 rfl rfl (Nat.le_of_ble_eq_true rfl) ⟨Nat.zero_le _, Nat.zero_le _⟩ dX4_readEither_42 (fun r τ3 hp => ?_)
          obtain ⟨rfl, frτ3, ivτ3_RdX, eτ3_0⟩ := hp
          have := (ivτ3_RdX).2.2.2.1
          have := (ivτ3_RdX).2.2.2.2
          have := (ivτ3_RdX).1.2.2.2.2.1
          have := (ivτ3_RdX).1.2.2.2.2.2.1
          have : gI τ3 4 2 = gI σ 4 2 := gI_iz (FrD.it frτ3.1 (by omega) (FrD.it frρ20.1 (by omega) (FrD.it frτ1.1 (by omega) (izg σ 4 2)))) (rgI _ _ _)
          refine z_aload_n (pc := 45) O dX4_readEither_45 rfl ?_
          refine z_iload_n (pc := 46) O dX4_readEither_46 rfl ?_
          refine z_callV (pc := 47) O cl_X4_142 (k4_readBoth3_0 _ _ b tk pl m (adv m j1) (frτ3.lay (frρ20.lay (frτ1.lay J))) eτ3_0 (SRw.fr hsr ((((FrX.rf b [(0, 99999), (1, 99999), (2, 99999), (3, 99999), (4, 99999), (5, 99999), (6, 99999), (7, 99999), (8, 99999), (9, 99999)] σ).tr (frτ1.mono (V := [(0, 99999), (1, 99999), (2, 99999), (3, 99999), (4, 99999), (5, 99999), (6, 99999), (7, 99999), (8, 99999), (9, 99999)]) rfl)).tr (frρ20.mono (V := [(0, 99999), (1, 99999), (2, 99999), (3, 99999), (4, 99999), (5, 99999), (6, 99999), (7, 99999), (8, 99999), (9, 99999)]) rfl)).tr (frτ3.mono (V := [(0, 99999), (1, 99999), (2, 99999), (3, 99999), (4, 99999), (5, 99999), (6, 99999), (7, 99999), (8, 99999), (9, 99999)]) rfl)) hR0) (by have q4 := (gI_iz (FrX.it 9 frτ3 rfl (izg ρ20 (b + 9) 4)) (rgI _ _ _) : gI τ3 (b + 9) 4 = gI ρ20 (b + 9) 4); omega)) (by decide) (ivτ3_RdX).2.1 kc_4 rfl rfl (Nat.le_of_ble_eq_true rfl) ⟨Nat.zero_le _, Nat.zero_le _⟩ dX4_readEither_47 (fun r τ5 hp => ?_)
          obtain ⟨z6, rfl, fτ5_0, frτ5, ivτ5_RdX, eτ5_0⟩ := hp
          have := (ivτ5_RdX).2.2.2.1
          have := (ivτ5_RdX).2.2.2.2
          have := (ivτ5_RdX).1.2.2.2.2.1
          have := (ivτ5_RdX).1.2.2.2.2.2.1
          have : gI τ5 4 2 = gI σ 4 2 := gI_iz (FrD.it frτ5.1 (by omega) (FrD.it frτ3.1 (by omega) (FrD.it frρ20.1 (by omega) (FrD.it frτ1.1 (by omega) (izg σ 4 2))))) (rgI _ _ _)
          rw [(gI_iz (FrX.it 9 frτ3 rfl (izg ρ20 (b + 9) 4)) (rgI _ _ _) : gI τ3 (b + 9) 4 = gI ρ20 (b + 9) 4)] at eτ5_0
          refine z_istore_n (pc := 50) [(0, .ref (b + 9)), (1, .int (iz 0)), (2, .int (iz z6)), (3, .int (iz k))] O dX4_readEither_50 (by decide) rfl ?_
          refine z_aload_n (pc := 51) O dX4_readEither_51 rfl ?_
          refine z_getR (pc := 52) b O fl_X4_19 rfl (ivτ5_RdX).2.1 (ivτ5_RdX).2.2.1.2 dX4_readEither_52 ?_
          refine z_bipush (pc := 55) (v := iz (-13)) O dX4_readEither_55 (by decide) ?_
          refine z_callV (pc := 57) O cl_X4_147 (k1_addStep3 _ _ b (-13) (by decide) (frτ5.lay (frτ3.lay (frρ20.lay (frτ1.lay J)))) ivτ5_RdX) (by decide) (ivτ5_RdX).1.2.1 kc_1 rfl rfl (Nat.le_of_ble_eq_true rfl) ⟨Nat.zero_le _, Nat.zero_le _⟩ dX4_readEither_57 (fun r τ7 hp => ?_)
          obtain ⟨rfl, frτ7, ivτ7_RdX⟩ := hp
          have := (ivτ7_RdX).2.2.2.1
          have := (ivτ7_RdX).2.2.2.2
          have := (ivτ7_RdX).1.2.2.2.2.1
          have := (ivτ7_RdX).1.2.2.2.2.2.1
          have : gI τ7 4 2 = gI σ 4 2 := gI_iz (FrD.it frτ7.1 (by omega) (FrD.it frτ5.1 (by omega) (FrD.it frτ3.1 (by omega) (FrD.it frρ20.1 (by omega) (FrD.it frτ1.1 (by omega) (izg σ 4 2)))))) (rgI _ _ _)
          refine zi_iinc (pc := 60) (k + 1) [(0, .ref (b + 9)), (1, .int (iz 0)), (2, .int (iz z6)), (3, .int (iz (k + 1)))] O dX4_readEither_60 rfl (by omega) (by decide) rfl ?_
          refine z_goto (pc := 63) (tgt := 20) O dX4_readEither_63 (by decide) ?_
          refine z_lk [(0, .ref (b + 9)), (1, .int (iz 0)), (2, .int (iz z6)), (3, .int (iz (k + 1)))] ⟨rfl, rfl, rfl, rfl, trivial⟩ ?_
          exact ih20 _ (by omega) z6 (k + 1) τ7 rfl (by omega) (by omega) (by omega) (BtE.fr (BtE.step hk8 hold8 (by omega) eτ5_0) frτ7 ivτ7_RdX rfl) (((((FrX.rf b [(9, 8), (9, 9), (9, 2), (9, 3), (9, 4), (8, 99999), (0, 14)] τ1).tr frρ20).tr (frτ3.mono (V := [(9, 8), (9, 9), (9, 2), (9, 3), (9, 4), (8, 99999), (0, 14)]) rfl)).tr frτ5).tr (frτ7.mono (V := [(9, 8), (9, 9), (9, 2), (9, 3), (9, 4), (8, 99999), (0, 14)]) rfl)) ivτ7_RdX
  refine z_lk [(0, .ref (b + 9)), (1, .int (iz 0)), (2, .int (iz z2)), (3, .int (iz 0))] ⟨rfl, rfl, rfl, rfl, trivial⟩ ?_
  exact cut20 _ z2 0 τ1 rfl (by omega) (by omega) (by omega) eτ1_0 (FrX.rf b [(9, 8), (9, 9), (9, 2), (9, 3), (9, 4), (8, 99999), (0, 14)] τ1) ivτ1_RdX
