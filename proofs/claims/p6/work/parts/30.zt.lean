set_option maxHeartbeats 4000000 in
set_option maxRecDepth 20000 in
theorem k4_readWhen3 (l : Launch) (σ : VH) (b : Nat) (tk : Nat → Int) (pl : Nat → Int) (m : Nat) (j : Nat) (J : Lay σ) (R : RdS σ b tk pl m j) (hsr : SRw σ) (hs0 : 0 ≤ gI σ (b + 9) 4) : Ct l yX4_readWhen cX4_readWhen 3 (some .boolean) 23 0 0 [.ref (b + 9)] σ (fun r τ => ∃ z : Int, r = some (.int (iz z)) ∧ (z = 0 ∨ z = 1) ∧ (FrX b [(9, 8), (9, 9), (9, 2), (9, 3), (9, 4), (8, 99999), (0, 14), (4, 99999), (5, 99999), (6, 99999), (0, 4)] σ τ) ∧ (RdX τ b) ∧ ((16 ≤ gI σ b 4 ∧ z = 0 ∧ Fl τ b pl (flt tk j 2) j) ∨ (¬ 16 ≤ gI σ b 4 ∧ ∃ q : Rs, PR tk m 2 0 (adv m j) (gI σ (b + 9) 4) q ∧ Rt τ b tk pl m z (whenT tk m q) ∧ (z = 0 ∨ (gI τ (b + 9) 4 = q.2.2 ∧ gI τ b 4 = gI σ b 4 + 1))))) := by
  refine Ct.enter rfl (Nat.le_of_ble_eq_true rfl) ?_
  intro κ γ hκ O hrc hrs
  subst hκ
  have hX := R.1
  have hR0 := hX.1.1
  have hR4 := hX.2.2.2.1
  have hR5 := hX.2.2.2.2
  have hR6 := hX.1.2.2.2.2.1
  have hR7 := hX.1.2.2.2.2.2.1
  have hT := R.2.1
  have hct := R.2.1.2.2.1
  have hat := R.2.2.1
  have hcur := R.2.2.2.1
  have hfl := R.2.2.2.2
  refine z_aload_n (pc := 0) O dX4_readWhen_0 rfl ?_
  refine z_getR (pc := 1) b O fl_X4_19 rfl (hX).2.1 (hX).2.2.1.2 dX4_readWhen_1 ?_
  refine zi_getv (pc := 4) (gI σ b 4) O fl_X4_96 rfl (hX).1.2.1 (izg σ b 4) dX4_readWhen_4 ?_
  have := rgI σ b 4
  refine z_bipush (pc := 7) (v := iz (16)) O dX4_readWhen_7 (by decide) ?_
  refine zi_icmp_lt (pc := 9) (tgt := 18) O dX4_readWhen_9 (by decide) (by omega) (by decide) (fun h9 => ?_) (fun h9 => ?_)
  · refine z_aload_n (pc := 18) O dX4_readWhen_18 rfl ?_
    refine z_callV (pc := 19) O cl_X4_68 (k4_advance3 _ _ b tk pl m j J R) (by decide) (hX).2.1 kc_4 rfl rfl (Nat.le_of_ble_eq_true rfl) ⟨Nat.zero_le _, Nat.zero_le _⟩ dX4_readWhen_19 (fun r τ1 hp => ?_)
    obtain ⟨rfl, frτ1, ivτ1_RdX, eτ1_0⟩ := hp
    have := (ivτ1_RdX).2.2.2.1
    have := (ivτ1_RdX).2.2.2.2
    have := (ivτ1_RdX).1.2.2.2.2.1
    have := (ivτ1_RdX).1.2.2.2.2.2.1
    have : gI τ1 4 2 = gI σ 4 2 := gI_iz (FrD.it frτ1.1 (by omega) (izg σ 4 2)) (rgI _ _ _)
    refine z_aload_n (pc := 22) O dX4_readWhen_22 rfl ?_
    refine z_iconst (pc := 23) (v := iz (0)) O dX4_readWhen_23 (by decide) ?_
    refine z_callV (pc := 24) O cl_X4_99 (k4_readEither3_0 _ _ b tk pl m (adv m j) (frτ1.lay J) eτ1_0 (SRw.fr hsr ((FrX.rf b [(0, 99999), (1, 99999), (2, 99999), (3, 99999), (4, 99999), (5, 99999), (6, 99999), (7, 99999), (8, 99999), (9, 99999)] σ).tr (frτ1.mono (V := [(0, 99999), (1, 99999), (2, 99999), (3, 99999), (4, 99999), (5, 99999), (6, 99999), (7, 99999), (8, 99999), (9, 99999)]) rfl)) hR0) (by have q4 := (gI_iz (FrX.it 9 frτ1 rfl (izg σ (b + 9) 4)) (rgI _ _ _) : gI τ1 (b + 9) 4 = gI σ (b + 9) 4); omega)) (by decide) (ivτ1_RdX).2.1 kc_4 rfl rfl (Nat.le_of_ble_eq_true rfl) ⟨Nat.zero_le _, Nat.zero_le _⟩ dX4_readWhen_24 (fun r τ3 hp => ?_)
    obtain ⟨z4, rfl, fτ3_0, frτ3, ivτ3_RdX, eτ3_0⟩ := hp
    have := (ivτ3_RdX).2.2.2.1
    have := (ivτ3_RdX).2.2.2.2
    have := (ivτ3_RdX).1.2.2.2.2.1
    have := (ivτ3_RdX).1.2.2.2.2.2.1
    have : gI τ3 4 2 = gI σ 4 2 := gI_iz (FrD.it frτ3.1 (by omega) (FrD.it frτ1.1 (by omega) (izg σ 4 2))) (rgI _ _ _)
    obtain ⟨rτ3, prτ3, rtτ3⟩ := eτ3_0
    rw [(gI_iz (FrX.it 9 frτ1 rfl (izg σ (b + 9) 4)) (rgI _ _ _) : gI τ1 (b + 9) 4 = gI σ (b + 9) 4)] at prτ3
    refine zi_if_eq (pc := 27) (tgt := 40) O dX4_readWhen_27 (by decide) (by omega) (fun h27 => ?_) (fun h27 => ?_)
    · refine z_iconst (pc := 40) (v := iz (0)) O dX4_readWhen_40 (by decide) ?_
      refine z_zret (pc := 41) O dX4_readWhen_41 rfl ?_
      have o0 := RtS.is0 rtτ3 (by omega)
      have er : whenT tk m rτ3 = _ := cif_neg o0.1
      exact ⟨0, rfl, (by decide), (((FrX.rf b [(9, 8), (9, 9), (9, 2), (9, 3), (9, 4), (8, 99999), (0, 14), (4, 99999), (5, 99999), (6, 99999), (0, 4)] σ).tr (frτ1.mono (V := [(9, 8), (9, 9), (9, 2), (9, 3), (9, 4), (8, 99999), (0, 14), (4, 99999), (5, 99999), (6, 99999), (0, 4)]) rfl)).tr (frτ3.mono (V := [(9, 8), (9, 9), (9, 2), (9, 3), (9, 4), (8, 99999), (0, 14), (4, 99999), (5, 99999), (6, 99999), (0, 4)]) rfl)), ivτ3_RdX, (Or.inr ⟨by omega, rτ3, prτ3, by rw [er]; exact Or.inr ⟨rfl, o0.1, o0.2⟩, (Or.inl rfl)⟩)⟩
    · refine z_aload_n (pc := 30) O dX4_readWhen_30 rfl ?_
      refine z_ldc2 (pc := 31) O tw_447 dX4_readWhen_31 ?_
      refine z_callV (pc := 34) O cl_X4_89 (k4_expect3 _ _ b 25711 tk pl m rτ3.2.1 (frτ3.lay (frτ1.lay J)) (RtS.is1 rtτ3 (by omega)).2.1) (by decide) (ivτ3_RdX).2.1 kc_4 rfl rfl (Nat.le_of_ble_eq_true rfl) ⟨Nat.zero_le _, Nat.zero_le _⟩ dX4_readWhen_34 (fun r τ5 hp => ?_)
      obtain ⟨z6, rfl, fτ5_0, frτ5, ivτ5_RdX, eτ5_0⟩ := hp
      have := (ivτ5_RdX).2.2.2.1
      have := (ivτ5_RdX).2.2.2.2
      have := (ivτ5_RdX).1.2.2.2.2.1
      have := (ivτ5_RdX).1.2.2.2.2.2.1
      have : gI τ5 4 2 = gI σ 4 2 := gI_iz (FrD.it frτ5.1 (by omega) (FrD.it frτ3.1 (by omega) (FrD.it frτ1.1 (by omega) (izg σ 4 2)))) (rgI _ _ _)
      rw [show (25711 : Int64).toInt = 25711 by decide] at eτ5_0
      refine zi_if_ne (pc := 37) (tgt := 42) O dX4_readWhen_37 (by decide) (by omega) (fun h37 => ?_) (fun h37 => ?_)
      · have hcd := (Rt.is1 eτ5_0 (by omega)).2.2.2.2.1
        refine z_aload_n (pc := 42) O dX4_readWhen_42 rfl ?_
        refine zi_getLv (pc := 43) (hL τ5 (b + 9) 3) O fl_X4_29 rfl (ivτ5_RdX).2.1 rfl dX4_readWhen_43 ?_
        refine z_callS (pc := 46) O cl_X4_104 (k4_deedOf3 _ _ (hL τ5 (b + 9) 3)) (by decide) rfl rfl (Nat.le_of_ble_eq_true rfl) ⟨Nat.zero_le _, Nat.zero_le _⟩ dX4_readWhen_46 (fun r τ7 hp => ?_)
        obtain ⟨z8, rfl, fτ7_0, fτ7_1, rfl⟩ := hp
        refine z_istore_n (pc := 49) [(0, .ref (b + 9)), (1, .int (iz z8))] O dX4_readWhen_49 (by decide) rfl ?_
        refine z_iload_n (pc := 50) O dX4_readWhen_50 rfl ?_
        refine z_iconst (pc := 51) (v := iz (-1)) O dX4_readWhen_51 (by decide) ?_
        refine zi_icmp_ne (pc := 52) (tgt := 61) O dX4_readWhen_52 (by decide) (by omega) (by decide) (fun h52 => ?_) (fun h52 => ?_)
        · refine z_aload_n (pc := 61) O dX4_readWhen_61 rfl ?_
          refine z_callV (pc := 62) O cl_X4_68 (k4_advance3 _ _ b tk pl m (exR tk m rτ3.2.1 25711).2 (frτ5.lay (frτ3.lay (frτ1.lay J))) (Rt.is1 eτ5_0 (by omega)).2) (by decide) (ivτ5_RdX).2.1 kc_4 rfl rfl (Nat.le_of_ble_eq_true rfl) ⟨Nat.zero_le _, Nat.zero_le _⟩ dX4_readWhen_62 (fun r τ9 hp => ?_)
          obtain ⟨rfl, frτ9, ivτ9_RdX, eτ9_0⟩ := hp
          have := (ivτ9_RdX).2.2.2.1
          have := (ivτ9_RdX).2.2.2.2
          have := (ivτ9_RdX).1.2.2.2.2.1
          have := (ivτ9_RdX).1.2.2.2.2.2.1
          have : gI τ9 4 2 = gI σ 4 2 := gI_iz (FrD.it frτ9.1 (by omega) (FrD.it frτ5.1 (by omega) (FrD.it frτ3.1 (by omega) (FrD.it frτ1.1 (by omega) (izg σ 4 2))))) (rgI _ _ _)
          refine z_iload_n (pc := 65) O dX4_readWhen_65 rfl ?_
          refine z_iconst (pc := 66) (v := iz (2)) O dX4_readWhen_66 (by decide) ?_
          refine zi_icmp_eq (pc := 67) (tgt := 75) O dX4_readWhen_67 (by decide) (by omega) (by decide) (fun h67 => ?_) (fun h67 => ?_)
          · refine z_aload_n (pc := 75) O dX4_readWhen_75 rfl ?_
            refine z_iconst (pc := 76) (v := iz (0)) O dX4_readWhen_76 (by decide) ?_
            refine z_ldc (pc := 77) O tw_394 dX4_readWhen_77 ?_
            refine zi_val (100000) (by decide) ?_
            refine z_callV (pc := 79) O cl_X4_83 (k4_readNumber3 _ _ b 0 (by decide) 100000 (by decide) tk pl m (adv m (exR tk m rτ3.2.1 25711).2) (frτ9.lay (frτ5.lay (frτ3.lay (frτ1.lay J)))) eτ9_0 (by omega)) (by decide) (ivτ9_RdX).2.1 kc_4 rfl rfl (Nat.le_of_ble_eq_true rfl) ⟨Nat.zero_le _, Nat.zero_le _⟩ dX4_readWhen_79 (fun r τ11 hp => ?_)
            obtain ⟨z12, rfl, fτ11_0, fτ11_1, frτ11, ivτ11_RdX, eτ11_0⟩ := hp
            have := (ivτ11_RdX).2.2.2.1
            have := (ivτ11_RdX).2.2.2.2
            have := (ivτ11_RdX).1.2.2.2.2.1
            have := (ivτ11_RdX).1.2.2.2.2.2.1
            have : gI τ11 4 2 = gI σ 4 2 := gI_iz (FrD.it frτ11.1 (by omega) (FrD.it frτ9.1 (by omega) (FrD.it frτ5.1 (by omega) (FrD.it frτ3.1 (by omega) (FrD.it frτ1.1 (by omega) (izg σ 4 2)))))) (rgI _ _ _)
            refine z_goto (pc := 82) (tgt := 86) O dX4_readWhen_82 (by decide) ?_
            refine z_istore_n (pc := 86) [(0, .ref (b + 9)), (1, .int (iz z8)), (2, .int (iz z12))] O dX4_readWhen_86 (by decide) rfl ?_
            refine z_iload_n (pc := 87) O dX4_readWhen_87 rfl ?_
            refine z_iconst (pc := 88) (v := iz (-1)) O dX4_readWhen_88 (by decide) ?_
            refine zi_icmp_eq (pc := 89) (tgt := 102) O dX4_readWhen_89 (by decide) (by omega) (by decide) (fun h89 => ?_) (fun h89 => ?_)
            · refine z_iconst (pc := 102) (v := iz (0)) O dX4_readWhen_102 (by decide) ?_
              refine z_zret (pc := 103) O dX4_readWhen_103 rfl ?_
              have o0 := RtS.is1 rtτ3 (by omega)
              have o1 := Rt.is1 eτ5_0 (by omega)
              have o2 := NmR.no eτ11_0 (by omega)
              have er : whenT tk m rτ3 = _ := (cif_pos o0.1).trans ((thn_t o1.1).trans ((cif_neg (by omega)).trans ((cif_pos (by omega)).trans (thn_f o2.1))))
              exact ⟨0, rfl, (by decide), ((((((FrX.rf b [(9, 8), (9, 9), (9, 2), (9, 3), (9, 4), (8, 99999), (0, 14), (4, 99999), (5, 99999), (6, 99999), (0, 4)] σ).tr (frτ1.mono (V := [(9, 8), (9, 9), (9, 2), (9, 3), (9, 4), (8, 99999), (0, 14), (4, 99999), (5, 99999), (6, 99999), (0, 4)]) rfl)).tr (frτ3.mono (V := [(9, 8), (9, 9), (9, 2), (9, 3), (9, 4), (8, 99999), (0, 14), (4, 99999), (5, 99999), (6, 99999), (0, 4)]) rfl)).tr (frτ5.mono (V := [(9, 8), (9, 9), (9, 2), (9, 3), (9, 4), (8, 99999), (0, 14), (4, 99999), (5, 99999), (6, 99999), (0, 4)]) rfl)).tr (frτ9.mono (V := [(9, 8), (9, 9), (9, 2), (9, 3), (9, 4), (8, 99999), (0, 14), (4, 99999), (5, 99999), (6, 99999), (0, 4)]) rfl)).tr (frτ11.mono (V := [(9, 8), (9, 9), (9, 2), (9, 3), (9, 4), (8, 99999), (0, 14), (4, 99999), (5, 99999), (6, 99999), (0, 4)]) rfl)), ivτ11_RdX, (Or.inr ⟨by omega, rτ3, prτ3, by rw [er]; exact Or.inr ⟨rfl, o2.1, o2.2⟩, (Or.inl rfl)⟩)⟩
            · refine z_aload_n (pc := 92) O dX4_readWhen_92 rfl ?_
              refine z_ldc2 (pc := 93) O tw_400 dX4_readWhen_93 ?_
              refine z_callV (pc := 96) O cl_X4_89 (k4_expect3 _ _ b 59 tk pl m (adv m (adv m (exR tk m rτ3.2.1 25711).2)) (frτ11.lay (frτ9.lay (frτ5.lay (frτ3.lay (frτ1.lay J))))) (NmR.ok eτ11_0 (by omega)).2.2.2) (by decide) (ivτ11_RdX).2.1 kc_4 rfl rfl (Nat.le_of_ble_eq_true rfl) ⟨Nat.zero_le _, Nat.zero_le _⟩ dX4_readWhen_96 (fun r τ13 hp => ?_)
              obtain ⟨z14, rfl, fτ13_0, frτ13, ivτ13_RdX, eτ13_0⟩ := hp
              have := (ivτ13_RdX).2.2.2.1
              have := (ivτ13_RdX).2.2.2.2
              have := (ivτ13_RdX).1.2.2.2.2.1
              have := (ivτ13_RdX).1.2.2.2.2.2.1
              have : gI τ13 4 2 = gI σ 4 2 := gI_iz (FrD.it frτ13.1 (by omega) (FrD.it frτ11.1 (by omega) (FrD.it frτ9.1 (by omega) (FrD.it frτ5.1 (by omega) (FrD.it frτ3.1 (by omega) (FrD.it frτ1.1 (by omega) (izg σ 4 2))))))) (rgI _ _ _)
              rw [show (59 : Int64).toInt = 59 by decide] at eτ13_0
              refine zi_if_ne (pc := 99) (tgt := 104) O dX4_readWhen_99 (by decide) (by omega) (fun h99 => ?_) (fun h99 => ?_)
              · refine z_aload_n (pc := 104) O dX4_readWhen_104 rfl ?_
                refine z_getR (pc := 105) b O fl_X4_19 rfl (ivτ13_RdX).2.1 (ivτ13_RdX).2.2.1.2 dX4_readWhen_105 ?_
                refine z_iload_n (pc := 108) O dX4_readWhen_108 rfl ?_
                refine z_iload_n (pc := 109) O dX4_readWhen_109 rfl ?_
                refine z_callV (pc := 110) O cl_X4_108 (k1_addWhen3 _ _ b z8 (by omega) z12 (by omega) (frτ13.lay (frτ11.lay (frτ9.lay (frτ5.lay (frτ3.lay (frτ1.lay J)))))) ivτ13_RdX (by have q3 := (gI_iz (FrX.it 0 frτ13 rfl (FrX.it 0 frτ11 rfl (FrX.it 0 frτ9 rfl (FrX.it 0 frτ5 rfl (FrX.it 0 frτ3 rfl (FrX.it 0 frτ1 rfl (izg σ b 4))))))) (rgI _ _ _) : gI τ13 b 4 = gI σ b 4); omega)) (by decide) (ivτ13_RdX).1.2.1 kc_1 rfl rfl (Nat.le_of_ble_eq_true rfl) ⟨Nat.zero_le _, Nat.zero_le _⟩ dX4_readWhen_110 (fun r τ15 hp => ?_)
                obtain ⟨rfl, frτ15, ivτ15_RdX, eτ15_0⟩ := hp
                have := (ivτ15_RdX).2.2.2.1
                have := (ivτ15_RdX).2.2.2.2
                have := (ivτ15_RdX).1.2.2.2.2.1
                have := (ivτ15_RdX).1.2.2.2.2.2.1
                have : gI τ15 4 2 = gI σ 4 2 := gI_iz (FrD.it frτ15.1 (by omega) (FrD.it frτ13.1 (by omega) (FrD.it frτ11.1 (by omega) (FrD.it frτ9.1 (by omega) (FrD.it frτ5.1 (by omega) (FrD.it frτ3.1 (by omega) (FrD.it frτ1.1 (by omega) (izg σ 4 2)))))))) (rgI _ _ _)
                refine z_iconst (pc := 113) (v := iz (1)) O dX4_readWhen_113 (by decide) ?_
                refine z_zret (pc := 114) O dX4_readWhen_114 rfl ?_
                have o0 := RtS.is1 rtτ3 (by omega)
                have o1 := Rt.is1 eτ5_0 (by omega)
                have o2 := NmR.ok eτ11_0 (by omega)
                have o3 := Rt.is1 eτ13_0 (by omega)
                have q4 := (gI_iz (FrX.it 0 frτ13 rfl (FrX.it 0 frτ11 rfl (FrX.it 0 frτ9 rfl (FrX.it 0 frτ5 rfl (FrX.it 0 frτ3 rfl (FrX.it 0 frτ1 rfl (izg σ b 4))))))) (rgI _ _ _) : gI τ13 b 4 = gI σ b 4)
                have qs : gI τ15 (b + 9) 4 = gI τ3 (b + 9) 4 := gI_eq (FrX.it 9 frτ15 rfl (FrX.it 9 frτ13 rfl (FrX.it 9 frτ11 rfl (FrX.it 9 frτ9 rfl (FrX.it 9 frτ5 rfl rfl)))))
                have er : whenT tk m rτ3 = _ := (cif_pos o0.1).trans ((thn_t o1.1).trans ((cif_neg (by omega)).trans ((cif_pos (by omega)).trans (thn_ok o2.2.2.1))))
                exact ⟨1, rfl, (by decide), ((((((((FrX.rf b [(9, 8), (9, 9), (9, 2), (9, 3), (9, 4), (8, 99999), (0, 14), (4, 99999), (5, 99999), (6, 99999), (0, 4)] σ).tr (frτ1.mono (V := [(9, 8), (9, 9), (9, 2), (9, 3), (9, 4), (8, 99999), (0, 14), (4, 99999), (5, 99999), (6, 99999), (0, 4)]) rfl)).tr (frτ3.mono (V := [(9, 8), (9, 9), (9, 2), (9, 3), (9, 4), (8, 99999), (0, 14), (4, 99999), (5, 99999), (6, 99999), (0, 4)]) rfl)).tr (frτ5.mono (V := [(9, 8), (9, 9), (9, 2), (9, 3), (9, 4), (8, 99999), (0, 14), (4, 99999), (5, 99999), (6, 99999), (0, 4)]) rfl)).tr (frτ9.mono (V := [(9, 8), (9, 9), (9, 2), (9, 3), (9, 4), (8, 99999), (0, 14), (4, 99999), (5, 99999), (6, 99999), (0, 4)]) rfl)).tr (frτ11.mono (V := [(9, 8), (9, 9), (9, 2), (9, 3), (9, 4), (8, 99999), (0, 14), (4, 99999), (5, 99999), (6, 99999), (0, 4)]) rfl)).tr (frτ13.mono (V := [(9, 8), (9, 9), (9, 2), (9, 3), (9, 4), (8, 99999), (0, 14), (4, 99999), (5, 99999), (6, 99999), (0, 4)]) rfl)).tr (frτ15.mono (V := [(9, 8), (9, 9), (9, 2), (9, 3), (9, 4), (8, 99999), (0, 14), (4, 99999), (5, 99999), (6, 99999), (0, 4)]) rfl)), ivτ15_RdX, (Or.inr ⟨by omega, rτ3, prτ3, by rw [er]; exact Or.inl ⟨rfl, o3.1, RdS.fr o3.2 frτ15 ivτ15_RdX rfl rfl rfl rfl⟩, (Or.inr ⟨by rw [qs]; exact o0.2.2, by omega⟩)⟩)⟩
              · refine z_iconst (pc := 102) (v := iz (0)) O dX4_readWhen_102 (by decide) ?_
                refine z_zret (pc := 103) O dX4_readWhen_103 rfl ?_
                have o0 := RtS.is1 rtτ3 (by omega)
                have o1 := Rt.is1 eτ5_0 (by omega)
                have o2 := NmR.ok eτ11_0 (by omega)
                have o3 := Rt.is0 eτ13_0 (by omega)
                have er : whenT tk m rτ3 = _ := (cif_pos o0.1).trans ((thn_t o1.1).trans ((cif_neg (by omega)).trans ((cif_pos (by omega)).trans (thn_ok o2.2.2.1))))
                exact ⟨0, rfl, (by decide), (((((((FrX.rf b [(9, 8), (9, 9), (9, 2), (9, 3), (9, 4), (8, 99999), (0, 14), (4, 99999), (5, 99999), (6, 99999), (0, 4)] σ).tr (frτ1.mono (V := [(9, 8), (9, 9), (9, 2), (9, 3), (9, 4), (8, 99999), (0, 14), (4, 99999), (5, 99999), (6, 99999), (0, 4)]) rfl)).tr (frτ3.mono (V := [(9, 8), (9, 9), (9, 2), (9, 3), (9, 4), (8, 99999), (0, 14), (4, 99999), (5, 99999), (6, 99999), (0, 4)]) rfl)).tr (frτ5.mono (V := [(9, 8), (9, 9), (9, 2), (9, 3), (9, 4), (8, 99999), (0, 14), (4, 99999), (5, 99999), (6, 99999), (0, 4)]) rfl)).tr (frτ9.mono (V := [(9, 8), (9, 9), (9, 2), (9, 3), (9, 4), (8, 99999), (0, 14), (4, 99999), (5, 99999), (6, 99999), (0, 4)]) rfl)).tr (frτ11.mono (V := [(9, 8), (9, 9), (9, 2), (9, 3), (9, 4), (8, 99999), (0, 14), (4, 99999), (5, 99999), (6, 99999), (0, 4)]) rfl)).tr (frτ13.mono (V := [(9, 8), (9, 9), (9, 2), (9, 3), (9, 4), (8, 99999), (0, 14), (4, 99999), (5, 99999), (6, 99999), (0, 4)]) rfl)), ivτ13_RdX, (Or.inr ⟨by omega, rτ3, prτ3, by rw [er]; exact Or.inr ⟨rfl, o3.1, o3.2⟩, (Or.inl rfl)⟩)⟩
          · refine z_iload_n (pc := 70) O dX4_readWhen_70 rfl ?_
            refine z_iconst (pc := 71) (v := iz (3)) O dX4_readWhen_71 (by decide) ?_
            refine zi_icmp_ne (pc := 72) (tgt := 85) O dX4_readWhen_72 (by decide) (by omega) (by decide) (fun h72 => ?_) (fun h72 => ?_)
            · refine z_iconst (pc := 85) (v := iz (0)) O dX4_readWhen_85 (by decide) ?_
              refine z_istore_n (pc := 86) [(0, .ref (b + 9)), (1, .int (iz z8)), (2, .int (iz 0))] O dX4_readWhen_86 (by decide) rfl ?_
              refine z_iload_n (pc := 87) O dX4_readWhen_87 rfl ?_
              refine z_iconst (pc := 88) (v := iz (-1)) O dX4_readWhen_88 (by decide) ?_
              refine zi_icmp_eq (pc := 89) (tgt := 102) O dX4_readWhen_89 (by decide) (by decide) (by decide) (fun hh => absurd hh (by decide)) (fun _ => ?_)
              refine z_aload_n (pc := 92) O dX4_readWhen_92 rfl ?_
              refine z_ldc2 (pc := 93) O tw_400 dX4_readWhen_93 ?_
              refine z_callV (pc := 96) O cl_X4_89 (k4_expect3 _ _ b 59 tk pl m (adv m (exR tk m rτ3.2.1 25711).2) (frτ9.lay (frτ5.lay (frτ3.lay (frτ1.lay J)))) eτ9_0) (by decide) (ivτ9_RdX).2.1 kc_4 rfl rfl (Nat.le_of_ble_eq_true rfl) ⟨Nat.zero_le _, Nat.zero_le _⟩ dX4_readWhen_96 (fun r τ17 hp => ?_)
              obtain ⟨z18, rfl, fτ17_0, frτ17, ivτ17_RdX, eτ17_0⟩ := hp
              have := (ivτ17_RdX).2.2.2.1
              have := (ivτ17_RdX).2.2.2.2
              have := (ivτ17_RdX).1.2.2.2.2.1
              have := (ivτ17_RdX).1.2.2.2.2.2.1
              have : gI τ17 4 2 = gI σ 4 2 := gI_iz (FrD.it frτ17.1 (by omega) (FrD.it frτ9.1 (by omega) (FrD.it frτ5.1 (by omega) (FrD.it frτ3.1 (by omega) (FrD.it frτ1.1 (by omega) (izg σ 4 2)))))) (rgI _ _ _)
              rw [show (59 : Int64).toInt = 59 by decide] at eτ17_0
              refine zi_if_ne (pc := 99) (tgt := 104) O dX4_readWhen_99 (by decide) (by omega) (fun h99 => ?_) (fun h99 => ?_)
              · refine z_aload_n (pc := 104) O dX4_readWhen_104 rfl ?_
                refine z_getR (pc := 105) b O fl_X4_19 rfl (ivτ17_RdX).2.1 (ivτ17_RdX).2.2.1.2 dX4_readWhen_105 ?_
                refine z_iload_n (pc := 108) O dX4_readWhen_108 rfl ?_
                refine z_iload_n (pc := 109) O dX4_readWhen_109 rfl ?_
                refine z_callV (pc := 110) O cl_X4_108 (k1_addWhen3 _ _ b z8 (by omega) 0 (by decide) (frτ17.lay (frτ9.lay (frτ5.lay (frτ3.lay (frτ1.lay J))))) ivτ17_RdX (by have q3 := (gI_iz (FrX.it 0 frτ17 rfl (FrX.it 0 frτ9 rfl (FrX.it 0 frτ5 rfl (FrX.it 0 frτ3 rfl (FrX.it 0 frτ1 rfl (izg σ b 4)))))) (rgI _ _ _) : gI τ17 b 4 = gI σ b 4); omega)) (by decide) (ivτ17_RdX).1.2.1 kc_1 rfl rfl (Nat.le_of_ble_eq_true rfl) ⟨Nat.zero_le _, Nat.zero_le _⟩ dX4_readWhen_110 (fun r τ19 hp => ?_)
                obtain ⟨rfl, frτ19, ivτ19_RdX, eτ19_0⟩ := hp
                have := (ivτ19_RdX).2.2.2.1
                have := (ivτ19_RdX).2.2.2.2
                have := (ivτ19_RdX).1.2.2.2.2.1
                have := (ivτ19_RdX).1.2.2.2.2.2.1
                have : gI τ19 4 2 = gI σ 4 2 := gI_iz (FrD.it frτ19.1 (by omega) (FrD.it frτ17.1 (by omega) (FrD.it frτ9.1 (by omega) (FrD.it frτ5.1 (by omega) (FrD.it frτ3.1 (by omega) (FrD.it frτ1.1 (by omega) (izg σ 4 2))))))) (rgI _ _ _)
                refine z_iconst (pc := 113) (v := iz (1)) O dX4_readWhen_113 (by decide) ?_
                refine z_zret (pc := 114) O dX4_readWhen_114 rfl ?_
                have o0 := RtS.is1 rtτ3 (by omega)
                have o1 := Rt.is1 eτ5_0 (by omega)
                have o3 := Rt.is1 eτ17_0 (by omega)
                have q4 := (gI_iz (FrX.it 0 frτ17 rfl (FrX.it 0 frτ9 rfl (FrX.it 0 frτ5 rfl (FrX.it 0 frτ3 rfl (FrX.it 0 frτ1 rfl (izg σ b 4)))))) (rgI _ _ _) : gI τ17 b 4 = gI σ b 4)
                have qs : gI τ19 (b + 9) 4 = gI τ3 (b + 9) 4 := gI_eq (FrX.it 9 frτ19 rfl (FrX.it 9 frτ17 rfl (FrX.it 9 frτ9 rfl (FrX.it 9 frτ5 rfl rfl))))
                have er : whenT tk m rτ3 = _ := (cif_pos o0.1).trans ((thn_t o1.1).trans (cif_pos (by omega)))
                exact ⟨1, rfl, (by decide), (((((((FrX.rf b [(9, 8), (9, 9), (9, 2), (9, 3), (9, 4), (8, 99999), (0, 14), (4, 99999), (5, 99999), (6, 99999), (0, 4)] σ).tr (frτ1.mono (V := [(9, 8), (9, 9), (9, 2), (9, 3), (9, 4), (8, 99999), (0, 14), (4, 99999), (5, 99999), (6, 99999), (0, 4)]) rfl)).tr (frτ3.mono (V := [(9, 8), (9, 9), (9, 2), (9, 3), (9, 4), (8, 99999), (0, 14), (4, 99999), (5, 99999), (6, 99999), (0, 4)]) rfl)).tr (frτ5.mono (V := [(9, 8), (9, 9), (9, 2), (9, 3), (9, 4), (8, 99999), (0, 14), (4, 99999), (5, 99999), (6, 99999), (0, 4)]) rfl)).tr (frτ9.mono (V := [(9, 8), (9, 9), (9, 2), (9, 3), (9, 4), (8, 99999), (0, 14), (4, 99999), (5, 99999), (6, 99999), (0, 4)]) rfl)).tr (frτ17.mono (V := [(9, 8), (9, 9), (9, 2), (9, 3), (9, 4), (8, 99999), (0, 14), (4, 99999), (5, 99999), (6, 99999), (0, 4)]) rfl)).tr (frτ19.mono (V := [(9, 8), (9, 9), (9, 2), (9, 3), (9, 4), (8, 99999), (0, 14), (4, 99999), (5, 99999), (6, 99999), (0, 4)]) rfl)), ivτ19_RdX, (Or.inr ⟨by omega, rτ3, prτ3, by rw [er]; exact Or.inl ⟨rfl, o3.1, RdS.fr o3.2 frτ19 ivτ19_RdX rfl rfl rfl rfl⟩, (Or.inr ⟨by rw [qs]; exact o0.2.2, by omega⟩)⟩)⟩
              · refine z_iconst (pc := 102) (v := iz (0)) O dX4_readWhen_102 (by decide) ?_
                refine z_zret (pc := 103) O dX4_readWhen_103 rfl ?_
                have o0 := RtS.is1 rtτ3 (by omega)
                have o1 := Rt.is1 eτ5_0 (by omega)
                have o3 := Rt.is0 eτ17_0 (by omega)
                have er : whenT tk m rτ3 = _ := (cif_pos o0.1).trans ((thn_t o1.1).trans (cif_pos (by omega)))
                exact ⟨0, rfl, (by decide), ((((((FrX.rf b [(9, 8), (9, 9), (9, 2), (9, 3), (9, 4), (8, 99999), (0, 14), (4, 99999), (5, 99999), (6, 99999), (0, 4)] σ).tr (frτ1.mono (V := [(9, 8), (9, 9), (9, 2), (9, 3), (9, 4), (8, 99999), (0, 14), (4, 99999), (5, 99999), (6, 99999), (0, 4)]) rfl)).tr (frτ3.mono (V := [(9, 8), (9, 9), (9, 2), (9, 3), (9, 4), (8, 99999), (0, 14), (4, 99999), (5, 99999), (6, 99999), (0, 4)]) rfl)).tr (frτ5.mono (V := [(9, 8), (9, 9), (9, 2), (9, 3), (9, 4), (8, 99999), (0, 14), (4, 99999), (5, 99999), (6, 99999), (0, 4)]) rfl)).tr (frτ9.mono (V := [(9, 8), (9, 9), (9, 2), (9, 3), (9, 4), (8, 99999), (0, 14), (4, 99999), (5, 99999), (6, 99999), (0, 4)]) rfl)).tr (frτ17.mono (V := [(9, 8), (9, 9), (9, 2), (9, 3), (9, 4), (8, 99999), (0, 14), (4, 99999), (5, 99999), (6, 99999), (0, 4)]) rfl)), ivτ17_RdX, (Or.inr ⟨by omega, rτ3, prτ3, by rw [er]; exact Or.inr ⟨rfl, o3.1, o3.2⟩, (Or.inl rfl)⟩)⟩
            · refine z_aload_n (pc := 75) O dX4_readWhen_75 rfl ?_
              refine z_iconst (pc := 76) (v := iz (0)) O dX4_readWhen_76 (by decide) ?_
              refine z_ldc (pc := 77) O tw_394 dX4_readWhen_77 ?_
              refine zi_val (100000) (by decide) ?_
              refine z_callV (pc := 79) O cl_X4_83 (k4_readNumber3 _ _ b 0 (by decide) 100000 (by decide) tk pl m (adv m (exR tk m rτ3.2.1 25711).2) (frτ9.lay (frτ5.lay (frτ3.lay (frτ1.lay J)))) eτ9_0 (by omega)) (by decide) (ivτ9_RdX).2.1 kc_4 rfl rfl (Nat.le_of_ble_eq_true rfl) ⟨Nat.zero_le _, Nat.zero_le _⟩ dX4_readWhen_79 (fun r τ21 hp => ?_)
              obtain ⟨z22, rfl, fτ21_0, fτ21_1, frτ21, ivτ21_RdX, eτ21_0⟩ := hp
              have := (ivτ21_RdX).2.2.2.1
              have := (ivτ21_RdX).2.2.2.2
              have := (ivτ21_RdX).1.2.2.2.2.1
              have := (ivτ21_RdX).1.2.2.2.2.2.1
              have : gI τ21 4 2 = gI σ 4 2 := gI_iz (FrD.it frτ21.1 (by omega) (FrD.it frτ9.1 (by omega) (FrD.it frτ5.1 (by omega) (FrD.it frτ3.1 (by omega) (FrD.it frτ1.1 (by omega) (izg σ 4 2)))))) (rgI _ _ _)
              refine z_goto (pc := 82) (tgt := 86) O dX4_readWhen_82 (by decide) ?_
              refine z_istore_n (pc := 86) [(0, .ref (b + 9)), (1, .int (iz z8)), (2, .int (iz z22))] O dX4_readWhen_86 (by decide) rfl ?_
              refine z_iload_n (pc := 87) O dX4_readWhen_87 rfl ?_
              refine z_iconst (pc := 88) (v := iz (-1)) O dX4_readWhen_88 (by decide) ?_
              refine zi_icmp_eq (pc := 89) (tgt := 102) O dX4_readWhen_89 (by decide) (by omega) (by decide) (fun h89 => ?_) (fun h89 => ?_)
              · refine z_iconst (pc := 102) (v := iz (0)) O dX4_readWhen_102 (by decide) ?_
                refine z_zret (pc := 103) O dX4_readWhen_103 rfl ?_
                have o0 := RtS.is1 rtτ3 (by omega)
                have o1 := Rt.is1 eτ5_0 (by omega)
                have o2 := NmR.no eτ21_0 (by omega)
                have er : whenT tk m rτ3 = _ := (cif_pos o0.1).trans ((thn_t o1.1).trans ((cif_neg (by omega)).trans ((cif_pos (by omega)).trans (thn_f o2.1))))
                exact ⟨0, rfl, (by decide), ((((((FrX.rf b [(9, 8), (9, 9), (9, 2), (9, 3), (9, 4), (8, 99999), (0, 14), (4, 99999), (5, 99999), (6, 99999), (0, 4)] σ).tr (frτ1.mono (V := [(9, 8), (9, 9), (9, 2), (9, 3), (9, 4), (8, 99999), (0, 14), (4, 99999), (5, 99999), (6, 99999), (0, 4)]) rfl)).tr (frτ3.mono (V := [(9, 8), (9, 9), (9, 2), (9, 3), (9, 4), (8, 99999), (0, 14), (4, 99999), (5, 99999), (6, 99999), (0, 4)]) rfl)).tr (frτ5.mono (V := [(9, 8), (9, 9), (9, 2), (9, 3), (9, 4), (8, 99999), (0, 14), (4, 99999), (5, 99999), (6, 99999), (0, 4)]) rfl)).tr (frτ9.mono (V := [(9, 8), (9, 9), (9, 2), (9, 3), (9, 4), (8, 99999), (0, 14), (4, 99999), (5, 99999), (6, 99999), (0, 4)]) rfl)).tr (frτ21.mono (V := [(9, 8), (9, 9), (9, 2), (9, 3), (9, 4), (8, 99999), (0, 14), (4, 99999), (5, 99999), (6, 99999), (0, 4)]) rfl)), ivτ21_RdX, (Or.inr ⟨by omega, rτ3, prτ3, by rw [er]; exact Or.inr ⟨rfl, o2.1, o2.2⟩, (Or.inl rfl)⟩)⟩
              · refine z_aload_n (pc := 92) O dX4_readWhen_92 rfl ?_
                refine z_ldc2 (pc := 93) O tw_400 dX4_readWhen_93 ?_
                refine z_callV (pc := 96) O cl_X4_89 (k4_expect3 _ _ b 59 tk pl m (adv m (adv m (exR tk m rτ3.2.1 25711).2)) (frτ21.lay (frτ9.lay (frτ5.lay (frτ3.lay (frτ1.lay J))))) (NmR.ok eτ21_0 (by omega)).2.2.2) (by decide) (ivτ21_RdX).2.1 kc_4 rfl rfl (Nat.le_of_ble_eq_true rfl) ⟨Nat.zero_le _, Nat.zero_le _⟩ dX4_readWhen_96 (fun r τ23 hp => ?_)
                obtain ⟨z24, rfl, fτ23_0, frτ23, ivτ23_RdX, eτ23_0⟩ := hp
                have := (ivτ23_RdX).2.2.2.1
                have := (ivτ23_RdX).2.2.2.2
                have := (ivτ23_RdX).1.2.2.2.2.1
                have := (ivτ23_RdX).1.2.2.2.2.2.1
                have : gI τ23 4 2 = gI σ 4 2 := gI_iz (FrD.it frτ23.1 (by omega) (FrD.it frτ21.1 (by omega) (FrD.it frτ9.1 (by omega) (FrD.it frτ5.1 (by omega) (FrD.it frτ3.1 (by omega) (FrD.it frτ1.1 (by omega) (izg σ 4 2))))))) (rgI _ _ _)
                rw [show (59 : Int64).toInt = 59 by decide] at eτ23_0
                refine zi_if_ne (pc := 99) (tgt := 104) O dX4_readWhen_99 (by decide) (by omega) (fun h99 => ?_) (fun h99 => ?_)
                · refine z_aload_n (pc := 104) O dX4_readWhen_104 rfl ?_
                  refine z_getR (pc := 105) b O fl_X4_19 rfl (ivτ23_RdX).2.1 (ivτ23_RdX).2.2.1.2 dX4_readWhen_105 ?_
                  refine z_iload_n (pc := 108) O dX4_readWhen_108 rfl ?_
                  refine z_iload_n (pc := 109) O dX4_readWhen_109 rfl ?_
                  refine z_callV (pc := 110) O cl_X4_108 (k1_addWhen3 _ _ b z8 (by omega) z22 (by omega) (frτ23.lay (frτ21.lay (frτ9.lay (frτ5.lay (frτ3.lay (frτ1.lay J)))))) ivτ23_RdX (by have q3 := (gI_iz (FrX.it 0 frτ23 rfl (FrX.it 0 frτ21 rfl (FrX.it 0 frτ9 rfl (FrX.it 0 frτ5 rfl (FrX.it 0 frτ3 rfl (FrX.it 0 frτ1 rfl (izg σ b 4))))))) (rgI _ _ _) : gI τ23 b 4 = gI σ b 4); omega)) (by decide) (ivτ23_RdX).1.2.1 kc_1 rfl rfl (Nat.le_of_ble_eq_true rfl) ⟨Nat.zero_le _, Nat.zero_le _⟩ dX4_readWhen_110 (fun r τ25 hp => ?_)
                  obtain ⟨rfl, frτ25, ivτ25_RdX, eτ25_0⟩ := hp
                  have := (ivτ25_RdX).2.2.2.1
                  have := (ivτ25_RdX).2.2.2.2
                  have := (ivτ25_RdX).1.2.2.2.2.1
                  have := (ivτ25_RdX).1.2.2.2.2.2.1
                  have : gI τ25 4 2 = gI σ 4 2 := gI_iz (FrD.it frτ25.1 (by omega) (FrD.it frτ23.1 (by omega) (FrD.it frτ21.1 (by omega) (FrD.it frτ9.1 (by omega) (FrD.it frτ5.1 (by omega) (FrD.it frτ3.1 (by omega) (FrD.it frτ1.1 (by omega) (izg σ 4 2)))))))) (rgI _ _ _)
                  refine z_iconst (pc := 113) (v := iz (1)) O dX4_readWhen_113 (by decide) ?_
                  refine z_zret (pc := 114) O dX4_readWhen_114 rfl ?_
                  have o0 := RtS.is1 rtτ3 (by omega)
                  have o1 := Rt.is1 eτ5_0 (by omega)
                  have o2 := NmR.ok eτ21_0 (by omega)
                  have o3 := Rt.is1 eτ23_0 (by omega)
                  have q4 := (gI_iz (FrX.it 0 frτ23 rfl (FrX.it 0 frτ21 rfl (FrX.it 0 frτ9 rfl (FrX.it 0 frτ5 rfl (FrX.it 0 frτ3 rfl (FrX.it 0 frτ1 rfl (izg σ b 4))))))) (rgI _ _ _) : gI τ23 b 4 = gI σ b 4)
                  have qs : gI τ25 (b + 9) 4 = gI τ3 (b + 9) 4 := gI_eq (FrX.it 9 frτ25 rfl (FrX.it 9 frτ23 rfl (FrX.it 9 frτ21 rfl (FrX.it 9 frτ9 rfl (FrX.it 9 frτ5 rfl rfl)))))
                  have er : whenT tk m rτ3 = _ := (cif_pos o0.1).trans ((thn_t o1.1).trans ((cif_neg (by omega)).trans ((cif_pos (by omega)).trans (thn_ok o2.2.2.1))))
                  exact ⟨1, rfl, (by decide), ((((((((FrX.rf b [(9, 8), (9, 9), (9, 2), (9, 3), (9, 4), (8, 99999), (0, 14), (4, 99999), (5, 99999), (6, 99999), (0, 4)] σ).tr (frτ1.mono (V := [(9, 8), (9, 9), (9, 2), (9, 3), (9, 4), (8, 99999), (0, 14), (4, 99999), (5, 99999), (6, 99999), (0, 4)]) rfl)).tr (frτ3.mono (V := [(9, 8), (9, 9), (9, 2), (9, 3), (9, 4), (8, 99999), (0, 14), (4, 99999), (5, 99999), (6, 99999), (0, 4)]) rfl)).tr (frτ5.mono (V := [(9, 8), (9, 9), (9, 2), (9, 3), (9, 4), (8, 99999), (0, 14), (4, 99999), (5, 99999), (6, 99999), (0, 4)]) rfl)).tr (frτ9.mono (V := [(9, 8), (9, 9), (9, 2), (9, 3), (9, 4), (8, 99999), (0, 14), (4, 99999), (5, 99999), (6, 99999), (0, 4)]) rfl)).tr (frτ21.mono (V := [(9, 8), (9, 9), (9, 2), (9, 3), (9, 4), (8, 99999), (0, 14), (4, 99999), (5, 99999), (6, 99999), (0, 4)]) rfl)).tr (frτ23.mono (V := [(9, 8), (9, 9), (9, 2), (9, 3), (9, 4), (8, 99999), (0, 14), (4, 99999), (5, 99999), (6, 99999), (0, 4)]) rfl)).tr (frτ25.mono (V := [(9, 8), (9, 9), (9, 2), (9, 3), (9, 4), (8, 99999), (0, 14), (4, 99999), (5, 99999), (6, 99999), (0, 4)]) rfl)), ivτ25_RdX, (Or.inr ⟨by omega, rτ3, prτ3, by rw [er]; exact Or.inl ⟨rfl, o3.1, RdS.fr o3.2 frτ25 ivτ25_RdX rfl rfl rfl rfl⟩, (Or.inr ⟨by rw [qs]; exact o0.2.2, by omega⟩)⟩)⟩
                · refine z_iconst (pc := 102) (v := iz (0)) O dX4_readWhen_102 (by decide) ?_
                  refine z_zret (pc := 103) O dX4_readWhen_103 rfl ?_
                  have o0 := RtS.is1 rtτ3 (by omega)
                  have o1 := Rt.is1 eτ5_0 (by omega)
                  have o2 := NmR.ok eτ21_0 (by omega)
                  have o3 := Rt.is0 eτ23_0 (by omega)
                  have er : whenT tk m rτ3 = _ := (cif_pos o0.1).trans ((thn_t o1.1).trans ((cif_neg (by omega)).trans ((cif_pos (by omega)).trans (thn_ok o2.2.2.1))))
                  exact ⟨0, rfl, (by decide), (((((((FrX.rf b [(9, 8), (9, 9), (9, 2), (9, 3), (9, 4), (8, 99999), (0, 14), (4, 99999), (5, 99999), (6, 99999), (0, 4)] σ).tr (frτ1.mono (V := [(9, 8), (9, 9), (9, 2), (9, 3), (9, 4), (8, 99999), (0, 14), (4, 99999), (5, 99999), (6, 99999), (0, 4)]) rfl)).tr (frτ3.mono (V := [(9, 8), (9, 9), (9, 2), (9, 3), (9, 4), (8, 99999), (0, 14), (4, 99999), (5, 99999), (6, 99999), (0, 4)]) rfl)).tr (frτ5.mono (V := [(9, 8), (9, 9), (9, 2), (9, 3), (9, 4), (8, 99999), (0, 14), (4, 99999), (5, 99999), (6, 99999), (0, 4)]) rfl)).tr (frτ9.mono (V := [(9, 8), (9, 9), (9, 2), (9, 3), (9, 4), (8, 99999), (0, 14), (4, 99999), (5, 99999), (6, 99999), (0, 4)]) rfl)).tr (frτ21.mono (V := [(9, 8), (9, 9), (9, 2), (9, 3), (9, 4), (8, 99999), (0, 14), (4, 99999), (5, 99999), (6, 99999), (0, 4)]) rfl)).tr (frτ23.mono (V := [(9, 8), (9, 9), (9, 2), (9, 3), (9, 4), (8, 99999), (0, 14), (4, 99999), (5, 99999), (6, 99999), (0, 4)]) rfl)), ivτ23_RdX, (Or.inr ⟨by omega, rτ3, prτ3, by rw [er]; exact Or.inr ⟨rfl, o3.1, o3.2⟩, (Or.inl rfl)⟩)⟩
        · refine z_aload_n (pc := 55) O dX4_readWhen_55 rfl ?_
          refine z_iconst (pc := 56) (v := iz (2)) O dX4_readWhen_56 (by decide) ?_
          refine z_callV (pc := 57) O cl_X4_59 (k4_refuse3 _ _ b 2 (by decide) tk pl m (exR tk m rτ3.2.1 25711).2 (frτ5.lay (frτ3.lay (frτ1.lay J))) (Rt.is1 eτ5_0 (by omega)).2) (by decide) (ivτ5_RdX).2.1 kc_4 rfl rfl (Nat.le_of_ble_eq_true rfl) ⟨Nat.zero_le _, Nat.zero_le _⟩ dX4_readWhen_57 (fun r τ27 hp => ?_)
          obtain ⟨z28, rfl, fτ27_0, fτ27_1, frτ27, ivτ27_RdX, eτ27_0⟩ := hp
          have := (ivτ27_RdX).2.2.2.1
          have := (ivτ27_RdX).2.2.2.2
          have := (ivτ27_RdX).1.2.2.2.2.1
          have := (ivτ27_RdX).1.2.2.2.2.2.1
          have : gI τ27 4 2 = gI σ 4 2 := gI_iz (FrD.it frτ27.1 (by omega) (FrD.it frτ5.1 (by omega) (FrD.it frτ3.1 (by omega) (FrD.it frτ1.1 (by omega) (izg σ 4 2))))) (rgI _ _ _)
          refine z_zret (pc := 60) O dX4_readWhen_60 (nar_z (by omega)) ?_
          have o0 := RtS.is1 rtτ3 (by omega)
          have o1 := Rt.is1 eτ5_0 (by omega)
          have er : whenT tk m rτ3 = _ := (cif_pos o0.1).trans ((thn_t o1.1).trans ((cif_neg (by omega)).trans (cif_neg (by omega))))
          exact ⟨z28, rfl, (by omega), (((((FrX.rf b [(9, 8), (9, 9), (9, 2), (9, 3), (9, 4), (8, 99999), (0, 14), (4, 99999), (5, 99999), (6, 99999), (0, 4)] σ).tr (frτ1.mono (V := [(9, 8), (9, 9), (9, 2), (9, 3), (9, 4), (8, 99999), (0, 14), (4, 99999), (5, 99999), (6, 99999), (0, 4)]) rfl)).tr (frτ3.mono (V := [(9, 8), (9, 9), (9, 2), (9, 3), (9, 4), (8, 99999), (0, 14), (4, 99999), (5, 99999), (6, 99999), (0, 4)]) rfl)).tr (frτ5.mono (V := [(9, 8), (9, 9), (9, 2), (9, 3), (9, 4), (8, 99999), (0, 14), (4, 99999), (5, 99999), (6, 99999), (0, 4)]) rfl)).tr (frτ27.mono (V := [(9, 8), (9, 9), (9, 2), (9, 3), (9, 4), (8, 99999), (0, 14), (4, 99999), (5, 99999), (6, 99999), (0, 4)]) rfl)), ivτ27_RdX, (Or.inr ⟨by omega, rτ3, prτ3, by rw [er]; exact (by rw [show z28 = 0 by omega]; exact Rt.no rfl (flt_ne (by decide)) eτ27_0), (Or.inl (by omega))⟩)⟩
      · refine z_iconst (pc := 40) (v := iz (0)) O dX4_readWhen_40 (by decide) ?_
        refine z_zret (pc := 41) O dX4_readWhen_41 rfl ?_
        have o0 := RtS.is1 rtτ3 (by omega)
        have o1 := Rt.is0 eτ5_0 (by omega)
        have er : whenT tk m rτ3 = _ := (cif_pos o0.1).trans (thn_f o1.1)
        exact ⟨0, rfl, (by decide), ((((FrX.rf b [(9, 8), (9, 9), (9, 2), (9, 3), (9, 4), (8, 99999), (0, 14), (4, 99999), (5, 99999), (6, 99999), (0, 4)] σ).tr (frτ1.mono (V := [(9, 8), (9, 9), (9, 2), (9, 3), (9, 4), (8, 99999), (0, 14), (4, 99999), (5, 99999), (6, 99999), (0, 4)]) rfl)).tr (frτ3.mono (V := [(9, 8), (9, 9), (9, 2), (9, 3), (9, 4), (8, 99999), (0, 14), (4, 99999), (5, 99999), (6, 99999), (0, 4)]) rfl)).tr (frτ5.mono (V := [(9, 8), (9, 9), (9, 2), (9, 3), (9, 4), (8, 99999), (0, 14), (4, 99999), (5, 99999), (6, 99999), (0, 4)]) rfl)), ivτ5_RdX, (Or.inr ⟨by omega, rτ3, prτ3, by rw [er]; exact Or.inr ⟨rfl, o1.1, o1.2⟩, (Or.inl rfl)⟩)⟩
  · refine z_aload_n (pc := 12) O dX4_readWhen_12 rfl ?_
    refine z_iconst (pc := 13) (v := iz (2)) O dX4_readWhen_13 (by decide) ?_
    refine z_callV (pc := 14) O cl_X4_59 (k4_refuse3 _ _ b 2 (by decide) tk pl m j J R) (by decide) (hX).2.1 kc_4 rfl rfl (Nat.le_of_ble_eq_true rfl) ⟨Nat.zero_le _, Nat.zero_le _⟩ dX4_readWhen_14 (fun r τ29 hp => ?_)
    obtain ⟨z30, rfl, fτ29_0, fτ29_1, frτ29, ivτ29_RdX, eτ29_0⟩ := hp
    have := (ivτ29_RdX).2.2.2.1
    have := (ivτ29_RdX).2.2.2.2
    have := (ivτ29_RdX).1.2.2.2.2.1
    have := (ivτ29_RdX).1.2.2.2.2.2.1
    have : gI τ29 4 2 = gI σ 4 2 := gI_iz (FrD.it frτ29.1 (by omega) (izg σ 4 2)) (rgI _ _ _)
    refine z_zret (pc := 17) O dX4_readWhen_17 (nar_z (by omega)) ?_
    exact ⟨z30, rfl, (by omega), ((FrX.rf b [(9, 8), (9, 9), (9, 2), (9, 3), (9, 4), (8, 99999), (0, 14), (4, 99999), (5, 99999), (6, 99999), (0, 4)] σ).tr (frτ29.mono (V := [(9, 8), (9, 9), (9, 2), (9, 3), (9, 4), (8, 99999), (0, 14), (4, 99999), (5, 99999), (6, 99999), (0, 4)]) rfl)), ivτ29_RdX, (Or.inl ⟨by omega, by omega, eτ29_0⟩)⟩
