theorem wr8 (k : Nat) : wr [(5, 99999), (6, 99999), (4, 2), (4, 3), (2, 1), (2, 5), (2, 6), (8, 99999)] 8 k = true := rfl
set_option maxHeartbeats 4000000 in
set_option maxRecDepth 20000 in
theorem k8_law (l : Launch) (σ : VH) (f : Int) (rf : (-2147483648 ≤ f ∧ f < 2147483648)) (d : Int) (rd : (-2147483648 ≤ d ∧ d < 2147483648)) (I : InvX σ) : Ct l yX8_law cX8_law 6 (some .int) 25 10 863 [.ref 2, .int (iz f), .int (iz d)] σ (fun r τ => ∃ z : Int, r = some (.int (iz z)) ∧ (-2147483648 ≤ z ∧ z < 2147483648) ∧ (FrG [(5, 99999), (6, 99999), (4, 2), (4, 3), (2, 1), (2, 5), (2, 6), (8, 99999)] σ τ) ∧ (InvX τ)) := by
  refine Ct.enter rfl (Nat.le_of_ble_eq_true rfl) ?_
  intro κ γ hκ O hrc hrs
  subst hκ
  have i1 := I.2.1
  unfold InvX1 at i1
  refine z_iload_n (pc := 0) O dX8_law_0 rfl ?_
  refine z_callS (pc := 1) O cl_X8_81 (k8_isFolk _ _ f (by omega)) (by decide) rfl rfl (Nat.le_of_ble_eq_true rfl) ⟨Nat.zero_le _, Nat.zero_le _⟩ dX8_law_1 (fun r τ1 hp => ?_)
  obtain ⟨z2, rfl, fτ1_0, fτ1_1, rfl⟩ := hp
  refine zi_if_eq (pc := 4) (tgt := 24) O dX8_law_4 (by decide) (by omega) (fun h4 => ?_) (fun h4 => ?_)
  · refine z_bipush (pc := 24) (v := iz (-2)) O dX8_law_24 (by decide) ?_
    refine z_widen (k := 10) (n := 863) (by decide) (by decide) ?_
    refine z_iret (pc := 26) O dX8_law_26 ?_
    exact ⟨-2, rfl, by decide, (Fr.rf [(5, 99999), (6, 99999), (4, 2), (4, 3), (2, 1), (2, 5), (2, 6), (8, 99999)] σ).G, I⟩
  · refine z_iload_n (pc := 7) O dX8_law_7 rfl ?_
    refine z_callS (pc := 8) O cl_X8_85 (k8_isDay _ _ d (by omega)) (by decide) rfl rfl (Nat.le_of_ble_eq_true rfl) ⟨Nat.zero_le _, Nat.zero_le _⟩ dX8_law_8 (fun r τ3 hp => ?_)
    obtain ⟨z4, rfl, fτ3_0, fτ3_1, rfl⟩ := hp
    refine zi_if_eq (pc := 11) (tgt := 24) O dX8_law_11 (by decide) (by omega) (fun h11 => ?_) (fun h11 => ?_)
    · refine z_bipush (pc := 24) (v := iz (-2)) O dX8_law_24 (by decide) ?_
      refine z_widen (k := 10) (n := 863) (by decide) (by decide) ?_
      refine z_iret (pc := 26) O dX8_law_26 ?_
      exact ⟨-2, rfl, by decide, (Fr.rf [(5, 99999), (6, 99999), (4, 2), (4, 3), (2, 1), (2, 5), (2, 6), (8, 99999)] σ).G, I⟩
    · have lo := I.2.2.1 f.toNat (by omega)
      refine z_aload_n (pc := 14) O dX8_law_14 rfl ?_
      refine z_getR (pc := 15) 8 O fl_X8_26 rfl (jo_2 I.1) (jr_2_4 I.1) dX8_law_15 ?_
      refine z_iload_n (pc := 18) O dX8_law_18 rfl ?_
      refine zi_ialdv (pc := 19) (f.toNat) (gI σ 8 (f.toNat)) O (ja_8 I.1) (by omega) (by omega) (by omega) (izg σ 8 (f.toNat)) dX8_law_19 ?_
      have := rgI σ 8 (f.toNat)
      refine z_iconst (pc := 20) (v := iz (4)) O dX8_law_20 (by decide) ?_
      refine zi_icmp_lt (pc := 21) (tgt := 27) O dX8_law_21 (by decide) (by omega) (by decide) (fun h21 => ?_) (fun h21 => ?_)
      · refine z_aload_n (pc := 27) O dX8_law_27 rfl ?_
        refine z_getR (pc := 28) 4 O fl_X8_16 rfl (jo_2 I.1) (jr_2_2 I.1) dX8_law_28 ?_
        refine z_aload_n (pc := 31) O dX8_law_31 rfl ?_
        refine z_getR (pc := 32) 3 O fl_X8_9 rfl (jo_2 I.1) (jr_2_0 I.1) dX8_law_32 ?_
        refine z_aload_n (pc := 35) O dX8_law_35 rfl ?_
        refine zi_getv (pc := 36) (gI σ 2 1) O fl_X8_74 rfl (jo_2 I.1) (izg σ 2 1) dX8_law_36 ?_
        have := rgI σ 2 1
        refine z_callV (pc := 39) O cl_X8_88 (k5_split _ _ (gI σ 2 1) (by omega) I.1) (by decide) (jo_4 I.1) kc_5 rfl rfl (Nat.le_of_ble_eq_true rfl) ⟨Nat.zero_le _, Nat.zero_le _⟩ dX8_law_39 (fun r τ5 hp => ?_)
        obtain ⟨rfl, frτ5, eτ5_0⟩ := hp
        refine z_aload_n (pc := 42) O dX8_law_42 rfl ?_
        refine z_iconst (pc := 43) (v := iz (0)) O dX8_law_43 (by decide) ?_
        refine z_putI (pc := 44) O fl_X8_74 rfl ⟨rfl, rfl⟩ (jo_2 (frτ5.lay I.1)) dX8_law_44 ?_
        obtain ⟨ν, hν⟩ : ∃ ν : VH, (sI τ5 2 1 (iz 0)) = ν := ⟨_, rfl⟩
        have Iν : InvX ν := hν ▸ (InvX.fr ((frτ5.mono (V := [(5, 99999), (6, 99999), (4, 2), (4, 3), (2, 1)]) rfl).pI rfl) I (by unfold InvX1; have : gI (sI τ5 2 1 (iz 0)) 2 1 = 0 := gI_iz (hI_at _ _ _ _) (by omega); have : gI (sI τ5 2 1 (iz 0)) 9 7 = gI σ 9 7 := gI_iz (sk1t (by decide) (Fr.it frτ5 rfl (izg σ 9 7))) (rgI _ _ _); have : gI (sI τ5 2 1 (iz 0)) 16 4 = gI σ 16 4 := gI_iz (sk1t (by decide) (Fr.it frτ5 rfl (izg σ 16 4))) (rgI _ _ _); have : gI (sI τ5 2 1 (iz 0)) 21 4 = gI σ 21 4 := gI_iz (sk1t (by decide) (Fr.it frτ5 rfl (izg σ 21 4))) (rgI _ _ _); have : gI (sI τ5 2 1 (iz 0)) 2 12 = gI σ 2 12 := gI_iz (sk2t (by decide) (Fr.it frτ5 rfl (izg σ 2 12))) (rgI _ _ _); have : gI (sI τ5 2 1 (iz 0)) 27 3 = gI σ 27 3 := gI_iz (sk1t (by decide) (Fr.it frτ5 rfl (izg σ 27 3))) (rgI _ _ _); have : gI (sI τ5 2 1 (iz 0)) 2 15 = gI σ 2 15 := gI_iz (sk2t (by decide) (Fr.it frτ5 rfl (izg σ 2 15))) (rgI _ _ _); have : gI (sI τ5 2 1 (iz 0)) 2 7 = gI σ 2 7 := gI_iz (sk2t (by decide) (Fr.it frτ5 rfl (izg σ 2 7))) (rgI _ _ _); omega) (fun _ => rfl))
        have q42 : gI ν 4 2 = gI τ5 4 2 := hν ▸ gI_iz (sk1t (by decide) (izg τ5 4 2)) (rgI _ _ _)
        have Fν : Fr [(5, 99999), (6, 99999), (4, 2), (4, 3), (2, 1)] σ ν := hν ▸ ((frτ5.mono (V := [(5, 99999), (6, 99999), (4, 2), (4, 3), (2, 1)]) rfl).pI rfl)
        refine z_heap hν ?_
        clear hν
        have h87 : 87 ≤ hN ν := Iν.1.1
        obtain ⟨b, eb⟩ : ∃ b, hN ν = b := ⟨_, rfl⟩
        refine z_new (pc := 47) O kc_1 dv_1 tw_47 tw_261 tw_8 ⟨by rw [hrc]; decide, by rw [hrs]; decide⟩ dX8_law_47 ?_
        have A1 : FrA b ν (sN ν (1, 0)) := FrA.nw (FrA.rf (Nat.le_of_eq eb.symm))
        have J1 : Lay (sN ν (1, 0)) := A1.lay (by omega) Iν.1
        have t1 : Is (sN ν (1, 0)) b 1 := eb ▸ Is.top (by omega)
        refine z_top (st' := [.ref b]) (by first | (rw [eb]; done) | (rw [eb]; rfl)) ?_
        refine z_dup (pc := 50) O dX8_law_50 rfl ?_
        refine z_iload_n (pc := 51) O dX8_law_51 rfl ?_
        refine z_aload_n (pc := 52) O dX8_law_52 rfl ?_
        refine z_getR (pc := 53) 4 O fl_X8_16 rfl (jo_2 J1) (jr_2_2 J1) dX8_law_53 ?_
        refine zi_getv (pc := 56) (gI ν 4 2) O fl_X8_92 rfl (jo_4 J1) (A1.it (by omega) (izg ν 4 2)) dX8_law_56 ?_
        have hct := rgI ν 4 2
        refine z_callI (pc := 59) O cl_X8_95 (c1_init _ b _ t1 d (gI ν 4 2) (by omega)) (by decide) rfl rfl (Nat.le_of_ble_eq_true rfl) ⟨by rw [hrc]; decide, by rw [hrs]; decide⟩ dX8_law_59 (fun r τ hp => ?_)
        obtain ⟨rfl, rfl⟩ := hp
        refine z_top (st' := [.ref b]) rfl ?_
        refine z_astore_n (pc := 62) [(0, .ref 2), (1, .int (iz f)), (2, .int (iz d)), (3, .ref b)] O dX8_law_62 (by decide) rfl ?_
        have A2 : FrA b ν (in_X1 b (iz d) (gI ν 4 2).toNat (sN ν (1, 0))) := A1.tr (FrA.X1 (by rw [hN_sN]; omega) (Nat.le_refl _))
        have n9 : hN (in_X1 b (iz d) (gI ν 4 2).toNat (sN ν (1, 0))) = b + 9 := by rw [hN_X1, hN_sN, eb]
        refine z_new (pc := 63) O kc_4 dv_4 tw_327 tw_328 tw_9 ⟨by rw [hrc]; decide, by rw [hrs]; decide⟩ dX8_law_63 ?_
        have A3 : FrA b ν (sN (in_X1 b (iz d) (gI ν 4 2).toNat (sN ν (1, 0))) (4, 0)) := A2.nw
        have J3 := A3.lay (by omega) Iν.1
        have t3 : Is (sN (in_X1 b (iz d) (gI ν 4 2).toNat (sN ν (1, 0))) (4, 0)) (b + 9) 4 := n9 ▸ Is.top (by omega)
        refine z_top (st' := [.ref (b + 9)]) (by first | (rw [n9]; done) | (rw [n9]; rfl)) ?_
        refine z_dup (pc := 66) O dX8_law_66 rfl ?_
        refine z_aload_n (pc := 67) O dX8_law_67 rfl ?_
        refine z_getR (pc := 68) 4 O fl_X8_16 rfl (jo_2 J3) (jr_2_2 J3) dX8_law_68 ?_
        refine z_aload_n (pc := 71) O dX8_law_71 rfl ?_
        refine z_callI (pc := 72) O cl_X8_100 (c4_init _ (b + 9) b _ t3 J3 (by omega)) (by decide) rfl rfl (Nat.le_of_ble_eq_true rfl) ⟨by rw [hrc]; decide, by rw [hrs]; decide⟩ dX8_law_72 (fun r τ hp => ?_)
        obtain ⟨rfl, hτ⟩ := hp
        have em : τ = mk_law ν (iz d) (gI ν 4 2).toNat := by rw [hτ]; unfold mk_law; rw [eb]
        have Rτ : RdX τ b := by rw [em, ← eb]; exact mk_law_ok Iν.1 (by omega) (by omega)
        have Aτ : FrA b ν τ := by rw [em, ← eb]; exact mk_law_fr
        clear hτ em
        refine z_top (st' := [.ref (b + 9)]) rfl ?_
        refine z_astore (pc := 75) [(0, .ref 2), (1, .int (iz f)), (2, .int (iz d)), (3, .ref b), (4, .ref (b + 9))] O dX8_law_75 (by decide) rfl ?_
        refine z_aload (pc := 77) O dX8_law_77 rfl ?_
        have Jτ := Aτ.lay (by omega) Iν.1
        refine z_callV (pc := 79) O cl_X8_103 (k4_readText _ _ b Jτ Rτ) (by decide) Rτ.2.1 kc_4 rfl rfl (Nat.le_of_ble_eq_true rfl) ⟨by rw [hrc]; decide, by rw [hrs]; decide⟩ dX8_law_79 (fun r ρ hp => ?_)
        obtain ⟨zg, rfl, rzg, Fρ, Rρ⟩ := hp
        have Aρ : FrA b ν ρ := Aτ.tr (Fρ.a (by have := Aτ.2.1; omega))
        have Iρ : InvX ρ := Iν.frA (eb.symm ▸ Aρ)
        have Lρ : LawOK ρ b := Rρ.1
        refine z_top (st' := [.int (iz zg)]) rfl ?_
        refine z_istore (pc := 82) [(0, .ref 2), (1, .int (iz f)), (2, .int (iz d)), (3, .ref b), (4, .ref (b + 9)), (5, .int (iz zg))] O dX8_law_82 (by decide) rfl ?_
        refine z_aload_n (pc := 84) O dX8_law_84 rfl ?_
        refine z_aload (pc := 85) O dX8_law_85 rfl ?_
        refine zi_getv (pc := 87) (gI ρ (b + 9) 8) O fl_X8_107 rfl Rρ.2.1 (izg _ (b + 9) 8) dX8_law_87 ?_
        have := rgI ρ (b + 9) 8
        refine z_putI (pc := 90) O fl_X8_110 rfl ⟨rfl, rfl⟩ (jo_2 Iρ.1) dX8_law_90 ?_
        refine z_aload_n (pc := 93) O dX8_law_93 rfl ?_
        refine z_aload (pc := 94) O dX8_law_94 rfl ?_
        refine zi_getv (pc := 96) (gI (sI ρ 2 5 (iz (gI ρ (b + 9) 8))) (b + 9) 9) O fl_X8_113 rfl Rρ.2.1 (izg _ (b + 9) 9) dX8_law_96 ?_
        have := rgI (sI ρ 2 5 (iz (gI ρ (b + 9) 8))) (b + 9) 9
        refine z_putI (pc := 99) O fl_X8_30 rfl ⟨rfl, rfl⟩ (jo_2 Iρ.1) dX8_law_99 ?_
        obtain ⟨μ, hμ⟩ : ∃ μ : VH, (sI (sI ρ 2 5 (iz (gI ρ (b + 9) 8))) 2 6 (iz (gI (sI ρ 2 5 (iz (gI ρ (b + 9) 8))) (b + 9) 9))) = μ := ⟨_, rfl⟩
        have F9 : Fr [(2, 5), (2, 6)] ρ μ := hμ ▸ (((Fr.rf [(2, 5), (2, 6)] ρ).pI rfl).pI rfl)
        refine z_heap hμ ?_
        clear hμ
        have I9 : InvX μ := InvX.fr F9 Iρ (by have i9 := Iρ.2.1; unfold InvX1 at i9 ⊢; rw [F9.g 2 1 rfl, F9.g 9 7 rfl, F9.g 16 4 rfl, F9.g 21 4 rfl, F9.g 2 12 rfl, F9.g 27 3 rfl, F9.g 2 15 rfl, F9.g 2 7 rfl]; exact i9) (fun _ => rfl)
        have G9 : FrG [(5, 99999), (6, 99999), (4, 2), (4, 3), (2, 1), (2, 5), (2, 6), (8, 99999)] σ μ := (((Fν.G).mono (V := [(5, 99999), (6, 99999), (4, 2), (4, 3), (2, 1), (2, 5), (2, 6), (8, 99999)]) rfl).tr (Aρ.G [(5, 99999), (6, 99999), (4, 2), (4, 3), (2, 1), (2, 5), (2, 6), (8, 99999)] (by omega))).tr (F9.G.mono rfl)
        have Lμ : LawOK μ b := Lρ.fr F9
        have q8 : gI μ 8 f.toNat = gI σ 8 f.toNat := gI_eq (F9.it rfl (Aρ.it (by omega) (Fν.it rfl rfl)))
        have q8i : hI μ 8 f.toNat = iz (gI σ 8 f.toNat) := (izg μ 8 f.toNat).trans (congrArg iz q8)
        refine z_iload (pc := 102) O dX8_law_102 rfl ?_
        refine zi_if_ne (pc := 104) (tgt := 109) O dX8_law_104 (by decide) (by omega) (fun h104 => ?_) (fun h104 => ?_)
        · refine z_aload_n (pc := 109) O dX8_law_109 rfl ?_
          refine z_getR (pc := 110) 7 O fl_X8_22 rfl (jo_2 I9.1) (jr_2_3 I9.1) dX8_law_110 ?_
          refine z_iload_n (pc := 113) O dX8_law_113 rfl ?_
          refine z_iconst (pc := 114) (v := iz (4)) O dX8_law_114 (by decide) ?_
          refine zi_imul (pc := 115) O dX8_law_115 ?_
          refine z_aload_n (pc := 116) O dX8_law_116 rfl ?_
          refine z_getR (pc := 117) 8 O fl_X8_26 rfl (jo_2 I9.1) (jr_2_4 I9.1) dX8_law_117 ?_
          refine z_iload_n (pc := 120) O dX8_law_120 rfl ?_
          refine zi_ialdv (pc := 121) (f.toNat) (gI σ 8 (f.toNat)) O (ja_8 I9.1) (by omega) (by omega) (by omega) (Fr.it F9 rfl (FrA.it Aρ (by omega) (Fr.it Fν rfl (izg σ 8 (f.toNat))))) dX8_law_121 ?_
          refine zi_iadd (pc := 122) O dX8_law_122 ?_
          refine z_aload_n (pc := 123) O dX8_law_123 rfl ?_
          refine zi_aast (pc := 124) (t0 := 4) (ci := 1) ((4 * f + gI σ 8 f.toNat).toNat) O (ja_7 I9.1) (by decide) rfl rfl (by decide) Lμ.is (by omega) (by omega) (by omega) dX8_law_124 ?_
          refine z_aload_n (pc := 125) O dX8_law_125 rfl ?_
          refine z_getR (pc := 126) 8 O fl_X8_26 rfl (jo_2 (Lay.pR7 (σ := μ) (a := 7) (j := ((4 * f + gI σ 8 f.toNat).toNat)) (x := some b) (by decide) I9.1)) (jr_2_4 (Lay.pR7 (σ := μ) (a := 7) (j := ((4 * f + gI σ 8 f.toNat).toNat)) (x := some b) (by decide) I9.1)) dX8_law_126 ?_
          refine z_iload_n (pc := 129) O dX8_law_129 rfl ?_
          refine z_dup2 (pc := 130) O dX8_law_130 rfl rfl ?_
          refine zi_ialdv (pc := 131) (f.toNat) (gI σ 8 (f.toNat)) O (ja_8 (Lay.pR7 (σ := μ) (a := 7) (j := ((4 * f + gI σ 8 f.toNat).toNat)) (x := some b) (by decide) I9.1)) (by omega) (by omega) (by omega) (skR (Fr.it F9 rfl (FrA.it Aρ (by omega) (Fr.it Fν rfl (izg σ 8 (f.toNat)))))) dX8_law_131 ?_
          refine z_iconst (pc := 132) (v := iz (1)) O dX8_law_132 (by decide) ?_
          refine zi_iadd (pc := 133) O dX8_law_133 ?_
          refine zi_iast (pc := 134) (f.toNat) O (ja_8 (Lay.pR7 (σ := μ) (a := 7) (j := ((4 * f + gI σ 8 f.toNat).toNat)) (x := some b) (by decide) I9.1)) (by omega) (by omega) (by omega) dX8_law_134 ?_
          refine z_aload_n (pc := 135) O dX8_law_135 rfl ?_
          refine z_getR (pc := 136) 8 O fl_X8_26 rfl (jo_2 (Lay.pR7 (σ := μ) (a := 7) (j := ((4 * f + gI σ 8 f.toNat).toNat)) (x := some b) (by decide) I9.1)) (jr_2_4 (Lay.pR7 (σ := μ) (a := 7) (j := ((4 * f + gI σ 8 f.toNat).toNat)) (x := some b) (by decide) I9.1)) dX8_law_136 ?_
          refine z_iload_n (pc := 139) O dX8_law_139 rfl ?_
          refine zi_ialdv (pc := 140) (f.toNat) ((gI σ 8 (f.toNat)) + 1) O (ja_8 (Lay.pR7 (σ := μ) (a := 7) (j := ((4 * f + gI σ 8 f.toNat).toNat)) (x := some b) (by decide) I9.1)) (by omega) (by omega) (by omega) (hI_at _ _ _ _) dX8_law_140 ?_
          refine z_widen (k := 10) (n := 863) (by decide) (by decide) ?_
          refine z_iret (pc := 141) O dX8_law_141 ?_
          have I8 := I9.addLaw (j := (4 * f + gI σ 8 f.toNat).toNat) (f := f.toNat) Lμ (by omega) (by omega)
          rw [q8] at I8
          exact ⟨((gI σ 8 (f.toNat)) + 1), rfl, by omega, (G9.pR).pI (wr8 _), I8⟩
        · refine z_iconst (pc := 107) (v := iz (-1)) O dX8_law_107 (by decide) ?_
          refine z_widen (k := 10) (n := 863) (by decide) (by decide) ?_
          refine z_iret (pc := 108) O dX8_law_108 ?_
          exact ⟨-1, rfl, by decide, G9, I9⟩
      · refine z_bipush (pc := 24) (v := iz (-2)) O dX8_law_24 (by decide) ?_
        refine z_widen (k := 10) (n := 863) (by decide) (by decide) ?_
        refine z_iret (pc := 26) O dX8_law_26 ?_
        exact ⟨-2, rfl, by decide, (Fr.rf [(5, 99999), (6, 99999), (4, 2), (4, 3), (2, 1), (2, 5), (2, 6), (8, 99999)] σ).G, I⟩
