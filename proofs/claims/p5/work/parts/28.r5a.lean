set_option maxHeartbeats 4000000 in
set_option maxRecDepth 20000 in
theorem k9_readNeed (l : Launch) (σ : VH) (b : Int) (J : Lay σ) (ht : (0 ≤ gI σ 33 7 ∧ gI σ 33 7 ≤ gI σ 33 8 ∧ gI σ 33 8 ≤ gI σ 33 3 ∧ gI σ 33 3 ≤ 700 ∧ ((gI σ 33 9 = 0 ∧ gI σ 33 7 = gI σ 33 3) ∨ (gI σ 33 7 < gI σ 33 8 ∧ 1 ≤ gI σ 33 9 ∧ gI σ 33 9 ≤ 5)))) (hf : 0 ≤ gI σ 33 4) (eb : gI σ 33 34 = b) (hb : 0 ≤ b ∧ b ≤ 15) : Ct l yX9_readNeed cX9_readNeed 1 none 4 0 0 [.ref 33] σ (fun r τ => r = none ∧ (Fr [(33, 7), (33, 8), (33, 9), (33, 10), (33, 11), (33, 4), (33, 5), (47, 99999), (48, 99999), (55, 99999)] σ τ) ∧ (0 ≤ gI τ 33 7 ∧ gI τ 33 7 ≤ gI τ 33 8 ∧ gI τ 33 8 ≤ gI τ 33 3 ∧ gI τ 33 3 ≤ 700 ∧ ((gI τ 33 9 = 0 ∧ gI τ 33 7 = gI τ 33 3) ∨ (gI τ 33 7 < gI τ 33 8 ∧ 1 ≤ gI τ 33 9 ∧ gI τ 33 9 ≤ 5))) ∧ (gI σ 33 7 ≤ gI τ 33 7) ∧ ((gI σ 33 4 ≤ 0 ∨ 0 < gI τ 33 4) ∧ 0 ≤ gI τ 33 4)) := by
  refine Ct.enter rfl (Nat.le_of_ble_eq_true rfl) ?_
  intro κ γ hκ O hrc hrs
  subst hκ
  refine z_aload_n (pc := 0) O dX9_readNeed_0 rfl ?_
  refine z_getR (pc := 1) 55 O fl_X9_80 rfl (jo_33 J) (jr_33_31 J) dX9_readNeed_1 ?_
  refine z_aload_n (pc := 4) O dX9_readNeed_4 rfl ?_
  refine zi_getv (pc := 5) (b) O fl_X9_283 rfl (jo_33 J) ((izg σ 33 34).trans (congrArg iz eb)) dX9_readNeed_5 ?_
  refine z_iconst (pc := 8) (v := iz (1)) O dX9_readNeed_8 (by decide) ?_
  refine zi_zast (pc := 9) (b.toNat) O (ja_55 J) (by omega) (by omega) (by omega) (by omega) dX9_readNeed_9 ?_
  refine z_aload_n (pc := 10) O dX9_readNeed_10 rfl ?_
  refine z_getR (pc := 11) 47 O fl_X9_54 rfl (jo_33 J) (jr_33_23 J) dX9_readNeed_11 ?_
  refine z_aload_n (pc := 14) O dX9_readNeed_14 rfl ?_
  refine zi_getv (pc := 15) (b) O fl_X9_283 rfl (jo_33 J) (sk1t (by decide) ((izg σ 33 34).trans (congrArg iz eb))) dX9_readNeed_15 ?_
  refine z_aload_n (pc := 18) O dX9_readNeed_18 rfl ?_
  refine z_iconst (pc := 19) (v := iz (0)) O dX9_readNeed_19 (by decide) ?_
  refine z_bipush (pc := 20) (v := iz (12)) O dX9_readNeed_20 (by decide) ?_
  refine z_callV (pc := 22) O cl_X9_317 (k9_numeral _ _ 0 (by decide) 12 (by decide) J (by have : gI (sI σ 55 (b.toNat) (iz 1)) 33 7 = gI σ 33 7 := gI_iz (sk1t (by decide) (izg σ 33 7)) (rgI _ _ _); have : gI (sI σ 55 (b.toNat) (iz 1)) 33 8 = gI σ 33 8 := gI_iz (sk1t (by decide) (izg σ 33 8)) (rgI _ _ _); have : gI (sI σ 55 (b.toNat) (iz 1)) 33 3 = gI σ 33 3 := gI_iz (sk1t (by decide) (izg σ 33 3)) (rgI _ _ _); have : gI (sI σ 55 (b.toNat) (iz 1)) 33 9 = gI σ 33 9 := gI_iz (sk1t (by decide) (izg σ 33 9)) (rgI _ _ _); omega) (by have : gI (sI σ 55 (b.toNat) (iz 1)) 33 4 = gI σ 33 4 := gI_iz (sk1t (by decide) (izg σ 33 4)) (rgI _ _ _); omega)) (by decide) (jo_33 J) kc_9 rfl rfl (Nat.le_of_ble_eq_true rfl) ⟨Nat.zero_le _, Nat.zero_le _⟩ dX9_readNeed_22 (fun r τ1 hp => ?_)
  obtain ⟨z2, rfl, fτ1_0, frτ1, eτ1_0, eτ1_1, eτ1_2, eτ1_3⟩ := hp
  have : gI τ1 33 3 = gI σ 33 3 := gI_iz (Fr.it frτ1 rfl (sk1t (by decide) (izg σ 33 3))) (rgI _ _ _)
  have : gI (sI σ 55 (b.toNat) (iz 1)) 33 7 = gI σ 33 7 := gI_iz (sk1t (by decide) (izg σ 33 7)) (rgI _ _ _)
  have : gI (sI σ 55 (b.toNat) (iz 1)) 33 4 = gI σ 33 4 := gI_iz (sk1t (by decide) (izg σ 33 4)) (rgI _ _ _)
  have : gI (sI σ 55 (b.toNat) (iz 1)) 33 7 = gI σ 33 7 := gI_iz (sk1t (by decide) (izg σ 33 7)) (rgI _ _ _)
  refine zi_iast (pc := 25) (b.toNat) O (ja_47 (frτ1.lay J)) (by omega) (by omega) (by omega) dX9_readNeed_25 ?_
  refine z_aload_n (pc := 26) O dX9_readNeed_26 rfl ?_
  refine z_callV (pc := 27) O cl_X9_272 (k9_isGood _ _ (frτ1.lay J)) (by decide) (jo_33 (frτ1.lay J)) kc_9 rfl rfl (Nat.le_of_ble_eq_true rfl) ⟨Nat.zero_le _, Nat.zero_le _⟩ dX9_readNeed_27 (fun r τ3 hp => ?_)
  obtain ⟨z4, rfl, fτ3_0, fτ3_1, rfl⟩ := hp
  have : gI (sI τ1 47 (b.toNat) (iz z2)) 33 4 = gI τ1 33 4 := gI_iz (sk1t (by decide) (izg τ1 33 4)) (rgI _ _ _)
  refine zi_if_eq (pc := 30) (tgt := 40) O dX9_readNeed_30 (by decide) (by omega) (fun h30 => ?_) (fun h30 => ?_)
  · refine z_aload_n (pc := 40) O dX9_readNeed_40 rfl ?_
    refine z_getR (pc := 41) 48 O fl_X9_57 rfl (jo_33 (frτ1.lay J)) (jr_33_24 (frτ1.lay J)) dX9_readNeed_41 ?_
    refine z_aload_n (pc := 44) O dX9_readNeed_44 rfl ?_
    refine zi_getv (pc := 45) (b) O fl_X9_283 rfl (jo_33 (frτ1.lay J)) (sk1t (by decide) (Fr.it frτ1 rfl (sk1t (by decide) ((izg σ 33 34).trans (congrArg iz eb))))) dX9_readNeed_45 ?_
    refine z_aload_n (pc := 48) O dX9_readNeed_48 rfl ?_
    refine z_iconst (pc := 49) (v := iz (0)) O dX9_readNeed_49 (by decide) ?_
    refine z_iconst (pc := 50) (v := iz (3)) O dX9_readNeed_50 (by decide) ?_
    refine z_callV (pc := 51) O cl_X9_317 (k9_numeral _ _ 0 (by decide) 3 (by decide) (frτ1.lay J) (by have : gI (sI τ1 47 (b.toNat) (iz z2)) 33 7 = gI τ1 33 7 := gI_iz (sk1t (by decide) (izg τ1 33 7)) (rgI _ _ _); have : gI (sI τ1 47 (b.toNat) (iz z2)) 33 8 = gI τ1 33 8 := gI_iz (sk1t (by decide) (izg τ1 33 8)) (rgI _ _ _); have : gI (sI τ1 47 (b.toNat) (iz z2)) 33 3 = gI σ 33 3 := gI_iz (sk1t (by decide) (Fr.it frτ1 rfl (sk1t (by decide) (izg σ 33 3)))) (rgI _ _ _); have : gI (sI τ1 47 (b.toNat) (iz z2)) 33 9 = gI τ1 33 9 := gI_iz (sk1t (by decide) (izg τ1 33 9)) (rgI _ _ _); omega) (by have : gI (sI τ1 47 (b.toNat) (iz z2)) 33 4 = gI τ1 33 4 := gI_iz (sk1t (by decide) (izg τ1 33 4)) (rgI _ _ _); omega)) (by decide) (jo_33 (frτ1.lay J)) kc_9 rfl rfl (Nat.le_of_ble_eq_true rfl) ⟨Nat.zero_le _, Nat.zero_le _⟩ dX9_readNeed_51 (fun r τ5 hp => ?_)
    obtain ⟨z6, rfl, fτ5_0, frτ5, eτ5_0, eτ5_1, eτ5_2, eτ5_3⟩ := hp
    have : gI τ5 33 3 = gI σ 33 3 := gI_iz (Fr.it frτ5 rfl (sk1t (by decide) (Fr.it frτ1 rfl (sk1t (by decide) (izg σ 33 3))))) (rgI _ _ _)
    have : gI (sI τ1 47 (b.toNat) (iz z2)) 33 7 = gI τ1 33 7 := gI_iz (sk1t (by decide) (izg τ1 33 7)) (rgI _ _ _)
    have : gI (sI τ1 47 (b.toNat) (iz z2)) 33 4 = gI τ1 33 4 := gI_iz (sk1t (by decide) (izg τ1 33 4)) (rgI _ _ _)
    have : gI (sI τ1 47 (b.toNat) (iz z2)) 33 7 = gI τ1 33 7 := gI_iz (sk1t (by decide) (izg τ1 33 7)) (rgI _ _ _)
    refine zi_iast (pc := 54) (b.toNat) O (ja_48 (frτ5.lay (frτ1.lay J))) (by omega) (by omega) (by omega) dX9_readNeed_54 ?_
    refine z_vret (pc := 55) O dX9_readNeed_55 ?_
    exact ⟨rfl, ((((((Fr.rf [(33, 7), (33, 8), (33, 9), (33, 10), (33, 11), (33, 4), (33, 5), (47, 99999), (48, 99999), (55, 99999)] σ).pI rfl).tr (frτ1.mono (V := [(33, 7), (33, 8), (33, 9), (33, 10), (33, 11), (33, 4), (33, 5), (47, 99999), (48, 99999), (55, 99999)]) rfl)).pI rfl).tr (frτ5.mono (V := [(33, 7), (33, 8), (33, 9), (33, 10), (33, 11), (33, 4), (33, 5), (47, 99999), (48, 99999), (55, 99999)]) rfl)).pI rfl), (by have : gI (sI τ5 48 (b.toNat) (iz z6)) 33 7 = gI τ5 33 7 := gI_iz (sk1t (by decide) (izg τ5 33 7)) (rgI _ _ _); have : gI (sI τ5 48 (b.toNat) (iz z6)) 33 8 = gI τ5 33 8 := gI_iz (sk1t (by decide) (izg τ5 33 8)) (rgI _ _ _); have : gI (sI τ5 48 (b.toNat) (iz z6)) 33 3 = gI σ 33 3 := gI_iz (sk1t (by decide) (Fr.it frτ5 rfl (sk1t (by decide) (Fr.it frτ1 rfl (sk1t (by decide) (izg σ 33 3)))))) (rgI _ _ _); have : gI (sI τ5 48 (b.toNat) (iz z6)) 33 9 = gI τ5 33 9 := gI_iz (sk1t (by decide) (izg τ5 33 9)) (rgI _ _ _); omega), (by have : gI (sI τ5 48 (b.toNat) (iz z6)) 33 7 = gI τ5 33 7 := gI_iz (sk1t (by decide) (izg τ5 33 7)) (rgI _ _ _); omega), (by have : gI (sI τ5 48 (b.toNat) (iz z6)) 33 4 = gI τ5 33 4 := gI_iz (sk1t (by decide) (izg τ5 33 4)) (rgI _ _ _); omega)⟩
  · refine z_aload_n (pc := 33) O dX9_readNeed_33 rfl ?_
    refine z_ldc2 (pc := 34) O tw_1007 dX9_readNeed_34 ?_
    refine z_callV (pc := 37) O cl_X9_321 (k9_mustWord _ _ 1918987883 (frτ1.lay J) (by have : gI (sI τ1 47 (b.toNat) (iz z2)) 33 7 = gI τ1 33 7 := gI_iz (sk1t (by decide) (izg τ1 33 7)) (rgI _ _ _); have : gI (sI τ1 47 (b.toNat) (iz z2)) 33 8 = gI τ1 33 8 := gI_iz (sk1t (by decide) (izg τ1 33 8)) (rgI _ _ _); have : gI (sI τ1 47 (b.toNat) (iz z2)) 33 3 = gI σ 33 3 := gI_iz (sk1t (by decide) (Fr.it frτ1 rfl (sk1t (by decide) (izg σ 33 3)))) (rgI _ _ _); have : gI (sI τ1 47 (b.toNat) (iz z2)) 33 9 = gI τ1 33 9 := gI_iz (sk1t (by decide) (izg τ1 33 9)) (rgI _ _ _); omega) (by have : gI (sI τ1 47 (b.toNat) (iz z2)) 33 4 = gI τ1 33 4 := gI_iz (sk1t (by decide) (izg τ1 33 4)) (rgI _ _ _); omega)) (by decide) (jo_33 (frτ1.lay J)) kc_9 rfl rfl (Nat.le_of_ble_eq_true rfl) ⟨Nat.zero_le _, Nat.zero_le _⟩ dX9_readNeed_37 (fun r τ7 hp => ?_)
    obtain ⟨rfl, frτ7, eτ7_0, eτ7_1, eτ7_2⟩ := hp
    have : gI τ7 33 3 = gI σ 33 3 := gI_iz (Fr.it frτ7 rfl (sk1t (by decide) (Fr.it frτ1 rfl (sk1t (by decide) (izg σ 33 3))))) (rgI _ _ _)
    have : gI (sI τ1 47 (b.toNat) (iz z2)) 33 7 = gI τ1 33 7 := gI_iz (sk1t (by decide) (izg τ1 33 7)) (rgI _ _ _)
    have : gI (sI τ1 47 (b.toNat) (iz z2)) 33 4 = gI τ1 33 4 := gI_iz (sk1t (by decide) (izg τ1 33 4)) (rgI _ _ _)
    refine z_aload_n (pc := 40) O dX9_readNeed_40 rfl ?_
    refine z_getR (pc := 41) 48 O fl_X9_57 rfl (jo_33 (frτ7.lay (frτ1.lay J))) (jr_33_24 (frτ7.lay (frτ1.lay J))) dX9_readNeed_41 ?_
    refine z_aload_n (pc := 44) O dX9_readNeed_44 rfl ?_
    refine zi_getv (pc := 45) (b) O fl_X9_283 rfl (jo_33 (frτ7.lay (frτ1.lay J))) (Fr.it frτ7 rfl (sk1t (by decide) (Fr.it frτ1 rfl (sk1t (by decide) ((izg σ 33 34).trans (congrArg iz eb)))))) dX9_readNeed_45 ?_
    refine z_aload_n (pc := 48) O dX9_readNeed_48 rfl ?_
    refine z_iconst (pc := 49) (v := iz (0)) O dX9_readNeed_49 (by decide) ?_
    refine z_iconst (pc := 50) (v := iz (3)) O dX9_readNeed_50 (by decide) ?_
    refine z_callV (pc := 51) O cl_X9_317 (k9_numeral _ _ 0 (by decide) 3 (by decide) (frτ7.lay (frτ1.lay J)) (by have : gI τ7 33 3 = gI σ 33 3 := gI_iz (Fr.it frτ7 rfl (sk1t (by decide) (Fr.it frτ1 rfl (sk1t (by decide) (izg σ 33 3))))) (rgI _ _ _); omega) (by omega)) (by decide) (jo_33 (frτ7.lay (frτ1.lay J))) kc_9 rfl rfl (Nat.le_of_ble_eq_true rfl) ⟨Nat.zero_le _, Nat.zero_le _⟩ dX9_readNeed_51 (fun r τ9 hp => ?_)
    obtain ⟨z10, rfl, fτ9_0, frτ9, eτ9_0, eτ9_1, eτ9_2, eτ9_3⟩ := hp
    have : gI τ9 33 3 = gI σ 33 3 := gI_iz (Fr.it frτ9 rfl (Fr.it frτ7 rfl (sk1t (by decide) (Fr.it frτ1 rfl (sk1t (by decide) (izg σ 33 3)))))) (rgI _ _ _)
    refine zi_iast (pc := 54) (b.toNat) O (ja_48 (frτ9.lay (frτ7.lay (frτ1.lay J)))) (by omega) (by omega) (by omega) dX9_readNeed_54 ?_
    refine z_vret (pc := 55) O dX9_readNeed_55 ?_
    exact ⟨rfl, (((((((Fr.rf [(33, 7), (33, 8), (33, 9), (33, 10), (33, 11), (33, 4), (33, 5), (47, 99999), (48, 99999), (55, 99999)] σ).pI rfl).tr (frτ1.mono (V := [(33, 7), (33, 8), (33, 9), (33, 10), (33, 11), (33, 4), (33, 5), (47, 99999), (48, 99999), (55, 99999)]) rfl)).pI rfl).tr (frτ7.mono (V := [(33, 7), (33, 8), (33, 9), (33, 10), (33, 11), (33, 4), (33, 5), (47, 99999), (48, 99999), (55, 99999)]) rfl)).tr (frτ9.mono (V := [(33, 7), (33, 8), (33, 9), (33, 10), (33, 11), (33, 4), (33, 5), (47, 99999), (48, 99999), (55, 99999)]) rfl)).pI rfl), (by have : gI (sI τ9 48 (b.toNat) (iz z10)) 33 7 = gI τ9 33 7 := gI_iz (sk1t (by decide) (izg τ9 33 7)) (rgI _ _ _); have : gI (sI τ9 48 (b.toNat) (iz z10)) 33 8 = gI τ9 33 8 := gI_iz (sk1t (by decide) (izg τ9 33 8)) (rgI _ _ _); have : gI (sI τ9 48 (b.toNat) (iz z10)) 33 3 = gI σ 33 3 := gI_iz (sk1t (by decide) (Fr.it frτ9 rfl (Fr.it frτ7 rfl (sk1t (by decide) (Fr.it frτ1 rfl (sk1t (by decide) (izg σ 33 3))))))) (rgI _ _ _); have : gI (sI τ9 48 (b.toNat) (iz z10)) 33 9 = gI τ9 33 9 := gI_iz (sk1t (by decide) (izg τ9 33 9)) (rgI _ _ _); omega), (by have : gI (sI τ9 48 (b.toNat) (iz z10)) 33 7 = gI τ9 33 7 := gI_iz (sk1t (by decide) (izg τ9 33 7)) (rgI _ _ _); omega), (by have : gI (sI τ9 48 (b.toNat) (iz z10)) 33 4 = gI τ9 33 4 := gI_iz (sk1t (by decide) (izg τ9 33 4)) (rgI _ _ _); omega)⟩
set_option maxHeartbeats 4000000 in
set_option maxRecDepth 20000 in
theorem k9_readTerms (l : Launch) (σ : VH) (b : Int) (J : Lay σ) (ht : (0 ≤ gI σ 33 7 ∧ gI σ 33 7 ≤ gI σ 33 8 ∧ gI σ 33 8 ≤ gI σ 33 3 ∧ gI σ 33 3 ≤ 700 ∧ ((gI σ 33 9 = 0 ∧ gI σ 33 7 = gI σ 33 3) ∨ (gI σ 33 7 < gI σ 33 8 ∧ 1 ≤ gI σ 33 9 ∧ gI σ 33 9 ≤ 5)))) (hf : 0 ≤ gI σ 33 4) (eb : gI σ 33 34 = b) (hb : 0 ≤ b ∧ b ≤ 15) : Ct l yX9_readTerms cX9_readTerms 1 none 4 0 0 [.ref 33] σ (fun r τ => r = none ∧ (Fr [(33, 7), (33, 8), (33, 9), (33, 10), (33, 11), (33, 4), (33, 5), (49, 99999), (50, 99999), (56, 99999)] σ τ) ∧ (0 ≤ gI τ 33 7 ∧ gI τ 33 7 ≤ gI τ 33 8 ∧ gI τ 33 8 ≤ gI τ 33 3 ∧ gI τ 33 3 ≤ 700 ∧ ((gI τ 33 9 = 0 ∧ gI τ 33 7 = gI τ 33 3) ∨ (gI τ 33 7 < gI τ 33 8 ∧ 1 ≤ gI τ 33 9 ∧ gI τ 33 9 ≤ 5))) ∧ (gI σ 33 7 ≤ gI τ 33 7) ∧ ((gI σ 33 4 ≤ 0 ∨ 0 < gI τ 33 4) ∧ 0 ≤ gI τ 33 4) ∧ (0 < gI τ 33 4 ∨ (1 ≤ gI τ 49 (b.toNat) ∧ gI τ 49 (b.toNat) ≤ 6)) ∧ (∀ k : Nat, (k : Int) < b → gI τ 49 k = gI σ 49 k)) := by
  refine Ct.enter rfl (Nat.le_of_ble_eq_true rfl) ?_
  intro κ γ hκ O hrc hrs
  subst hκ
  refine z_aload_n (pc := 0) O dX9_readTerms_0 rfl ?_
  refine z_getR (pc := 1) 56 O fl_X9_83 rfl (jo_33 J) (jr_33_32 J) dX9_readTerms_1 ?_
  refine z_aload_n (pc := 4) O dX9_readTerms_4 rfl ?_
  refine zi_getv (pc := 5) (b) O fl_X9_283 rfl (jo_33 J) ((izg σ 33 34).trans (congrArg iz eb)) dX9_readTerms_5 ?_
  refine z_iconst (pc := 8) (v := iz (1)) O dX9_readTerms_8 (by decide) ?_
  refine zi_zast (pc := 9) (b.toNat) O (ja_56 J) (by omega) (by omega) (by omega) (by omega) dX9_readTerms_9 ?_
  refine z_aload_n (pc := 10) O dX9_readTerms_10 rfl ?_
  refine z_getR (pc := 11) 49 O fl_X9_60 rfl (jo_33 J) (jr_33_25 J) dX9_readTerms_11 ?_
  refine z_aload_n (pc := 14) O dX9_readTerms_14 rfl ?_
  refine zi_getv (pc := 15) (b) O fl_X9_283 rfl (jo_33 J) (sk1t (by decide) ((izg σ 33 34).trans (congrArg iz eb))) dX9_readTerms_15 ?_
  refine z_aload_n (pc := 18) O dX9_readTerms_18 rfl ?_
  refine z_iconst (pc := 19) (v := iz (1)) O dX9_readTerms_19 (by decide) ?_
  refine z_bipush (pc := 20) (v := iz (6)) O dX9_readTerms_20 (by decide) ?_
  refine z_callV (pc := 22) O cl_X9_317 (k9_numeral _ _ 1 (by decide) 6 (by decide) J (by have : gI (sI σ 56 (b.toNat) (iz 1)) 33 7 = gI σ 33 7 := gI_iz (sk1t (by decide) (izg σ 33 7)) (rgI _ _ _); have : gI (sI σ 56 (b.toNat) (iz 1)) 33 8 = gI σ 33 8 := gI_iz (sk1t (by decide) (izg σ 33 8)) (rgI _ _ _); have : gI (sI σ 56 (b.toNat) (iz 1)) 33 3 = gI σ 33 3 := gI_iz (sk1t (by decide) (izg σ 33 3)) (rgI _ _ _); have : gI (sI σ 56 (b.toNat) (iz 1)) 33 9 = gI σ 33 9 := gI_iz (sk1t (by decide) (izg σ 33 9)) (rgI _ _ _); omega) (by have : gI (sI σ 56 (b.toNat) (iz 1)) 33 4 = gI σ 33 4 := gI_iz (sk1t (by decide) (izg σ 33 4)) (rgI _ _ _); omega)) (by decide) (jo_33 J) kc_9 rfl rfl (Nat.le_of_ble_eq_true rfl) ⟨Nat.zero_le _, Nat.zero_le _⟩ dX9_readTerms_22 (fun r τ1 hp => ?_)
  obtain ⟨z2, rfl, fτ1_0, frτ1, eτ1_0, eτ1_1, eτ1_2, eτ1_3⟩ := hp
  have : gI τ1 33 3 = gI σ 33 3 := gI_iz (Fr.it frτ1 rfl (sk1t (by decide) (izg σ 33 3))) (rgI _ _ _)
  have : gI (sI σ 56 (b.toNat) (iz 1)) 33 7 = gI σ 33 7 := gI_iz (sk1t (by decide) (izg σ 33 7)) (rgI _ _ _)
  have : gI (sI σ 56 (b.toNat) (iz 1)) 33 4 = gI σ 33 4 := gI_iz (sk1t (by decide) (izg σ 33 4)) (rgI _ _ _)
  have : gI (sI σ 56 (b.toNat) (iz 1)) 33 7 = gI σ 33 7 := gI_iz (sk1t (by decide) (izg σ 33 7)) (rgI _ _ _)
  refine zi_iast (pc := 25) (b.toNat) O (ja_49 (frτ1.lay J)) (by omega) (by omega) (by omega) dX9_readTerms_25 ?_
  refine z_aload_n (pc := 26) O dX9_readTerms_26 rfl ?_
  refine z_callV (pc := 27) O cl_X9_272 (k9_isGood _ _ (frτ1.lay J)) (by decide) (jo_33 (frτ1.lay J)) kc_9 rfl rfl (Nat.le_of_ble_eq_true rfl) ⟨Nat.zero_le _, Nat.zero_le _⟩ dX9_readTerms_27 (fun r τ3 hp => ?_)
  obtain ⟨z4, rfl, fτ3_0, fτ3_1, rfl⟩ := hp
  have : gI (sI τ1 49 (b.toNat) (iz z2)) 33 4 = gI τ1 33 4 := gI_iz (sk1t (by decide) (izg τ1 33 4)) (rgI _ _ _)
  refine zi_if_eq (pc := 30) (tgt := 40) O dX9_readTerms_30 (by decide) (by omega) (fun h30 => ?_) (fun h30 => ?_)
  · refine z_aload_n (pc := 40) O dX9_readTerms_40 rfl ?_
    refine z_getR (pc := 41) 50 O fl_X9_63 rfl (jo_33 (frτ1.lay J)) (jr_33_26 (frτ1.lay J)) dX9_readTerms_41 ?_
    refine z_aload_n (pc := 44) O dX9_readTerms_44 rfl ?_
    refine zi_getv (pc := 45) (b) O fl_X9_283 rfl (jo_33 (frτ1.lay J)) (sk1t (by decide) (Fr.it frτ1 rfl (sk1t (by decide) ((izg σ 33 34).trans (congrArg iz eb))))) dX9_readTerms_45 ?_
    refine z_aload_n (pc := 48) O dX9_readTerms_48 rfl ?_
    refine z_iconst (pc := 49) (v := iz (1)) O dX9_readTerms_49 (by decide) ?_
    refine z_sipush (pc := 50) (v := iz (400)) O dX9_readTerms_50 (by decide) ?_
    refine z_callV (pc := 53) O cl_X9_317 (k9_numeral _ _ 1 (by decide) 400 (by decide) (frτ1.lay J) (by have : gI (sI τ1 49 (b.toNat) (iz z2)) 33 7 = gI τ1 33 7 := gI_iz (sk1t (by decide) (izg τ1 33 7)) (rgI _ _ _); have : gI (sI τ1 49 (b.toNat) (iz z2)) 33 8 = gI τ1 33 8 := gI_iz (sk1t (by decide) (izg τ1 33 8)) (rgI _ _ _); have : gI (sI τ1 49 (b.toNat) (iz z2)) 33 3 = gI σ 33 3 := gI_iz (sk1t (by decide) (Fr.it frτ1 rfl (sk1t (by decide) (izg σ 33 3)))) (rgI _ _ _); have : gI (sI τ1 49 (b.toNat) (iz z2)) 33 9 = gI τ1 33 9 := gI_iz (sk1t (by decide) (izg τ1 33 9)) (rgI _ _ _); omega) (by have : gI (sI τ1 49 (b.toNat) (iz z2)) 33 4 = gI τ1 33 4 := gI_iz (sk1t (by decide) (izg τ1 33 4)) (rgI _ _ _); omega)) (by decide) (jo_33 (frτ1.lay J)) kc_9 rfl rfl (Nat.le_of_ble_eq_true rfl) ⟨Nat.zero_le _, Nat.zero_le _⟩ dX9_readTerms_53 (fun r τ5 hp => ?_)
    obtain ⟨z6, rfl, fτ5_0, frτ5, eτ5_0, eτ5_1, eτ5_2, eτ5_3⟩ := hp
    have : gI τ5 33 3 = gI σ 33 3 := gI_iz (Fr.it frτ5 rfl (sk1t (by decide) (Fr.it frτ1 rfl (sk1t (by decide) (izg σ 33 3))))) (rgI _ _ _)
    have : gI (sI τ1 49 (b.toNat) (iz z2)) 33 7 = gI τ1 33 7 := gI_iz (sk1t (by decide) (izg τ1 33 7)) (rgI _ _ _)
    have : gI (sI τ1 49 (b.toNat) (iz z2)) 33 4 = gI τ1 33 4 := gI_iz (sk1t (by decide) (izg τ1 33 4)) (rgI _ _ _)
    have : gI (sI τ1 49 (b.toNat) (iz z2)) 33 7 = gI τ1 33 7 := gI_iz (sk1t (by decide) (izg τ1 33 7)) (rgI _ _ _)
    refine zi_iast (pc := 56) (b.toNat) O (ja_50 (frτ5.lay (frτ1.lay J))) (by omega) (by omega) (by omega) dX9_readTerms_56 ?_
    refine z_vret (pc := 57) O dX9_readTerms_57 ?_
    exact ⟨rfl, ((((((Fr.rf [(33, 7), (33, 8), (33, 9), (33, 10), (33, 11), (33, 4), (33, 5), (49, 99999), (50, 99999), (56, 99999)] σ).pI rfl).tr (frτ1.mono (V := [(33, 7), (33, 8), (33, 9), (33, 10), (33, 11), (33, 4), (33, 5), (49, 99999), (50, 99999), (56, 99999)]) rfl)).pI rfl).tr (frτ5.mono (V := [(33, 7), (33, 8), (33, 9), (33, 10), (33, 11), (33, 4), (33, 5), (49, 99999), (50, 99999), (56, 99999)]) rfl)).pI rfl), (by have : gI (sI τ5 50 (b.toNat) (iz z6)) 33 7 = gI τ5 33 7 := gI_iz (sk1t (by decide) (izg τ5 33 7)) (rgI _ _ _); have : gI (sI τ5 50 (b.toNat) (iz z6)) 33 8 = gI τ5 33 8 := gI_iz (sk1t (by decide) (izg τ5 33 8)) (rgI _ _ _); have : gI (sI τ5 50 (b.toNat) (iz z6)) 33 3 = gI σ 33 3 := gI_iz (sk1t (by decide) (Fr.it frτ5 rfl (sk1t (by decide) (Fr.it frτ1 rfl (sk1t (by decide) (izg σ 33 3)))))) (rgI _ _ _); have : gI (sI τ5 50 (b.toNat) (iz z6)) 33 9 = gI τ5 33 9 := gI_iz (sk1t (by decide) (izg τ5 33 9)) (rgI _ _ _); omega), (by have : gI (sI τ5 50 (b.toNat) (iz z6)) 33 7 = gI τ5 33 7 := gI_iz (sk1t (by decide) (izg τ5 33 7)) (rgI _ _ _); omega), (by have : gI (sI τ5 50 (b.toNat) (iz z6)) 33 4 = gI τ5 33 4 := gI_iz (sk1t (by decide) (izg τ5 33 4)) (rgI _ _ _); omega), (by have : gI (sI τ5 50 (b.toNat) (iz z6)) 33 4 = gI τ5 33 4 := gI_iz (sk1t (by decide) (izg τ5 33 4)) (rgI _ _ _); have : gI (sI τ5 50 (b.toNat) (iz z6)) 49 (b.toNat) = z2 := gI_iz (sk1t (by decide) (Fr.it frτ5 rfl (hI_at _ _ _ _))) (by omega); omega), (fun k hk => ((gI_eq (sk1t (by decide) rfl)).trans ((frτ5.g 49 k rfl).trans ((gI_eq (sk2t (by omega) rfl)).trans ((frτ1.g 49 k rfl).trans (gI_eq (sk1t (by decide) rfl)))))))⟩
  · refine z_aload_n (pc := 33) O dX9_readTerms_33 rfl ?_
    refine z_ldc2 (pc := 34) O tw_1024 dX9_readTerms_34 ?_
    refine z_callV (pc := 37) O cl_X9_321 (k9_mustWord _ _ 1684109683 (frτ1.lay J) (by have : gI (sI τ1 49 (b.toNat) (iz z2)) 33 7 = gI τ1 33 7 := gI_iz (sk1t (by decide) (izg τ1 33 7)) (rgI _ _ _); have : gI (sI τ1 49 (b.toNat) (iz z2)) 33 8 = gI τ1 33 8 := gI_iz (sk1t (by decide) (izg τ1 33 8)) (rgI _ _ _); have : gI (sI τ1 49 (b.toNat) (iz z2)) 33 3 = gI σ 33 3 := gI_iz (sk1t (by decide) (Fr.it frτ1 rfl (sk1t (by decide) (izg σ 33 3)))) (rgI _ _ _); have : gI (sI τ1 49 (b.toNat) (iz z2)) 33 9 = gI τ1 33 9 := gI_iz (sk1t (by decide) (izg τ1 33 9)) (rgI _ _ _); omega) (by have : gI (sI τ1 49 (b.toNat) (iz z2)) 33 4 = gI τ1 33 4 := gI_iz (sk1t (by decide) (izg τ1 33 4)) (rgI _ _ _); omega)) (by decide) (jo_33 (frτ1.lay J)) kc_9 rfl rfl (Nat.le_of_ble_eq_true rfl) ⟨Nat.zero_le _, Nat.zero_le _⟩ dX9_readTerms_37 (fun r τ7 hp => ?_)
    obtain ⟨rfl, frτ7, eτ7_0, eτ7_1, eτ7_2⟩ := hp
    have : gI τ7 33 3 = gI σ 33 3 := gI_iz (Fr.it frτ7 rfl (sk1t (by decide) (Fr.it frτ1 rfl (sk1t (by decide) (izg σ 33 3))))) (rgI _ _ _)
    have : gI (sI τ1 49 (b.toNat) (iz z2)) 33 7 = gI τ1 33 7 := gI_iz (sk1t (by decide) (izg τ1 33 7)) (rgI _ _ _)
    have : gI (sI τ1 49 (b.toNat) (iz z2)) 33 4 = gI τ1 33 4 := gI_iz (sk1t (by decide) (izg τ1 33 4)) (rgI _ _ _)
    refine z_aload_n (pc := 40) O dX9_readTerms_40 rfl ?_
    refine z_getR (pc := 41) 50 O fl_X9_63 rfl (jo_33 (frτ7.lay (frτ1.lay J))) (jr_33_26 (frτ7.lay (frτ1.lay J))) dX9_readTerms_41 ?_
    refine z_aload_n (pc := 44) O dX9_readTerms_44 rfl ?_
    refine zi_getv (pc := 45) (b) O fl_X9_283 rfl (jo_33 (frτ7.lay (frτ1.lay J))) (Fr.it frτ7 rfl (sk1t (by decide) (Fr.it frτ1 rfl (sk1t (by decide) ((izg σ 33 34).trans (congrArg iz eb)))))) dX9_readTerms_45 ?_
    refine z_aload_n (pc := 48) O dX9_readTerms_48 rfl ?_
    refine z_iconst (pc := 49) (v := iz (1)) O dX9_readTerms_49 (by decide) ?_
    refine z_sipush (pc := 50) (v := iz (400)) O dX9_readTerms_50 (by decide) ?_
    refine z_callV (pc := 53) O cl_X9_317 (k9_numeral _ _ 1 (by decide) 400 (by decide) (frτ7.lay (frτ1.lay J)) (by have : gI τ7 33 3 = gI σ 33 3 := gI_iz (Fr.it frτ7 rfl (sk1t (by decide) (Fr.it frτ1 rfl (sk1t (by decide) (izg σ 33 3))))) (rgI _ _ _); omega) (by omega)) (by decide) (jo_33 (frτ7.lay (frτ1.lay J))) kc_9 rfl rfl (Nat.le_of_ble_eq_true rfl) ⟨Nat.zero_le _, Nat.zero_le _⟩ dX9_readTerms_53 (fun r τ9 hp => ?_)
    obtain ⟨z10, rfl, fτ9_0, frτ9, eτ9_0, eτ9_1, eτ9_2, eτ9_3⟩ := hp
    have : gI τ9 33 3 = gI σ 33 3 := gI_iz (Fr.it frτ9 rfl (Fr.it frτ7 rfl (sk1t (by decide) (Fr.it frτ1 rfl (sk1t (by decide) (izg σ 33 3)))))) (rgI _ _ _)
    refine zi_iast (pc := 56) (b.toNat) O (ja_50 (frτ9.lay (frτ7.lay (frτ1.lay J)))) (by omega) (by omega) (by omega) dX9_readTerms_56 ?_
    refine z_vret (pc := 57) O dX9_readTerms_57 ?_
    exact ⟨rfl, (((((((Fr.rf [(33, 7), (33, 8), (33, 9), (33, 10), (33, 11), (33, 4), (33, 5), (49, 99999), (50, 99999), (56, 99999)] σ).pI rfl).tr (frτ1.mono (V := [(33, 7), (33, 8), (33, 9), (33, 10), (33, 11), (33, 4), (33, 5), (49, 99999), (50, 99999), (56, 99999)]) rfl)).pI rfl).tr (frτ7.mono (V := [(33, 7), (33, 8), (33, 9), (33, 10), (33, 11), (33, 4), (33, 5), (49, 99999), (50, 99999), (56, 99999)]) rfl)).tr (frτ9.mono (V := [(33, 7), (33, 8), (33, 9), (33, 10), (33, 11), (33, 4), (33, 5), (49, 99999), (50, 99999), (56, 99999)]) rfl)).pI rfl), (by have : gI (sI τ9 50 (b.toNat) (iz z10)) 33 7 = gI τ9 33 7 := gI_iz (sk1t (by decide) (izg τ9 33 7)) (rgI _ _ _); have : gI (sI τ9 50 (b.toNat) (iz z10)) 33 8 = gI τ9 33 8 := gI_iz (sk1t (by decide) (izg τ9 33 8)) (rgI _ _ _); have : gI (sI τ9 50 (b.toNat) (iz z10)) 33 3 = gI σ 33 3 := gI_iz (sk1t (by decide) (Fr.it frτ9 rfl (Fr.it frτ7 rfl (sk1t (by decide) (Fr.it frτ1 rfl (sk1t (by decide) (izg σ 33 3))))))) (rgI _ _ _); have : gI (sI τ9 50 (b.toNat) (iz z10)) 33 9 = gI τ9 33 9 := gI_iz (sk1t (by decide) (izg τ9 33 9)) (rgI _ _ _); omega), (by have : gI (sI τ9 50 (b.toNat) (iz z10)) 33 7 = gI τ9 33 7 := gI_iz (sk1t (by decide) (izg τ9 33 7)) (rgI _ _ _); omega), (by have : gI (sI τ9 50 (b.toNat) (iz z10)) 33 4 = gI τ9 33 4 := gI_iz (sk1t (by decide) (izg τ9 33 4)) (rgI _ _ _); omega), (by have : gI (sI τ9 50 (b.toNat) (iz z10)) 33 4 = gI τ9 33 4 := gI_iz (sk1t (by decide) (izg τ9 33 4)) (rgI _ _ _); have : gI (sI τ9 50 (b.toNat) (iz z10)) 49 (b.toNat) = z2 := gI_iz (sk1t (by decide) (Fr.it frτ9 rfl (Fr.it frτ7 rfl (hI_at _ _ _ _)))) (by omega); omega), (fun k hk => ((gI_eq (sk1t (by decide) rfl)).trans ((frτ9.g 49 k rfl).trans ((frτ7.g 49 k rfl).trans ((gI_eq (sk2t (by omega) rfl)).trans ((frτ1.g 49 k rfl).trans (gI_eq (sk1t (by decide) rfl))))))))⟩
set_option maxHeartbeats 4000000 in
set_option maxRecDepth 20000 in
theorem k9_readHurt (l : Launch) (σ : VH) (b : Int) (J : Lay σ) (ht : (0 ≤ gI σ 33 7 ∧ gI σ 33 7 ≤ gI σ 33 8 ∧ gI σ 33 8 ≤ gI σ 33 3 ∧ gI σ 33 3 ≤ 700 ∧ ((gI σ 33 9 = 0 ∧ gI σ 33 7 = gI σ 33 3) ∨ (gI σ 33 7 < gI σ 33 8 ∧ 1 ≤ gI σ 33 9 ∧ gI σ 33 9 ≤ 5)))) (hf : 0 ≤ gI σ 33 4) (eb : gI σ 33 34 = b) (hb : 0 ≤ b ∧ b ≤ 15) (hh : 0 ≤ gI σ 39 (b.toNat) ∧ gI σ 39 (b.toNat) < 12) : Ct l yX9_readHurt cX9_readHurt 2 none 4 0 0 [.ref 33] σ (fun r τ => r = none ∧ (Fr [(33, 7), (33, 8), (33, 9), (33, 10), (33, 11), (33, 4), (33, 5), (53, 99999), (40, 99999), (39, 99999)] σ τ) ∧ (0 ≤ gI τ 33 7 ∧ gI τ 33 7 ≤ gI τ 33 8 ∧ gI τ 33 8 ≤ gI τ 33 3 ∧ gI τ 33 3 ≤ 700 ∧ ((gI τ 33 9 = 0 ∧ gI τ 33 7 = gI τ 33 3) ∨ (gI τ 33 7 < gI τ 33 8 ∧ 1 ≤ gI τ 33 9 ∧ gI τ 33 9 ≤ 5))) ∧ (gI σ 33 7 ≤ gI τ 33 7) ∧ ((gI σ 33 4 ≤ 0 ∨ 0 < gI τ 33 4) ∧ 0 ≤ gI τ 33 4) ∧ (0 ≤ gI τ 39 (b.toNat) ∧ gI τ 39 (b.toNat) ≤ 12) ∧ (∀ k : Nat, k ≠ b.toNat → gI τ 39 k = gI σ 39 k)) := by
  refine Ct.enter rfl (Nat.le_of_ble_eq_true rfl) ?_
  intro κ γ hκ O hrc hrs
  subst hκ
  refine z_aload_n (pc := 0) O dX9_readHurt_0 rfl ?_
  refine zi_getv (pc := 1) (gI σ 33 9) O fl_X9_238 rfl (jo_33 J) (izg σ 33 9) dX9_readHurt_1 ?_
  have := rgI σ 33 9
  refine z_iconst (pc := 4) (v := iz (2)) O dX9_readHurt_4 (by decide) ?_
  refine zi_icmp_eq (pc := 5) (tgt := 12) O dX9_readHurt_5 (by decide) (by omega) (by decide) (fun h5 => ?_) (fun h5 => ?_)
  · refine z_aload_n (pc := 12) O dX9_readHurt_12 rfl ?_
    refine z_callV (pc := 13) O cl_X9_272 (k9_isGood _ _ J) (by decide) (jo_33 J) kc_9 rfl rfl (Nat.le_of_ble_eq_true rfl) ⟨Nat.zero_le _, Nat.zero_le _⟩ dX9_readHurt_13 (fun r τ1 hp => ?_)
    obtain ⟨z2, rfl, fτ1_0, fτ1_1, rfl⟩ := hp
    refine zi_if_eq (pc := 16) (tgt := 43) O dX9_readHurt_16 (by decide) (by omega) (fun h16 => ?_) (fun h16 => ?_)
    · refine z_aload_n (pc := 43) O dX9_readHurt_43 rfl ?_
      refine z_callV (pc := 44) O cl_X9_272 (k9_isGood _ _ J) (by decide) (jo_33 J) kc_9 rfl rfl (Nat.le_of_ble_eq_true rfl) ⟨Nat.zero_le _, Nat.zero_le _⟩ dX9_readHurt_44 (fun r τ3 hp => ?_)
      obtain ⟨z4, rfl, fτ3_0, fτ3_1, rfl⟩ := hp
      refine zi_if_ne (pc := 47) (tgt := 51) O dX9_readHurt_47 (by decide) (by omega) (fun h47 => ?_) (fun h47 => ?_)
      · refine z_bipush (pc := 51) (v := iz (12)) O dX9_readHurt_51 (by decide) ?_
        refine z_aload_n (pc := 53) O dX9_readHurt_53 rfl ?_
        refine zi_getv (pc := 54) (b) O fl_X9_283 rfl (jo_33 J) ((izg σ 33 34).trans (congrArg iz eb)) dX9_readHurt_54 ?_
        refine zi_imul (pc := 57) O dX9_readHurt_57 ?_
        refine z_aload_n (pc := 58) O dX9_readHurt_58 rfl ?_
        refine z_getR (pc := 59) 39 O fl_X9_30 rfl (jo_33 J) (jr_33_15 J) dX9_readHurt_59 ?_
        refine z_aload_n (pc := 62) O dX9_readHurt_62 rfl ?_
        refine zi_getv (pc := 63) (b) O fl_X9_283 rfl (jo_33 J) ((izg σ 33 34).trans (congrArg iz eb)) dX9_readHurt_63 ?_
        refine zi_ialdv (pc := 66) (b.toNat) (gI σ 39 (b.toNat)) O (ja_39 J) (by omega) (by omega) (by omega) (izg σ 39 (b.toNat)) dX9_readHurt_66 ?_
        have := rgI σ 39 (b.toNat)
        refine zi_iadd (pc := 67) O dX9_readHurt_67 ?_
        refine z_istore_n (pc := 68) [(0, .ref 33), (1, .int (iz ((12 * b) + (gI σ 39 (b.toNat)))))] O dX9_readHurt_68 (by decide) rfl ?_
        refine z_aload_n (pc := 69) O dX9_readHurt_69 rfl ?_
        refine z_getR (pc := 70) 53 O fl_X9_72 rfl (jo_33 J) (jr_33_29 J) dX9_readHurt_70 ?_
        refine z_iload_n (pc := 73) O dX9_readHurt_73 rfl ?_
        refine z_aload_n (pc := 74) O dX9_readHurt_74 rfl ?_
        refine zi_getLv (pc := 75) (hL σ 33 11) O fl_X9_245 rfl (jo_33 J) rfl dX9_readHurt_75 ?_
        refine zi_last (pc := 78) (((12 * b) + (gI σ 39 (b.toNat))).toNat) O (ja_53 J) (by omega) (by omega) (by omega) dX9_readHurt_78 ?_
        refine z_aload_n (pc := 79) O dX9_readHurt_79 rfl ?_
        refine z_callV (pc := 80) O cl_X9_266 (k9_next _ _ J (by have : gI (sL σ 53 (((12 * b) + (gI σ 39 (b.toNat))).toNat) (hL σ 33 11)) 33 3 = gI σ 33 3 := gI_iz (skL (izg σ 33 3)) (rgI _ _ _); omega) (by have : gI (sL σ 53 (((12 * b) + (gI σ 39 (b.toNat))).toNat) (hL σ 33 11)) 33 8 = gI σ 33 8 := gI_iz (skL (izg σ 33 8)) (rgI _ _ _); have : gI (sL σ 53 (((12 * b) + (gI σ 39 (b.toNat))).toNat) (hL σ 33 11)) 33 3 = gI σ 33 3 := gI_iz (skL (izg σ 33 3)) (rgI _ _ _); omega)) (by decide) (jo_33 J) kc_9 rfl rfl (Nat.le_of_ble_eq_true rfl) ⟨Nat.zero_le _, Nat.zero_le _⟩ dX9_readHurt_80 (fun r τ5 hp => ?_)
        obtain ⟨rfl, frτ5, eτ5_0, eτ5_1⟩ := hp
        have : gI (sL σ 53 (((12 * b) + (gI σ 39 (b.toNat))).toNat) (hL σ 33 11)) 33 8 = gI σ 33 8 := gI_iz (skL (izg σ 33 8)) (rgI _ _ _)
        have : gI τ5 33 3 = gI σ 33 3 := gI_iz (Fr.it frτ5 rfl (skL (izg σ 33 3))) (rgI _ _ _)
        refine z_aload_n (pc := 83) O dX9_readHurt_83 rfl ?_
        refine z_getR (pc := 84) 40 O fl_X9_33 rfl (jo_33 (frτ5.lay J)) (jr_33_16 (frτ5.lay J)) dX9_readHurt_84 ?_
        refine z_iload_n (pc := 87) O dX9_readHurt_87 rfl ?_
        refine z_aload_n (pc := 88) O dX9_readHurt_88 rfl ?_
        refine z_iconst (pc := 89) (v := iz (0)) O dX9_readHurt_89 (by decide) ?_
        refine z_ldcw (pc := 90) O tw_989 dX9_readHurt_90 ?_
        refine zi_val (100000) (by decide) ?_
        refine z_callV (pc := 93) O cl_X9_317 (k9_numeral _ _ 0 (by decide) 100000 (by decide) (frτ5.lay J) (by have : gI τ5 33 3 = gI σ 33 3 := gI_iz (Fr.it frτ5 rfl (skL (izg σ 33 3))) (rgI _ _ _); omega) (by have : gI τ5 33 4 = gI σ 33 4 := gI_iz (Fr.it frτ5 rfl (skL (izg σ 33 4))) (rgI _ _ _); omega)) (by decide) (jo_33 (frτ5.lay J)) kc_9 rfl rfl (Nat.le_of_ble_eq_true rfl) ⟨Nat.zero_le _, Nat.zero_le _⟩ dX9_readHurt_93 (fun r τ7 hp => ?_)
        obtain ⟨z8, rfl, fτ7_0, frτ7, eτ7_0, eτ7_1, eτ7_2, eτ7_3⟩ := hp
        have : gI τ7 33 3 = gI σ 33 3 := gI_iz (Fr.it frτ7 rfl (Fr.it frτ5 rfl (skL (izg σ 33 3)))) (rgI _ _ _)
        have : gI τ5 33 4 = gI σ 33 4 := gI_iz (Fr.it frτ5 rfl (skL (izg σ 33 4))) (rgI _ _ _)
        refine zi_iast (pc := 96) (((12 * b) + (gI σ 39 (b.toNat))).toNat) O (ja_40 (frτ7.lay (frτ5.lay J))) (by omega) (by omega) (by omega) dX9_readHurt_96 ?_
        refine z_aload_n (pc := 97) O dX9_readHurt_97 rfl ?_
        refine z_getR (pc := 98) 39 O fl_X9_30 rfl (jo_33 (frτ7.lay (frτ5.lay J))) (jr_33_15 (frτ7.lay (frτ5.lay J))) dX9_readHurt_98 ?_
        refine z_aload_n (pc := 101) O dX9_readHurt_101 rfl ?_
        refine zi_getv (pc := 102) (b) O fl_X9_283 rfl (jo_33 (frτ7.lay (frτ5.lay J))) (sk1t (by decide) (Fr.it frτ7 rfl (Fr.it frτ5 rfl (skL ((izg σ 33 34).trans (congrArg iz eb)))))) dX9_readHurt_102 ?_
        refine z_dup2 (pc := 105) O dX9_readHurt_105 rfl rfl ?_
        refine zi_ialdv (pc := 106) (b.toNat) (gI σ 39 (b.toNat)) O (ja_39 (frτ7.lay (frτ5.lay J))) (by omega) (by omega) (by omega) (sk1t (by decide) (Fr.it frτ7 rfl (Fr.it frτ5 rfl (skL (izg σ 39 (b.toNat)))))) dX9_readHurt_106 ?_
        refine z_iconst (pc := 107) (v := iz (1)) O dX9_readHurt_107 (by decide) ?_
        refine zi_iadd (pc := 108) O dX9_readHurt_108 ?_
        refine zi_iast (pc := 109) (b.toNat) O (ja_39 (frτ7.lay (frτ5.lay J))) (by omega) (by omega) (by omega) dX9_readHurt_109 ?_
        refine z_vret (pc := 110) O dX9_readHurt_110 ?_
        exact ⟨rfl, ((((((Fr.rf [(33, 7), (33, 8), (33, 9), (33, 10), (33, 11), (33, 4), (33, 5), (53, 99999), (40, 99999), (39, 99999)] σ).pL rfl).tr (frτ5.mono (V := [(33, 7), (33, 8), (33, 9), (33, 10), (33, 11), (33, 4), (33, 5), (53, 99999), (40, 99999), (39, 99999)]) rfl)).tr (frτ7.mono (V := [(33, 7), (33, 8), (33, 9), (33, 10), (33, 11), (33, 4), (33, 5), (53, 99999), (40, 99999), (39, 99999)]) rfl)).pI rfl).pI rfl), (by have : gI (sI (sI τ7 40 (((12 * b) + (gI σ 39 (b.toNat))).toNat) (iz z8)) 39 (b.toNat) (iz ((gI σ 39 (b.toNat)) + 1))) 33 7 = gI τ7 33 7 := gI_iz (sk1t (by decide) (sk1t (by decide) (izg τ7 33 7))) (rgI _ _ _); have : gI (sI (sI τ7 40 (((12 * b) + (gI σ 39 (b.toNat))).toNat) (iz z8)) 39 (b.toNat) (iz ((gI σ 39 (b.toNat)) + 1))) 33 8 = gI τ7 33 8 := gI_iz (sk1t (by decide) (sk1t (by decide) (izg τ7 33 8))) (rgI _ _ _); have : gI (sI (sI τ7 40 (((12 * b) + (gI σ 39 (b.toNat))).toNat) (iz z8)) 39 (b.toNat) (iz ((gI σ 39 (b.toNat)) + 1))) 33 3 = gI σ 33 3 := gI_iz (sk1t (by decide) (sk1t (by decide) (Fr.it frτ7 rfl (Fr.it frτ5 rfl (skL (izg σ 33 3)))))) (rgI _ _ _); have : gI (sI (sI τ7 40 (((12 * b) + (gI σ 39 (b.toNat))).toNat) (iz z8)) 39 (b.toNat) (iz ((gI σ 39 (b.toNat)) + 1))) 33 9 = gI τ7 33 9 := gI_iz (sk1t (by decide) (sk1t (by decide) (izg τ7 33 9))) (rgI _ _ _); omega), (by have : gI (sI (sI τ7 40 (((12 * b) + (gI σ 39 (b.toNat))).toNat) (iz z8)) 39 (b.toNat) (iz ((gI σ 39 (b.toNat)) + 1))) 33 7 = gI τ7 33 7 := gI_iz (sk1t (by decide) (sk1t (by decide) (izg τ7 33 7))) (rgI _ _ _); omega), (by have : gI (sI (sI τ7 40 (((12 * b) + (gI σ 39 (b.toNat))).toNat) (iz z8)) 39 (b.toNat) (iz ((gI σ 39 (b.toNat)) + 1))) 33 4 = gI τ7 33 4 := gI_iz (sk1t (by decide) (sk1t (by decide) (izg τ7 33 4))) (rgI _ _ _); omega), (by have : gI (sI (sI τ7 40 (((12 * b) + (gI σ 39 (b.toNat))).toNat) (iz z8)) 39 (b.toNat) (iz ((gI σ 39 (b.toNat)) + 1))) 39 (b.toNat) = (gI σ 39 (b.toNat)) + 1 := gI_iz (hI_at _ _ _ _) (by omega); omega), (fun k hk => ((gI_eq (sk2t (by omega) (sk1t (by decide) rfl))).trans ((frτ7.g 39 k rfl).trans ((frτ5.g 39 k rfl).trans (gI_eq (skL rfl))))))⟩
      · refine z_vret (pc := 50) O dX9_readHurt_50 ?_
        exact ⟨rfl, (Fr.rf [(33, 7), (33, 8), (33, 9), (33, 10), (33, 11), (33, 4), (33, 5), (53, 99999), (40, 99999), (39, 99999)] σ), (by omega), (by omega), (by omega), (by omega), (fun k hk => rfl)⟩
    · refine z_aload_n (pc := 19) O dX9_readHurt_19 rfl ?_
      refine z_aload_n (pc := 20) O dX9_readHurt_20 rfl ?_
      refine zi_getv (pc := 21) (b) O fl_X9_283 rfl (jo_33 J) ((izg σ 33 34).trans (congrArg iz eb)) dX9_readHurt_21 ?_
      refine z_aload_n (pc := 24) O dX9_readHurt_24 rfl ?_
      refine zi_getLv (pc := 25) (hL σ 33 11) O fl_X9_245 rfl (jo_33 J) rfl dX9_readHurt_25 ?_
      refine z_callV (pc := 28) O cl_X9_313 (k9_hurtOf _ _ b (by omega) (hL σ 33 11) J (by omega) (by omega)) (by decide) (jo_33 J) kc_9 rfl rfl (Nat.le_of_ble_eq_true rfl) ⟨Nat.zero_le _, Nat.zero_le _⟩ dX9_readHurt_28 (fun r τ9 hp => ?_)
      obtain ⟨z10, rfl, fτ9_0, fτ9_1, rfl⟩ := hp
      refine zi_if_lt (pc := 31) (tgt := 43) O dX9_readHurt_31 (by decide) (by omega) (fun h31 => ?_) (fun h31 => ?_)
      · refine z_aload_n (pc := 43) O dX9_readHurt_43 rfl ?_
        refine z_callV (pc := 44) O cl_X9_272 (k9_isGood _ _ J) (by decide) (jo_33 J) kc_9 rfl rfl (Nat.le_of_ble_eq_true rfl) ⟨Nat.zero_le _, Nat.zero_le _⟩ dX9_readHurt_44 (fun r τ11 hp => ?_)
        obtain ⟨z12, rfl, fτ11_0, fτ11_1, rfl⟩ := hp
        refine zi_if_ne (pc := 47) (tgt := 51) O dX9_readHurt_47 (by decide) (by omega) (fun h47 => ?_) (fun h47 => ?_)
        · refine z_bipush (pc := 51) (v := iz (12)) O dX9_readHurt_51 (by decide) ?_
          refine z_aload_n (pc := 53) O dX9_readHurt_53 rfl ?_
          refine zi_getv (pc := 54) (b) O fl_X9_283 rfl (jo_33 J) ((izg σ 33 34).trans (congrArg iz eb)) dX9_readHurt_54 ?_
          refine zi_imul (pc := 57) O dX9_readHurt_57 ?_
          refine z_aload_n (pc := 58) O dX9_readHurt_58 rfl ?_
          refine z_getR (pc := 59) 39 O fl_X9_30 rfl (jo_33 J) (jr_33_15 J) dX9_readHurt_59 ?_
          refine z_aload_n (pc := 62) O dX9_readHurt_62 rfl ?_
          refine zi_getv (pc := 63) (b) O fl_X9_283 rfl (jo_33 J) ((izg σ 33 34).trans (congrArg iz eb)) dX9_readHurt_63 ?_
          refine zi_ialdv (pc := 66) (b.toNat) (gI σ 39 (b.toNat)) O (ja_39 J) (by omega) (by omega) (by omega) (izg σ 39 (b.toNat)) dX9_readHurt_66 ?_
          have := rgI σ 39 (b.toNat)
          refine zi_iadd (pc := 67) O dX9_readHurt_67 ?_
          refine z_istore_n (pc := 68) [(0, .ref 33), (1, .int (iz ((12 * b) + (gI σ 39 (b.toNat)))))] O dX9_readHurt_68 (by decide) rfl ?_
          refine z_aload_n (pc := 69) O dX9_readHurt_69 rfl ?_
          refine z_getR (pc := 70) 53 O fl_X9_72 rfl (jo_33 J) (jr_33_29 J) dX9_readHurt_70 ?_
          refine z_iload_n (pc := 73) O dX9_readHurt_73 rfl ?_
          refine z_aload_n (pc := 74) O dX9_readHurt_74 rfl ?_
          refine zi_getLv (pc := 75) (hL σ 33 11) O fl_X9_245 rfl (jo_33 J) rfl dX9_readHurt_75 ?_
          refine zi_last (pc := 78) (((12 * b) + (gI σ 39 (b.toNat))).toNat) O (ja_53 J) (by omega) (by omega) (by omega) dX9_readHurt_78 ?_
          refine z_aload_n (pc := 79) O dX9_readHurt_79 rfl ?_
          refine z_callV (pc := 80) O cl_X9_266 (k9_next _ _ J (by have : gI (sL σ 53 (((12 * b) + (gI σ 39 (b.toNat))).toNat) (hL σ 33 11)) 33 3 = gI σ 33 3 := gI_iz (skL (izg σ 33 3)) (rgI _ _ _); omega) (by have : gI (sL σ 53 (((12 * b) + (gI σ 39 (b.toNat))).toNat) (hL σ 33 11)) 33 8 = gI σ 33 8 := gI_iz (skL (izg σ 33 8)) (rgI _ _ _); have : gI (sL σ 53 (((12 * b) + (gI σ 39 (b.toNat))).toNat) (hL σ 33 11)) 33 3 = gI σ 33 3 := gI_iz (skL (izg σ 33 3)) (rgI _ _ _); omega)) (by decide) (jo_33 J) kc_9 rfl rfl (Nat.le_of_ble_eq_true rfl) ⟨Nat.zero_le _, Nat.zero_le _⟩ dX9_readHurt_80 (fun r τ13 hp => ?_)
          obtain ⟨rfl, frτ13, eτ13_0, eτ13_1⟩ := hp
          have : gI (sL σ 53 (((12 * b) + (gI σ 39 (b.toNat))).toNat) (hL σ 33 11)) 33 8 = gI σ 33 8 := gI_iz (skL (izg σ 33 8)) (rgI _ _ _)
          have : gI τ13 33 3 = gI σ 33 3 := gI_iz (Fr.it frτ13 rfl (skL (izg σ 33 3))) (rgI _ _ _)
          refine z_aload_n (pc := 83) O dX9_readHurt_83 rfl ?_
          refine z_getR (pc := 84) 40 O fl_X9_33 rfl (jo_33 (frτ13.lay J)) (jr_33_16 (frτ13.lay J)) dX9_readHurt_84 ?_
          refine z_iload_n (pc := 87) O dX9_readHurt_87 rfl ?_
          refine z_aload_n (pc := 88) O dX9_readHurt_88 rfl ?_
          refine z_iconst (pc := 89) (v := iz (0)) O dX9_readHurt_89 (by decide) ?_
          refine z_ldcw (pc := 90) O tw_989 dX9_readHurt_90 ?_
          refine zi_val (100000) (by decide) ?_
          refine z_callV (pc := 93) O cl_X9_317 (k9_numeral _ _ 0 (by decide) 100000 (by decide) (frτ13.lay J) (by have : gI τ13 33 3 = gI σ 33 3 := gI_iz (Fr.it frτ13 rfl (skL (izg σ 33 3))) (rgI _ _ _); omega) (by have : gI τ13 33 4 = gI σ 33 4 := gI_iz (Fr.it frτ13 rfl (skL (izg σ 33 4))) (rgI _ _ _); omega)) (by decide) (jo_33 (frτ13.lay J)) kc_9 rfl rfl (Nat.le_of_ble_eq_true rfl) ⟨Nat.zero_le _, Nat.zero_le _⟩ dX9_readHurt_93 (fun r τ15 hp => ?_)
          obtain ⟨z16, rfl, fτ15_0, frτ15, eτ15_0, eτ15_1, eτ15_2, eτ15_3⟩ := hp
          have : gI τ15 33 3 = gI σ 33 3 := gI_iz (Fr.it frτ15 rfl (Fr.it frτ13 rfl (skL (izg σ 33 3)))) (rgI _ _ _)
          have : gI τ13 33 4 = gI σ 33 4 := gI_iz (Fr.it frτ13 rfl (skL (izg σ 33 4))) (rgI _ _ _)
          refine zi_iast (pc := 96) (((12 * b) + (gI σ 39 (b.toNat))).toNat) O (ja_40 (frτ15.lay (frτ13.lay J))) (by omega) (by omega) (by omega) dX9_readHurt_96 ?_
          refine z_aload_n (pc := 97) O dX9_readHurt_97 rfl ?_
          refine z_getR (pc := 98) 39 O fl_X9_30 rfl (jo_33 (frτ15.lay (frτ13.lay J))) (jr_33_15 (frτ15.lay (frτ13.lay J))) dX9_readHurt_98 ?_
          refine z_aload_n (pc := 101) O dX9_readHurt_101 rfl ?_
          refine zi_getv (pc := 102) (b) O fl_X9_283 rfl (jo_33 (frτ15.lay (frτ13.lay J))) (sk1t (by decide) (Fr.it frτ15 rfl (Fr.it frτ13 rfl (skL ((izg σ 33 34).trans (congrArg iz eb)))))) dX9_readHurt_102 ?_
          refine z_dup2 (pc := 105) O dX9_readHurt_105 rfl rfl ?_
          refine zi_ialdv (pc := 106) (b.toNat) (gI σ 39 (b.toNat)) O (ja_39 (frτ15.lay (frτ13.lay J))) (by omega) (by omega) (by omega) (sk1t (by decide) (Fr.it frτ15 rfl (Fr.it frτ13 rfl (skL (izg σ 39 (b.toNat)))))) dX9_readHurt_106 ?_
          refine z_iconst (pc := 107) (v := iz (1)) O dX9_readHurt_107 (by decide) ?_
          refine zi_iadd (pc := 108) O dX9_readHurt_108 ?_
          refine zi_iast (pc := 109) (b.toNat) O (ja_39 (frτ15.lay (frτ13.lay J))) (by omega) (by omega) (by omega) dX9_readHurt_109 ?_
          refine z_vret (pc := 110) O dX9_readHurt_110 ?_
          exact ⟨rfl, ((((((Fr.rf [(33, 7), (33, 8), (33, 9), (33, 10), (33, 11), (33, 4), (33, 5), (53, 99999), (40, 99999), (39, 99999)] σ).pL rfl).tr (frτ13.mono (V := [(33, 7), (33, 8), (33, 9), (33, 10), (33, 11), (33, 4), (33, 5), (53, 99999), (40, 99999), (39, 99999)]) rfl)).tr (frτ15.mono (V := [(33, 7), (33, 8), (33, 9), (33, 10), (33, 11), (33, 4), (33, 5), (53, 99999), (40, 99999), (39, 99999)]) rfl)).pI rfl).pI rfl), (by have : gI (sI (sI τ15 40 (((12 * b) + (gI σ 39 (b.toNat))).toNat) (iz z16)) 39 (b.toNat) (iz ((gI σ 39 (b.toNat)) + 1))) 33 7 = gI τ15 33 7 := gI_iz (sk1t (by decide) (sk1t (by decide) (izg τ15 33 7))) (rgI _ _ _); have : gI (sI (sI τ15 40 (((12 * b) + (gI σ 39 (b.toNat))).toNat) (iz z16)) 39 (b.toNat) (iz ((gI σ 39 (b.toNat)) + 1))) 33 8 = gI τ15 33 8 := gI_iz (sk1t (by decide) (sk1t (by decide) (izg τ15 33 8))) (rgI _ _ _); have : gI (sI (sI τ15 40 (((12 * b) + (gI σ 39 (b.toNat))).toNat) (iz z16)) 39 (b.toNat) (iz ((gI σ 39 (b.toNat)) + 1))) 33 3 = gI σ 33 3 := gI_iz (sk1t (by decide) (sk1t (by decide) (Fr.it frτ15 rfl (Fr.it frτ13 rfl (skL (izg σ 33 3)))))) (rgI _ _ _); have : gI (sI (sI τ15 40 (((12 * b) + (gI σ 39 (b.toNat))).toNat) (iz z16)) 39 (b.toNat) (iz ((gI σ 39 (b.toNat)) + 1))) 33 9 = gI τ15 33 9 := gI_iz (sk1t (by decide) (sk1t (by decide) (izg τ15 33 9))) (rgI _ _ _); omega), (by have : gI (sI (sI τ15 40 (((12 * b) + (gI σ 39 (b.toNat))).toNat) (iz z16)) 39 (b.toNat) (iz ((gI σ 39 (b.toNat)) + 1))) 33 7 = gI τ15 33 7 := gI_iz (sk1t (by decide) (sk1t (by decide) (izg τ15 33 7))) (rgI _ _ _); omega), (by have : gI (sI (sI τ15 40 (((12 * b) + (gI σ 39 (b.toNat))).toNat) (iz z16)) 39 (b.toNat) (iz ((gI σ 39 (b.toNat)) + 1))) 33 4 = gI τ15 33 4 := gI_iz (sk1t (by decide) (sk1t (by decide) (izg τ15 33 4))) (rgI _ _ _); omega), (by have : gI (sI (sI τ15 40 (((12 * b) + (gI σ 39 (b.toNat))).toNat) (iz z16)) 39 (b.toNat) (iz ((gI σ 39 (b.toNat)) + 1))) 39 (b.toNat) = (gI σ 39 (b.toNat)) + 1 := gI_iz (hI_at _ _ _ _) (by omega); omega), (fun k hk => ((gI_eq (sk2t (by omega) (sk1t (by decide) rfl))).trans ((frτ15.g 39 k rfl).trans ((frτ13.g 39 k rfl).trans (gI_eq (skL rfl))))))⟩
        · refine z_vret (pc := 50) O dX9_readHurt_50 ?_
          exact ⟨rfl, (Fr.rf [(33, 7), (33, 8), (33, 9), (33, 10), (33, 11), (33, 4), (33, 5), (53, 99999), (40, 99999), (39, 99999)] σ), (by omega), (by omega), (by omega), (by omega), (fun k hk => rfl)⟩
      · refine z_aload_n (pc := 34) O dX9_readHurt_34 rfl ?_
        refine z_iconst (pc := 35) (v := iz (3)) O dX9_readHurt_35 (by decide) ?_
        refine z_aload_n (pc := 36) O dX9_readHurt_36 rfl ?_
        refine zi_getv (pc := 37) (gI σ 33 7) O fl_X9_231 rfl (jo_33 J) (izg σ 33 7) dX9_readHurt_37 ?_
        have := rgI σ 33 7
        refine z_callV (pc := 40) O cl_X9_259 (k9_fails _ _ 3 (by decide) (gI σ 33 7) (by omega) J) (by decide) (jo_33 J) kc_9 rfl rfl (Nat.le_of_ble_eq_true rfl) ⟨Nat.zero_le _, Nat.zero_le _⟩ dX9_readHurt_40 (fun r τ17 hp => ?_)
        obtain ⟨rfl, frτ17, eτ17_0⟩ := hp
        refine z_aload_n (pc := 43) O dX9_readHurt_43 rfl ?_
        refine z_callV (pc := 44) O cl_X9_272 (k9_isGood _ _ (frτ17.lay J)) (by decide) (jo_33 (frτ17.lay J)) kc_9 rfl rfl (Nat.le_of_ble_eq_true rfl) ⟨Nat.zero_le _, Nat.zero_le _⟩ dX9_readHurt_44 (fun r τ19 hp => ?_)
        obtain ⟨z20, rfl, fτ19_0, fτ19_1, rfl⟩ := hp
        refine zi_if_ne (pc := 47) (tgt := 51) O dX9_readHurt_47 (by decide) (by omega) (fun h47 => ?_) (fun h47 => ?_)
        · refine z_bipush (pc := 51) (v := iz (12)) O dX9_readHurt_51 (by decide) ?_
          refine z_aload_n (pc := 53) O dX9_readHurt_53 rfl ?_
          refine zi_getv (pc := 54) (b) O fl_X9_283 rfl (jo_33 (frτ17.lay J)) (Fr.it frτ17 rfl ((izg σ 33 34).trans (congrArg iz eb))) dX9_readHurt_54 ?_
          refine zi_imul (pc := 57) O dX9_readHurt_57 ?_
          refine z_aload_n (pc := 58) O dX9_readHurt_58 rfl ?_
          refine z_getR (pc := 59) 39 O fl_X9_30 rfl (jo_33 (frτ17.lay J)) (jr_33_15 (frτ17.lay J)) dX9_readHurt_59 ?_
          refine z_aload_n (pc := 62) O dX9_readHurt_62 rfl ?_
          refine zi_getv (pc := 63) (b) O fl_X9_283 rfl (jo_33 (frτ17.lay J)) (Fr.it frτ17 rfl ((izg σ 33 34).trans (congrArg iz eb))) dX9_readHurt_63 ?_
          refine zi_ialdv (pc := 66) (b.toNat) (gI σ 39 (b.toNat)) O (ja_39 (frτ17.lay J)) (by omega) (by omega) (by omega) (Fr.it frτ17 rfl (izg σ 39 (b.toNat))) dX9_readHurt_66 ?_
          have := rgI σ 39 (b.toNat)
          refine zi_iadd (pc := 67) O dX9_readHurt_67 ?_
          refine z_istore_n (pc := 68) [(0, .ref 33), (1, .int (iz ((12 * b) + (gI σ 39 (b.toNat)))))] O dX9_readHurt_68 (by decide) rfl ?_
          refine z_aload_n (pc := 69) O dX9_readHurt_69 rfl ?_
          refine z_getR (pc := 70) 53 O fl_X9_72 rfl (jo_33 (frτ17.lay J)) (jr_33_29 (frτ17.lay J)) dX9_readHurt_70 ?_
          refine z_iload_n (pc := 73) O dX9_readHurt_73 rfl ?_
          refine z_aload_n (pc := 74) O dX9_readHurt_74 rfl ?_
          refine zi_getLv (pc := 75) (hL σ 33 11) O fl_X9_245 rfl (jo_33 (frτ17.lay J)) ((frτ17.l 33 11 rfl).trans rfl) dX9_readHurt_75 ?_
          refine zi_last (pc := 78) (((12 * b) + (gI σ 39 (b.toNat))).toNat) O (ja_53 (frτ17.lay J)) (by omega) (by omega) (by omega) dX9_readHurt_78 ?_
          refine z_aload_n (pc := 79) O dX9_readHurt_79 rfl ?_
          refine z_callV (pc := 80) O cl_X9_266 (k9_next _ _ (frτ17.lay J) (by have : gI (sL τ17 53 (((12 * b) + (gI σ 39 (b.toNat))).toNat) (hL σ 33 11)) 33 3 = gI σ 33 3 := gI_iz (skL (Fr.it frτ17 rfl (izg σ 33 3))) (rgI _ _ _); omega) (by have : gI (sL τ17 53 (((12 * b) + (gI σ 39 (b.toNat))).toNat) (hL σ 33 11)) 33 8 = gI σ 33 8 := gI_iz (skL (Fr.it frτ17 rfl (izg σ 33 8))) (rgI _ _ _); have : gI (sL τ17 53 (((12 * b) + (gI σ 39 (b.toNat))).toNat) (hL σ 33 11)) 33 3 = gI σ 33 3 := gI_iz (skL (Fr.it frτ17 rfl (izg σ 33 3))) (rgI _ _ _); omega)) (by decide) (jo_33 (frτ17.lay J)) kc_9 rfl rfl (Nat.le_of_ble_eq_true rfl) ⟨Nat.zero_le _, Nat.zero_le _⟩ dX9_readHurt_80 (fun r τ21 hp => ?_)
          obtain ⟨rfl, frτ21, eτ21_0, eτ21_1⟩ := hp
          have : gI (sL τ17 53 (((12 * b) + (gI σ 39 (b.toNat))).toNat) (hL σ 33 11)) 33 8 = gI σ 33 8 := gI_iz (skL (Fr.it frτ17 rfl (izg σ 33 8))) (rgI _ _ _)
          have : gI τ21 33 3 = gI σ 33 3 := gI_iz (Fr.it frτ21 rfl (skL (Fr.it frτ17 rfl (izg σ 33 3)))) (rgI _ _ _)
          refine z_aload_n (pc := 83) O dX9_readHurt_83 rfl ?_
          refine z_getR (pc := 84) 40 O fl_X9_33 rfl (jo_33 (frτ21.lay (frτ17.lay J))) (jr_33_16 (frτ21.lay (frτ17.lay J))) dX9_readHurt_84 ?_
          refine z_iload_n (pc := 87) O dX9_readHurt_87 rfl ?_
          refine z_aload_n (pc := 88) O dX9_readHurt_88 rfl ?_
          refine z_iconst (pc := 89) (v := iz (0)) O dX9_readHurt_89 (by decide) ?_
          refine z_ldcw (pc := 90) O tw_989 dX9_readHurt_90 ?_
          refine zi_val (100000) (by decide) ?_
          refine z_callV (pc := 93) O cl_X9_317 (k9_numeral _ _ 0 (by decide) 100000 (by decide) (frτ21.lay (frτ17.lay J)) (by have : gI τ21 33 3 = gI σ 33 3 := gI_iz (Fr.it frτ21 rfl (skL (Fr.it frτ17 rfl (izg σ 33 3)))) (rgI _ _ _); omega) (by have : gI τ21 33 4 = gI τ17 33 4 := gI_iz (Fr.it frτ21 rfl (skL (izg τ17 33 4))) (rgI _ _ _); omega)) (by decide) (jo_33 (frτ21.lay (frτ17.lay J))) kc_9 rfl rfl (Nat.le_of_ble_eq_true rfl) ⟨Nat.zero_le _, Nat.zero_le _⟩ dX9_readHurt_93 (fun r τ23 hp => ?_)
          obtain ⟨z24, rfl, fτ23_0, frτ23, eτ23_0, eτ23_1, eτ23_2, eτ23_3⟩ := hp
          have : gI τ23 33 3 = gI σ 33 3 := gI_iz (Fr.it frτ23 rfl (Fr.it frτ21 rfl (skL (Fr.it frτ17 rfl (izg σ 33 3))))) (rgI _ _ _)
          have : gI τ21 33 4 = gI τ17 33 4 := gI_iz (Fr.it frτ21 rfl (skL (izg τ17 33 4))) (rgI _ _ _)
          refine zi_iast (pc := 96) (((12 * b) + (gI σ 39 (b.toNat))).toNat) O (ja_40 (frτ23.lay (frτ21.lay (frτ17.lay J)))) (by omega) (by omega) (by omega) dX9_readHurt_96 ?_
          refine z_aload_n (pc := 97) O dX9_readHurt_97 rfl ?_
          refine z_getR (pc := 98) 39 O fl_X9_30 rfl (jo_33 (frτ23.lay (frτ21.lay (frτ17.lay J)))) (jr_33_15 (frτ23.lay (frτ21.lay (frτ17.lay J)))) dX9_readHurt_98 ?_
          refine z_aload_n (pc := 101) O dX9_readHurt_101 rfl ?_
          refine zi_getv (pc := 102) (b) O fl_X9_283 rfl (jo_33 (frτ23.lay (frτ21.lay (frτ17.lay J)))) (sk1t (by decide) (Fr.it frτ23 rfl (Fr.it frτ21 rfl (skL (Fr.it frτ17 rfl ((izg σ 33 34).trans (congrArg iz eb))))))) dX9_readHurt_102 ?_
          refine z_dup2 (pc := 105) O dX9_readHurt_105 rfl rfl ?_
          refine zi_ialdv (pc := 106) (b.toNat) (gI σ 39 (b.toNat)) O (ja_39 (frτ23.lay (frτ21.lay (frτ17.lay J)))) (by omega) (by omega) (by omega) (sk1t (by decide) (Fr.it frτ23 rfl (Fr.it frτ21 rfl (skL (Fr.it frτ17 rfl (izg σ 39 (b.toNat))))))) dX9_readHurt_106 ?_
          refine z_iconst (pc := 107) (v := iz (1)) O dX9_readHurt_107 (by decide) ?_
          refine zi_iadd (pc := 108) O dX9_readHurt_108 ?_
          refine zi_iast (pc := 109) (b.toNat) O (ja_39 (frτ23.lay (frτ21.lay (frτ17.lay J)))) (by omega) (by omega) (by omega) dX9_readHurt_109 ?_
          refine z_vret (pc := 110) O dX9_readHurt_110 ?_
          exact ⟨rfl, ((((((frτ17.mono (V := [(33, 7), (33, 8), (33, 9), (33, 10), (33, 11), (33, 4), (33, 5), (53, 99999), (40, 99999), (39, 99999)]) rfl).pL rfl).tr (frτ21.mono (V := [(33, 7), (33, 8), (33, 9), (33, 10), (33, 11), (33, 4), (33, 5), (53, 99999), (40, 99999), (39, 99999)]) rfl)).tr (frτ23.mono (V := [(33, 7), (33, 8), (33, 9), (33, 10), (33, 11), (33, 4), (33, 5), (53, 99999), (40, 99999), (39, 99999)]) rfl)).pI rfl).pI rfl), (by have : gI (sI (sI τ23 40 (((12 * b) + (gI σ 39 (b.toNat))).toNat) (iz z24)) 39 (b.toNat) (iz ((gI σ 39 (b.toNat)) + 1))) 33 7 = gI τ23 33 7 := gI_iz (sk1t (by decide) (sk1t (by decide) (izg τ23 33 7))) (rgI _ _ _); have : gI (sI (sI τ23 40 (((12 * b) + (gI σ 39 (b.toNat))).toNat) (iz z24)) 39 (b.toNat) (iz ((gI σ 39 (b.toNat)) + 1))) 33 8 = gI τ23 33 8 := gI_iz (sk1t (by decide) (sk1t (by decide) (izg τ23 33 8))) (rgI _ _ _); have : gI (sI (sI τ23 40 (((12 * b) + (gI σ 39 (b.toNat))).toNat) (iz z24)) 39 (b.toNat) (iz ((gI σ 39 (b.toNat)) + 1))) 33 3 = gI σ 33 3 := gI_iz (sk1t (by decide) (sk1t (by decide) (Fr.it frτ23 rfl (Fr.it frτ21 rfl (skL (Fr.it frτ17 rfl (izg σ 33 3))))))) (rgI _ _ _); have : gI (sI (sI τ23 40 (((12 * b) + (gI σ 39 (b.toNat))).toNat) (iz z24)) 39 (b.toNat) (iz ((gI σ 39 (b.toNat)) + 1))) 33 9 = gI τ23 33 9 := gI_iz (sk1t (by decide) (sk1t (by decide) (izg τ23 33 9))) (rgI _ _ _); omega), (by have : gI (sI (sI τ23 40 (((12 * b) + (gI σ 39 (b.toNat))).toNat) (iz z24)) 39 (b.toNat) (iz ((gI σ 39 (b.toNat)) + 1))) 33 7 = gI τ23 33 7 := gI_iz (sk1t (by decide) (sk1t (by decide) (izg τ23 33 7))) (rgI _ _ _); omega), (by have : gI (sI (sI τ23 40 (((12 * b) + (gI σ 39 (b.toNat))).toNat) (iz z24)) 39 (b.toNat) (iz ((gI σ 39 (b.toNat)) + 1))) 33 4 = gI τ23 33 4 := gI_iz (sk1t (by decide) (sk1t (by decide) (izg τ23 33 4))) (rgI _ _ _); omega), (by have : gI (sI (sI τ23 40 (((12 * b) + (gI σ 39 (b.toNat))).toNat) (iz z24)) 39 (b.toNat) (iz ((gI σ 39 (b.toNat)) + 1))) 39 (b.toNat) = (gI σ 39 (b.toNat)) + 1 := gI_iz (hI_at _ _ _ _) (by omega); omega), (fun k hk => ((gI_eq (sk2t (by omega) (sk1t (by decide) rfl))).trans ((frτ23.g 39 k rfl).trans ((frτ21.g 39 k rfl).trans ((gI_eq (skL rfl)).trans (frτ17.g 39 k rfl))))))⟩
        · refine z_vret (pc := 50) O dX9_readHurt_50 ?_
          exact ⟨rfl, (frτ17.mono (V := [(33, 7), (33, 8), (33, 9), (33, 10), (33, 11), (33, 4), (33, 5), (53, 99999), (40, 99999), (39, 99999)]) rfl), (by have : gI τ17 33 7 = gI σ 33 7 := gI_iz (Fr.it frτ17 rfl (izg σ 33 7)) (rgI _ _ _); have : gI τ17 33 8 = gI σ 33 8 := gI_iz (Fr.it frτ17 rfl (izg σ 33 8)) (rgI _ _ _); have : gI τ17 33 3 = gI σ 33 3 := gI_iz (Fr.it frτ17 rfl (izg σ 33 3)) (rgI _ _ _); have : gI τ17 33 9 = gI σ 33 9 := gI_iz (Fr.it frτ17 rfl (izg σ 33 9)) (rgI _ _ _); omega), (by have : gI τ17 33 7 = gI σ 33 7 := gI_iz (Fr.it frτ17 rfl (izg σ 33 7)) (rgI _ _ _); omega), (by omega), (by have : gI τ17 39 (b.toNat) = gI σ 39 (b.toNat) := gI_iz (Fr.it frτ17 rfl (izg σ 39 (b.toNat))) (rgI _ _ _); omega), (fun k hk => (frτ17.g 39 k rfl))⟩
  · refine z_aload_n (pc := 8) O dX9_readHurt_8 rfl ?_
    refine z_callV (pc := 9) O cl_X9_269 (k9_wrong _ _ J) (by decide) (jo_33 J) kc_9 rfl rfl (Nat.le_of_ble_eq_true rfl) ⟨Nat.zero_le _, Nat.zero_le _⟩ dX9_readHurt_9 (fun r τ25 hp => ?_)
    obtain ⟨rfl, frτ25, eτ25_0⟩ := hp
    refine z_aload_n (pc := 12) O dX9_readHurt_12 rfl ?_
    refine z_callV (pc := 13) O cl_X9_272 (k9_isGood _ _ (frτ25.lay J)) (by decide) (jo_33 (frτ25.lay J)) kc_9 rfl rfl (Nat.le_of_ble_eq_true rfl) ⟨Nat.zero_le _, Nat.zero_le _⟩ dX9_readHurt_13 (fun r τ27 hp => ?_)
    obtain ⟨z28, rfl, fτ27_0, fτ27_1, rfl⟩ := hp
    refine zi_if_eq (pc := 16) (tgt := 43) O dX9_readHurt_16 (by decide) (by omega) (fun h16 => ?_) (fun h16 => ?_)
    · refine z_aload_n (pc := 43) O dX9_readHurt_43 rfl ?_
      refine z_callV (pc := 44) O cl_X9_272 (k9_isGood _ _ (frτ25.lay J)) (by decide) (jo_33 (frτ25.lay J)) kc_9 rfl rfl (Nat.le_of_ble_eq_true rfl) ⟨Nat.zero_le _, Nat.zero_le _⟩ dX9_readHurt_44 (fun r τ29 hp => ?_)
      obtain ⟨z30, rfl, fτ29_0, fτ29_1, rfl⟩ := hp
      refine zi_if_ne (pc := 47) (tgt := 51) O dX9_readHurt_47 (by decide) (by omega) (fun h47 => ?_) (fun h47 => ?_)
      · refine z_bipush (pc := 51) (v := iz (12)) O dX9_readHurt_51 (by decide) ?_
        refine z_aload_n (pc := 53) O dX9_readHurt_53 rfl ?_
        refine zi_getv (pc := 54) (b) O fl_X9_283 rfl (jo_33 (frτ25.lay J)) (Fr.it frτ25 rfl ((izg σ 33 34).trans (congrArg iz eb))) dX9_readHurt_54 ?_
        refine zi_imul (pc := 57) O dX9_readHurt_57 ?_
        refine z_aload_n (pc := 58) O dX9_readHurt_58 rfl ?_
        refine z_getR (pc := 59) 39 O fl_X9_30 rfl (jo_33 (frτ25.lay J)) (jr_33_15 (frτ25.lay J)) dX9_readHurt_59 ?_
        refine z_aload_n (pc := 62) O dX9_readHurt_62 rfl ?_
        refine zi_getv (pc := 63) (b) O fl_X9_283 rfl (jo_33 (frτ25.lay J)) (Fr.it frτ25 rfl ((izg σ 33 34).trans (congrArg iz eb))) dX9_readHurt_63 ?_
        refine zi_ialdv (pc := 66) (b.toNat) (gI σ 39 (b.toNat)) O (ja_39 (frτ25.lay J)) (by omega) (by omega) (by omega) (Fr.it frτ25 rfl (izg σ 39 (b.toNat))) dX9_readHurt_66 ?_
        have := rgI σ 39 (b.toNat)
        refine zi_iadd (pc := 67) O dX9_readHurt_67 ?_
        refine z_istore_n (pc := 68) [(0, .ref 33), (1, .int (iz ((12 * b) + (gI σ 39 (b.toNat)))))] O dX9_readHurt_68 (by decide) rfl ?_
        refine z_aload_n (pc := 69) O dX9_readHurt_69 rfl ?_
        refine z_getR (pc := 70) 53 O fl_X9_72 rfl (jo_33 (frτ25.lay J)) (jr_33_29 (frτ25.lay J)) dX9_readHurt_70 ?_
        refine z_iload_n (pc := 73) O dX9_readHurt_73 rfl ?_
        refine z_aload_n (pc := 74) O dX9_readHurt_74 rfl ?_
        refine zi_getLv (pc := 75) (hL σ 33 11) O fl_X9_245 rfl (jo_33 (frτ25.lay J)) ((frτ25.l 33 11 rfl).trans rfl) dX9_readHurt_75 ?_
        refine zi_last (pc := 78) (((12 * b) + (gI σ 39 (b.toNat))).toNat) O (ja_53 (frτ25.lay J)) (by omega) (by omega) (by omega) dX9_readHurt_78 ?_
        refine z_aload_n (pc := 79) O dX9_readHurt_79 rfl ?_
        refine z_callV (pc := 80) O cl_X9_266 (k9_next _ _ (frτ25.lay J) (by have : gI (sL τ25 53 (((12 * b) + (gI σ 39 (b.toNat))).toNat) (hL σ 33 11)) 33 3 = gI σ 33 3 := gI_iz (skL (Fr.it frτ25 rfl (izg σ 33 3))) (rgI _ _ _); omega) (by have : gI (sL τ25 53 (((12 * b) + (gI σ 39 (b.toNat))).toNat) (hL σ 33 11)) 33 8 = gI σ 33 8 := gI_iz (skL (Fr.it frτ25 rfl (izg σ 33 8))) (rgI _ _ _); have : gI (sL τ25 53 (((12 * b) + (gI σ 39 (b.toNat))).toNat) (hL σ 33 11)) 33 3 = gI σ 33 3 := gI_iz (skL (Fr.it frτ25 rfl (izg σ 33 3))) (rgI _ _ _); omega)) (by decide) (jo_33 (frτ25.lay J)) kc_9 rfl rfl (Nat.le_of_ble_eq_true rfl) ⟨Nat.zero_le _, Nat.zero_le _⟩ dX9_readHurt_80 (fun r τ31 hp => ?_)
        obtain ⟨rfl, frτ31, eτ31_0, eτ31_1⟩ := hp
        have : gI (sL τ25 53 (((12 * b) + (gI σ 39 (b.toNat))).toNat) (hL σ 33 11)) 33 8 = gI σ 33 8 := gI_iz (skL (Fr.it frτ25 rfl (izg σ 33 8))) (rgI _ _ _)
        have : gI τ31 33 3 = gI σ 33 3 := gI_iz (Fr.it frτ31 rfl (skL (Fr.it frτ25 rfl (izg σ 33 3)))) (rgI _ _ _)
        refine z_aload_n (pc := 83) O dX9_readHurt_83 rfl ?_
        refine z_getR (pc := 84) 40 O fl_X9_33 rfl (jo_33 (frτ31.lay (frτ25.lay J))) (jr_33_16 (frτ31.lay (frτ25.lay J))) dX9_readHurt_84 ?_
        refine z_iload_n (pc := 87) O dX9_readHurt_87 rfl ?_
        refine z_aload_n (pc := 88) O dX9_readHurt_88 rfl ?_
        refine z_iconst (pc := 89) (v := iz (0)) O dX9_readHurt_89 (by decide) ?_
        refine z_ldcw (pc := 90) O tw_989 dX9_readHurt_90 ?_
        refine zi_val (100000) (by decide) ?_
        refine z_callV (pc := 93) O cl_X9_317 (k9_numeral _ _ 0 (by decide) 100000 (by decide) (frτ31.lay (frτ25.lay J)) (by have : gI τ31 33 3 = gI σ 33 3 := gI_iz (Fr.it frτ31 rfl (skL (Fr.it frτ25 rfl (izg σ 33 3)))) (rgI _ _ _); omega) (by have : gI τ31 33 4 = gI τ25 33 4 := gI_iz (Fr.it frτ31 rfl (skL (izg τ25 33 4))) (rgI _ _ _); omega)) (by decide) (jo_33 (frτ31.lay (frτ25.lay J))) kc_9 rfl rfl (Nat.le_of_ble_eq_true rfl) ⟨Nat.zero_le _, Nat.zero_le _⟩ dX9_readHurt_93 (fun r τ33 hp => ?_)
        obtain ⟨z34, rfl, fτ33_0, frτ33, eτ33_0, eτ33_1, eτ33_2, eτ33_3⟩ := hp
        have : gI τ33 33 3 = gI σ 33 3 := gI_iz (Fr.it frτ33 rfl (Fr.it frτ31 rfl (skL (Fr.it frτ25 rfl (izg σ 33 3))))) (rgI _ _ _)
        have : gI τ31 33 4 = gI τ25 33 4 := gI_iz (Fr.it frτ31 rfl (skL (izg τ25 33 4))) (rgI _ _ _)
        refine zi_iast (pc := 96) (((12 * b) + (gI σ 39 (b.toNat))).toNat) O (ja_40 (frτ33.lay (frτ31.lay (frτ25.lay J)))) (by omega) (by omega) (by omega) dX9_readHurt_96 ?_
        refine z_aload_n (pc := 97) O dX9_readHurt_97 rfl ?_
        refine z_getR (pc := 98) 39 O fl_X9_30 rfl (jo_33 (frτ33.lay (frτ31.lay (frτ25.lay J)))) (jr_33_15 (frτ33.lay (frτ31.lay (frτ25.lay J)))) dX9_readHurt_98 ?_
        refine z_aload_n (pc := 101) O dX9_readHurt_101 rfl ?_
        refine zi_getv (pc := 102) (b) O fl_X9_283 rfl (jo_33 (frτ33.lay (frτ31.lay (frτ25.lay J)))) (sk1t (by decide) (Fr.it frτ33 rfl (Fr.it frτ31 rfl (skL (Fr.it frτ25 rfl ((izg σ 33 34).trans (congrArg iz eb))))))) dX9_readHurt_102 ?_
        refine z_dup2 (pc := 105) O dX9_readHurt_105 rfl rfl ?_
        refine zi_ialdv (pc := 106) (b.toNat) (gI σ 39 (b.toNat)) O (ja_39 (frτ33.lay (frτ31.lay (frτ25.lay J)))) (by omega) (by omega) (by omega) (sk1t (by decide) (Fr.it frτ33 rfl (Fr.it frτ31 rfl (skL (Fr.it frτ25 rfl (izg σ 39 (b.toNat))))))) dX9_readHurt_106 ?_
        refine z_iconst (pc := 107) (v := iz (1)) O dX9_readHurt_107 (by decide) ?_
        refine zi_iadd (pc := 108) O dX9_readHurt_108 ?_
        refine zi_iast (pc := 109) (b.toNat) O (ja_39 (frτ33.lay (frτ31.lay (frτ25.lay J)))) (by omega) (by omega) (by omega) dX9_readHurt_109 ?_
        refine z_vret (pc := 110) O dX9_readHurt_110 ?_
        exact ⟨rfl, ((((((frτ25.mono (V := [(33, 7), (33, 8), (33, 9), (33, 10), (33, 11), (33, 4), (33, 5), (53, 99999), (40, 99999), (39, 99999)]) rfl).pL rfl).tr (frτ31.mono (V := [(33, 7), (33, 8), (33, 9), (33, 10), (33, 11), (33, 4), (33, 5), (53, 99999), (40, 99999), (39, 99999)]) rfl)).tr (frτ33.mono (V := [(33, 7), (33, 8), (33, 9), (33, 10), (33, 11), (33, 4), (33, 5), (53, 99999), (40, 99999), (39, 99999)]) rfl)).pI rfl).pI rfl), (by have : gI (sI (sI τ33 40 (((12 * b) + (gI σ 39 (b.toNat))).toNat) (iz z34)) 39 (b.toNat) (iz ((gI σ 39 (b.toNat)) + 1))) 33 7 = gI τ33 33 7 := gI_iz (sk1t (by decide) (sk1t (by decide) (izg τ33 33 7))) (rgI _ _ _); have : gI (sI (sI τ33 40 (((12 * b) + (gI σ 39 (b.toNat))).toNat) (iz z34)) 39 (b.toNat) (iz ((gI σ 39 (b.toNat)) + 1))) 33 8 = gI τ33 33 8 := gI_iz (sk1t (by decide) (sk1t (by decide) (izg τ33 33 8))) (rgI _ _ _); have : gI (sI (sI τ33 40 (((12 * b) + (gI σ 39 (b.toNat))).toNat) (iz z34)) 39 (b.toNat) (iz ((gI σ 39 (b.toNat)) + 1))) 33 3 = gI σ 33 3 := gI_iz (sk1t (by decide) (sk1t (by decide) (Fr.it frτ33 rfl (Fr.it frτ31 rfl (skL (Fr.it frτ25 rfl (izg σ 33 3))))))) (rgI _ _ _); have : gI (sI (sI τ33 40 (((12 * b) + (gI σ 39 (b.toNat))).toNat) (iz z34)) 39 (b.toNat) (iz ((gI σ 39 (b.toNat)) + 1))) 33 9 = gI τ33 33 9 := gI_iz (sk1t (by decide) (sk1t (by decide) (izg τ33 33 9))) (rgI _ _ _); omega), (by have : gI (sI (sI τ33 40 (((12 * b) + (gI σ 39 (b.toNat))).toNat) (iz z34)) 39 (b.toNat) (iz ((gI σ 39 (b.toNat)) + 1))) 33 7 = gI τ33 33 7 := gI_iz (sk1t (by decide) (sk1t (by decide) (izg τ33 33 7))) (rgI _ _ _); omega), (by have : gI (sI (sI τ33 40 (((12 * b) + (gI σ 39 (b.toNat))).toNat) (iz z34)) 39 (b.toNat) (iz ((gI σ 39 (b.toNat)) + 1))) 33 4 = gI τ33 33 4 := gI_iz (sk1t (by decide) (sk1t (by decide) (izg τ33 33 4))) (rgI _ _ _); omega), (by have : gI (sI (sI τ33 40 (((12 * b) + (gI σ 39 (b.toNat))).toNat) (iz z34)) 39 (b.toNat) (iz ((gI σ 39 (b.toNat)) + 1))) 39 (b.toNat) = (gI σ 39 (b.toNat)) + 1 := gI_iz (hI_at _ _ _ _) (by omega); omega), (fun k hk => ((gI_eq (sk2t (by omega) (sk1t (by decide) rfl))).trans ((frτ33.g 39 k rfl).trans ((frτ31.g 39 k rfl).trans ((gI_eq (skL rfl)).trans (frτ25.g 39 k rfl))))))⟩
      · refine z_vret (pc := 50) O dX9_readHurt_50 ?_
        exact ⟨rfl, (frτ25.mono (V := [(33, 7), (33, 8), (33, 9), (33, 10), (33, 11), (33, 4), (33, 5), (53, 99999), (40, 99999), (39, 99999)]) rfl), (by have : gI τ25 33 7 = gI σ 33 7 := gI_iz (Fr.it frτ25 rfl (izg σ 33 7)) (rgI _ _ _); have : gI τ25 33 8 = gI σ 33 8 := gI_iz (Fr.it frτ25 rfl (izg σ 33 8)) (rgI _ _ _); have : gI τ25 33 3 = gI σ 33 3 := gI_iz (Fr.it frτ25 rfl (izg σ 33 3)) (rgI _ _ _); have : gI τ25 33 9 = gI σ 33 9 := gI_iz (Fr.it frτ25 rfl (izg σ 33 9)) (rgI _ _ _); omega), (by have : gI τ25 33 7 = gI σ 33 7 := gI_iz (Fr.it frτ25 rfl (izg σ 33 7)) (rgI _ _ _); omega), (by omega), (by have : gI τ25 39 (b.toNat) = gI σ 39 (b.toNat) := gI_iz (Fr.it frτ25 rfl (izg σ 39 (b.toNat))) (rgI _ _ _); omega), (fun k hk => (frτ25.g 39 k rfl))⟩
    · refine z_aload_n (pc := 19) O dX9_readHurt_19 rfl ?_
      refine z_aload_n (pc := 20) O dX9_readHurt_20 rfl ?_
      refine zi_getv (pc := 21) (b) O fl_X9_283 rfl (jo_33 (frτ25.lay J)) (Fr.it frτ25 rfl ((izg σ 33 34).trans (congrArg iz eb))) dX9_readHurt_21 ?_
      refine z_aload_n (pc := 24) O dX9_readHurt_24 rfl ?_
      refine zi_getLv (pc := 25) (hL σ 33 11) O fl_X9_245 rfl (jo_33 (frτ25.lay J)) ((frτ25.l 33 11 rfl).trans rfl) dX9_readHurt_25 ?_
      refine z_callV (pc := 28) O cl_X9_313 (k9_hurtOf _ _ b (by omega) (hL σ 33 11) (frτ25.lay J) (by omega) (by have : gI τ25 39 (b.toNat) = gI σ 39 (b.toNat) := gI_iz (Fr.it frτ25 rfl (izg σ 39 (b.toNat))) (rgI _ _ _); omega)) (by decide) (jo_33 (frτ25.lay J)) kc_9 rfl rfl (Nat.le_of_ble_eq_true rfl) ⟨Nat.zero_le _, Nat.zero_le _⟩ dX9_readHurt_28 (fun r τ35 hp => ?_)
      obtain ⟨z36, rfl, fτ35_0, fτ35_1, rfl⟩ := hp
      refine zi_if_lt (pc := 31) (tgt := 43) O dX9_readHurt_31 (by decide) (by omega) (fun h31 => ?_) (fun h31 => ?_)
      · refine z_aload_n (pc := 43) O dX9_readHurt_43 rfl ?_
        refine z_callV (pc := 44) O cl_X9_272 (k9_isGood _ _ (frτ25.lay J)) (by decide) (jo_33 (frτ25.lay J)) kc_9 rfl rfl (Nat.le_of_ble_eq_true rfl) ⟨Nat.zero_le _, Nat.zero_le _⟩ dX9_readHurt_44 (fun r τ37 hp => ?_)
        obtain ⟨z38, rfl, fτ37_0, fτ37_1, rfl⟩ := hp
        refine zi_if_ne (pc := 47) (tgt := 51) O dX9_readHurt_47 (by decide) (by omega) (fun h47 => ?_) (fun h47 => ?_)
        · refine z_bipush (pc := 51) (v := iz (12)) O dX9_readHurt_51 (by decide) ?_
          refine z_aload_n (pc := 53) O dX9_readHurt_53 rfl ?_
          refine zi_getv (pc := 54) (b) O fl_X9_283 rfl (jo_33 (frτ25.lay J)) (Fr.it frτ25 rfl ((izg σ 33 34).trans (congrArg iz eb))) dX9_readHurt_54 ?_
          refine zi_imul (pc := 57) O dX9_readHurt_57 ?_
          refine z_aload_n (pc := 58) O dX9_readHurt_58 rfl ?_
          refine z_getR (pc := 59) 39 O fl_X9_30 rfl (jo_33 (frτ25.lay J)) (jr_33_15 (frτ25.lay J)) dX9_readHurt_59 ?_
          refine z_aload_n (pc := 62) O dX9_readHurt_62 rfl ?_
          refine zi_getv (pc := 63) (b) O fl_X9_283 rfl (jo_33 (frτ25.lay J)) (Fr.it frτ25 rfl ((izg σ 33 34).trans (congrArg iz eb))) dX9_readHurt_63 ?_
          refine zi_ialdv (pc := 66) (b.toNat) (gI σ 39 (b.toNat)) O (ja_39 (frτ25.lay J)) (by omega) (by omega) (by omega) (Fr.it frτ25 rfl (izg σ 39 (b.toNat))) dX9_readHurt_66 ?_
          have := rgI σ 39 (b.toNat)
          refine zi_iadd (pc := 67) O dX9_readHurt_67 ?_
          refine z_istore_n (pc := 68) [(0, .ref 33), (1, .int (iz ((12 * b) + (gI σ 39 (b.toNat)))))] O dX9_readHurt_68 (by decide) rfl ?_
          refine z_aload_n (pc := 69) O dX9_readHurt_69 rfl ?_
          refine z_getR (pc := 70) 53 O fl_X9_72 rfl (jo_33 (frτ25.lay J)) (jr_33_29 (frτ25.lay J)) dX9_readHurt_70 ?_
          refine z_iload_n (pc := 73) O dX9_readHurt_73 rfl ?_
          refine z_aload_n (pc := 74) O dX9_readHurt_74 rfl ?_
          refine zi_getLv (pc := 75) (hL σ 33 11) O fl_X9_245 rfl (jo_33 (frτ25.lay J)) ((frτ25.l 33 11 rfl).trans rfl) dX9_readHurt_75 ?_
          refine zi_last (pc := 78) (((12 * b) + (gI σ 39 (b.toNat))).toNat) O (ja_53 (frτ25.lay J)) (by omega) (by omega) (by omega) dX9_readHurt_78 ?_
          refine z_aload_n (pc := 79) O dX9_readHurt_79 rfl ?_
          refine z_callV (pc := 80) O cl_X9_266 (k9_next _ _ (frτ25.lay J) (by have : gI (sL τ25 53 (((12 * b) + (gI σ 39 (b.toNat))).toNat) (hL σ 33 11)) 33 3 = gI σ 33 3 := gI_iz (skL (Fr.it frτ25 rfl (izg σ 33 3))) (rgI _ _ _); omega) (by have : gI (sL τ25 53 (((12 * b) + (gI σ 39 (b.toNat))).toNat) (hL σ 33 11)) 33 8 = gI σ 33 8 := gI_iz (skL (Fr.it frτ25 rfl (izg σ 33 8))) (rgI _ _ _); have : gI (sL τ25 53 (((12 * b) + (gI σ 39 (b.toNat))).toNat) (hL σ 33 11)) 33 3 = gI σ 33 3 := gI_iz (skL (Fr.it frτ25 rfl (izg σ 33 3))) (rgI _ _ _); omega)) (by decide) (jo_33 (frτ25.lay J)) kc_9 rfl rfl (Nat.le_of_ble_eq_true rfl) ⟨Nat.zero_le _, Nat.zero_le _⟩ dX9_readHurt_80 (fun r τ39 hp => ?_)
          obtain ⟨rfl, frτ39, eτ39_0, eτ39_1⟩ := hp
          have : gI (sL τ25 53 (((12 * b) + (gI σ 39 (b.toNat))).toNat) (hL σ 33 11)) 33 8 = gI σ 33 8 := gI_iz (skL (Fr.it frτ25 rfl (izg σ 33 8))) (rgI _ _ _)
          have : gI τ39 33 3 = gI σ 33 3 := gI_iz (Fr.it frτ39 rfl (skL (Fr.it frτ25 rfl (izg σ 33 3)))) (rgI _ _ _)
          refine z_aload_n (pc := 83) O dX9_readHurt_83 rfl ?_
          refine z_getR (pc := 84) 40 O fl_X9_33 rfl (jo_33 (frτ39.lay (frτ25.lay J))) (jr_33_16 (frτ39.lay (frτ25.lay J))) dX9_readHurt_84 ?_
          refine z_iload_n (pc := 87) O dX9_readHurt_87 rfl ?_
          refine z_aload_n (pc := 88) O dX9_readHurt_88 rfl ?_
          refine z_iconst (pc := 89) (v := iz (0)) O dX9_readHurt_89 (by decide) ?_
          refine z_ldcw (pc := 90) O tw_989 dX9_readHurt_90 ?_
          refine zi_val (100000) (by decide) ?_
          refine z_callV (pc := 93) O cl_X9_317 (k9_numeral _ _ 0 (by decide) 100000 (by decide) (frτ39.lay (frτ25.lay J)) (by have : gI τ39 33 3 = gI σ 33 3 := gI_iz (Fr.it frτ39 rfl (skL (Fr.it frτ25 rfl (izg σ 33 3)))) (rgI _ _ _); omega) (by have : gI τ39 33 4 = gI τ25 33 4 := gI_iz (Fr.it frτ39 rfl (skL (izg τ25 33 4))) (rgI _ _ _); omega)) (by decide) (jo_33 (frτ39.lay (frτ25.lay J))) kc_9 rfl rfl (Nat.le_of_ble_eq_true rfl) ⟨Nat.zero_le _, Nat.zero_le _⟩ dX9_readHurt_93 (fun r τ41 hp => ?_)
          obtain ⟨z42, rfl, fτ41_0, frτ41, eτ41_0, eτ41_1, eτ41_2, eτ41_3⟩ := hp
          have : gI τ41 33 3 = gI σ 33 3 := gI_iz (Fr.it frτ41 rfl (Fr.it frτ39 rfl (skL (Fr.it frτ25 rfl (izg σ 33 3))))) (rgI _ _ _)
          have : gI τ39 33 4 = gI τ25 33 4 := gI_iz (Fr.it frτ39 rfl (skL (izg τ25 33 4))) (rgI _ _ _)
          refine zi_iast (pc := 96) (((12 * b) + (gI σ 39 (b.toNat))).toNat) O (ja_40 (frτ41.lay (frτ39.lay (frτ25.lay J)))) (by omega) (by omega) (by omega) dX9_readHurt_96 ?_
          refine z_aload_n (pc := 97) O dX9_readHurt_97 rfl ?_
          refine z_getR (pc := 98) 39 O fl_X9_30 rfl (jo_33 (frτ41.lay (frτ39.lay (frτ25.lay J)))) (jr_33_15 (frτ41.lay (frτ39.lay (frτ25.lay J)))) dX9_readHurt_98 ?_
          refine z_aload_n (pc := 101) O dX9_readHurt_101 rfl ?_
          refine zi_getv (pc := 102) (b) O fl_X9_283 rfl (jo_33 (frτ41.lay (frτ39.lay (frτ25.lay J)))) (sk1t (by decide) (Fr.it frτ41 rfl (Fr.it frτ39 rfl (skL (Fr.it frτ25 rfl ((izg σ 33 34).trans (congrArg iz eb))))))) dX9_readHurt_102 ?_
          refine z_dup2 (pc := 105) O dX9_readHurt_105 rfl rfl ?_
          refine zi_ialdv (pc := 106) (b.toNat) (gI σ 39 (b.toNat)) O (ja_39 (frτ41.lay (frτ39.lay (frτ25.lay J)))) (by omega) (by omega) (by omega) (sk1t (by decide) (Fr.it frτ41 rfl (Fr.it frτ39 rfl (skL (Fr.it frτ25 rfl (izg σ 39 (b.toNat))))))) dX9_readHurt_106 ?_
          refine z_iconst (pc := 107) (v := iz (1)) O dX9_readHurt_107 (by decide) ?_
          refine zi_iadd (pc := 108) O dX9_readHurt_108 ?_
          refine zi_iast (pc := 109) (b.toNat) O (ja_39 (frτ41.lay (frτ39.lay (frτ25.lay J)))) (by omega) (by omega) (by omega) dX9_readHurt_109 ?_
          refine z_vret (pc := 110) O dX9_readHurt_110 ?_
          exact ⟨rfl, ((((((frτ25.mono (V := [(33, 7), (33, 8), (33, 9), (33, 10), (33, 11), (33, 4), (33, 5), (53, 99999), (40, 99999), (39, 99999)]) rfl).pL rfl).tr (frτ39.mono (V := [(33, 7), (33, 8), (33, 9), (33, 10), (33, 11), (33, 4), (33, 5), (53, 99999), (40, 99999), (39, 99999)]) rfl)).tr (frτ41.mono (V := [(33, 7), (33, 8), (33, 9), (33, 10), (33, 11), (33, 4), (33, 5), (53, 99999), (40, 99999), (39, 99999)]) rfl)).pI rfl).pI rfl), (by have : gI (sI (sI τ41 40 (((12 * b) + (gI σ 39 (b.toNat))).toNat) (iz z42)) 39 (b.toNat) (iz ((gI σ 39 (b.toNat)) + 1))) 33 7 = gI τ41 33 7 := gI_iz (sk1t (by decide) (sk1t (by decide) (izg τ41 33 7))) (rgI _ _ _); have : gI (sI (sI τ41 40 (((12 * b) + (gI σ 39 (b.toNat))).toNat) (iz z42)) 39 (b.toNat) (iz ((gI σ 39 (b.toNat)) + 1))) 33 8 = gI τ41 33 8 := gI_iz (sk1t (by decide) (sk1t (by decide) (izg τ41 33 8))) (rgI _ _ _); have : gI (sI (sI τ41 40 (((12 * b) + (gI σ 39 (b.toNat))).toNat) (iz z42)) 39 (b.toNat) (iz ((gI σ 39 (b.toNat)) + 1))) 33 3 = gI σ 33 3 := gI_iz (sk1t (by decide) (sk1t (by decide) (Fr.it frτ41 rfl (Fr.it frτ39 rfl (skL (Fr.it frτ25 rfl (izg σ 33 3))))))) (rgI _ _ _); have : gI (sI (sI τ41 40 (((12 * b) + (gI σ 39 (b.toNat))).toNat) (iz z42)) 39 (b.toNat) (iz ((gI σ 39 (b.toNat)) + 1))) 33 9 = gI τ41 33 9 := gI_iz (sk1t (by decide) (sk1t (by decide) (izg τ41 33 9))) (rgI _ _ _); omega), (by have : gI (sI (sI τ41 40 (((12 * b) + (gI σ 39 (b.toNat))).toNat) (iz z42)) 39 (b.toNat) (iz ((gI σ 39 (b.toNat)) + 1))) 33 7 = gI τ41 33 7 := gI_iz (sk1t (by decide) (sk1t (by decide) (izg τ41 33 7))) (rgI _ _ _); omega), (by have : gI (sI (sI τ41 40 (((12 * b) + (gI σ 39 (b.toNat))).toNat) (iz z42)) 39 (b.toNat) (iz ((gI σ 39 (b.toNat)) + 1))) 33 4 = gI τ41 33 4 := gI_iz (sk1t (by decide) (sk1t (by decide) (izg τ41 33 4))) (rgI _ _ _); omega), (by have : gI (sI (sI τ41 40 (((12 * b) + (gI σ 39 (b.toNat))).toNat) (iz z42)) 39 (b.toNat) (iz ((gI σ 39 (b.toNat)) + 1))) 39 (b.toNat) = (gI σ 39 (b.toNat)) + 1 := gI_iz (hI_at _ _ _ _) (by omega); omega), (fun k hk => ((gI_eq (sk2t (by omega) (sk1t (by decide) rfl))).trans ((frτ41.g 39 k rfl).trans ((frτ39.g 39 k rfl).trans ((gI_eq (skL rfl)).trans (frτ25.g 39 k rfl))))))⟩
        · refine z_vret (pc := 50) O dX9_readHurt_50 ?_
          exact ⟨rfl, (frτ25.mono (V := [(33, 7), (33, 8), (33, 9), (33, 10), (33, 11), (33, 4), (33, 5), (53, 99999), (40, 99999), (39, 99999)]) rfl), (by have : gI τ25 33 7 = gI σ 33 7 := gI_iz (Fr.it frτ25 rfl (izg σ 33 7)) (rgI _ _ _); have : gI τ25 33 8 = gI σ 33 8 := gI_iz (Fr.it frτ25 rfl (izg σ 33 8)) (rgI _ _ _); have : gI τ25 33 3 = gI σ 33 3 := gI_iz (Fr.it frτ25 rfl (izg σ 33 3)) (rgI _ _ _); have : gI τ25 33 9 = gI σ 33 9 := gI_iz (Fr.it frτ25 rfl (izg σ 33 9)) (rgI _ _ _); omega), (by have : gI τ25 33 7 = gI σ 33 7 := gI_iz (Fr.it frτ25 rfl (izg σ 33 7)) (rgI _ _ _); omega), (by omega), (by have : gI τ25 39 (b.toNat) = gI σ 39 (b.toNat) := gI_iz (Fr.it frτ25 rfl (izg σ 39 (b.toNat))) (rgI _ _ _); omega), (fun k hk => (frτ25.g 39 k rfl))⟩
      · refine z_aload_n (pc := 34) O dX9_readHurt_34 rfl ?_
        refine z_iconst (pc := 35) (v := iz (3)) O dX9_readHurt_35 (by decide) ?_
        refine z_aload_n (pc := 36) O dX9_readHurt_36 rfl ?_
        refine zi_getv (pc := 37) (gI σ 33 7) O fl_X9_231 rfl (jo_33 (frτ25.lay J)) (Fr.it frτ25 rfl (izg σ 33 7)) dX9_readHurt_37 ?_
        have := rgI σ 33 7
        refine z_callV (pc := 40) O cl_X9_259 (k9_fails _ _ 3 (by decide) (gI σ 33 7) (by omega) (frτ25.lay J)) (by decide) (jo_33 (frτ25.lay J)) kc_9 rfl rfl (Nat.le_of_ble_eq_true rfl) ⟨Nat.zero_le _, Nat.zero_le _⟩ dX9_readHurt_40 (fun r τ43 hp => ?_)
        obtain ⟨rfl, frτ43, eτ43_0⟩ := hp
        refine z_aload_n (pc := 43) O dX9_readHurt_43 rfl ?_
        refine z_callV (pc := 44) O cl_X9_272 (k9_isGood _ _ (frτ43.lay (frτ25.lay J))) (by decide) (jo_33 (frτ43.lay (frτ25.lay J))) kc_9 rfl rfl (Nat.le_of_ble_eq_true rfl) ⟨Nat.zero_le _, Nat.zero_le _⟩ dX9_readHurt_44 (fun r τ45 hp => ?_)
        obtain ⟨z46, rfl, fτ45_0, fτ45_1, rfl⟩ := hp
        refine zi_if_ne (pc := 47) (tgt := 51) O dX9_readHurt_47 (by decide) (by omega) (fun h47 => ?_) (fun h47 => ?_)
        · refine z_bipush (pc := 51) (v := iz (12)) O dX9_readHurt_51 (by decide) ?_
          refine z_aload_n (pc := 53) O dX9_readHurt_53 rfl ?_
          refine zi_getv (pc := 54) (b) O fl_X9_283 rfl (jo_33 (frτ43.lay (frτ25.lay J))) (Fr.it frτ43 rfl (Fr.it frτ25 rfl ((izg σ 33 34).trans (congrArg iz eb)))) dX9_readHurt_54 ?_
          refine zi_imul (pc := 57) O dX9_readHurt_57 ?_
          refine z_aload_n (pc := 58) O dX9_readHurt_58 rfl ?_
          refine z_getR (pc := 59) 39 O fl_X9_30 rfl (jo_33 (frτ43.lay (frτ25.lay J))) (jr_33_15 (frτ43.lay (frτ25.lay J))) dX9_readHurt_59 ?_
          refine z_aload_n (pc := 62) O dX9_readHurt_62 rfl ?_
          refine zi_getv (pc := 63) (b) O fl_X9_283 rfl (jo_33 (frτ43.lay (frτ25.lay J))) (Fr.it frτ43 rfl (Fr.it frτ25 rfl ((izg σ 33 34).trans (congrArg iz eb)))) dX9_readHurt_63 ?_
          refine zi_ialdv (pc := 66) (b.toNat) (gI σ 39 (b.toNat)) O (ja_39 (frτ43.lay (frτ25.lay J))) (by omega) (by omega) (by omega) (Fr.it frτ43 rfl (Fr.it frτ25 rfl (izg σ 39 (b.toNat)))) dX9_readHurt_66 ?_
          have := rgI σ 39 (b.toNat)
          refine zi_iadd (pc := 67) O dX9_readHurt_67 ?_
          refine z_istore_n (pc := 68) [(0, .ref 33), (1, .int (iz ((12 * b) + (gI σ 39 (b.toNat)))))] O dX9_readHurt_68 (by decide) rfl ?_
          refine z_aload_n (pc := 69) O dX9_readHurt_69 rfl ?_
          refine z_getR (pc := 70) 53 O fl_X9_72 rfl (jo_33 (frτ43.lay (frτ25.lay J))) (jr_33_29 (frτ43.lay (frτ25.lay J))) dX9_readHurt_70 ?_
          refine z_iload_n (pc := 73) O dX9_readHurt_73 rfl ?_
          refine z_aload_n (pc := 74) O dX9_readHurt_74 rfl ?_
          refine zi_getLv (pc := 75) (hL σ 33 11) O fl_X9_245 rfl (jo_33 (frτ43.lay (frτ25.lay J))) ((frτ43.l 33 11 rfl).trans ((frτ25.l 33 11 rfl).trans rfl)) dX9_readHurt_75 ?_
          refine zi_last (pc := 78) (((12 * b) + (gI σ 39 (b.toNat))).toNat) O (ja_53 (frτ43.lay (frτ25.lay J))) (by omega) (by omega) (by omega) dX9_readHurt_78 ?_
          refine z_aload_n (pc := 79) O dX9_readHurt_79 rfl ?_
          refine z_callV (pc := 80) O cl_X9_266 (k9_next _ _ (frτ43.lay (frτ25.lay J)) (by have : gI (sL τ43 53 (((12 * b) + (gI σ 39 (b.toNat))).toNat) (hL σ 33 11)) 33 3 = gI σ 33 3 := gI_iz (skL (Fr.it frτ43 rfl (Fr.it frτ25 rfl (izg σ 33 3)))) (rgI _ _ _); omega) (by have : gI (sL τ43 53 (((12 * b) + (gI σ 39 (b.toNat))).toNat) (hL σ 33 11)) 33 8 = gI σ 33 8 := gI_iz (skL (Fr.it frτ43 rfl (Fr.it frτ25 rfl (izg σ 33 8)))) (rgI _ _ _); have : gI (sL τ43 53 (((12 * b) + (gI σ 39 (b.toNat))).toNat) (hL σ 33 11)) 33 3 = gI σ 33 3 := gI_iz (skL (Fr.it frτ43 rfl (Fr.it frτ25 rfl (izg σ 33 3)))) (rgI _ _ _); omega)) (by decide) (jo_33 (frτ43.lay (frτ25.lay J))) kc_9 rfl rfl (Nat.le_of_ble_eq_true rfl) ⟨Nat.zero_le _, Nat.zero_le _⟩ dX9_readHurt_80 (fun r τ47 hp => ?_)
          obtain ⟨rfl, frτ47, eτ47_0, eτ47_1⟩ := hp
          have : gI (sL τ43 53 (((12 * b) + (gI σ 39 (b.toNat))).toNat) (hL σ 33 11)) 33 8 = gI σ 33 8 := gI_iz (skL (Fr.it frτ43 rfl (Fr.it frτ25 rfl (izg σ 33 8)))) (rgI _ _ _)
          have : gI τ47 33 3 = gI σ 33 3 := gI_iz (Fr.it frτ47 rfl (skL (Fr.it frτ43 rfl (Fr.it frτ25 rfl (izg σ 33 3))))) (rgI _ _ _)
          refine z_aload_n (pc := 83) O dX9_readHurt_83 rfl ?_
          refine z_getR (pc := 84) 40 O fl_X9_33 rfl (jo_33 (frτ47.lay (frτ43.lay (frτ25.lay J)))) (jr_33_16 (frτ47.lay (frτ43.lay (frτ25.lay J)))) dX9_readHurt_84 ?_
          refine z_iload_n (pc := 87) O dX9_readHurt_87 rfl ?_
          refine z_aload_n (pc := 88) O dX9_readHurt_88 rfl ?_
          refine z_iconst (pc := 89) (v := iz (0)) O dX9_readHurt_89 (by decide) ?_
          refine z_ldcw (pc := 90) O tw_989 dX9_readHurt_90 ?_
          refine zi_val (100000) (by decide) ?_
          refine z_callV (pc := 93) O cl_X9_317 (k9_numeral _ _ 0 (by decide) 100000 (by decide) (frτ47.lay (frτ43.lay (frτ25.lay J))) (by have : gI τ47 33 3 = gI σ 33 3 := gI_iz (Fr.it frτ47 rfl (skL (Fr.it frτ43 rfl (Fr.it frτ25 rfl (izg σ 33 3))))) (rgI _ _ _); omega) (by have : gI τ47 33 4 = gI τ43 33 4 := gI_iz (Fr.it frτ47 rfl (skL (izg τ43 33 4))) (rgI _ _ _); omega)) (by decide) (jo_33 (frτ47.lay (frτ43.lay (frτ25.lay J)))) kc_9 rfl rfl (Nat.le_of_ble_eq_true rfl) ⟨Nat.zero_le _, Nat.zero_le _⟩ dX9_readHurt_93 (fun r τ49 hp => ?_)
          obtain ⟨z50, rfl, fτ49_0, frτ49, eτ49_0, eτ49_1, eτ49_2, eτ49_3⟩ := hp
          have : gI τ49 33 3 = gI σ 33 3 := gI_iz (Fr.it frτ49 rfl (Fr.it frτ47 rfl (skL (Fr.it frτ43 rfl (Fr.it frτ25 rfl (izg σ 33 3)))))) (rgI _ _ _)
          have : gI τ47 33 4 = gI τ43 33 4 := gI_iz (Fr.it frτ47 rfl (skL (izg τ43 33 4))) (rgI _ _ _)
          refine zi_iast (pc := 96) (((12 * b) + (gI σ 39 (b.toNat))).toNat) O (ja_40 (frτ49.lay (frτ47.lay (frτ43.lay (frτ25.lay J))))) (by omega) (by omega) (by omega) dX9_readHurt_96 ?_
          refine z_aload_n (pc := 97) O dX9_readHurt_97 rfl ?_
          refine z_getR (pc := 98) 39 O fl_X9_30 rfl (jo_33 (frτ49.lay (frτ47.lay (frτ43.lay (frτ25.lay J))))) (jr_33_15 (frτ49.lay (frτ47.lay (frτ43.lay (frτ25.lay J))))) dX9_readHurt_98 ?_
          refine z_aload_n (pc := 101) O dX9_readHurt_101 rfl ?_
          refine zi_getv (pc := 102) (b) O fl_X9_283 rfl (jo_33 (frτ49.lay (frτ47.lay (frτ43.lay (frτ25.lay J))))) (sk1t (by decide) (Fr.it frτ49 rfl (Fr.it frτ47 rfl (skL (Fr.it frτ43 rfl (Fr.it frτ25 rfl ((izg σ 33 34).trans (congrArg iz eb)))))))) dX9_readHurt_102 ?_
          refine z_dup2 (pc := 105) O dX9_readHurt_105 rfl rfl ?_
          refine zi_ialdv (pc := 106) (b.toNat) (gI σ 39 (b.toNat)) O (ja_39 (frτ49.lay (frτ47.lay (frτ43.lay (frτ25.lay J))))) (by omega) (by omega) (by omega) (sk1t (by decide) (Fr.it frτ49 rfl (Fr.it frτ47 rfl (skL (Fr.it frτ43 rfl (Fr.it frτ25 rfl (izg σ 39 (b.toNat)))))))) dX9_readHurt_106 ?_
          refine z_iconst (pc := 107) (v := iz (1)) O dX9_readHurt_107 (by decide) ?_
          refine zi_iadd (pc := 108) O dX9_readHurt_108 ?_
          refine zi_iast (pc := 109) (b.toNat) O (ja_39 (frτ49.lay (frτ47.lay (frτ43.lay (frτ25.lay J))))) (by omega) (by omega) (by omega) dX9_readHurt_109 ?_
          refine z_vret (pc := 110) O dX9_readHurt_110 ?_
          exact ⟨rfl, (((((((frτ25.mono (V := [(33, 7), (33, 8), (33, 9), (33, 10), (33, 11), (33, 4), (33, 5), (53, 99999), (40, 99999), (39, 99999)]) rfl).tr (frτ43.mono (V := [(33, 7), (33, 8), (33, 9), (33, 10), (33, 11), (33, 4), (33, 5), (53, 99999), (40, 99999), (39, 99999)]) rfl)).pL rfl).tr (frτ47.mono (V := [(33, 7), (33, 8), (33, 9), (33, 10), (33, 11), (33, 4), (33, 5), (53, 99999), (40, 99999), (39, 99999)]) rfl)).tr (frτ49.mono (V := [(33, 7), (33, 8), (33, 9), (33, 10), (33, 11), (33, 4), (33, 5), (53, 99999), (40, 99999), (39, 99999)]) rfl)).pI rfl).pI rfl), (by have : gI (sI (sI τ49 40 (((12 * b) + (gI σ 39 (b.toNat))).toNat) (iz z50)) 39 (b.toNat) (iz ((gI σ 39 (b.toNat)) + 1))) 33 7 = gI τ49 33 7 := gI_iz (sk1t (by decide) (sk1t (by decide) (izg τ49 33 7))) (rgI _ _ _); have : gI (sI (sI τ49 40 (((12 * b) + (gI σ 39 (b.toNat))).toNat) (iz z50)) 39 (b.toNat) (iz ((gI σ 39 (b.toNat)) + 1))) 33 8 = gI τ49 33 8 := gI_iz (sk1t (by decide) (sk1t (by decide) (izg τ49 33 8))) (rgI _ _ _); have : gI (sI (sI τ49 40 (((12 * b) + (gI σ 39 (b.toNat))).toNat) (iz z50)) 39 (b.toNat) (iz ((gI σ 39 (b.toNat)) + 1))) 33 3 = gI σ 33 3 := gI_iz (sk1t (by decide) (sk1t (by decide) (Fr.it frτ49 rfl (Fr.it frτ47 rfl (skL (Fr.it frτ43 rfl (Fr.it frτ25 rfl (izg σ 33 3)))))))) (rgI _ _ _); have : gI (sI (sI τ49 40 (((12 * b) + (gI σ 39 (b.toNat))).toNat) (iz z50)) 39 (b.toNat) (iz ((gI σ 39 (b.toNat)) + 1))) 33 9 = gI τ49 33 9 := gI_iz (sk1t (by decide) (sk1t (by decide) (izg τ49 33 9))) (rgI _ _ _); omega), (by have : gI (sI (sI τ49 40 (((12 * b) + (gI σ 39 (b.toNat))).toNat) (iz z50)) 39 (b.toNat) (iz ((gI σ 39 (b.toNat)) + 1))) 33 7 = gI τ49 33 7 := gI_iz (sk1t (by decide) (sk1t (by decide) (izg τ49 33 7))) (rgI _ _ _); omega), (by have : gI (sI (sI τ49 40 (((12 * b) + (gI σ 39 (b.toNat))).toNat) (iz z50)) 39 (b.toNat) (iz ((gI σ 39 (b.toNat)) + 1))) 33 4 = gI τ49 33 4 := gI_iz (sk1t (by decide) (sk1t (by decide) (izg τ49 33 4))) (rgI _ _ _); omega), (by have : gI (sI (sI τ49 40 (((12 * b) + (gI σ 39 (b.toNat))).toNat) (iz z50)) 39 (b.toNat) (iz ((gI σ 39 (b.toNat)) + 1))) 39 (b.toNat) = (gI σ 39 (b.toNat)) + 1 := gI_iz (hI_at _ _ _ _) (by omega); omega), (fun k hk => ((gI_eq (sk2t (by omega) (sk1t (by decide) rfl))).trans ((frτ49.g 39 k rfl).trans ((frτ47.g 39 k rfl).trans ((gI_eq (skL rfl)).trans ((frτ43.g 39 k rfl).trans (frτ25.g 39 k rfl)))))))⟩
        · refine z_vret (pc := 50) O dX9_readHurt_50 ?_
          exact ⟨rfl, ((frτ25.mono (V := [(33, 7), (33, 8), (33, 9), (33, 10), (33, 11), (33, 4), (33, 5), (53, 99999), (40, 99999), (39, 99999)]) rfl).tr (frτ43.mono (V := [(33, 7), (33, 8), (33, 9), (33, 10), (33, 11), (33, 4), (33, 5), (53, 99999), (40, 99999), (39, 99999)]) rfl)), (by have : gI τ43 33 7 = gI σ 33 7 := gI_iz (Fr.it frτ43 rfl (Fr.it frτ25 rfl (izg σ 33 7))) (rgI _ _ _); have : gI τ43 33 8 = gI σ 33 8 := gI_iz (Fr.it frτ43 rfl (Fr.it frτ25 rfl (izg σ 33 8))) (rgI _ _ _); have : gI τ43 33 3 = gI σ 33 3 := gI_iz (Fr.it frτ43 rfl (Fr.it frτ25 rfl (izg σ 33 3))) (rgI _ _ _); have : gI τ43 33 9 = gI σ 33 9 := gI_iz (Fr.it frτ43 rfl (Fr.it frτ25 rfl (izg σ 33 9))) (rgI _ _ _); omega), (by have : gI τ43 33 7 = gI σ 33 7 := gI_iz (Fr.it frτ43 rfl (Fr.it frτ25 rfl (izg σ 33 7))) (rgI _ _ _); omega), (by omega), (by have : gI τ43 39 (b.toNat) = gI σ 39 (b.toNat) := gI_iz (Fr.it frτ43 rfl (Fr.it frτ25 rfl (izg σ 39 (b.toNat)))) (rgI _ _ _); omega), (fun k hk => ((frτ43.g 39 k rfl).trans (frτ25.g 39 k rfl)))⟩
