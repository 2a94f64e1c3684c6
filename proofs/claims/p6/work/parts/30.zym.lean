set_option maxHeartbeats 4000000 in
set_option maxRecDepth 20000 in
theorem k9_readNeed3 (l : Launch) (σ : VH) (tk : Nat → Int) (pl : Nat → Int) (m : Nat) (rr : Int × Nat) (b : Int) (J : Lay σ) (ht : (0 ≤ gI σ 33 7 ∧ gI σ 33 7 ≤ gI σ 33 8 ∧ gI σ 33 8 ≤ gI σ 33 3 ∧ gI σ 33 3 ≤ 700 ∧ ((gI σ 33 9 = 0 ∧ gI σ 33 7 = gI σ 33 3) ∨ (gI σ 33 7 < gI σ 33 8 ∧ 1 ≤ gI σ 33 9 ∧ gI σ 33 9 ≤ 5)))) (hf : 0 ≤ gI σ 33 4) (eb : gI σ 33 34 = b) (hb : 0 ≤ b ∧ b ≤ 15) (R : Rf σ tk pl m rr) : Ct l yX9_readNeed cX9_readNeed 1 none 4 0 0 [.ref 33] σ (fun r τ => r = none ∧ (Fr [(33, 7), (33, 8), (33, 9), (33, 10), (33, 11), (33, 4), (33, 5), (47, 99999), (48, 99999), (55, 99999)] σ τ) ∧ (0 ≤ gI τ 33 7 ∧ gI τ 33 7 ≤ gI τ 33 8 ∧ gI τ 33 8 ≤ gI τ 33 3 ∧ gI τ 33 3 ≤ 700 ∧ ((gI τ 33 9 = 0 ∧ gI τ 33 7 = gI τ 33 3) ∨ (gI τ 33 7 < gI τ 33 8 ∧ 1 ≤ gI τ 33 9 ∧ gI τ 33 9 ≤ 5))) ∧ (gI σ 33 7 ≤ gI τ 33 7) ∧ ((gI σ 33 4 ≤ 0 ∨ 0 < gI τ 33 4) ∧ 0 ≤ gI τ 33 4) ∧ (Rf τ tk pl m (thn rr (need3 tk m 0 12 1918987883 0 3))) ∧ (gI τ 55 (b.toNat) = 1)) := by
  refine Ct.enter rfl (Nat.le_of_ble_eq_true rfl) ?_
  intro κ γ hκ O hrc hrs
  subst hκ
  refine z_aload_n (pc := 0) O dX9_readNeed_0 rfl ?_
  refine z_getR (pc := 1) 55 O fl_X9_80 rfl (jo_33 J) (jr_33_31 J) dX9_readNeed_1 ?_
  refine z_aload_n (pc := 4) O dX9_readNeed_4 rfl ?_
  refine zi_getv (pc := 5) (b) O fl_X9_283 rfl (jo_33 J) ((izg σ 33 34).trans (congrArg iz eb)) dX9_readNeed_5 ?_
  refine z_iconst (pc := 8) (v := iz (1)) O dX9_readNeed_8 (by decide) ?_
  refine zi_zast (pc := 9) (b.toNat) O (ja_55 J) (by omega) (by omega) (by omega) (by omega) dX9_readNeed_9 ?_
  refine z_aload_n (pc := 10) O dX9_readNeed_10 rfl ?_
  refine z_getR (pc := 11) 47 O fl_X9_54 rfl (jo_33 J) (jr_33_23 J) dX9_readNeed_11 ?_
  refine z_aload_n (pc := 14) O dX9_readNeed_14 rfl ?_
  refine zi_getv (pc := 15) (b) O fl_X9_283 rfl (jo_33 J) (sk1t (by decide) ((izg σ 33 34).trans (congrArg iz eb))) dX9_readNeed_15 ?_
  refine z_aload_n (pc := 18) O dX9_readNeed_18 rfl ?_
  refine z_iconst (pc := 19) (v := iz (0)) O dX9_readNeed_19 (by decide) ?_
  refine z_bipush (pc := 20) (v := iz (12)) O dX9_readNeed_20 (by decide) ?_
  refine z_callV (pc := 22) O cl_X9_317 (k9_numeral3 _ _ 0 (by decide) 12 (by decide) tk pl m rr J (by have : gI (sI σ 55 (b.toNat) (iz 1)) 33 7 = gI σ 33 7 := gI_iz (sk1t (by decide) (izg σ 33 7)) (rgI _ _ _); have : gI (sI σ 55 (b.toNat) (iz 1)) 33 8 = gI σ 33 8 := gI_iz (sk1t (by decide) (izg σ 33 8)) (rgI _ _ _); have : gI (sI σ 55 (b.toNat) (iz 1)) 33 3 = gI σ 33 3 := gI_iz (sk1t (by decide) (izg σ 33 3)) (rgI _ _ _); have : gI (sI σ 55 (b.toNat) (iz 1)) 33 9 = gI σ 33 9 := gI_iz (sk1t (by decide) (izg σ 33 9)) (rgI _ _ _); omega) (by have : gI (sI σ 55 (b.toNat) (iz 1)) 33 4 = gI σ 33 4 := gI_iz (sk1t (by decide) (izg σ 33 4)) (rgI _ _ _); omega) (Rf.fr R ((Fr.rf [(55, 99999)] σ).pI rfl) (fun _ => rfl) rfl rfl)) (by decide) (jo_33 J) kc_9 rfl rfl (Nat.le_of_ble_eq_true rfl) ⟨Nat.zero_le _, Nat.zero_le _⟩ dX9_readNeed_22 (fun r τ1 hp => ?_)
  obtain ⟨z2, rfl, fτ1_0, frτ1, eτ1_0, eτ1_1, eτ1_2, eτ1_3, eτ1_4, eτ1_5⟩ := hp
  have : gI τ1 33 3 = gI σ 33 3 := gI_iz (Fr.it frτ1 rfl (sk1t (by decide) (izg σ 33 3))) (rgI _ _ _)
  have : gI (sI σ 55 (b.toNat) (iz 1)) 33 7 = gI σ 33 7 := gI_iz (sk1t (by decide) (izg σ 33 7)) (rgI _ _ _)
  have : gI (sI σ 55 (b.toNat) (iz 1)) 33 4 = gI σ 33 4 := gI_iz (sk1t (by decide) (izg σ 33 4)) (rgI _ _ _)
  have : gI (sI σ 55 (b.toNat) (iz 1)) 33 7 = gI σ 33 7 := gI_iz (sk1t (by decide) (izg σ 33 7)) (rgI _ _ _)
  refine zi_iast (pc := 25) (b.toNat) O (ja_47 (frτ1.lay J)) (by omega) (by omega) (by omega) dX9_readNeed_25 ?_
  refine z_aload_n (pc := 26) O dX9_readNeed_26 rfl ?_
  refine z_callV (pc := 27) O cl_X9_272 (k9_isGood _ _ (frτ1.lay J)) (by decide) (jo_33 (frτ1.lay J)) kc_9 rfl rfl (Nat.le_of_ble_eq_true rfl) ⟨Nat.zero_le _, Nat.zero_le _⟩ dX9_readNeed_27 (fun r τ3 hp => ?_)
  obtain ⟨z4, rfl, fτ3_0, fτ3_1, rfl⟩ := hp
  have : gI (sI τ1 47 (b.toNat) (iz z2)) 33 4 = gI τ1 33 4 := gI_iz (sk1t (by decide) (izg τ1 33 4)) (rgI _ _ _)
  refine zi_if_eq (pc := 30) (tgt := 40) O dX9_readNeed_30 (by decide) (by omega) (fun h30 => ?_) (fun h30 => ?_)
  · refine z_aload_n (pc := 40) O dX9_readNeed_40 rfl ?_
    refine z_getR (pc := 41) 48 O fl_X9_57 rfl (jo_33 (frτ1.lay J)) (jr_33_24 (frτ1.lay J)) dX9_readNeed_41 ?_
    refine z_aload_n (pc := 44) O dX9_readNeed_44 rfl ?_
    refine zi_getv (pc := 45) (b) O fl_X9_283 rfl (jo_33 (frτ1.lay J)) (sk1t (by decide) (Fr.it frτ1 rfl (sk1t (by decide) ((izg σ 33 34).trans (congrArg iz eb))))) dX9_readNeed_45 ?_
    refine z_aload_n (pc := 48) O dX9_readNeed_48 rfl ?_
    refine z_iconst (pc := 49) (v := iz (0)) O dX9_readNeed_49 (by decide) ?_
    refine z_iconst (pc := 50) (v := iz (3)) O dX9_readNeed_50 (by decide) ?_
    refine z_callV (pc := 51) O cl_X9_317 (k9_numeral3 _ _ 0 (by decide) 3 (by decide) tk pl m (thn rr (fun j => numR tk m j 0 12)) (frτ1.lay J) (by have : gI (sI τ1 47 (b.toNat) (iz z2)) 33 7 = gI τ1 33 7 := gI_iz (sk1t (by decide) (izg τ1 33 7)) (rgI _ _ _); have : gI (sI τ1 47 (b.toNat) (iz z2)) 33 8 = gI τ1 33 8 := gI_iz (sk1t (by decide) (izg τ1 33 8)) (rgI _ _ _); have : gI (sI τ1 47 (b.toNat) (iz z2)) 33 3 = gI σ 33 3 := gI_iz (sk1t (by decide) (Fr.it frτ1 rfl (sk1t (by decide) (izg σ 33 3)))) (rgI _ _ _); have : gI (sI τ1 47 (b.toNat) (iz z2)) 33 9 = gI τ1 33 9 := gI_iz (sk1t (by decide) (izg τ1 33 9)) (rgI _ _ _); omega) (by have : gI (sI τ1 47 (b.toNat) (iz z2)) 33 4 = gI τ1 33 4 := gI_iz (sk1t (by decide) (izg τ1 33 4)) (rgI _ _ _); omega) (Rf.fr eτ1_4 ((Fr.rf [(47, 99999)] τ1).pI rfl) (fun _ => rfl) rfl rfl)) (by decide) (jo_33 (frτ1.lay J)) kc_9 rfl rfl (Nat.le_of_ble_eq_true rfl) ⟨Nat.zero_le _, Nat.zero_le _⟩ dX9_readNeed_51 (fun r τ5 hp => ?_)
    obtain ⟨z6, rfl, fτ5_0, frτ5, eτ5_0, eτ5_1, eτ5_2, eτ5_3, eτ5_4, eτ5_5⟩ := hp
    have : gI τ5 33 3 = gI σ 33 3 := gI_iz (Fr.it frτ5 rfl (sk1t (by decide) (Fr.it frτ1 rfl (sk1t (by decide) (izg σ 33 3))))) (rgI _ _ _)
    have : gI (sI τ1 47 (b.toNat) (iz z2)) 33 7 = gI τ1 33 7 := gI_iz (sk1t (by decide) (izg τ1 33 7)) (rgI _ _ _)
    have : gI (sI τ1 47 (b.toNat) (iz z2)) 33 4 = gI τ1 33 4 := gI_iz (sk1t (by decide) (izg τ1 33 4)) (rgI _ _ _)
    have : gI (sI τ1 47 (b.toNat) (iz z2)) 33 7 = gI τ1 33 7 := gI_iz (sk1t (by decide) (izg τ1 33 7)) (rgI _ _ _)
    refine zi_iast (pc := 54) (b.toNat) O (ja_48 (frτ5.lay (frτ1.lay J))) (by omega) (by omega) (by omega) dX9_readNeed_54 ?_
    refine z_vret (pc := 55) O dX9_readNeed_55 ?_
    exact ⟨rfl, ((((((Fr.rf [(33, 7), (33, 8), (33, 9), (33, 10), (33, 11), (33, 4), (33, 5), (47, 99999), (48, 99999), (55, 99999)] σ).pI rfl).tr (frτ1.mono (V := [(33, 7), (33, 8), (33, 9), (33, 10), (33, 11), (33, 4), (33, 5), (47, 99999), (48, 99999), (55, 99999)]) rfl)).pI rfl).tr (frτ5.mono (V := [(33, 7), (33, 8), (33, 9), (33, 10), (33, 11), (33, 4), (33, 5), (47, 99999), (48, 99999), (55, 99999)]) rfl)).pI rfl), (by have : gI (sI τ5 48 (b.toNat) (iz z6)) 33 7 = gI τ5 33 7 := gI_iz (sk1t (by decide) (izg τ5 33 7)) (rgI _ _ _); have : gI (sI τ5 48 (b.toNat) (iz z6)) 33 8 = gI τ5 33 8 := gI_iz (sk1t (by decide) (izg τ5 33 8)) (rgI _ _ _); have : gI (sI τ5 48 (b.toNat) (iz z6)) 33 3 = gI σ 33 3 := gI_iz (sk1t (by decide) (Fr.it frτ5 rfl (sk1t (by decide) (Fr.it frτ1 rfl (sk1t (by decide) (izg σ 33 3)))))) (rgI _ _ _); have : gI (sI τ5 48 (b.toNat) (iz z6)) 33 9 = gI τ5 33 9 := gI_iz (sk1t (by decide) (izg τ5 33 9)) (rgI _ _ _); omega), (by have : gI (sI τ5 48 (b.toNat) (iz z6)) 33 7 = gI τ5 33 7 := gI_iz (sk1t (by decide) (izg τ5 33 7)) (rgI _ _ _); omega), (by have : gI (sI τ5 48 (b.toNat) (iz z6)) 33 4 = gI τ5 33 4 := gI_iz (sk1t (by decide) (izg τ5 33 4)) (rgI _ _ _); omega), (Rf.eq (Rf.fr eτ5_4 ((Fr.rf [(48, 99999)] τ5).pI rfl) (fun _ => rfl) rfl rfl) (need3_bad (Rf.bad eτ1_4 (by omega)).1)), (by have : gI (sI τ5 48 (b.toNat) (iz z6)) 55 (b.toNat) = 1 := gI_iz (sk1t (by decide) (Fr.it frτ5 rfl (sk1t (by decide) (Fr.it frτ1 rfl (hI_at _ _ _ _))))) (by omega); omega)⟩
  · refine z_aload_n (pc := 33) O dX9_readNeed_33 rfl ?_
    refine z_ldc2 (pc := 34) O tw_1007 dX9_readNeed_34 ?_
    refine z_callV (pc := 37) O cl_X9_321 (k9_mustWord3 _ _ 1918987883 tk pl m (thn rr (fun j => numR tk m j 0 12)) (frτ1.lay J) (by have : gI (sI τ1 47 (b.toNat) (iz z2)) 33 7 = gI τ1 33 7 := gI_iz (sk1t (by decide) (izg τ1 33 7)) (rgI _ _ _); have : gI (sI τ1 47 (b.toNat) (iz z2)) 33 8 = gI τ1 33 8 := gI_iz (sk1t (by decide) (izg τ1 33 8)) (rgI _ _ _); have : gI (sI τ1 47 (b.toNat) (iz z2)) 33 3 = gI σ 33 3 := gI_iz (sk1t (by decide) (Fr.it frτ1 rfl (sk1t (by decide) (izg σ 33 3)))) (rgI _ _ _); have : gI (sI τ1 47 (b.toNat) (iz z2)) 33 9 = gI τ1 33 9 := gI_iz (sk1t (by decide) (izg τ1 33 9)) (rgI _ _ _); omega) (by have : gI (sI τ1 47 (b.toNat) (iz z2)) 33 4 = gI τ1 33 4 := gI_iz (sk1t (by decide) (izg τ1 33 4)) (rgI _ _ _); omega) (Rf.fr eτ1_4 ((Fr.rf [(47, 99999)] τ1).pI rfl) (fun _ => rfl) rfl rfl) (by unfold Kp; decide)) (by decide) (jo_33 (frτ1.lay J)) kc_9 rfl rfl (Nat.le_of_ble_eq_true rfl) ⟨Nat.zero_le _, Nat.zero_le _⟩ dX9_readNeed_37 (fun r τ7 hp => ?_)
    obtain ⟨rfl, frτ7, eτ7_0, eτ7_1, eτ7_2, eτ7_3⟩ := hp
    have : gI τ7 33 3 = gI σ 33 3 := gI_iz (Fr.it frτ7 rfl (sk1t (by decide) (Fr.it frτ1 rfl (sk1t (by decide) (izg σ 33 3))))) (rgI _ _ _)
    have : gI (sI τ1 47 (b.toNat) (iz z2)) 33 7 = gI τ1 33 7 := gI_iz (sk1t (by decide) (izg τ1 33 7)) (rgI _ _ _)
    have : gI (sI τ1 47 (b.toNat) (iz z2)) 33 4 = gI τ1 33 4 := gI_iz (sk1t (by decide) (izg τ1 33 4)) (rgI _ _ _)
    refine z_aload_n (pc := 40) O dX9_readNeed_40 rfl ?_
    refine z_getR (pc := 41) 48 O fl_X9_57 rfl (jo_33 (frτ7.lay (frτ1.lay J))) (jr_33_24 (frτ7.lay (frτ1.lay J))) dX9_readNeed_41 ?_
    refine z_aload_n (pc := 44) O dX9_readNeed_44 rfl ?_
    refine zi_getv (pc := 45) (b) O fl_X9_283 rfl (jo_33 (frτ7.lay (frτ1.lay J))) (Fr.it frτ7 rfl (sk1t (by decide) (Fr.it frτ1 rfl (sk1t (by decide) ((izg σ 33 34).trans (congrArg iz eb)))))) dX9_readNeed_45 ?_
    refine z_aload_n (pc := 48) O dX9_readNeed_48 rfl ?_
    refine z_iconst (pc := 49) (v := iz (0)) O dX9_readNeed_49 (by decide) ?_
    refine z_iconst (pc := 50) (v := iz (3)) O dX9_readNeed_50 (by decide) ?_
    refine z_callV (pc := 51) O cl_X9_317 (k9_numeral3 _ _ 0 (by decide) 3 (by decide) tk pl m (thn (thn rr (fun j => numR tk m j 0 12)) (fun j => exR tk m j 1918987883)) (frτ7.lay (frτ1.lay J)) (by have : gI τ7 33 3 = gI σ 33 3 := gI_iz (Fr.it frτ7 rfl (sk1t (by decide) (Fr.it frτ1 rfl (sk1t (by decide) (izg σ 33 3))))) (rgI _ _ _); omega) (by omega) (Rf.ex eτ7_3 (by decide))) (by decide) (jo_33 (frτ7.lay (frτ1.lay J))) kc_9 rfl rfl (Nat.le_of_ble_eq_true rfl) ⟨Nat.zero_le _, Nat.zero_le _⟩ dX9_readNeed_51 (fun r τ9 hp => ?_)
    obtain ⟨z10, rfl, fτ9_0, frτ9, eτ9_0, eτ9_1, eτ9_2, eτ9_3, eτ9_4, eτ9_5⟩ := hp
    have : gI τ9 33 3 = gI σ 33 3 := gI_iz (Fr.it frτ9 rfl (Fr.it frτ7 rfl (sk1t (by decide) (Fr.it frτ1 rfl (sk1t (by decide) (izg σ 33 3)))))) (rgI _ _ _)
    refine zi_iast (pc := 54) (b.toNat) O (ja_48 (frτ9.lay (frτ7.lay (frτ1.lay J)))) (by omega) (by omega) (by omega) dX9_readNeed_54 ?_
    refine z_vret (pc := 55) O dX9_readNeed_55 ?_
    exact ⟨rfl, (((((((Fr.rf [(33, 7), (33, 8), (33, 9), (33, 10), (33, 11), (33, 4), (33, 5), (47, 99999), (48, 99999), (55, 99999)] σ).pI rfl).tr (frτ1.mono (V := [(33, 7), (33, 8), (33, 9), (33, 10), (33, 11), (33, 4), (33, 5), (47, 99999), (48, 99999), (55, 99999)]) rfl)).pI rfl).tr (frτ7.mono (V := [(33, 7), (33, 8), (33, 9), (33, 10), (33, 11), (33, 4), (33, 5), (47, 99999), (48, 99999), (55, 99999)]) rfl)).tr (frτ9.mono (V := [(33, 7), (33, 8), (33, 9), (33, 10), (33, 11), (33, 4), (33, 5), (47, 99999), (48, 99999), (55, 99999)]) rfl)).pI rfl), (by have : gI (sI τ9 48 (b.toNat) (iz z10)) 33 7 = gI τ9 33 7 := gI_iz (sk1t (by decide) (izg τ9 33 7)) (rgI _ _ _); have : gI (sI τ9 48 (b.toNat) (iz z10)) 33 8 = gI τ9 33 8 := gI_iz (sk1t (by decide) (izg τ9 33 8)) (rgI _ _ _); have : gI (sI τ9 48 (b.toNat) (iz z10)) 33 3 = gI σ 33 3 := gI_iz (sk1t (by decide) (Fr.it frτ9 rfl (Fr.it frτ7 rfl (sk1t (by decide) (Fr.it frτ1 rfl (sk1t (by decide) (izg σ 33 3))))))) (rgI _ _ _); have : gI (sI τ9 48 (b.toNat) (iz z10)) 33 9 = gI τ9 33 9 := gI_iz (sk1t (by decide) (izg τ9 33 9)) (rgI _ _ _); omega), (by have : gI (sI τ9 48 (b.toNat) (iz z10)) 33 7 = gI τ9 33 7 := gI_iz (sk1t (by decide) (izg τ9 33 7)) (rgI _ _ _); omega), (by have : gI (sI τ9 48 (b.toNat) (iz z10)) 33 4 = gI τ9 33 4 := gI_iz (sk1t (by decide) (izg τ9 33 4)) (rgI _ _ _); omega), (Rf.eq (Rf.fr eτ9_4 ((Fr.rf [(48, 99999)] τ9).pI rfl) (fun _ => rfl) rfl rfl) need3_ok), (by have : gI (sI τ9 48 (b.toNat) (iz z10)) 55 (b.toNat) = 1 := gI_iz (sk1t (by decide) (Fr.it frτ9 rfl (Fr.it frτ7 rfl (sk1t (by decide) (Fr.it frτ1 rfl (hI_at _ _ _ _)))))) (by omega); omega)⟩
set_option maxHeartbeats 4000000 in
set_option maxRecDepth 20000 in
theorem k9_readTerms3 (l : Launch) (σ : VH) (tk : Nat → Int) (pl : Nat → Int) (m : Nat) (rr : Int × Nat) (b : Int) (J : Lay σ) (ht : (0 ≤ gI σ 33 7 ∧ gI σ 33 7 ≤ gI σ 33 8 ∧ gI σ 33 8 ≤ gI σ 33 3 ∧ gI σ 33 3 ≤ 700 ∧ ((gI σ 33 9 = 0 ∧ gI σ 33 7 = gI σ 33 3) ∨ (gI σ 33 7 < gI σ 33 8 ∧ 1 ≤ gI σ 33 9 ∧ gI σ 33 9 ≤ 5)))) (hf : 0 ≤ gI σ 33 4) (eb : gI σ 33 34 = b) (hb : 0 ≤ b ∧ b ≤ 15) (R : Rf σ tk pl m rr) : Ct l yX9_readTerms cX9_readTerms 1 none 4 0 0 [.ref 33] σ (fun r τ => r = none ∧ (Fr [(33, 7), (33, 8), (33, 9), (33, 10), (33, 11), (33, 4), (33, 5), (49, 99999), (50, 99999), (56, 99999)] σ τ) ∧ (0 ≤ gI τ 33 7 ∧ gI τ 33 7 ≤ gI τ 33 8 ∧ gI τ 33 8 ≤ gI τ 33 3 ∧ gI τ 33 3 ≤ 700 ∧ ((gI τ 33 9 = 0 ∧ gI τ 33 7 = gI τ 33 3) ∨ (gI τ 33 7 < gI τ 33 8 ∧ 1 ≤ gI τ 33 9 ∧ gI τ 33 9 ≤ 5))) ∧ (gI σ 33 7 ≤ gI τ 33 7) ∧ ((gI σ 33 4 ≤ 0 ∨ 0 < gI τ 33 4) ∧ 0 ≤ gI τ 33 4) ∧ (0 < gI τ 33 4 ∨ (1 ≤ gI τ 49 (b.toNat) ∧ gI τ 49 (b.toNat) ≤ 6)) ∧ (∀ k : Nat, (k : Int) < b → gI τ 49 k = gI σ 49 k) ∧ (Rf τ tk pl m (thn rr (need3 tk m 1 6 1684109683 1 400))) ∧ (gI τ 56 (b.toNat) = 1)) := by
  refine Ct.enter rfl (Nat.le_of_ble_eq_true rfl) ?_
  intro κ γ hκ O hrc hrs
  subst hκ
  refine z_aload_n (pc := 0) O dX9_readTerms_0 rfl ?_
  refine z_getR (pc := 1) 56 O fl_X9_83 rfl (jo_33 J) (jr_33_32 J) dX9_readTerms_1 ?_
  refine z_aload_n (pc := 4) O dX9_readTerms_4 rfl ?_
  refine zi_getv (pc := 5) (b) O fl_X9_283 rfl (jo_33 J) ((izg σ 33 34).trans (congrArg iz eb)) dX9_readTerms_5 ?_
  refine z_iconst (pc := 8) (v := iz (1)) O dX9_readTerms_8 (by decide) ?_
  refine zi_zast (pc := 9) (b.toNat) O (ja_56 J) (by omega) (by omega) (by omega) (by omega) dX9_readTerms_9 ?_
  refine z_aload_n (pc := 10) O dX9_readTerms_10 rfl ?_
  refine z_getR (pc := 11) 49 O fl_X9_60 rfl (jo_33 J) (jr_33_25 J) dX9_readTerms_11 ?_
  refine z_aload_n (pc := 14) O dX9_readTerms_14 rfl ?_
  refine zi_getv (pc := 15) (b) O fl_X9_283 rfl (jo_33 J) (sk1t (by decide) ((izg σ 33 34).trans (congrArg iz eb))) dX9_readTerms_15 ?_
  refine z_aload_n (pc := 18) O dX9_readTerms_18 rfl ?_
  refine z_iconst (pc := 19) (v := iz (1)) O dX9_readTerms_19 (by decide) ?_
  refine z_bipush (pc := 20) (v := iz (6)) O dX9_readTerms_20 (by decide) ?_
  refine z_callV (pc := 22) O cl_X9_317 (k9_numeral3 _ _ 1 (by decide) 6 (by decide) tk pl m rr J (by have : gI (sI σ 56 (b.toNat) (iz 1)) 33 7 = gI σ 33 7 := gI_iz (sk1t (by decide) (izg σ 33 7)) (rgI _ _ _); have : gI (sI σ 56 (b.toNat) (iz 1)) 33 8 = gI σ 33 8 := gI_iz (sk1t (by decide) (izg σ 33 8)) (rgI _ _ _); have : gI (sI σ 56 (b.toNat) (iz 1)) 33 3 = gI σ 33 3 := gI_iz (sk1t (by decide) (izg σ 33 3)) (rgI _ _ _); have : gI (sI σ 56 (b.toNat) (iz 1)) 33 9 = gI σ 33 9 := gI_iz (sk1t (by decide) (izg σ 33 9)) (rgI _ _ _); omega) (by have : gI (sI σ 56 (b.toNat) (iz 1)) 33 4 = gI σ 33 4 := gI_iz (sk1t (by decide) (izg σ 33 4)) (rgI _ _ _); omega) (Rf.fr R ((Fr.rf [(56, 99999)] σ).pI rfl) (fun _ => rfl) rfl rfl)) (by decide) (jo_33 J) kc_9 rfl rfl (Nat.le_of_ble_eq_true rfl) ⟨Nat.zero_le _, Nat.zero_le _⟩ dX9_readTerms_22 (fun r τ1 hp => ?_)
  obtain ⟨z2, rfl, fτ1_0, frτ1, eτ1_0, eτ1_1, eτ1_2, eτ1_3, eτ1_4, eτ1_5⟩ := hp
  have : gI τ1 33 3 = gI σ 33 3 := gI_iz (Fr.it frτ1 rfl (sk1t (by decide) (izg σ 33 3))) (rgI _ _ _)
  have : gI (sI σ 56 (b.toNat) (iz 1)) 33 7 = gI σ 33 7 := gI_iz (sk1t (by decide) (izg σ 33 7)) (rgI _ _ _)
  have : gI (sI σ 56 (b.toNat) (iz 1)) 33 4 = gI σ 33 4 := gI_iz (sk1t (by decide) (izg σ 33 4)) (rgI _ _ _)
  have : gI (sI σ 56 (b.toNat) (iz 1)) 33 7 = gI σ 33 7 := gI_iz (sk1t (by decide) (izg σ 33 7)) (rgI _ _ _)
  refine zi_iast (pc := 25) (b.toNat) O (ja_49 (frτ1.lay J)) (by omega) (by omega) (by omega) dX9_readTerms_25 ?_
  refine z_aload_n (pc := 26) O dX9_readTerms_26 rfl ?_
  refine z_callV (pc := 27) O cl_X9_272 (k9_isGood _ _ (frτ1.lay J)) (by decide) (jo_33 (frτ1.lay J)) kc_9 rfl rfl (Nat.le_of_ble_eq_true rfl) ⟨Nat.zero_le _, Nat.zero_le _⟩ dX9_readTerms_27 (fun r τ3 hp => ?_)
  obtain ⟨z4, rfl, fτ3_0, fτ3_1, rfl⟩ := hp
  have : gI (sI τ1 49 (b.toNat) (iz z2)) 33 4 = gI τ1 33 4 := gI_iz (sk1t (by decide) (izg τ1 33 4)) (rgI _ _ _)
  refine zi_if_eq (pc := 30) (tgt := 40) O dX9_readTerms_30 (by decide) (by omega) (fun h30 => ?_) (fun h30 => ?_)
  · refine z_aload_n (pc := 40) O dX9_readTerms_40 rfl ?_
    refine z_getR (pc := 41) 50 O fl_X9_63 rfl (jo_33 (frτ1.lay J)) (jr_33_26 (frτ1.lay J)) dX9_readTerms_41 ?_
    refine z_aload_n (pc := 44) O dX9_readTerms_44 rfl ?_
    refine zi_getv (pc := 45) (b) O fl_X9_283 rfl (jo_33 (frτ1.lay J)) (sk1t (by decide) (Fr.it frτ1 rfl (sk1t (by decide) ((izg σ 33 34).trans (congrArg iz eb))))) dX9_readTerms_45 ?_
    refine z_aload_n (pc := 48) O dX9_readTerms_48 rfl ?_
    refine z_iconst (pc := 49) (v := iz (1)) O dX9_readTerms_49 (by decide) ?_
    refine z_sipush (pc := 50) (v := iz (400)) O dX9_readTerms_50 (by decide) ?_
    refine z_callV (pc := 53) O cl_X9_317 (k9_numeral3 _ _ 1 (by decide) 400 (by decide) tk pl m (thn rr (fun j => numR tk m j 1 6)) (frτ1.lay J) (by have : gI (sI τ1 49 (b.toNat) (iz z2)) 33 7 = gI τ1 33 7 := gI_iz (sk1t (by decide) (izg τ1 33 7)) (rgI _ _ _); have : gI (sI τ1 49 (b.toNat) (iz z2)) 33 8 = gI τ1 33 8 := gI_iz (sk1t (by decide) (izg τ1 33 8)) (rgI _ _ _); have : gI (sI τ1 49 (b.toNat) (iz z2)) 33 3 = gI σ 33 3 := gI_iz (sk1t (by decide) (Fr.it frτ1 rfl (sk1t (by decide) (izg σ 33 3)))) (rgI _ _ _); have : gI (sI τ1 49 (b.toNat) (iz z2)) 33 9 = gI τ1 33 9 := gI_iz (sk1t (by decide) (izg τ1 33 9)) (rgI _ _ _); omega) (by have : gI (sI τ1 49 (b.toNat) (iz z2)) 33 4 = gI τ1 33 4 := gI_iz (sk1t (by decide) (izg τ1 33 4)) (rgI _ _ _); omega) (Rf.fr eτ1_4 ((Fr.rf [(49, 99999)] τ1).pI rfl) (fun _ => rfl) rfl rfl)) (by decide) (jo_33 (frτ1.lay J)) kc_9 rfl rfl (Nat.le_of_ble_eq_true rfl) ⟨Nat.zero_le _, Nat.zero_le _⟩ dX9_readTerms_53 (fun r τ5 hp => ?_)
    obtain ⟨z6, rfl, fτ5_0, frτ5, eτ5_0, eτ5_1, eτ5_2, eτ5_3, eτ5_4, eτ5_5⟩ := hp
    have : gI τ5 33 3 = gI σ 33 3 := gI_iz (Fr.it frτ5 rfl (sk1t (by decide) (Fr.it frτ1 rfl (sk1t (by decide) (izg σ 33 3))))) (rgI _ _ _)
    have : gI (sI τ1 49 (b.toNat) (iz z2)) 33 7 = gI τ1 33 7 := gI_iz (sk1t (by decide) (izg τ1 33 7)) (rgI _ _ _)
    have : gI (sI τ1 49 (b.toNat) (iz z2)) 33 4 = gI τ1 33 4 := gI_iz (sk1t (by decide) (izg τ1 33 4)) (rgI _ _ _)
    have : gI (sI τ1 49 (b.toNat) (iz z2)) 33 7 = gI τ1 33 7 := gI_iz (sk1t (by decide) (izg τ1 33 7)) (rgI _ _ _)
    refine zi_iast (pc := 56) (b.toNat) O (ja_50 (frτ5.lay (frτ1.lay J))) (by omega) (by omega) (by omega) dX9_readTerms_56 ?_
    refine z_vret (pc := 57) O dX9_readTerms_57 ?_
    exact ⟨rfl, ((((((Fr.rf [(33, 7), (33, 8), (33, 9), (33, 10), (33, 11), (33, 4), (33, 5), (49, 99999), (50, 99999), (56, 99999)] σ).pI rfl).tr (frτ1.mono (V := [(33, 7), (33, 8), (33, 9), (33, 10), (33, 11), (33, 4), (33, 5), (49, 99999), (50, 99999), (56, 99999)]) rfl)).pI rfl).tr (frτ5.mono (V := [(33, 7), (33, 8), (33, 9), (33, 10), (33, 11), (33, 4), (33, 5), (49, 99999), (50, 99999), (56, 99999)]) rfl)).pI rfl), (by have : gI (sI τ5 50 (b.toNat) (iz z6)) 33 7 = gI τ5 33 7 := gI_iz (sk1t (by decide) (izg τ5 33 7)) (rgI _ _ _); have : gI (sI τ5 50 (b.toNat) (iz z6)) 33 8 = gI τ5 33 8 := gI_iz (sk1t (by decide) (izg τ5 33 8)) (rgI _ _ _); have : gI (sI τ5 50 (b.toNat) (iz z6)) 33 3 = gI σ 33 3 := gI_iz (sk1t (by decide) (Fr.it frτ5 rfl (sk1t (by decide) (Fr.it frτ1 rfl (sk1t (by decide) (izg σ 33 3)))))) (rgI _ _ _); have : gI (sI τ5 50 (b.toNat) (iz z6)) 33 9 = gI τ5 33 9 := gI_iz (sk1t (by decide) (izg τ5 33 9)) (rgI _ _ _); omega), (by have : gI (sI τ5 50 (b.toNat) (iz z6)) 33 7 = gI τ5 33 7 := gI_iz (sk1t (by decide) (izg τ5 33 7)) (rgI _ _ _); omega), (by have : gI (sI τ5 50 (b.toNat) (iz z6)) 33 4 = gI τ5 33 4 := gI_iz (sk1t (by decide) (izg τ5 33 4)) (rgI _ _ _); omega), (by have : gI (sI τ5 50 (b.toNat) (iz z6)) 33 4 = gI τ5 33 4 := gI_iz (sk1t (by decide) (izg τ5 33 4)) (rgI _ _ _); have : gI (sI τ5 50 (b.toNat) (iz z6)) 49 (b.toNat) = z2 := gI_iz (sk1t (by decide) (Fr.it frτ5 rfl (hI_at _ _ _ _))) (by omega); omega), (fun k hk => ((gI_eq (sk1t (by decide) rfl)).trans ((frτ5.g 49 k rfl).trans ((gI_eq (sk2t (by omega) rfl)).trans ((frτ1.g 49 k rfl).trans (gI_eq (sk1t (by decide) rfl))))))), (Rf.eq (Rf.fr eτ5_4 ((Fr.rf [(50, 99999)] τ5).pI rfl) (fun _ => rfl) rfl rfl) (need3_bad (Rf.bad eτ1_4 (by omega)).1)), (by have : gI (sI τ5 50 (b.toNat) (iz z6)) 56 (b.toNat) = 1 := gI_iz (sk1t (by decide) (Fr.it frτ5 rfl (sk1t (by decide) (Fr.it frτ1 rfl (hI_at _ _ _ _))))) (by omega); omega)⟩
  · refine z_aload_n (pc := 33) O dX9_readTerms_33 rfl ?_
    refine z_ldc2 (pc := 34) O tw_1024 dX9_readTerms_34 ?_
    refine z_callV (pc := 37) O cl_X9_321 (k9_mustWord3 _ _ 1684109683 tk pl m (thn rr (fun j => numR tk m j 1 6)) (frτ1.lay J) (by have : gI (sI τ1 49 (b.toNat) (iz z2)) 33 7 = gI τ1 33 7 := gI_iz (sk1t (by decide) (izg τ1 33 7)) (rgI _ _ _); have : gI (sI τ1 49 (b.toNat) (iz z2)) 33 8 = gI τ1 33 8 := gI_iz (sk1t (by decide) (izg τ1 33 8)) (rgI _ _ _); have : gI (sI τ1 49 (b.toNat) (iz z2)) 33 3 = gI σ 33 3 := gI_iz (sk1t (by decide) (Fr.it frτ1 rfl (sk1t (by decide) (izg σ 33 3)))) (rgI _ _ _); have : gI (sI τ1 49 (b.toNat) (iz z2)) 33 9 = gI τ1 33 9 := gI_iz (sk1t (by decide) (izg τ1 33 9)) (rgI _ _ _); omega) (by have : gI (sI τ1 49 (b.toNat) (iz z2)) 33 4 = gI τ1 33 4 := gI_iz (sk1t (by decide) (izg τ1 33 4)) (rgI _ _ _); omega) (Rf.fr eτ1_4 ((Fr.rf [(49, 99999)] τ1).pI rfl) (fun _ => rfl) rfl rfl) (by unfold Kp; decide)) (by decide) (jo_33 (frτ1.lay J)) kc_9 rfl rfl (Nat.le_of_ble_eq_true rfl) ⟨Nat.zero_le _, Nat.zero_le _⟩ dX9_readTerms_37 (fun r τ7 hp => ?_)
    obtain ⟨rfl, frτ7, eτ7_0, eτ7_1, eτ7_2, eτ7_3⟩ := hp
    have : gI τ7 33 3 = gI σ 33 3 := gI_iz (Fr.it frτ7 rfl (sk1t (by decide) (Fr.it frτ1 rfl (sk1t (by decide) (izg σ 33 3))))) (rgI _ _ _)
    have : gI (sI τ1 49 (b.toNat) (iz z2)) 33 7 = gI τ1 33 7 := gI_iz (sk1t (by decide) (izg τ1 33 7)) (rgI _ _ _)
    have : gI (sI τ1 49 (b.toNat) (iz z2)) 33 4 = gI τ1 33 4 := gI_iz (sk1t (by decide) (izg τ1 33 4)) (rgI _ _ _)
    refine z_aload_n (pc := 40) O dX9_readTerms_40 rfl ?_
    refine z_getR (pc := 41) 50 O fl_X9_63 rfl (jo_33 (frτ7.lay (frτ1.lay J))) (jr_33_26 (frτ7.lay (frτ1.lay J))) dX9_readTerms_41 ?_
    refine z_aload_n (pc := 44) O dX9_readTerms_44 rfl ?_
    refine zi_getv (pc := 45) (b) O fl_X9_283 rfl (jo_33 (frτ7.lay (frτ1.lay J))) (Fr.it frτ7 rfl (sk1t (by decide) (Fr.it frτ1 rfl (sk1t (by decide) ((izg σ 33 34).trans (congrArg iz eb)))))) dX9_readTerms_45 ?_
    refine z_aload_n (pc := 48) O dX9_readTerms_48 rfl ?_
    refine z_iconst (pc := 49) (v := iz (1)) O dX9_readTerms_49 (by decide) ?_
    refine z_sipush (pc := 50) (v := iz (400)) O dX9_readTerms_50 (by decide) ?_
    refine z_callV (pc := 53) O cl_X9_317 (k9_numeral3 _ _ 1 (by decide) 400 (by decide) tk pl m (thn (thn rr (fun j => numR tk m j 1 6)) (fun j => exR tk m j 1684109683)) (frτ7.lay (frτ1.lay J)) (by have : gI τ7 33 3 = gI σ 33 3 := gI_iz (Fr.it frτ7 rfl (sk1t (by decide) (Fr.it frτ1 rfl (sk1t (by decide) (izg σ 33 3))))) (rgI _ _ _); omega) (by omega) (Rf.ex eτ7_3 (by decide))) (by decide) (jo_33 (frτ7.lay (frτ1.lay J))) kc_9 rfl rfl (Nat.le_of_ble_eq_true rfl) ⟨Nat.zero_le _, Nat.zero_le _⟩ dX9_readTerms_53 (fun r τ9 hp => ?_)
    obtain ⟨z10, rfl, fτ9_0, frτ9, eτ9_0, eτ9_1, eτ9_2, eτ9_3, eτ9_4, eτ9_5⟩ := hp
    have : gI τ9 33 3 = gI σ 33 3 := gI_iz (Fr.it frτ9 rfl (Fr.it frτ7 rfl (sk1t (by decide) (Fr.it frτ1 rfl (sk1t (by decide) (izg σ 33 3)))))) (rgI _ _ _)
    refine zi_iast (pc := 56) (b.toNat) O (ja_50 (frτ9.lay (frτ7.lay (frτ1.lay J)))) (by omega) (by omega) (by omega) dX9_readTerms_56 ?_
    refine z_vret (pc := 57) O dX9_readTerms_57 ?_
    exact ⟨rfl, (((((((Fr.rf [(33, 7), (33, 8), (33, 9), (33, 10), (33, 11), (33, 4), (33, 5), (49, 99999), (50, 99999), (56, 99999)] σ).pI rfl).tr (frτ1.mono (V := [(33, 7), (33, 8), (33, 9), (33, 10), (33, 11), (33, 4), (33, 5), (49, 99999), (50, 99999), (56, 99999)]) rfl)).pI rfl).tr (frτ7.mono (V := [(33, 7), (33, 8), (33, 9), (33, 10), (33, 11), (33, 4), (33, 5), (49, 99999), (50, 99999), (56, 99999)]) rfl)).tr (frτ9.mono (V := [(33, 7), (33, 8), (33, 9), (33, 10), (33, 11), (33, 4), (33, 5), (49, 99999), (50, 99999), (56, 99999)]) rfl)).pI rfl), (by have : gI (sI τ9 50 (b.toNat) (iz z10)) 33 7 = gI τ9 33 7 := gI_iz (sk1t (by decide) (izg τ9 33 7)) (rgI _ _ _); have : gI (sI τ9 50 (b.toNat) (iz z10)) 33 8 = gI τ9 33 8 := gI_iz (sk1t (by decide) (izg τ9 33 8)) (rgI _ _ _); have : gI (sI τ9 50 (b.toNat) (iz z10)) 33 3 = gI σ 33 3 := gI_iz (sk1t (by decide) (Fr.it frτ9 rfl (Fr.it frτ7 rfl (sk1t (by decide) (Fr.it frτ1 rfl (sk1t (by decide) (izg σ 33 3))))))) (rgI _ _ _); have : gI (sI τ9 50 (b.toNat) (iz z10)) 33 9 = gI τ9 33 9 := gI_iz (sk1t (by decide) (izg τ9 33 9)) (rgI _ _ _); omega), (by have : gI (sI τ9 50 (b.toNat) (iz z10)) 33 7 = gI τ9 33 7 := gI_iz (sk1t (by decide) (izg τ9 33 7)) (rgI _ _ _); omega), (by have : gI (sI τ9 50 (b.toNat) (iz z10)) 33 4 = gI τ9 33 4 := gI_iz (sk1t (by decide) (izg τ9 33 4)) (rgI _ _ _); omega), (by have : gI (sI τ9 50 (b.toNat) (iz z10)) 33 4 = gI τ9 33 4 := gI_iz (sk1t (by decide) (izg τ9 33 4)) (rgI _ _ _); have : gI (sI τ9 50 (b.toNat) (iz z10)) 49 (b.toNat) = z2 := gI_iz (sk1t (by decide) (Fr.it frτ9 rfl (Fr.it frτ7 rfl (hI_at _ _ _ _)))) (by omega); omega), (fun k hk => ((gI_eq (sk1t (by decide) rfl)).trans ((frτ9.g 49 k rfl).trans ((frτ7.g 49 k rfl).trans ((gI_eq (sk2t (by omega) rfl)).trans ((frτ1.g 49 k rfl).trans (gI_eq (sk1t (by decide) rfl)))))))), (Rf.eq (Rf.fr eτ9_4 ((Fr.rf [(50, 99999)] τ9).pI rfl) (fun _ => rfl) rfl rfl) need3_ok), (by have : gI (sI τ9 50 (b.toNat) (iz z10)) 56 (b.toNat) = 1 := gI_iz (sk1t (by decide) (Fr.it frτ9 rfl (Fr.it frτ7 rfl (sk1t (by decide) (Fr.it frτ1 rfl (hI_at _ _ _ _)))))) (by omega); omega)⟩
