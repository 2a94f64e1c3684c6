set_option maxHeartbeats 4000000 in
set_option maxRecDepth 20000 in
theorem k9_next3 (l : Launch) (σ : VH) (J : Lay σ) (hz : 0 ≤ gI σ 33 3 ∧ gI σ 33 3 ≤ 700) (he : 0 ≤ gI σ 33 8 ∧ gI σ 33 8 ≤ gI σ 33 3) : Ct l yX9_next cX9_next 3 none 2 0 0 [.ref 33] σ (fun r τ => r = none ∧ (Fr [(33, 7), (33, 8), (33, 9), (33, 10), (33, 11)] σ τ) ∧ (gI σ 33 8 ≤ gI τ 33 7) ∧ (0 ≤ gI τ 33 7 ∧ gI τ 33 7 ≤ gI τ 33 8 ∧ gI τ 33 8 ≤ gI τ 33 3 ∧ gI τ 33 3 ≤ 700 ∧ ((gI τ 33 9 = 0 ∧ gI τ 33 7 = gI τ 33 3) ∨ (gI τ 33 7 < gI τ 33 8 ∧ 1 ≤ gI τ 33 9 ∧ gI τ 33 9 ≤ 5))) ∧ (Nx σ τ)) := by
  refine Ct.enter rfl (Nat.le_of_ble_eq_true rfl) ?_
  intro κ γ hκ O hrc hrs
  subst hκ
  have cut58 : ∀ (ρ58 : VH), (gI σ 33 8 ≤ gI ρ58 33 7 ∧ gI ρ58 33 7 ≤ gI σ 33 3) → (Bl (sg σ) (gI σ 33 8) (gI ρ58 33 7)) → (gI ρ58 33 7 = gI σ 33 3 ∨ (¬ sg σ (gI ρ58 33 7) = 32 ∧ ¬ sg σ (gI ρ58 33 7) = 10)) → (Fr [(33, 7)] σ ρ58) → Z κ γ 3 ρ58 0 0 (QM κ γ (fun r τ => r = none ∧ (Fr [(33, 7), (33, 8), (33, 9), (33, 10), (33, 11)] σ τ) ∧ (gI σ 33 8 ≤ gI τ 33 7) ∧ (0 ≤ gI τ 33 7 ∧ gI τ 33 7 ≤ gI τ 33 8 ∧ gI τ 33 8 ≤ gI τ 33 3 ∧ gI τ 33 3 ≤ 700 ∧ ((gI τ 33 9 = 0 ∧ gI τ 33 7 = gI τ 33 3) ∨ (gI τ 33 7 < gI τ 33 8 ∧ 1 ≤ gI τ 33 9 ∧ gI τ 33 9 ≤ 5))) ∧ (Nx σ τ)) 0 0) 58 [(0, .ref 33)] [] := by
    intro ρ58 ff58_0 ff58_1 ff58_2 frρ58
    refine z_aload_n (pc := 58) O dX9_next_58 rfl ?_
    refine z_aload_n (pc := 59) O dX9_next_59 rfl ?_
    refine zi_getv (pc := 60) (gI ρ58 33 7) O fl_X9_231 rfl (jo_33 (frρ58.lay J)) (izg ρ58 33 7) dX9_next_60 ?_
    have := rgI ρ58 33 7
    refine z_callV (pc := 63) O cl_X9_234 (k9_sign _ _ (gI ρ58 33 7) (by omega) (frρ58.lay J) (by have : gI ρ58 33 3 = gI σ 33 3 := gI_iz (Fr.it frρ58 rfl (izg σ 33 3)) (rgI _ _ _); omega) (by omega)) (by decide) (jo_33 (frρ58.lay J)) kc_9 rfl rfl (Nat.le_of_ble_eq_true rfl) ⟨Nat.zero_le _, Nat.zero_le _⟩ dX9_next_63 (fun r τ1 hp => ?_)
    obtain ⟨z2, rfl, fτ1_0, fτ1_1, fτ1_2, rfl⟩ := hp
    have : gI ρ58 33 3 = gI σ 33 3 := gI_iz (Fr.it frρ58 rfl (izg σ 33 3)) (rgI _ _ _)
    have : z2 = sg σ (gI ρ58 33 7) := fτ1_1.trans (sg_fr (frρ58.mono (V := [(33, 7), (33, 8), (33, 9), (33, 10), (33, 11)]) rfl) (fun _ => rfl) rfl)
    refine z_istore_n (pc := 66) [(0, .ref 33), (1, .int (iz z2))] O dX9_next_66 (by decide) rfl ?_
    refine z_aload_n (pc := 67) O dX9_next_67 rfl ?_
    refine z_aload_n (pc := 68) O dX9_next_68 rfl ?_
    refine zi_getv (pc := 69) (gI ρ58 33 7) O fl_X9_231 rfl (jo_33 (frρ58.lay J)) (izg ρ58 33 7) dX9_next_69 ?_
    refine z_iconst (pc := 72) (v := iz (1)) O dX9_next_72 (by decide) ?_
    refine zi_iadd (pc := 73) O dX9_next_73 ?_
    refine z_putI (pc := 74) O fl_X9_228 rfl ⟨rfl, rfl⟩ (jo_33 (frρ58.lay J)) dX9_next_74 ?_
    refine z_aload_n (pc := 77) O dX9_next_77 rfl ?_
    refine zi_getv (pc := 78) (gI ρ58 33 7) O fl_X9_231 rfl (jo_33 (frρ58.lay J)) (sk2t (by decide) (izg ρ58 33 7)) dX9_next_78 ?_
    refine z_aload_n (pc := 81) O dX9_next_81 rfl ?_
    refine zi_getv (pc := 82) (gI σ 33 3) O fl_X9_176 rfl (jo_33 (frρ58.lay J)) (sk2t (by decide) (Fr.it frρ58 rfl (izg σ 33 3))) dX9_next_82 ?_
    have := rgI σ 33 3
    refine zi_icmp_lt (pc := 85) (tgt := 112) O dX9_next_85 (by decide) (by omega) (by omega) (fun h85 => ?_) (fun h85 => ?_)
    · refine z_iload_n (pc := 112) O dX9_next_112 rfl ?_
      refine z_callS (pc := 113) O cl_X9_241 (k9_isLetter _ _ z2 (by omega)) (by decide) rfl rfl (Nat.le_of_ble_eq_true rfl) ⟨Nat.zero_le _, Nat.zero_le _⟩ dX9_next_113 (fun r τ3 hp => ?_)
      obtain ⟨z4, rfl, fτ3_0, fτ3_1, rfl⟩ := hp
      refine zi_if_eq (pc := 116) (tgt := 239) O dX9_next_116 (by decide) (by omega) (fun h116 => ?_) (fun h116 => ?_)
      · refine z_iload_n (pc := 239) O dX9_next_239 rfl ?_
        refine z_callS (pc := 240) O cl_X9_253 (k9_isDigit _ _ z2 (by omega)) (by decide) rfl rfl (Nat.le_of_ble_eq_true rfl) ⟨Nat.zero_le _, Nat.zero_le _⟩ dX9_next_240 (fun r τ5 hp => ?_)
        obtain ⟨z6, rfl, fτ5_0, fτ5_1, rfl⟩ := hp
        refine zi_if_eq (pc := 243) (tgt := 363) O dX9_next_243 (by decide) (by omega) (fun h243 => ?_) (fun h243 => ?_)
        · refine z_aload_n (pc := 363) O dX9_next_363 rfl ?_
          refine z_iload_n (pc := 364) O dX9_next_364 rfl ?_
          refine z_bipush (pc := 365) (v := iz (59)) O dX9_next_365 (by decide) ?_
          refine zi_icmp_eq (pc := 367) (tgt := 400) O dX9_next_367 (by decide) (by omega) (by decide) (fun h367 => ?_) (fun h367 => ?_)
          · refine z_iconst (pc := 400) (v := iz (5)) O dX9_next_400 (by decide) ?_
            refine z_goto (pc := 401) (tgt := 405) O dX9_next_401 (by decide) ?_
            refine z_putI (pc := 405) O fl_X9_238 rfl ⟨rfl, rfl⟩ (jo_33 (frρ58.lay J)) dX9_next_405 ?_
            refine z_vret (pc := 408) O dX9_next_408 ?_
            have NX9 : Nx σ (sI (sI ρ58 33 8 (iz ((gI ρ58 33 7) + 1))) 33 9 (iz 5)) := Nx.one ff58_1 (sg_row (((frρ58.mono (V := [(33, 7), (33, 8), (33, 9), (33, 10), (33, 11)]) rfl).pI rfl).pI rfl) (fun _ => rfl) rfl) (gI_iz (sk2t (by decide) (sk2t (by decide) (izg ρ58 33 7))) (rgI _ _ _) : gI (sI (sI ρ58 33 8 (iz ((gI ρ58 33 7) + 1))) 33 9 (iz 5)) 33 7 = gI ρ58 33 7) (gI_iz (sk2t (by decide) (hI_at _ _ _ _)) (by omega) : gI (sI (sI ρ58 33 8 (iz ((gI ρ58 33 7) + 1))) 33 9 (iz 5)) 33 8 = (gI ρ58 33 7) + 1) (by omega) (by omega) (by omega) (by omega) (by have e9 := (gI_iz (hI_at _ _ _ _) (by omega) : gI (sI (sI ρ58 33 8 (iz ((gI ρ58 33 7) + 1))) 33 9 (iz 5)) 33 9 = 5); unfold Sg; omega)
            exact ⟨rfl, (((frρ58.mono (V := [(33, 7), (33, 8), (33, 9), (33, 10), (33, 11)]) rfl).pI rfl).pI rfl), (by have : gI (sI (sI ρ58 33 8 (iz ((gI ρ58 33 7) + 1))) 33 9 (iz 5)) 33 7 = gI ρ58 33 7 := gI_iz (sk2t (by decide) (sk2t (by decide) (izg ρ58 33 7))) (rgI _ _ _); omega), (by have : gI (sI (sI ρ58 33 8 (iz ((gI ρ58 33 7) + 1))) 33 9 (iz 5)) 33 7 = gI ρ58 33 7 := gI_iz (sk2t (by decide) (sk2t (by decide) (izg ρ58 33 7))) (rgI _ _ _); have : gI (sI (sI ρ58 33 8 (iz ((gI ρ58 33 7) + 1))) 33 9 (iz 5)) 33 8 = (gI ρ58 33 7) + 1 := gI_iz (sk2t (by decide) (hI_at _ _ _ _)) (by omega); have : gI (sI (sI ρ58 33 8 (iz ((gI ρ58 33 7) + 1))) 33 9 (iz 5)) 33 3 = gI σ 33 3 := gI_iz (sk2t (by decide) (sk2t (by decide) (Fr.it frρ58 rfl (izg σ 33 3)))) (rgI _ _ _); have : gI (sI (sI ρ58 33 8 (iz ((gI ρ58 33 7) + 1))) 33 9 (iz 5)) 33 9 = 5 := gI_iz (hI_at _ _ _ _) (by omega); omega), NX9⟩
          · refine z_iload_n (pc := 370) O dX9_next_370 rfl ?_
            refine z_bipush (pc := 371) (v := iz (40)) O dX9_next_371 (by decide) ?_
            refine zi_icmp_eq (pc := 373) (tgt := 400) O dX9_next_373 (by decide) (by omega) (by decide) (fun h373 => ?_) (fun h373 => ?_)
            · refine z_iconst (pc := 400) (v := iz (5)) O dX9_next_400 (by decide) ?_
              refine z_goto (pc := 401) (tgt := 405) O dX9_next_401 (by decide) ?_
              refine z_putI (pc := 405) O fl_X9_238 rfl ⟨rfl, rfl⟩ (jo_33 (frρ58.lay J)) dX9_next_405 ?_
              refine z_vret (pc := 408) O dX9_next_408 ?_
              have NX9 : Nx σ (sI (sI ρ58 33 8 (iz ((gI ρ58 33 7) + 1))) 33 9 (iz 5)) := Nx.one ff58_1 (sg_row (((frρ58.mono (V := [(33, 7), (33, 8), (33, 9), (33, 10), (33, 11)]) rfl).pI rfl).pI rfl) (fun _ => rfl) rfl) (gI_iz (sk2t (by decide) (sk2t (by decide) (izg ρ58 33 7))) (rgI _ _ _) : gI (sI (sI ρ58 33 8 (iz ((gI ρ58 33 7) + 1))) 33 9 (iz 5)) 33 7 = gI ρ58 33 7) (gI_iz (sk2t (by decide) (hI_at _ _ _ _)) (by omega) : gI (sI (sI ρ58 33 8 (iz ((gI ρ58 33 7) + 1))) 33 9 (iz 5)) 33 8 = (gI ρ58 33 7) + 1) (by omega) (by omega) (by omega) (by omega) (by have e9 := (gI_iz (hI_at _ _ _ _) (by omega) : gI (sI (sI ρ58 33 8 (iz ((gI ρ58 33 7) + 1))) 33 9 (iz 5)) 33 9 = 5); unfold Sg; omega)
              exact ⟨rfl, (((frρ58.mono (V := [(33, 7), (33, 8), (33, 9), (33, 10), (33, 11)]) rfl).pI rfl).pI rfl), (by have : gI (sI (sI ρ58 33 8 (iz ((gI ρ58 33 7) + 1))) 33 9 (iz 5)) 33 7 = gI ρ58 33 7 := gI_iz (sk2t (by decide) (sk2t (by decide) (izg ρ58 33 7))) (rgI _ _ _); omega), (by have : gI (sI (sI ρ58 33 8 (iz ((gI ρ58 33 7) + 1))) 33 9 (iz 5)) 33 7 = gI ρ58 33 7 := gI_iz (sk2t (by decide) (sk2t (by decide) (izg ρ58 33 7))) (rgI _ _ _); have : gI (sI (sI ρ58 33 8 (iz ((gI ρ58 33 7) + 1))) 33 9 (iz 5)) 33 8 = (gI ρ58 33 7) + 1 := gI_iz (sk2t (by decide) (hI_at _ _ _ _)) (by omega); have : gI (sI (sI ρ58 33 8 (iz ((gI ρ58 33 7) + 1))) 33 9 (iz 5)) 33 3 = gI σ 33 3 := gI_iz (sk2t (by decide) (sk2t (by decide) (Fr.it frρ58 rfl (izg σ 33 3)))) (rgI _ _ _); have : gI (sI (sI ρ58 33 8 (iz ((gI ρ58 33 7) + 1))) 33 9 (iz 5)) 33 9 = 5 := gI_iz (hI_at _ _ _ _) (by omega); omega), NX9⟩
            · refine z_iload_n (pc := 376) O dX9_next_376 rfl ?_
              refine z_bipush (pc := 377) (v := iz (41)) O dX9_next_377 (by decide) ?_
              refine zi_icmp_eq (pc := 379) (tgt := 400) O dX9_next_379 (by decide) (by omega) (by decide) (fun h379 => ?_) (fun h379 => ?_)
              · refine z_iconst (pc := 400) (v := iz (5)) O dX9_next_400 (by decide) ?_
                refine z_goto (pc := 401) (tgt := 405) O dX9_next_401 (by decide) ?_
                refine z_putI (pc := 405) O fl_X9_238 rfl ⟨rfl, rfl⟩ (jo_33 (frρ58.lay J)) dX9_next_405 ?_
                refine z_vret (pc := 408) O dX9_next_408 ?_
                have NX9 : Nx σ (sI (sI ρ58 33 8 (iz ((gI ρ58 33 7) + 1))) 33 9 (iz 5)) := Nx.one ff58_1 (sg_row (((frρ58.mono (V := [(33, 7), (33, 8), (33, 9), (33, 10), (33, 11)]) rfl).pI rfl).pI rfl) (fun _ => rfl) rfl) (gI_iz (sk2t (by decide) (sk2t (by decide) (izg ρ58 33 7))) (rgI _ _ _) : gI (sI (sI ρ58 33 8 (iz ((gI ρ58 33 7) + 1))) 33 9 (iz 5)) 33 7 = gI ρ58 33 7) (gI_iz (sk2t (by decide) (hI_at _ _ _ _)) (by omega) : gI (sI (sI ρ58 33 8 (iz ((gI ρ58 33 7) + 1))) 33 9 (iz 5)) 33 8 = (gI ρ58 33 7) + 1) (by omega) (by omega) (by omega) (by omega) (by have e9 := (gI_iz (hI_at _ _ _ _) (by omega) : gI (sI (sI ρ58 33 8 (iz ((gI ρ58 33 7) + 1))) 33 9 (iz 5)) 33 9 = 5); unfold Sg; omega)
                exact ⟨rfl, (((frρ58.mono (V := [(33, 7), (33, 8), (33, 9), (33, 10), (33, 11)]) rfl).pI rfl).pI rfl), (by have : gI (sI (sI ρ58 33 8 (iz ((gI ρ58 33 7) + 1))) 33 9 (iz 5)) 33 7 = gI ρ58 33 7 := gI_iz (sk2t (by decide) (sk2t (by decide) (izg ρ58 33 7))) (rgI _ _ _); omega), (by have : gI (sI (sI ρ58 33 8 (iz ((gI ρ58 33 7) + 1))) 33 9 (iz 5)) 33 7 = gI ρ58 33 7 := gI_iz (sk2t (by decide) (sk2t (by decide) (izg ρ58 33 7))) (rgI _ _ _); have : gI (sI (sI ρ58 33 8 (iz ((gI ρ58 33 7) + 1))) 33 9 (iz 5)) 33 8 = (gI ρ58 33 7) + 1 := gI_iz (sk2t (by decide) (hI_at _ _ _ _)) (by omega); have : gI (sI (sI ρ58 33 8 (iz ((gI ρ58 33 7) + 1))) 33 9 (iz 5)) 33 3 = gI σ 33 3 := gI_iz (sk2t (by decide) (sk2t (by decide) (Fr.it frρ58 rfl (izg σ 33 3)))) (rgI _ _ _); have : gI (sI (sI ρ58 33 8 (iz ((gI ρ58 33 7) + 1))) 33 9 (iz 5)) 33 9 = 5 := gI_iz (hI_at _ _ _ _) (by omega); omega), NX9⟩
              · refine z_iload_n (pc := 382) O dX9_next_382 rfl ?_
                refine z_bipush (pc := 383) (v := iz (60)) O dX9_next_383 (by decide) ?_
                refine zi_icmp_eq (pc := 385) (tgt := 400) O dX9_next_385 (by decide) (by omega) (by decide) (fun h385 => ?_) (fun h385 => ?_)
                · refine z_iconst (pc := 400) (v := iz (5)) O dX9_next_400 (by decide) ?_
                  refine z_goto (pc := 401) (tgt := 405) O dX9_next_401 (by decide) ?_
                  refine z_putI (pc := 405) O fl_X9_238 rfl ⟨rfl, rfl⟩ (jo_33 (frρ58.lay J)) dX9_next_405 ?_
                  refine z_vret (pc := 408) O dX9_next_408 ?_
                  have NX9 : Nx σ (sI (sI ρ58 33 8 (iz ((gI ρ58 33 7) + 1))) 33 9 (iz 5)) := Nx.one ff58_1 (sg_row (((frρ58.mono (V := [(33, 7), (33, 8), (33, 9), (33, 10), (33, 11)]) rfl).pI rfl).pI rfl) (fun _ => rfl) rfl) (gI_iz (sk2t (by decide) (sk2t (by decide) (izg ρ58 33 7))) (rgI _ _ _) : gI (sI (sI ρ58 33 8 (iz ((gI ρ58 33 7) + 1))) 33 9 (iz 5)) 33 7 = gI ρ58 33 7) (gI_iz (sk2t (by decide) (hI_at _ _ _ _)) (by omega) : gI (sI (sI ρ58 33 8 (iz ((gI ρ58 33 7) + 1))) 33 9 (iz 5)) 33 8 = (gI ρ58 33 7) + 1) (by omega) (by omega) (by omega) (by omega) (by have e9 := (gI_iz (hI_at _ _ _ _) (by omega) : gI (sI (sI ρ58 33 8 (iz ((gI ρ58 33 7) + 1))) 33 9 (iz 5)) 33 9 = 5); unfold Sg; omega)
                  exact ⟨rfl, (((frρ58.mono (V := [(33, 7), (33, 8), (33, 9), (33, 10), (33, 11)]) rfl).pI rfl).pI rfl), (by have : gI (sI (sI ρ58 33 8 (iz ((gI ρ58 33 7) + 1))) 33 9 (iz 5)) 33 7 = gI ρ58 33 7 := gI_iz (sk2t (by decide) (sk2t (by decide) (izg ρ58 33 7))) (rgI _ _ _); omega), (by have : gI (sI (sI ρ58 33 8 (iz ((gI ρ58 33 7) + 1))) 33 9 (iz 5)) 33 7 = gI ρ58 33 7 := gI_iz (sk2t (by decide) (sk2t (by decide) (izg ρ58 33 7))) (rgI _ _ _); have : gI (sI (sI ρ58 33 8 (iz ((gI ρ58 33 7) + 1))) 33 9 (iz 5)) 33 8 = (gI ρ58 33 7) + 1 := gI_iz (sk2t (by decide) (hI_at _ _ _ _)) (by omega); have : gI (sI (sI ρ58 33 8 (iz ((gI ρ58 33 7) + 1))) 33 9 (iz 5)) 33 3 = gI σ 33 3 := gI_iz (sk2t (by decide) (sk2t (by decide) (Fr.it frρ58 rfl (izg σ 33 3)))) (rgI _ _ _); have : gI (sI (sI ρ58 33 8 (iz ((gI ρ58 33 7) + 1))) 33 9 (iz 5)) 33 9 = 5 := gI_iz (hI_at _ _ _ _) (by omega); omega), NX9⟩
                · refine z_iload_n (pc := 388) O dX9_next_388 rfl ?_
                  refine z_bipush (pc := 389) (v := iz (62)) O dX9_next_389 (by decide) ?_
                  refine zi_icmp_eq (pc := 391) (tgt := 400) O dX9_next_391 (by decide) (by omega) (by decide) (fun h391 => ?_) (fun h391 => ?_)
                  · refine z_iconst (pc := 400) (v := iz (5)) O dX9_next_400 (by decide) ?_
                    refine z_goto (pc := 401) (tgt := 405) O dX9_next_401 (by decide) ?_
                    refine z_putI (pc := 405) O fl_X9_238 rfl ⟨rfl, rfl⟩ (jo_33 (frρ58.lay J)) dX9_next_405 ?_
                    refine z_vret (pc := 408) O dX9_next_408 ?_
                    have NX9 : Nx σ (sI (sI ρ58 33 8 (iz ((gI ρ58 33 7) + 1))) 33 9 (iz 5)) := Nx.one ff58_1 (sg_row (((frρ58.mono (V := [(33, 7), (33, 8), (33, 9), (33, 10), (33, 11)]) rfl).pI rfl).pI rfl) (fun _ => rfl) rfl) (gI_iz (sk2t (by decide) (sk2t (by decide) (izg ρ58 33 7))) (rgI _ _ _) : gI (sI (sI ρ58 33 8 (iz ((gI ρ58 33 7) + 1))) 33 9 (iz 5)) 33 7 = gI ρ58 33 7) (gI_iz (sk2t (by decide) (hI_at _ _ _ _)) (by omega) : gI (sI (sI ρ58 33 8 (iz ((gI ρ58 33 7) + 1))) 33 9 (iz 5)) 33 8 = (gI ρ58 33 7) + 1) (by omega) (by omega) (by omega) (by omega) (by have e9 := (gI_iz (hI_at _ _ _ _) (by omega) : gI (sI (sI ρ58 33 8 (iz ((gI ρ58 33 7) + 1))) 33 9 (iz 5)) 33 9 = 5); unfold Sg; omega)
                    exact ⟨rfl, (((frρ58.mono (V := [(33, 7), (33, 8), (33, 9), (33, 10), (33, 11)]) rfl).pI rfl).pI rfl), (by have : gI (sI (sI ρ58 33 8 (iz ((gI ρ58 33 7) + 1))) 33 9 (iz 5)) 33 7 = gI ρ58 33 7 := gI_iz (sk2t (by decide) (sk2t (by decide) (izg ρ58 33 7))) (rgI _ _ _); omega), (by have : gI (sI (sI ρ58 33 8 (iz ((gI ρ58 33 7) + 1))) 33 9 (iz 5)) 33 7 = gI ρ58 33 7 := gI_iz (sk2t (by decide) (sk2t (by decide) (izg ρ58 33 7))) (rgI _ _ _); have : gI (sI (sI ρ58 33 8 (iz ((gI ρ58 33 7) + 1))) 33 9 (iz 5)) 33 8 = (gI ρ58 33 7) + 1 := gI_iz (sk2t (by decide) (hI_at _ _ _ _)) (by omega); have : gI (sI (sI ρ58 33 8 (iz ((gI ρ58 33 7) + 1))) 33 9 (iz 5)) 33 3 = gI σ 33 3 := gI_iz (sk2t (by decide) (sk2t (by decide) (Fr.it frρ58 rfl (izg σ 33 3)))) (rgI _ _ _); have : gI (sI (sI ρ58 33 8 (iz ((gI ρ58 33 7) + 1))) 33 9 (iz 5)) 33 9 = 5 := gI_iz (hI_at _ _ _ _) (by omega); omega), NX9⟩
                  · refine z_iload_n (pc := 394) O dX9_next_394 rfl ?_
                    refine z_bipush (pc := 395) (v := iz (61)) O dX9_next_395 (by decide) ?_
                    refine zi_icmp_ne (pc := 397) (tgt := 404) O dX9_next_397 (by decide) (by omega) (by decide) (fun h397 => ?_) (fun h397 => ?_)
                    · refine z_iconst (pc := 404) (v := iz (1)) O dX9_next_404 (by decide) ?_
                      refine z_putI (pc := 405) O fl_X9_238 rfl ⟨rfl, rfl⟩ (jo_33 (frρ58.lay J)) dX9_next_405 ?_
                      refine z_vret (pc := 408) O dX9_next_408 ?_
                      have NX9 : Nx σ (sI (sI ρ58 33 8 (iz ((gI ρ58 33 7) + 1))) 33 9 (iz 1)) := Nx.one ff58_1 (sg_row (((frρ58.mono (V := [(33, 7), (33, 8), (33, 9), (33, 10), (33, 11)]) rfl).pI rfl).pI rfl) (fun _ => rfl) rfl) (gI_iz (sk2t (by decide) (sk2t (by decide) (izg ρ58 33 7))) (rgI _ _ _) : gI (sI (sI ρ58 33 8 (iz ((gI ρ58 33 7) + 1))) 33 9 (iz 1)) 33 7 = gI ρ58 33 7) (gI_iz (sk2t (by decide) (hI_at _ _ _ _)) (by omega) : gI (sI (sI ρ58 33 8 (iz ((gI ρ58 33 7) + 1))) 33 9 (iz 1)) 33 8 = (gI ρ58 33 7) + 1) (by omega) (by omega) (by omega) (by omega) (by have e9 := (gI_iz (hI_at _ _ _ _) (by omega) : gI (sI (sI ρ58 33 8 (iz ((gI ρ58 33 7) + 1))) 33 9 (iz 1)) 33 9 = 1); unfold Sg; omega)
                      exact ⟨rfl, (((frρ58.mono (V := [(33, 7), (33, 8), (33, 9), (33, 10), (33, 11)]) rfl).pI rfl).pI rfl), (by have : gI (sI (sI ρ58 33 8 (iz ((gI ρ58 33 7) + 1))) 33 9 (iz 1)) 33 7 = gI ρ58 33 7 := gI_iz (sk2t (by decide) (sk2t (by decide) (izg ρ58 33 7))) (rgI _ _ _); omega), (by have : gI (sI (sI ρ58 33 8 (iz ((gI ρ58 33 7) + 1))) 33 9 (iz 1)) 33 7 = gI ρ58 33 7 := gI_iz (sk2t (by decide) (sk2t (by decide) (izg ρ58 33 7))) (rgI _ _ _); have : gI (sI (sI ρ58 33 8 (iz ((gI ρ58 33 7) + 1))) 33 9 (iz 1)) 33 8 = (gI ρ58 33 7) + 1 := gI_iz (sk2t (by decide) (hI_at _ _ _ _)) (by omega); have : gI (sI (sI ρ58 33 8 (iz ((gI ρ58 33 7) + 1))) 33 9 (iz 1)) 33 3 = gI σ 33 3 := gI_iz (sk2t (by decide) (sk2t (by decide) (Fr.it frρ58 rfl (izg σ 33 3)))) (rgI _ _ _); have : gI (sI (sI ρ58 33 8 (iz ((gI ρ58 33 7) + 1))) 33 9 (iz 1)) 33 9 = 1 := gI_iz (hI_at _ _ _ _) (by omega); omega), NX9⟩
                    · refine z_iconst (pc := 400) (v := iz (5)) O dX9_next_400 (by decide) ?_
                      refine z_goto (pc := 401) (tgt := 405) O dX9_next_401 (by decide) ?_
                      refine z_putI (pc := 405) O fl_X9_238 rfl ⟨rfl, rfl⟩ (jo_33 (frρ58.lay J)) dX9_next_405 ?_
                      refine z_vret (pc := 408) O dX9_next_408 ?_
                      have NX9 : Nx σ (sI (sI ρ58 33 8 (iz ((gI ρ58 33 7) + 1))) 33 9 (iz 5)) := Nx.one ff58_1 (sg_row (((frρ58.mono (V := [(33, 7), (33, 8), (33, 9), (33, 10), (33, 11)]) rfl).pI rfl).pI rfl) (fun _ => rfl) rfl) (gI_iz (sk2t (by decide) (sk2t (by decide) (izg ρ58 33 7))) (rgI _ _ _) : gI (sI (sI ρ58 33 8 (iz ((gI ρ58 33 7) + 1))) 33 9 (iz 5)) 33 7 = gI ρ58 33 7) (gI_iz (sk2t (by decide) (hI_at _ _ _ _)) (by omega) : gI (sI (sI ρ58 33 8 (iz ((gI ρ58 33 7) + 1))) 33 9 (iz 5)) 33 8 = (gI ρ58 33 7) + 1) (by omega) (by omega) (by omega) (by omega) (by have e9 := (gI_iz (hI_at _ _ _ _) (by omega) : gI (sI (sI ρ58 33 8 (iz ((gI ρ58 33 7) + 1))) 33 9 (iz 5)) 33 9 = 5); unfold Sg; omega)
                      exact ⟨rfl, (((frρ58.mono (V := [(33, 7), (33, 8), (33, 9), (33, 10), (33, 11)]) rfl).pI rfl).pI rfl), (by have : gI (sI (sI ρ58 33 8 (iz ((gI ρ58 33 7) + 1))) 33 9 (iz 5)) 33 7 = gI ρ58 33 7 := gI_iz (sk2t (by decide) (sk2t (by decide) (izg ρ58 33 7))) (rgI _ _ _); omega), (by have : gI (sI (sI ρ58 33 8 (iz ((gI ρ58 33 7) + 1))) 33 9 (iz 5)) 33 7 = gI ρ58 33 7 := gI_iz (sk2t (by decide) (sk2t (by decide) (izg ρ58 33 7))) (rgI _ _ _); have : gI (sI (sI ρ58 33 8 (iz ((gI ρ58 33 7) + 1))) 33 9 (iz 5)) 33 8 = (gI ρ58 33 7) + 1 := gI_iz (sk2t (by decide) (hI_at _ _ _ _)) (by omega); have : gI (sI (sI ρ58 33 8 (iz ((gI ρ58 33 7) + 1))) 33 9 (iz 5)) 33 3 = gI σ 33 3 := gI_iz (sk2t (by decide) (sk2t (by decide) (Fr.it frρ58 rfl (izg σ 33 3)))) (rgI _ _ _); have : gI (sI (sI ρ58 33 8 (iz ((gI ρ58 33 7) + 1))) 33 9 (iz 5)) 33 9 = 5 := gI_iz (hI_at _ _ _ _) (by omega); omega), NX9⟩
        · refine z_aload_n (pc := 246) O dX9_next_246 rfl ?_
          refine z_iconst (pc := 247) (v := iz (0)) O dX9_next_247 (by decide) ?_
          refine z_putI (pc := 248) O fl_X9_256 rfl ⟨rfl, rfl⟩ (jo_33 (frρ58.lay J)) dX9_next_248 ?_
          refine z_aload_n (pc := 251) O dX9_next_251 rfl ?_
          refine z_aload_n (pc := 252) O dX9_next_252 rfl ?_
          refine zi_getv (pc := 253) (gI ρ58 33 7) O fl_X9_231 rfl (jo_33 (frρ58.lay J)) (sk2t (by decide) (sk2t (by decide) (izg ρ58 33 7))) dX9_next_253 ?_
          refine z_putI (pc := 256) O fl_X9_228 rfl ⟨rfl, rfl⟩ (jo_33 (frρ58.lay J)) dX9_next_256 ?_
          have cut259 : ∀ (mu259 : Nat) (ρ259 : VH), (mu259 = (gI σ 33 3 - gI ρ259 33 8).toNat) → (gI ρ58 33 7 ≤ gI ρ259 33 8 ∧ gI ρ259 33 8 ≤ gI σ 33 3) → (∀ i, gI ρ58 33 7 ≤ i → i < gI ρ259 33 8 → 48 ≤ sg σ i ∧ sg σ i ≤ 57) → (gI ρ259 33 8 - gI ρ58 33 7 ≤ 6 → gI ρ259 33 10 = dN (sg σ) (gI ρ58 33 7) (gI ρ259 33 8 - gI ρ58 33 7).toNat) → (0 ≤ gI ρ259 33 10 ∧ gI ρ259 33 10 < 1000000) → (Fr [(33, 8), (33, 10)] (sI (sI (sI ρ58 33 8 (iz ((gI ρ58 33 7) + 1))) 33 10 (iz 0)) 33 8 (iz (gI ρ58 33 7))) ρ259) → Z κ γ 3 ρ259 0 0 (QM κ γ (fun r τ => r = none ∧ (Fr [(33, 7), (33, 8), (33, 9), (33, 10), (33, 11)] σ τ) ∧ (gI σ 33 8 ≤ gI τ 33 7) ∧ (0 ≤ gI τ 33 7 ∧ gI τ 33 7 ≤ gI τ 33 8 ∧ gI τ 33 8 ≤ gI τ 33 3 ∧ gI τ 33 3 ≤ 700 ∧ ((gI τ 33 9 = 0 ∧ gI τ 33 7 = gI τ 33 3) ∨ (gI τ 33 7 < gI τ 33 8 ∧ 1 ≤ gI τ 33 9 ∧ gI τ 33 9 ≤ 5))) ∧ (Nx σ τ)) 0 0) 259 [(0, .ref 33), (1, .int (iz z2))] [] := by
            intro mu259
            induction mu259 using Nat.strongRecOn with
            | ind mu259 ih259 =>
            intro ρ259 hmu259 ff259_0 ff259_1 ff259_2 ff259_3 frρ259
            refine z_aload_n (pc := 259) O dX9_next_259 rfl ?_
            refine z_aload_n (pc := 260) O dX9_next_260 rfl ?_
            refine zi_getv (pc := 261) (gI ρ259 33 8) O fl_X9_228 rfl (jo_33 (frρ259.lay (frρ58.lay J))) (izg ρ259 33 8) dX9_next_261 ?_
            have := rgI ρ259 33 8
            refine z_callV (pc := 264) O cl_X9_234 (k9_sign _ _ (gI ρ259 33 8) (by omega) (frρ259.lay (frρ58.lay J)) (by have : gI ρ259 33 3 = gI σ 33 3 := gI_iz (Fr.it frρ259 rfl (sk2t (by decide) (sk2t (by decide) (sk2t (by decide) (Fr.it frρ58 rfl (izg σ 33 3)))))) (rgI _ _ _); omega) (by omega)) (by decide) (jo_33 (frρ259.lay (frρ58.lay J))) kc_9 rfl rfl (Nat.le_of_ble_eq_true rfl) ⟨Nat.zero_le _, Nat.zero_le _⟩ dX9_next_264 (fun r τ7 hp => ?_)
            obtain ⟨z8, rfl, fτ7_0, fτ7_1, fτ7_2, rfl⟩ := hp
            have : gI ρ259 33 3 = gI σ 33 3 := gI_iz (Fr.it frρ259 rfl (sk2t (by decide) (sk2t (by decide) (sk2t (by decide) (Fr.it frρ58 rfl (izg σ 33 3)))))) (rgI _ _ _)
            have sq : z8 = sg σ (gI ρ259 33 8) := fτ7_1.trans (sg_fr (((((frρ58.mono (V := [(33, 7), (33, 8), (33, 9), (33, 10), (33, 11)]) rfl).pI rfl).pI rfl).pI rfl).tr (frρ259.mono (V := [(33, 7), (33, 8), (33, 9), (33, 10), (33, 11)]) rfl)) (fun _ => rfl) rfl)
            have sy : gI ρ259 33 8 = gI ρ58 33 7 → z8 = sg σ (gI ρ58 33 7) := fun e9 => by rw [← e9]; exact sq
            refine z_callS (pc := 267) O cl_X9_253 (k9_isDigit _ _ z8 (by omega)) (by decide) rfl rfl (Nat.le_of_ble_eq_true rfl) ⟨Nat.zero_le _, Nat.zero_le _⟩ dX9_next_267 (fun r τ9 hp => ?_)
            obtain ⟨z10, rfl, fτ9_0, fτ9_1, rfl⟩ := hp
            refine zi_if_eq (pc := 270) (tgt := 323) O dX9_next_270 (by decide) (by omega) (fun h270 => ?_) (fun h270 => ?_)
            · refine z_aload_n (pc := 323) O dX9_next_323 rfl ?_
              refine z_aload_n (pc := 324) O dX9_next_324 rfl ?_
              refine zi_getv (pc := 325) (gI ρ259 33 8) O fl_X9_228 rfl (jo_33 (frρ259.lay (frρ58.lay J))) (izg ρ259 33 8) dX9_next_325 ?_
              refine z_aload_n (pc := 328) O dX9_next_328 rfl ?_
              refine zi_getv (pc := 329) (gI ρ58 33 7) O fl_X9_231 rfl (jo_33 (frρ259.lay (frρ58.lay J))) (Fr.it frρ259 rfl (sk2t (by decide) (sk2t (by decide) (sk2t (by decide) (izg ρ58 33 7))))) dX9_next_329 ?_
              refine zi_isub (pc := 332) O dX9_next_332 ?_
              refine z_bipush (pc := 333) (v := iz (6)) O dX9_next_333 (by decide) ?_
              refine zi_icmp_gt (pc := 335) (tgt := 352) O dX9_next_335 (by decide) (by omega) (by decide) (fun h335 => ?_) (fun h335 => ?_)
              · refine z_iconst (pc := 352) (v := iz (1)) O dX9_next_352 (by decide) ?_
                refine z_goto (pc := 353) (tgt := 357) O dX9_next_353 (by decide) ?_
                refine z_putI (pc := 357) O fl_X9_238 rfl ⟨rfl, rfl⟩ (jo_33 (frρ259.lay (frρ58.lay J))) dX9_next_357 ?_
                refine z_goto (pc := 360) (tgt := 408) O dX9_next_360 (by decide) ?_
                refine z_vret (pc := 408) O dX9_next_408 ?_
                have NX9 : Nx σ (sI ρ259 33 9 (iz 1)) := Nx.badn ff58_1 (gI_iz (sk2t (by decide) (Fr.it frρ259 rfl (sk2t (by decide) (sk2t (by decide) (sk2t (by decide) (izg ρ58 33 7)))))) (rgI _ _ _) : gI (sI ρ259 33 9 (iz 1)) 33 7 = gI ρ58 33 7) (gI_iz (sk2t (by decide) (izg ρ259 33 8)) (rgI _ _ _) : gI (sI ρ259 33 9 (iz 1)) 33 8 = gI ρ259 33 8) (by omega) (by omega) ⟨by omega, ff259_1, by omega⟩ (by omega) (gI_iz (hI_at _ _ _ _) (by omega) : gI (sI ρ259 33 9 (iz 1)) 33 9 = 1)
                exact ⟨rfl, ((((((frρ58.mono (V := [(33, 7), (33, 8), (33, 9), (33, 10), (33, 11)]) rfl).pI rfl).pI rfl).pI rfl).tr (frρ259.mono (V := [(33, 7), (33, 8), (33, 9), (33, 10), (33, 11)]) rfl)).pI rfl), (by have : gI (sI ρ259 33 9 (iz 1)) 33 7 = gI ρ58 33 7 := gI_iz (sk2t (by decide) (Fr.it frρ259 rfl (sk2t (by decide) (sk2t (by decide) (sk2t (by decide) (izg ρ58 33 7)))))) (rgI _ _ _); omega), (by have : gI (sI ρ259 33 9 (iz 1)) 33 7 = gI ρ58 33 7 := gI_iz (sk2t (by decide) (Fr.it frρ259 rfl (sk2t (by decide) (sk2t (by decide) (sk2t (by decide) (izg ρ58 33 7)))))) (rgI _ _ _); have : gI (sI ρ259 33 9 (iz 1)) 33 8 = gI ρ259 33 8 := gI_iz (sk2t (by decide) (izg ρ259 33 8)) (rgI _ _ _); have : gI (sI ρ259 33 9 (iz 1)) 33 3 = gI σ 33 3 := gI_iz (sk2t (by decide) (Fr.it frρ259 rfl (sk2t (by decide) (sk2t (by decide) (sk2t (by decide) (Fr.it frρ58 rfl (izg σ 33 3))))))) (rgI _ _ _); have : gI (sI ρ259 33 9 (iz 1)) 33 9 = 1 := gI_iz (hI_at _ _ _ _) (by omega); omega), NX9⟩
              · refine z_aload_n (pc := 338) O dX9_next_338 rfl ?_
                refine z_aload_n (pc := 339) O dX9_next_339 rfl ?_
                refine zi_getv (pc := 340) (gI ρ259 33 8) O fl_X9_228 rfl (jo_33 (frρ259.lay (frρ58.lay J))) (izg ρ259 33 8) dX9_next_340 ?_
                refine z_callV (pc := 343) O cl_X9_234 (k9_sign _ _ (gI ρ259 33 8) (by omega) (frρ259.lay (frρ58.lay J)) (by have : gI ρ259 33 3 = gI σ 33 3 := gI_iz (Fr.it frρ259 rfl (sk2t (by decide) (sk2t (by decide) (sk2t (by decide) (Fr.it frρ58 rfl (izg σ 33 3)))))) (rgI _ _ _); omega) (by omega)) (by decide) (jo_33 (frρ259.lay (frρ58.lay J))) kc_9 rfl rfl (Nat.le_of_ble_eq_true rfl) ⟨Nat.zero_le _, Nat.zero_le _⟩ dX9_next_343 (fun r τ11 hp => ?_)
                obtain ⟨z12, rfl, fτ11_0, fτ11_1, fτ11_2, rfl⟩ := hp
                have : gI ρ259 33 3 = gI σ 33 3 := gI_iz (Fr.it frρ259 rfl (sk2t (by decide) (sk2t (by decide) (sk2t (by decide) (Fr.it frρ58 rfl (izg σ 33 3)))))) (rgI _ _ _)
                have : z12 = sg σ (gI ρ259 33 8) := fτ11_1.trans (sg_fr (((((frρ58.mono (V := [(33, 7), (33, 8), (33, 9), (33, 10), (33, 11)]) rfl).pI rfl).pI rfl).pI rfl).tr (frρ259.mono (V := [(33, 7), (33, 8), (33, 9), (33, 10), (33, 11)]) rfl)) (fun _ => rfl) rfl)
                refine z_callS (pc := 346) O cl_X9_241 (k9_isLetter _ _ z12 (by omega)) (by decide) rfl rfl (Nat.le_of_ble_eq_true rfl) ⟨Nat.zero_le _, Nat.zero_le _⟩ dX9_next_346 (fun r τ13 hp => ?_)
                obtain ⟨z14, rfl, fτ13_0, fτ13_1, rfl⟩ := hp
                refine zi_if_eq (pc := 349) (tgt := 356) O dX9_next_349 (by decide) (by omega) (fun h349 => ?_) (fun h349 => ?_)
                · refine z_iconst (pc := 356) (v := iz (4)) O dX9_next_356 (by decide) ?_
                  refine z_putI (pc := 357) O fl_X9_238 rfl ⟨rfl, rfl⟩ (jo_33 (frρ259.lay (frρ58.lay J))) dX9_next_357 ?_
                  refine z_goto (pc := 360) (tgt := 408) O dX9_next_360 (by decide) ?_
                  refine z_vret (pc := 408) O dX9_next_408 ?_
                  have NX9 : Nx σ (sI ρ259 33 9 (iz 4)) := Nx.num ff58_1 (gI_iz (sk2t (by decide) (Fr.it frρ259 rfl (sk2t (by decide) (sk2t (by decide) (sk2t (by decide) (izg ρ58 33 7)))))) (rgI _ _ _) : gI (sI ρ259 33 9 (iz 4)) 33 7 = gI ρ58 33 7) (gI_iz (sk2t (by decide) (izg ρ259 33 8)) (rgI _ _ _) : gI (sI ρ259 33 9 (iz 4)) 33 8 = gI ρ259 33 8) (by omega) (by omega) ⟨by omega, ff259_1, by omega⟩ (by omega) (by omega) ((gI_iz (sk2t (by decide) (izg ρ259 33 10)) (rgI _ _ _) : gI (sI ρ259 33 9 (iz 4)) 33 10 = gI ρ259 33 10).trans (ff259_2 (by omega))) (gI_iz (hI_at _ _ _ _) (by omega) : gI (sI ρ259 33 9 (iz 4)) 33 9 = 4)
                  exact ⟨rfl, ((((((frρ58.mono (V := [(33, 7), (33, 8), (33, 9), (33, 10), (33, 11)]) rfl).pI rfl).pI rfl).pI rfl).tr (frρ259.mono (V := [(33, 7), (33, 8), (33, 9), (33, 10), (33, 11)]) rfl)).pI rfl), (by have : gI (sI ρ259 33 9 (iz 4)) 33 7 = gI ρ58 33 7 := gI_iz (sk2t (by decide) (Fr.it frρ259 rfl (sk2t (by decide) (sk2t (by decide) (sk2t (by decide) (izg ρ58 33 7)))))) (rgI _ _ _); omega), (by have : gI (sI ρ259 33 9 (iz 4)) 33 7 = gI ρ58 33 7 := gI_iz (sk2t (by decide) (Fr.it frρ259 rfl (sk2t (by decide) (sk2t (by decide) (sk2t (by decide) (izg ρ58 33 7)))))) (rgI _ _ _); have : gI (sI ρ259 33 9 (iz 4)) 33 8 = gI ρ259 33 8 := gI_iz (sk2t (by decide) (izg ρ259 33 8)) (rgI _ _ _); have : gI (sI ρ259 33 9 (iz 4)) 33 3 = gI σ 33 3 := gI_iz (sk2t (by decide) (Fr.it frρ259 rfl (sk2t (by decide) (sk2t (by decide) (sk2t (by decide) (Fr.it frρ58 rfl (izg σ 33 3))))))) (rgI _ _ _); have : gI (sI ρ259 33 9 (iz 4)) 33 9 = 4 := gI_iz (hI_at _ _ _ _) (by omega); omega), NX9⟩
                · refine z_iconst (pc := 352) (v := iz (1)) O dX9_next_352 (by decide) ?_
                  refine z_goto (pc := 353) (tgt := 357) O dX9_next_353 (by decide) ?_
                  refine z_putI (pc := 357) O fl_X9_238 rfl ⟨rfl, rfl⟩ (jo_33 (frρ259.lay (frρ58.lay J))) dX9_next_357 ?_
                  refine z_goto (pc := 360) (tgt := 408) O dX9_next_360 (by decide) ?_
                  refine z_vret (pc := 408) O dX9_next_408 ?_
                  have NX9 : Nx σ (sI ρ259 33 9 (iz 1)) := Nx.badn ff58_1 (gI_iz (sk2t (by decide) (Fr.it frρ259 rfl (sk2t (by decide) (sk2t (by decide) (sk2t (by decide) (izg ρ58 33 7)))))) (rgI _ _ _) : gI (sI ρ259 33 9 (iz 1)) 33 7 = gI ρ58 33 7) (gI_iz (sk2t (by decide) (izg ρ259 33 8)) (rgI _ _ _) : gI (sI ρ259 33 9 (iz 1)) 33 8 = gI ρ259 33 8) (by omega) (by omega) ⟨by omega, ff259_1, by omega⟩ (by omega) (gI_iz (hI_at _ _ _ _) (by omega) : gI (sI ρ259 33 9 (iz 1)) 33 9 = 1)
                  exact ⟨rfl, ((((((frρ58.mono (V := [(33, 7), (33, 8), (33, 9), (33, 10), (33, 11)]) rfl).pI rfl).pI rfl).pI rfl).tr (frρ259.mono (V := [(33, 7), (33, 8), (33, 9), (33, 10), (33, 11)]) rfl)).pI rfl), (by have : gI (sI ρ259 33 9 (iz 1)) 33 7 = gI ρ58 33 7 := gI_iz (sk2t (by decide) (Fr.it frρ259 rfl (sk2t (by decide) (sk2t (by decide) (sk2t (by decide) (izg ρ58 33 7)))))) (rgI _ _ _); omega), (by have : gI (sI ρ259 33 9 (iz 1)) 33 7 = gI ρ58 33 7 := gI_iz (sk2t (by decide) (Fr.it frρ259 rfl (sk2t (by decide) (sk2t (by decide) (sk2t (by decide) (izg ρ58 33 7)))))) (rgI _ _ _); have : gI (sI ρ259 33 9 (iz 1)) 33 8 = gI ρ259 33 8 := gI_iz (sk2t (by decide) (izg ρ259 33 8)) (rgI _ _ _); have : gI (sI ρ259 33 9 (iz 1)) 33 3 = gI σ 33 3 := gI_iz (sk2t (by decide) (Fr.it frρ259 rfl (sk2t (by decide) (sk2t (by decide) (sk2t (by decide) (Fr.it frρ58 rfl (izg σ 33 3))))))) (rgI _ _ _); have : gI (sI ρ259 33 9 (iz 1)) 33 9 = 1 := gI_iz (hI_at _ _ _ _) (by omega); omega), NX9⟩
            · refine z_aload_n (pc := 273) O dX9_next_273 rfl ?_
              refine zi_getv (pc := 274) (gI ρ259 33 8) O fl_X9_228 rfl (jo_33 (frρ259.lay (frρ58.lay J))) (izg ρ259 33 8) dX9_next_274 ?_
              refine z_aload_n (pc := 277) O dX9_next_277 rfl ?_
              refine zi_getv (pc := 278) (gI ρ58 33 7) O fl_X9_231 rfl (jo_33 (frρ259.lay (frρ58.lay J))) (Fr.it frρ259 rfl (sk2t (by decide) (sk2t (by decide) (sk2t (by decide) (izg ρ58 33 7))))) dX9_next_278 ?_
              refine zi_isub (pc := 281) O dX9_next_281 ?_
              refine z_bipush (pc := 282) (v := iz (6)) O dX9_next_282 (by decide) ?_
              refine zi_icmp_ge (pc := 284) (tgt := 310) O dX9_next_284 (by decide) (by omega) (by decide) (fun h284 => ?_) (fun h284 => ?_)
              · refine z_aload_n (pc := 310) O dX9_next_310 rfl ?_
                refine z_dup (pc := 311) O dX9_next_311 rfl ?_
                refine zi_getv (pc := 312) (gI ρ259 33 8) O fl_X9_228 rfl (jo_33 (frρ259.lay (frρ58.lay J))) (izg ρ259 33 8) dX9_next_312 ?_
                refine z_iconst (pc := 315) (v := iz (1)) O dX9_next_315 (by decide) ?_
                refine zi_iadd (pc := 316) O dX9_next_316 ?_
                refine z_putI (pc := 317) O fl_X9_228 rfl ⟨rfl, rfl⟩ (jo_33 (frρ259.lay (frρ58.lay J))) dX9_next_317 ?_
                refine z_goto (pc := 320) (tgt := 259) O dX9_next_320 (by decide) ?_
                refine z_lk [(0, .ref 33), (1, .int (iz z2))] ⟨rfl, rfl, trivial⟩ ?_
                exact ih259 _ (by have : gI (sI ρ259 33 8 (iz ((gI ρ259 33 8) + 1))) 33 8 = (gI ρ259 33 8) + 1 := gI_iz (hI_at _ _ _ _) (by omega); omega) (sI ρ259 33 8 (iz ((gI ρ259 33 8) + 1))) rfl (by have : gI (sI ρ259 33 8 (iz ((gI ρ259 33 8) + 1))) 33 8 = (gI ρ259 33 8) + 1 := gI_iz (hI_at _ _ _ _) (by omega); omega) (all_snoc ff259_1 (gI_iz (hI_at _ _ _ _) (by omega) : gI (sI ρ259 33 8 (iz ((gI ρ259 33 8) + 1))) 33 8 = (gI ρ259 33 8) + 1) (by omega)) (by have e8 := (gI_iz (hI_at _ _ _ _) (by omega) : gI (sI ρ259 33 8 (iz ((gI ρ259 33 8) + 1))) 33 8 = (gI ρ259 33 8) + 1); intro h6; exfalso; omega) (by have e10 := (gI_iz (sk2t (by decide) (izg ρ259 33 10)) (rgI _ _ _) : gI (sI ρ259 33 8 (iz ((gI ρ259 33 8) + 1))) 33 10 = gI ρ259 33 10); omega) (frρ259.pI rfl)
              · refine z_aload_n (pc := 287) O dX9_next_287 rfl ?_
                refine z_bipush (pc := 288) (v := iz (10)) O dX9_next_288 (by decide) ?_
                refine z_aload_n (pc := 290) O dX9_next_290 rfl ?_
                refine zi_getv (pc := 291) (gI ρ259 33 10) O fl_X9_256 rfl (jo_33 (frρ259.lay (frρ58.lay J))) (izg ρ259 33 10) dX9_next_291 ?_
                have := rgI ρ259 33 10
                refine zi_imul (pc := 294) O dX9_next_294 ?_
                refine z_aload_n (pc := 295) O dX9_next_295 rfl ?_
                refine z_aload_n (pc := 296) O dX9_next_296 rfl ?_
                refine zi_getv (pc := 297) (gI ρ259 33 8) O fl_X9_228 rfl (jo_33 (frρ259.lay (frρ58.lay J))) (izg ρ259 33 8) dX9_next_297 ?_
                refine z_callV (pc := 300) O cl_X9_234 (k9_sign _ _ (gI ρ259 33 8) (by omega) (frρ259.lay (frρ58.lay J)) (by have : gI ρ259 33 3 = gI σ 33 3 := gI_iz (Fr.it frρ259 rfl (sk2t (by decide) (sk2t (by decide) (sk2t (by decide) (Fr.it frρ58 rfl (izg σ 33 3)))))) (rgI _ _ _); omega) (by omega)) (by decide) (jo_33 (frρ259.lay (frρ58.lay J))) kc_9 rfl rfl (Nat.le_of_ble_eq_true rfl) ⟨Nat.zero_le _, Nat.zero_le _⟩ dX9_next_300 (fun r τ15 hp => ?_)
                obtain ⟨z16, rfl, fτ15_0, fτ15_1, fτ15_2, rfl⟩ := hp
                have : gI ρ259 33 3 = gI σ 33 3 := gI_iz (Fr.it frρ259 rfl (sk2t (by decide) (sk2t (by decide) (sk2t (by decide) (Fr.it frρ58 rfl (izg σ 33 3)))))) (rgI _ _ _)
                have : z16 = sg σ (gI ρ259 33 8) := fτ15_1.trans (sg_fr (((((frρ58.mono (V := [(33, 7), (33, 8), (33, 9), (33, 10), (33, 11)]) rfl).pI rfl).pI rfl).pI rfl).tr (frρ259.mono (V := [(33, 7), (33, 8), (33, 9), (33, 10), (33, 11)]) rfl)) (fun _ => rfl) rfl)
                refine zi_iadd (pc := 303) O dX9_next_303 ?_
                refine z_bipush (pc := 304) (v := iz (48)) O dX9_next_304 (by decide) ?_
                refine zi_isub (pc := 306) O dX9_next_306 ?_
                refine z_putI (pc := 307) O fl_X9_256 rfl ⟨rfl, rfl⟩ (jo_33 (frρ259.lay (frρ58.lay J))) dX9_next_307 ?_
                refine z_aload_n (pc := 310) O dX9_next_310 rfl ?_
                refine z_dup (pc := 311) O dX9_next_311 rfl ?_
                refine zi_getv (pc := 312) (gI ρ259 33 8) O fl_X9_228 rfl (jo_33 (frρ259.lay (frρ58.lay J))) (sk2t (by decide) (izg ρ259 33 8)) dX9_next_312 ?_
                refine z_iconst (pc := 315) (v := iz (1)) O dX9_next_315 (by decide) ?_
                refine zi_iadd (pc := 316) O dX9_next_316 ?_
                refine z_putI (pc := 317) O fl_X9_228 rfl ⟨rfl, rfl⟩ (jo_33 (frρ259.lay (frρ58.lay J))) dX9_next_317 ?_
                refine z_goto (pc := 320) (tgt := 259) O dX9_next_320 (by decide) ?_
                refine z_lk [(0, .ref 33), (1, .int (iz z2))] ⟨rfl, rfl, trivial⟩ ?_
                exact ih259 _ (by have : gI (sI (sI ρ259 33 10 (iz (((10 * (gI ρ259 33 10)) + z16) - 48))) 33 8 (iz ((gI ρ259 33 8) + 1))) 33 8 = (gI ρ259 33 8) + 1 := gI_iz (hI_at _ _ _ _) (by omega); omega) (sI (sI ρ259 33 10 (iz (((10 * (gI ρ259 33 10)) + z16) - 48))) 33 8 (iz ((gI ρ259 33 8) + 1))) rfl (by have : gI (sI (sI ρ259 33 10 (iz (((10 * (gI ρ259 33 10)) + z16) - 48))) 33 8 (iz ((gI ρ259 33 8) + 1))) 33 8 = (gI ρ259 33 8) + 1 := gI_iz (hI_at _ _ _ _) (by omega); omega) (all_snoc ff259_1 (gI_iz (hI_at _ _ _ _) (by omega) : gI (sI (sI ρ259 33 10 (iz (((10 * (gI ρ259 33 10)) + z16) - 48))) 33 8 (iz ((gI ρ259 33 8) + 1))) 33 8 = (gI ρ259 33 8) + 1) (by omega)) (by have e8 := (gI_iz (hI_at _ _ _ _) (by omega) : gI (sI (sI ρ259 33 10 (iz (((10 * (gI ρ259 33 10)) + z16) - 48))) 33 8 (iz ((gI ρ259 33 8) + 1))) 33 8 = (gI ρ259 33 8) + 1); have e10 := (gI_iz (sk2t (by decide) (hI_at _ _ _ _)) (by omega) : gI (sI (sI ρ259 33 10 (iz (((10 * (gI ρ259 33 10)) + z16) - 48))) 33 8 (iz ((gI ρ259 33 8) + 1))) 33 10 = ((10 * (gI ρ259 33 10)) + z16) - 48); intro h6; rw [dN_s (k := gI ρ259 33 8) (by omega) e8, ← ff259_2 (by omega)]; omega) (by have e8 := (gI_iz (hI_at _ _ _ _) (by omega) : gI (sI (sI ρ259 33 10 (iz (((10 * (gI ρ259 33 10)) + z16) - 48))) 33 8 (iz ((gI ρ259 33 8) + 1))) 33 8 = (gI ρ259 33 8) + 1); have q2 : gI (sI (sI ρ259 33 10 (iz (((10 * (gI ρ259 33 10)) + z16) - 48))) 33 8 (iz ((gI ρ259 33 8) + 1))) 33 8 - gI ρ58 33 7 ≤ 6 → gI (sI (sI ρ259 33 10 (iz (((10 * (gI ρ259 33 10)) + z16) - 48))) 33 8 (iz ((gI ρ259 33 8) + 1))) 33 10 = dN (sg σ) (gI ρ58 33 7) (gI (sI (sI ρ259 33 10 (iz (((10 * (gI ρ259 33 10)) + z16) - 48))) 33 8 (iz ((gI ρ259 33 8) + 1))) 33 8 - gI ρ58 33 7).toNat := (by have e8 := (gI_iz (hI_at _ _ _ _) (by omega) : gI (sI (sI ρ259 33 10 (iz (((10 * (gI ρ259 33 10)) + z16) - 48))) 33 8 (iz ((gI ρ259 33 8) + 1))) 33 8 = (gI ρ259 33 8) + 1); have e10 := (gI_iz (sk2t (by decide) (hI_at _ _ _ _)) (by omega) : gI (sI (sI ρ259 33 10 (iz (((10 * (gI ρ259 33 10)) + z16) - 48))) 33 8 (iz ((gI ρ259 33 8) + 1))) 33 10 = ((10 * (gI ρ259 33 10)) + z16) - 48); intro h6; rw [dN_s (k := gI ρ259 33 8) (by omega) e8, ← ff259_2 (by omega)]; omega); have q3 : ∀ i, gI ρ58 33 7 ≤ i → i < gI (sI (sI ρ259 33 10 (iz (((10 * (gI ρ259 33 10)) + z16) - 48))) 33 8 (iz ((gI ρ259 33 8) + 1))) 33 8 → 48 ≤ sg σ i ∧ sg σ i ≤ 57 := (all_snoc ff259_1 (gI_iz (hI_at _ _ _ _) (by omega) : gI (sI (sI ρ259 33 10 (iz (((10 * (gI ρ259 33 10)) + z16) - 48))) 33 8 (iz ((gI ρ259 33 8) + 1))) 33 8 = (gI ρ259 33 8) + 1) (by omega)); have q4 := dN_bd (S := sg σ) (p := gI ρ58 33 7) (gI (sI (sI ρ259 33 10 (iz (((10 * (gI ρ259 33 10)) + z16) - 48))) 33 8 (iz ((gI ρ259 33 8) + 1))) 33 8 - gI ρ58 33 7).toNat (fun i hi => q3 _ (by omega) (by omega)); have q5 := ten6 (k := (gI (sI (sI ρ259 33 10 (iz (((10 * (gI ρ259 33 10)) + z16) - 48))) 33 8 (iz ((gI ρ259 33 8) + 1))) 33 8 - gI ρ58 33 7).toNat) (by omega); have q6 := q2 (by omega); omega) ((frρ259.pI rfl).pI rfl)
          refine z_lk [(0, .ref 33), (1, .int (iz z2))] ⟨rfl, rfl, trivial⟩ ?_
          exact cut259 _ (sI (sI (sI ρ58 33 8 (iz ((gI ρ58 33 7) + 1))) 33 10 (iz 0)) 33 8 (iz (gI ρ58 33 7))) rfl (by have : gI (sI (sI (sI ρ58 33 8 (iz ((gI ρ58 33 7) + 1))) 33 10 (iz 0)) 33 8 (iz (gI ρ58 33 7))) 33 8 = gI ρ58 33 7 := gI_iz (hI_at _ _ _ _) (rgI _ _ _); omega) (by have e8 := (gI_iz (hI_at _ _ _ _) (rgI _ _ _) : gI (sI (sI (sI ρ58 33 8 (iz ((gI ρ58 33 7) + 1))) 33 10 (iz 0)) 33 8 (iz (gI ρ58 33 7))) 33 8 = gI ρ58 33 7); intro i h1 h2; omega) (by have e8 := (gI_iz (hI_at _ _ _ _) (rgI _ _ _) : gI (sI (sI (sI ρ58 33 8 (iz ((gI ρ58 33 7) + 1))) 33 10 (iz 0)) 33 8 (iz (gI ρ58 33 7))) 33 8 = gI ρ58 33 7); have e10 := (gI_iz (sk2t (by decide) (hI_at _ _ _ _)) (by omega) : gI (sI (sI (sI ρ58 33 8 (iz ((gI ρ58 33 7) + 1))) 33 10 (iz 0)) 33 8 (iz (gI ρ58 33 7))) 33 10 = 0); intro h6; rw [dN_z e8]; exact e10) (by have e10 := (gI_iz (sk2t (by decide) (hI_at _ _ _ _)) (by omega) : gI (sI (sI (sI ρ58 33 8 (iz ((gI ρ58 33 7) + 1))) 33 10 (iz 0)) 33 8 (iz (gI ρ58 33 7))) 33 10 = 0); omega) (Fr.rf [(33, 8), (33, 10)] (sI (sI (sI ρ58 33 8 (iz ((gI ρ58 33 7) + 1))) 33 10 (iz 0)) 33 8 (iz (gI ρ58 33 7))))
      · have cut119 : ∀ (mu119 : Nat) (ρ119 : VH), (mu119 = (gI σ 33 3 - gI ρ119 33 8).toNat) → (gI ρ58 33 7 < gI ρ119 33 8 ∧ gI ρ119 33 8 ≤ gI σ 33 3) → (∀ i, gI ρ58 33 7 ≤ i → i < gI ρ119 33 8 → 97 ≤ sg σ i ∧ sg σ i ≤ 122) → (Fr [(33, 8)] (sI ρ58 33 8 (iz ((gI ρ58 33 7) + 1))) ρ119) → Z κ γ 3 ρ119 0 0 (QM κ γ (fun r τ => r = none ∧ (Fr [(33, 7), (33, 8), (33, 9), (33, 10), (33, 11)] σ τ) ∧ (gI σ 33 8 ≤ gI τ 33 7) ∧ (0 ≤ gI τ 33 7 ∧ gI τ 33 7 ≤ gI τ 33 8 ∧ gI τ 33 8 ≤ gI τ 33 3 ∧ gI τ 33 3 ≤ 700 ∧ ((gI τ 33 9 = 0 ∧ gI τ 33 7 = gI τ 33 3) ∨ (gI τ 33 7 < gI τ 33 8 ∧ 1 ≤ gI τ 33 9 ∧ gI τ 33 9 ≤ 5))) ∧ (Nx σ τ)) 0 0) 119 [(0, .ref 33), (1, .int (iz z2))] [] := by
          intro mu119
          induction mu119 using Nat.strongRecOn with
          | ind mu119 ih119 =>
          intro ρ119 hmu119 ff119_0 ff119_1 frρ119
          refine z_aload_n (pc := 119) O dX9_next_119 rfl ?_
          refine z_aload_n (pc := 120) O dX9_next_120 rfl ?_
          refine zi_getv (pc := 121) (gI ρ119 33 8) O fl_X9_228 rfl (jo_33 (frρ119.lay (frρ58.lay J))) (izg ρ119 33 8) dX9_next_121 ?_
          have := rgI ρ119 33 8
          refine z_callV (pc := 124) O cl_X9_234 (k9_sign _ _ (gI ρ119 33 8) (by omega) (frρ119.lay (frρ58.lay J)) (by have : gI ρ119 33 3 = gI σ 33 3 := gI_iz (Fr.it frρ119 rfl (sk2t (by decide) (Fr.it frρ58 rfl (izg σ 33 3)))) (rgI _ _ _); omega) (by omega)) (by decide) (jo_33 (frρ119.lay (frρ58.lay J))) kc_9 rfl rfl (Nat.le_of_ble_eq_true rfl) ⟨Nat.zero_le _, Nat.zero_le _⟩ dX9_next_124 (fun r τ17 hp => ?_)
          obtain ⟨z18, rfl, fτ17_0, fτ17_1, fτ17_2, rfl⟩ := hp
          have : gI ρ119 33 3 = gI σ 33 3 := gI_iz (Fr.it frρ119 rfl (sk2t (by decide) (Fr.it frρ58 rfl (izg σ 33 3)))) (rgI _ _ _)
          have : z18 = sg σ (gI ρ119 33 8) := fτ17_1.trans (sg_fr (((frρ58.mono (V := [(33, 7), (33, 8), (33, 9), (33, 10), (33, 11)]) rfl).pI rfl).tr (frρ119.mono (V := [(33, 7), (33, 8), (33, 9), (33, 10), (33, 11)]) rfl)) (fun _ => rfl) rfl)
          refine z_callS (pc := 127) O cl_X9_241 (k9_isLetter _ _ z18 (by omega)) (by decide) rfl rfl (Nat.le_of_ble_eq_true rfl) ⟨Nat.zero_le _, Nat.zero_le _⟩ dX9_next_127 (fun r τ19 hp => ?_)
          obtain ⟨z20, rfl, fτ19_0, fτ19_1, rfl⟩ := hp
          refine zi_if_eq (pc := 130) (tgt := 146) O dX9_next_130 (by decide) (by omega) (fun h130 => ?_) (fun h130 => ?_)
          · refine z_aload_n (pc := 146) O dX9_next_146 rfl ?_
            refine z_lconst (pc := 147) (v := 0) O dX9_next_147 (by decide) ?_
            refine z_putL (pc := 148) O fl_X9_245 rfl ⟨rfl, rfl⟩ (jo_33 (frρ119.lay (frρ58.lay J))) dX9_next_148 ?_
            refine z_aload_n (pc := 151) O dX9_next_151 rfl ?_
            refine zi_getv (pc := 152) (gI ρ58 33 7) O fl_X9_231 rfl (jo_33 (frρ119.lay (frρ58.lay J))) (skL (Fr.it frρ119 rfl (sk2t (by decide) (izg ρ58 33 7)))) dX9_next_152 ?_
            refine z_istore_n (pc := 155) [(0, .ref 33), (1, .int (iz z2)), (2, .int (iz (gI ρ58 33 7)))] O dX9_next_155 (by decide) rfl ?_
            have cut156 : ∀ (mu156 : Nat) (k : Int) (ρ156 : VH), (mu156 = (gI ρ58 33 7 + 8 - k).toNat) → (-2147483648 ≤ k ∧ k < 2147483648) → (gI ρ58 33 7 ≤ k ∧ k ≤ gI ρ58 33 7 + 8 ∧ k ≤ gI ρ119 33 8) → ((hL ρ156 33 11).toInt = wN (sg σ) (gI ρ58 33 7) (k - gI ρ58 33 7).toNat) → (Fr [(33, 11)] (sL ρ119 33 11 0) ρ156) → Z κ γ 3 ρ156 0 0 (QM κ γ (fun r τ => r = none ∧ (Fr [(33, 7), (33, 8), (33, 9), (33, 10), (33, 11)] σ τ) ∧ (gI σ 33 8 ≤ gI τ 33 7) ∧ (0 ≤ gI τ 33 7 ∧ gI τ 33 7 ≤ gI τ 33 8 ∧ gI τ 33 8 ≤ gI τ 33 3 ∧ gI τ 33 3 ≤ 700 ∧ ((gI τ 33 9 = 0 ∧ gI τ 33 7 = gI τ 33 3) ∨ (gI τ 33 7 < gI τ 33 8 ∧ 1 ≤ gI τ 33 9 ∧ gI τ 33 9 ≤ 5))) ∧ (Nx σ τ)) 0 0) 156 [(0, .ref 33), (1, .int (iz z2)), (2, .int (iz k))] [] := by
              intro mu156
              induction mu156 using Nat.strongRecOn with
              | ind mu156 ih156 =>
              intro k ρ156 hmu156 rr156_0 ff156_0 ff156_1 frρ156
              refine z_iload_n (pc := 156) O dX9_next_156 rfl ?_
              refine z_aload_n (pc := 157) O dX9_next_157 rfl ?_
              refine zi_getv (pc := 158) (gI ρ119 33 8) O fl_X9_228 rfl (jo_33 (frρ156.lay (frρ119.lay (frρ58.lay J)))) (Fr.it frρ156 rfl (skL (izg ρ119 33 8))) dX9_next_158 ?_
              refine zi_icmp_ge (pc := 161) (tgt := 199) O dX9_next_161 (by decide) (by omega) (by omega) (fun h161 => ?_) (fun h161 => ?_)
              · refine z_aload_n (pc := 199) O dX9_next_199 rfl ?_
                refine z_aload_n (pc := 200) O dX9_next_200 rfl ?_
                refine zi_getv (pc := 201) (gI ρ119 33 8) O fl_X9_228 rfl (jo_33 (frρ156.lay (frρ119.lay (frρ58.lay J)))) (Fr.it frρ156 rfl (skL (izg ρ119 33 8))) dX9_next_201 ?_
                refine z_aload_n (pc := 204) O dX9_next_204 rfl ?_
                refine zi_getv (pc := 205) (gI ρ58 33 7) O fl_X9_231 rfl (jo_33 (frρ156.lay (frρ119.lay (frρ58.lay J)))) (Fr.it frρ156 rfl (skL (Fr.it frρ119 rfl (sk2t (by decide) (izg ρ58 33 7))))) dX9_next_205 ?_
                refine zi_isub (pc := 208) O dX9_next_208 ?_
                refine z_bipush (pc := 209) (v := iz (8)) O dX9_next_209 (by decide) ?_
                refine zi_icmp_le (pc := 211) (tgt := 218) O dX9_next_211 (by decide) (by omega) (by decide) (fun h211 => ?_) (fun h211 => ?_)
                · refine z_aload_n (pc := 218) O dX9_next_218 rfl ?_
                  refine zi_getLv (pc := 219) (hL ρ156 33 11) O fl_X9_245 rfl (jo_33 (frρ156.lay (frρ119.lay (frρ58.lay J)))) rfl dX9_next_219 ?_
                  refine z_callS (pc := 222) O cl_X9_249 (k9_isKept3 _ _ (hL ρ156 33 11)) (by decide) rfl rfl (Nat.le_of_ble_eq_true rfl) ⟨Nat.zero_le _, Nat.zero_le _⟩ dX9_next_222 (fun r τ21 hp => ?_)
                  obtain ⟨z22, rfl, fτ21_0, fτ21_1, rfl⟩ := hp
                  refine zi_if_eq (pc := 225) (tgt := 232) O dX9_next_225 (by decide) (by omega) (fun h225 => ?_) (fun h225 => ?_)
                  · refine z_iconst (pc := 232) (v := iz (2)) O dX9_next_232 (by decide) ?_
                    refine z_putI (pc := 233) O fl_X9_238 rfl ⟨rfl, rfl⟩ (jo_33 (frρ156.lay (frρ119.lay (frρ58.lay J)))) dX9_next_233 ?_
                    refine z_goto (pc := 236) (tgt := 408) O dX9_next_236 (by decide) ?_
                    refine z_vret (pc := 408) O dX9_next_408 ?_
                    have KE : k = gI ρ119 33 8 := by omega
                    have NX9 : Nx σ (sI ρ156 33 9 (iz 2)) := Nx.word ff58_1 (gI_iz (sk2t (by decide) (Fr.it frρ156 rfl (skL (Fr.it frρ119 rfl (sk2t (by decide) (izg ρ58 33 7)))))) (rgI _ _ _) : gI (sI ρ156 33 9 (iz 2)) 33 7 = gI ρ58 33 7) (gI_iz (sk2t (by decide) (Fr.it frρ156 rfl (skL (izg ρ119 33 8)))) (rgI _ _ _) : gI (sI ρ156 33 9 (iz 2)) 33 8 = gI ρ119 33 8) (by omega) (by omega) ⟨by omega, ff119_1, by omega⟩ (by omega) (by show (hL ρ156 33 11).toInt = _; rw [← KE]; exact ff156_1) (by rw [← KE, ← ff156_1]; exact Or.inr ⟨(gI_iz (hI_at _ _ _ _) (by omega) : gI (sI ρ156 33 9 (iz 2)) 33 9 = 2), (fτ21_1.resolve_left (fun q => absurd q.1 (by omega))).2⟩)
                    exact ⟨rfl, ((((((frρ58.mono (V := [(33, 7), (33, 8), (33, 9), (33, 10), (33, 11)]) rfl).pI rfl).tr (frρ119.mono (V := [(33, 7), (33, 8), (33, 9), (33, 10), (33, 11)]) rfl)).pL rfl).tr (frρ156.mono (V := [(33, 7), (33, 8), (33, 9), (33, 10), (33, 11)]) rfl)).pI rfl), (by have : gI (sI ρ156 33 9 (iz 2)) 33 7 = gI ρ58 33 7 := gI_iz (sk2t (by decide) (Fr.it frρ156 rfl (skL (Fr.it frρ119 rfl (sk2t (by decide) (izg ρ58 33 7)))))) (rgI _ _ _); omega), (by have : gI (sI ρ156 33 9 (iz 2)) 33 7 = gI ρ58 33 7 := gI_iz (sk2t (by decide) (Fr.it frρ156 rfl (skL (Fr.it frρ119 rfl (sk2t (by decide) (izg ρ58 33 7)))))) (rgI _ _ _); have : gI (sI ρ156 33 9 (iz 2)) 33 8 = gI ρ119 33 8 := gI_iz (sk2t (by decide) (Fr.it frρ156 rfl (skL (izg ρ119 33 8)))) (rgI _ _ _); have : gI (sI ρ156 33 9 (iz 2)) 33 3 = gI σ 33 3 := gI_iz (sk2t (by decide) (Fr.it frρ156 rfl (skL (Fr.it frρ119 rfl (sk2t (by decide) (Fr.it frρ58 rfl (izg σ 33 3))))))) (rgI _ _ _); have : gI (sI ρ156 33 9 (iz 2)) 33 9 = 2 := gI_iz (hI_at _ _ _ _) (by omega); omega), NX9⟩
                  · refine z_iconst (pc := 228) (v := iz (3)) O dX9_next_228 (by decide) ?_
                    refine z_goto (pc := 229) (tgt := 233) O dX9_next_229 (by decide) ?_
                    refine z_putI (pc := 233) O fl_X9_238 rfl ⟨rfl, rfl⟩ (jo_33 (frρ156.lay (frρ119.lay (frρ58.lay J)))) dX9_next_233 ?_
                    refine z_goto (pc := 236) (tgt := 408) O dX9_next_236 (by decide) ?_
                    refine z_vret (pc := 408) O dX9_next_408 ?_
                    have KE : k = gI ρ119 33 8 := by omega
                    have NX9 : Nx σ (sI ρ156 33 9 (iz 3)) := Nx.word ff58_1 (gI_iz (sk2t (by decide) (Fr.it frρ156 rfl (skL (Fr.it frρ119 rfl (sk2t (by decide) (izg ρ58 33 7)))))) (rgI _ _ _) : gI (sI ρ156 33 9 (iz 3)) 33 7 = gI ρ58 33 7) (gI_iz (sk2t (by decide) (Fr.it frρ156 rfl (skL (izg ρ119 33 8)))) (rgI _ _ _) : gI (sI ρ156 33 9 (iz 3)) 33 8 = gI ρ119 33 8) (by omega) (by omega) ⟨by omega, ff119_1, by omega⟩ (by omega) (by show (hL ρ156 33 11).toInt = _; rw [← KE]; exact ff156_1) (by rw [← KE, ← ff156_1]; exact Or.inl ⟨(gI_iz (hI_at _ _ _ _) (by omega) : gI (sI ρ156 33 9 (iz 3)) 33 9 = 3), (fτ21_1.resolve_right (fun q => absurd q.1 (by omega))).2⟩)
                    exact ⟨rfl, ((((((frρ58.mono (V := [(33, 7), (33, 8), (33, 9), (33, 10), (33, 11)]) rfl).pI rfl).tr (frρ119.mono (V := [(33, 7), (33, 8), (33, 9), (33, 10), (33, 11)]) rfl)).pL rfl).tr (frρ156.mono (V := [(33, 7), (33, 8), (33, 9), (33, 10), (33, 11)]) rfl)).pI rfl), (by have : gI (sI ρ156 33 9 (iz 3)) 33 7 = gI ρ58 33 7 := gI_iz (sk2t (by decide) (Fr.it frρ156 rfl (skL (Fr.it frρ119 rfl (sk2t (by decide) (izg ρ58 33 7)))))) (rgI _ _ _); omega), (by have : gI (sI ρ156 33 9 (iz 3)) 33 7 = gI ρ58 33 7 := gI_iz (sk2t (by decide) (Fr.it frρ156 rfl (skL (Fr.it frρ119 rfl (sk2t (by decide) (izg ρ58 33 7)))))) (rgI _ _ _); have : gI (sI ρ156 33 9 (iz 3)) 33 8 = gI ρ119 33 8 := gI_iz (sk2t (by decide) (Fr.it frρ156 rfl (skL (izg ρ119 33 8)))) (rgI _ _ _); have : gI (sI ρ156 33 9 (iz 3)) 33 3 = gI σ 33 3 := gI_iz (sk2t (by decide) (Fr.it frρ156 rfl (skL (Fr.it frρ119 rfl (sk2t (by decide) (Fr.it frρ58 rfl (izg σ 33 3))))))) (rgI _ _ _); have : gI (sI ρ156 33 9 (iz 3)) 33 9 = 3 := gI_iz (hI_at _ _ _ _) (by omega); omega), NX9⟩
                · refine z_iconst (pc := 214) (v := iz (1)) O dX9_next_214 (by decide) ?_
                  refine z_goto (pc := 215) (tgt := 233) O dX9_next_215 (by decide) ?_
                  refine z_putI (pc := 233) O fl_X9_238 rfl ⟨rfl, rfl⟩ (jo_33 (frρ156.lay (frρ119.lay (frρ58.lay J)))) dX9_next_233 ?_
                  refine z_goto (pc := 236) (tgt := 408) O dX9_next_236 (by decide) ?_
                  refine z_vret (pc := 408) O dX9_next_408 ?_
                  have NX9 : Nx σ (sI ρ156 33 9 (iz 1)) := Nx.long ff58_1 (gI_iz (sk2t (by decide) (Fr.it frρ156 rfl (skL (Fr.it frρ119 rfl (sk2t (by decide) (izg ρ58 33 7)))))) (rgI _ _ _) : gI (sI ρ156 33 9 (iz 1)) 33 7 = gI ρ58 33 7) (gI_iz (sk2t (by decide) (Fr.it frρ156 rfl (skL (izg ρ119 33 8)))) (rgI _ _ _) : gI (sI ρ156 33 9 (iz 1)) 33 8 = gI ρ119 33 8) (by omega) (by omega) ⟨by omega, ff119_1, by omega⟩ (by omega) (gI_iz (hI_at _ _ _ _) (by omega) : gI (sI ρ156 33 9 (iz 1)) 33 9 = 1)
                  exact ⟨rfl, ((((((frρ58.mono (V := [(33, 7), (33, 8), (33, 9), (33, 10), (33, 11)]) rfl).pI rfl).tr (frρ119.mono (V := [(33, 7), (33, 8), (33, 9), (33, 10), (33, 11)]) rfl)).pL rfl).tr (frρ156.mono (V := [(33, 7), (33, 8), (33, 9), (33, 10), (33, 11)]) rfl)).pI rfl), (by have : gI (sI ρ156 33 9 (iz 1)) 33 7 = gI ρ58 33 7 := gI_iz (sk2t (by decide) (Fr.it frρ156 rfl (skL (Fr.it frρ119 rfl (sk2t (by decide) (izg ρ58 33 7)))))) (rgI _ _ _); omega), (by have : gI (sI ρ156 33 9 (iz 1)) 33 7 = gI ρ58 33 7 := gI_iz (sk2t (by decide) (Fr.it frρ156 rfl (skL (Fr.it frρ119 rfl (sk2t (by decide) (izg ρ58 33 7)))))) (rgI _ _ _); have : gI (sI ρ156 33 9 (iz 1)) 33 8 = gI ρ119 33 8 := gI_iz (sk2t (by decide) (Fr.it frρ156 rfl (skL (izg ρ119 33 8)))) (rgI _ _ _); have : gI (sI ρ156 33 9 (iz 1)) 33 3 = gI σ 33 3 := gI_iz (sk2t (by decide) (Fr.it frρ156 rfl (skL (Fr.it frρ119 rfl (sk2t (by decide) (Fr.it frρ58 rfl (izg σ 33 3))))))) (rgI _ _ _); have : gI (sI ρ156 33 9 (iz 1)) 33 9 = 1 := gI_iz (hI_at _ _ _ _) (by omega); omega), NX9⟩
              · refine z_iload_n (pc := 164) O dX9_next_164 rfl ?_
                refine z_aload_n (pc := 165) O dX9_next_165 rfl ?_
                refine zi_getv (pc := 166) (gI ρ58 33 7) O fl_X9_231 rfl (jo_33 (frρ156.lay (frρ119.lay (frρ58.lay J)))) (Fr.it frρ156 rfl (skL (Fr.it frρ119 rfl (sk2t (by decide) (izg ρ58 33 7))))) dX9_next_166 ?_
                refine z_bipush (pc := 169) (v := iz (8)) O dX9_next_169 (by decide) ?_
                refine zi_iadd (pc := 171) O dX9_next_171 ?_
                refine zi_icmp_ge (pc := 172) (tgt := 199) O dX9_next_172 (by decide) (by omega) (by omega) (fun h172 => ?_) (fun h172 => ?_)
                · refine z_aload_n (pc := 199) O dX9_next_199 rfl ?_
                  refine z_aload_n (pc := 200) O dX9_next_200 rfl ?_
                  refine zi_getv (pc := 201) (gI ρ119 33 8) O fl_X9_228 rfl (jo_33 (frρ156.lay (frρ119.lay (frρ58.lay J)))) (Fr.it frρ156 rfl (skL (izg ρ119 33 8))) dX9_next_201 ?_
                  refine z_aload_n (pc := 204) O dX9_next_204 rfl ?_
                  refine zi_getv (pc := 205) (gI ρ58 33 7) O fl_X9_231 rfl (jo_33 (frρ156.lay (frρ119.lay (frρ58.lay J)))) (Fr.it frρ156 rfl (skL (Fr.it frρ119 rfl (sk2t (by decide) (izg ρ58 33 7))))) dX9_next_205 ?_
                  refine zi_isub (pc := 208) O dX9_next_208 ?_
                  refine z_bipush (pc := 209) (v := iz (8)) O dX9_next_209 (by decide) ?_
                  refine zi_icmp_le (pc := 211) (tgt := 218) O dX9_next_211 (by decide) (by omega) (by decide) (fun h211 => ?_) (fun h211 => ?_)
                  · refine z_aload_n (pc := 218) O dX9_next_218 rfl ?_
                    refine zi_getLv (pc := 219) (hL ρ156 33 11) O fl_X9_245 rfl (jo_33 (frρ156.lay (frρ119.lay (frρ58.lay J)))) rfl dX9_next_219 ?_
                    refine z_callS (pc := 222) O cl_X9_249 (k9_isKept3 _ _ (hL ρ156 33 11)) (by decide) rfl rfl (Nat.le_of_ble_eq_true rfl) ⟨Nat.zero_le _, Nat.zero_le _⟩ dX9_next_222 (fun r τ23 hp => ?_)
                    obtain ⟨z24, rfl, fτ23_0, fτ23_1, rfl⟩ := hp
                    refine zi_if_eq (pc := 225) (tgt := 232) O dX9_next_225 (by decide) (by omega) (fun h225 => ?_) (fun h225 => ?_)
                    · refine z_iconst (pc := 232) (v := iz (2)) O dX9_next_232 (by decide) ?_
                      refine z_putI (pc := 233) O fl_X9_238 rfl ⟨rfl, rfl⟩ (jo_33 (frρ156.lay (frρ119.lay (frρ58.lay J)))) dX9_next_233 ?_
                      refine z_goto (pc := 236) (tgt := 408) O dX9_next_236 (by decide) ?_
                      refine z_vret (pc := 408) O dX9_next_408 ?_
                      have KE : k = gI ρ119 33 8 := by omega
                      have NX9 : Nx σ (sI ρ156 33 9 (iz 2)) := Nx.word ff58_1 (gI_iz (sk2t (by decide) (Fr.it frρ156 rfl (skL (Fr.it frρ119 rfl (sk2t (by decide) (izg ρ58 33 7)))))) (rgI _ _ _) : gI (sI ρ156 33 9 (iz 2)) 33 7 = gI ρ58 33 7) (gI_iz (sk2t (by decide) (Fr.it frρ156 rfl (skL (izg ρ119 33 8)))) (rgI _ _ _) : gI (sI ρ156 33 9 (iz 2)) 33 8 = gI ρ119 33 8) (by omega) (by omega) ⟨by omega, ff119_1, by omega⟩ (by omega) (by show (hL ρ156 33 11).toInt = _; rw [← KE]; exact ff156_1) (by rw [← KE, ← ff156_1]; exact Or.inr ⟨(gI_iz (hI_at _ _ _ _) (by omega) : gI (sI ρ156 33 9 (iz 2)) 33 9 = 2), (fτ23_1.resolve_left (fun q => absurd q.1 (by omega))).2⟩)
                      exact ⟨rfl, ((((((frρ58.mono (V := [(33, 7), (33, 8), (33, 9), (33, 10), (33, 11)]) rfl).pI rfl).tr (frρ119.mono (V := [(33, 7), (33, 8), (33, 9), (33, 10), (33, 11)]) rfl)).pL rfl).tr (frρ156.mono (V := [(33, 7), (33, 8), (33, 9), (33, 10), (33, 11)]) rfl)).pI rfl), (by have : gI (sI ρ156 33 9 (iz 2)) 33 7 = gI ρ58 33 7 := gI_iz (sk2t (by decide) (Fr.it frρ156 rfl (skL (Fr.it frρ119 rfl (sk2t (by decide) (izg ρ58 33 7)))))) (rgI _ _ _); omega), (by have : gI (sI ρ156 33 9 (iz 2)) 33 7 = gI ρ58 33 7 := gI_iz (sk2t (by decide) (Fr.it frρ156 rfl (skL (Fr.it frρ119 rfl (sk2t (by decide) (izg ρ58 33 7)))))) (rgI _ _ _); have : gI (sI ρ156 33 9 (iz 2)) 33 8 = gI ρ119 33 8 := gI_iz (sk2t (by decide) (Fr.it frρ156 rfl (skL (izg ρ119 33 8)))) (rgI _ _ _); have : gI (sI ρ156 33 9 (iz 2)) 33 3 = gI σ 33 3 := gI_iz (sk2t (by decide) (Fr.it frρ156 rfl (skL (Fr.it frρ119 rfl (sk2t (by decide) (Fr.it frρ58 rfl (izg σ 33 3))))))) (rgI _ _ _); have : gI (sI ρ156 33 9 (iz 2)) 33 9 = 2 := gI_iz (hI_at _ _ _ _) (by omega); omega), NX9⟩
                    · refine z_iconst (pc := 228) (v := iz (3)) O dX9_next_228 (by decide) ?_
                      refine z_goto (pc := 229) (tgt := 233) O dX9_next_229 (by decide) ?_
                      refine z_putI (pc := 233) O fl_X9_238 rfl ⟨rfl, rfl⟩ (jo_33 (frρ156.lay (frρ119.lay (frρ58.lay J)))) dX9_next_233 ?_
                      refine z_goto (pc := 236) (tgt := 408) O dX9_next_236 (by decide) ?_
                      refine z_vret (pc := 408) O dX9_next_408 ?_
                      have KE : k = gI ρ119 33 8 := by omega
                      have NX9 : Nx σ (sI ρ156 33 9 (iz 3)) := Nx.word ff58_1 (gI_iz (sk2t (by decide) (Fr.it frρ156 rfl (skL (Fr.it frρ119 rfl (sk2t (by decide) (izg ρ58 33 7)))))) (rgI _ _ _) : gI (sI ρ156 33 9 (iz 3)) 33 7 = gI ρ58 33 7) (gI_iz (sk2t (by decide) (Fr.it frρ156 rfl (skL (izg ρ119 33 8)))) (rgI _ _ _) : gI (sI ρ156 33 9 (iz 3)) 33 8 = gI ρ119 33 8) (by omega) (by omega) ⟨by omega, ff119_1, by omega⟩ (by omega) (by show (hL ρ156 33 11).toInt = _; rw [← KE]; exact ff156_1) (by rw [← KE, ← ff156_1]; exact Or.inl ⟨(gI_iz (hI_at _ _ _ _) (by omega) : gI (sI ρ156 33 9 (iz 3)) 33 9 = 3), (fτ23_1.resolve_right (fun q => absurd q.1 (by omega))).2⟩)
                      exact ⟨rfl, ((((((frρ58.mono (V := [(33, 7), (33, 8), (33, 9), (33, 10), (33, 11)]) rfl).pI rfl).tr (frρ119.mono (V := [(33, 7), (33, 8), (33, 9), (33, 10), (33, 11)]) rfl)).pL rfl).tr (frρ156.mono (V := [(33, 7), (33, 8), (33, 9), (33, 10), (33, 11)]) rfl)).pI rfl), (by have : gI (sI ρ156 33 9 (iz 3)) 33 7 = gI ρ58 33 7 := gI_iz (sk2t (by decide) (Fr.it frρ156 rfl (skL (Fr.it frρ119 rfl (sk2t (by decide) (izg ρ58 33 7)))))) (rgI _ _ _); omega), (by have : gI (sI ρ156 33 9 (iz 3)) 33 7 = gI ρ58 33 7 := gI_iz (sk2t (by decide) (Fr.it frρ156 rfl (skL (Fr.it frρ119 rfl (sk2t (by decide) (izg ρ58 33 7)))))) (rgI _ _ _); have : gI (sI ρ156 33 9 (iz 3)) 33 8 = gI ρ119 33 8 := gI_iz (sk2t (by decide) (Fr.it frρ156 rfl (skL (izg ρ119 33 8)))) (rgI _ _ _); have : gI (sI ρ156 33 9 (iz 3)) 33 3 = gI σ 33 3 := gI_iz (sk2t (by decide) (Fr.it frρ156 rfl (skL (Fr.it frρ119 rfl (sk2t (by decide) (Fr.it frρ58 rfl (izg σ 33 3))))))) (rgI _ _ _); have : gI (sI ρ156 33 9 (iz 3)) 33 9 = 3 := gI_iz (hI_at _ _ _ _) (by omega); omega), NX9⟩
                  · refine z_iconst (pc := 214) (v := iz (1)) O dX9_next_214 (by decide) ?_
                    refine z_goto (pc := 215) (tgt := 233) O dX9_next_215 (by decide) ?_
                    refine z_putI (pc := 233) O fl_X9_238 rfl ⟨rfl, rfl⟩ (jo_33 (frρ156.lay (frρ119.lay (frρ58.lay J)))) dX9_next_233 ?_
                    refine z_goto (pc := 236) (tgt := 408) O dX9_next_236 (by decide) ?_
                    refine z_vret (pc := 408) O dX9_next_408 ?_
                    have NX9 : Nx σ (sI ρ156 33 9 (iz 1)) := Nx.long ff58_1 (gI_iz (sk2t (by decide) (Fr.it frρ156 rfl (skL (Fr.it frρ119 rfl (sk2t (by decide) (izg ρ58 33 7)))))) (rgI _ _ _) : gI (sI ρ156 33 9 (iz 1)) 33 7 = gI ρ58 33 7) (gI_iz (sk2t (by decide) (Fr.it frρ156 rfl (skL (izg ρ119 33 8)))) (rgI _ _ _) : gI (sI ρ156 33 9 (iz 1)) 33 8 = gI ρ119 33 8) (by omega) (by omega) ⟨by omega, ff119_1, by omega⟩ (by omega) (gI_iz (hI_at _ _ _ _) (by omega) : gI (sI ρ156 33 9 (iz 1)) 33 9 = 1)
                    exact ⟨rfl, ((((((frρ58.mono (V := [(33, 7), (33, 8), (33, 9), (33, 10), (33, 11)]) rfl).pI rfl).tr (frρ119.mono (V := [(33, 7), (33, 8), (33, 9), (33, 10), (33, 11)]) rfl)).pL rfl).tr (frρ156.mono (V := [(33, 7), (33, 8), (33, 9), (33, 10), (33, 11)]) rfl)).pI rfl), (by have : gI (sI ρ156 33 9 (iz 1)) 33 7 = gI ρ58 33 7 := gI_iz (sk2t (by decide) (Fr.it frρ156 rfl (skL (Fr.it frρ119 rfl (sk2t (by decide) (izg ρ58 33 7)))))) (rgI _ _ _); omega), (by have : gI (sI ρ156 33 9 (iz 1)) 33 7 = gI ρ58 33 7 := gI_iz (sk2t (by decide) (Fr.it frρ156 rfl (skL (Fr.it frρ119 rfl (sk2t (by decide) (izg ρ58 33 7)))))) (rgI _ _ _); have : gI (sI ρ156 33 9 (iz 1)) 33 8 = gI ρ119 33 8 := gI_iz (sk2t (by decide) (Fr.it frρ156 rfl (skL (izg ρ119 33 8)))) (rgI _ _ _); have : gI (sI ρ156 33 9 (iz 1)) 33 3 = gI σ 33 3 := gI_iz (sk2t (by decide) (Fr.it frρ156 rfl (skL (Fr.it frρ119 rfl (sk2t (by decide) (Fr.it frρ58 rfl (izg σ 33 3))))))) (rgI _ _ _); have : gI (sI ρ156 33 9 (iz 1)) 33 9 = 1 := gI_iz (hI_at _ _ _ _) (by omega); omega), NX9⟩
                · refine z_aload_n (pc := 175) O dX9_next_175 rfl ?_
                  refine z_aload_n (pc := 176) O dX9_next_176 rfl ?_
                  refine zi_getLv (pc := 177) (hL ρ156 33 11) O fl_X9_245 rfl (jo_33 (frρ156.lay (frρ119.lay (frρ58.lay J)))) rfl dX9_next_177 ?_
                  refine z_bipush (pc := 180) (v := iz (8)) O dX9_next_180 (by decide) ?_
                  refine z_lshl (pc := 182) O dX9_next_182 ?_
                  refine z_topl (pc := 183) (fun w25 ew25 => ?_)
                  refine z_aload_n (pc := 183) O dX9_next_183 rfl ?_
                  refine z_iload_n (pc := 184) O dX9_next_184 rfl ?_
                  refine z_callV (pc := 185) O cl_X9_234 (k9_sign _ _ k (by omega) (frρ156.lay (frρ119.lay (frρ58.lay J))) (by have : gI ρ156 33 3 = gI σ 33 3 := gI_iz (Fr.it frρ156 rfl (skL (Fr.it frρ119 rfl (sk2t (by decide) (Fr.it frρ58 rfl (izg σ 33 3)))))) (rgI _ _ _); omega) (by omega)) (by decide) (jo_33 (frρ156.lay (frρ119.lay (frρ58.lay J)))) kc_9 rfl rfl (Nat.le_of_ble_eq_true rfl) ⟨Nat.zero_le _, Nat.zero_le _⟩ dX9_next_185 (fun r τ26 hp => ?_)
                  obtain ⟨z27, rfl, fτ26_0, fτ26_1, fτ26_2, rfl⟩ := hp
                  have : gI ρ156 33 3 = gI σ 33 3 := gI_iz (Fr.it frρ156 rfl (skL (Fr.it frρ119 rfl (sk2t (by decide) (Fr.it frρ58 rfl (izg σ 33 3)))))) (rgI _ _ _)
                  have : z27 = sg σ k := fτ26_1.trans (sg_fr (((((frρ58.mono (V := [(33, 7), (33, 8), (33, 9), (33, 10), (33, 11)]) rfl).pI rfl).tr (frρ119.mono (V := [(33, 7), (33, 8), (33, 9), (33, 10), (33, 11)]) rfl)).pL rfl).tr (frρ156.mono (V := [(33, 7), (33, 8), (33, 9), (33, 10), (33, 11)]) rfl)) (fun _ => rfl) rfl)
                  have : 0 ≤ sg σ k ∧ sg σ k ≤ 255 := sx_rg (hI σ 35) (gI σ 33 3) _
                  refine z_i2l (pc := 188) O dX9_next_188 ?_
                  refine z_topl (pc := 189) (fun w28 ew28 => ?_)
                  refine z_lor (pc := 189) O dX9_next_189 ?_
                  refine z_topl (pc := 190) (fun w29 ew29 => ?_)
                  refine z_putL (pc := 190) O fl_X9_245 rfl ⟨rfl, rfl⟩ (jo_33 (frρ156.lay (frρ119.lay (frρ58.lay J)))) dX9_next_190 ?_
                  refine zi_iinc (pc := 193) (k + 1) [(0, .ref 33), (1, .int (iz z2)), (2, .int (iz (k + 1)))] O dX9_next_193 rfl (by omega) (by decide) rfl ?_
                  refine z_goto (pc := 196) (tgt := 156) O dX9_next_196 (by decide) ?_
                  refine z_lk [(0, .ref 33), (1, .int (iz z2)), (2, .int (iz (k + 1)))] ⟨rfl, rfl, rfl, trivial⟩ ?_
                  exact ih156 _ (by omega) (k + 1) (sL ρ156 33 11 w29) rfl (by omega) (by omega) (by show (hL (sL ρ156 33 11 w29) 33 11).toInt = _; rw [hL_sL, if_pos ⟨rfl, rfl⟩, ew29, ew25, ew28, wN_s (k := k) (by omega) rfl, ← ((fτ26_1.trans (sg_fr (((((frρ58.mono (V := [(33, 7), (33, 8), (33, 9), (33, 10), (33, 11)]) rfl).pI rfl).tr (frρ119.mono (V := [(33, 7), (33, 8), (33, 9), (33, 10), (33, 11)]) rfl)).pL rfl).tr (frρ156.mono (V := [(33, 7), (33, 8), (33, 9), (33, 10), (33, 11)]) rfl)) (fun _ => rfl) rfl)))]; exact wstep ff156_1 (wN_lt (fun i hi => ff119_1 _ (by omega) (by omega)) (by omega)) (by omega)) (frρ156.pL rfl)
            refine z_lk [(0, .ref 33), (1, .int (iz z2)), (2, .int (iz (gI ρ58 33 7)))] ⟨rfl, rfl, rfl, trivial⟩ ?_
            exact cut156 _ (gI ρ58 33 7) (sL ρ119 33 11 0) rfl (by omega) (by omega) (by rw [wN_z rfl]; rfl) (Fr.rf [(33, 11)] (sL ρ119 33 11 0))
          · refine z_aload_n (pc := 133) O dX9_next_133 rfl ?_
            refine z_dup (pc := 134) O dX9_next_134 rfl ?_
            refine zi_getv (pc := 135) (gI ρ119 33 8) O fl_X9_228 rfl (jo_33 (frρ119.lay (frρ58.lay J))) (izg ρ119 33 8) dX9_next_135 ?_
            refine z_iconst (pc := 138) (v := iz (1)) O dX9_next_138 (by decide) ?_
            refine zi_iadd (pc := 139) O dX9_next_139 ?_
            refine z_putI (pc := 140) O fl_X9_228 rfl ⟨rfl, rfl⟩ (jo_33 (frρ119.lay (frρ58.lay J))) dX9_next_140 ?_
            refine z_goto (pc := 143) (tgt := 119) O dX9_next_143 (by decide) ?_
            refine z_lk [(0, .ref 33), (1, .int (iz z2))] ⟨rfl, rfl, trivial⟩ ?_
            exact ih119 _ (by have : gI (sI ρ119 33 8 (iz ((gI ρ119 33 8) + 1))) 33 8 = (gI ρ119 33 8) + 1 := gI_iz (hI_at _ _ _ _) (by omega); omega) (sI ρ119 33 8 (iz ((gI ρ119 33 8) + 1))) rfl (by have : gI (sI ρ119 33 8 (iz ((gI ρ119 33 8) + 1))) 33 8 = (gI ρ119 33 8) + 1 := gI_iz (hI_at _ _ _ _) (by omega); omega) (all_snoc ff119_1 (gI_iz (hI_at _ _ _ _) (by omega) : gI (sI ρ119 33 8 (iz ((gI ρ119 33 8) + 1))) 33 8 = (gI ρ119 33 8) + 1) (by omega)) (frρ119.pI rfl)
        refine z_lk [(0, .ref 33), (1, .int (iz z2))] ⟨rfl, rfl, trivial⟩ ?_
        exact cut119 _ (sI ρ58 33 8 (iz ((gI ρ58 33 7) + 1))) rfl (by have : gI (sI ρ58 33 8 (iz ((gI ρ58 33 7) + 1))) 33 8 = (gI ρ58 33 7) + 1 := gI_iz (hI_at _ _ _ _) (by omega); omega) (by have e8 := (gI_iz (hI_at _ _ _ _) (by omega) : gI (sI ρ58 33 8 (iz ((gI ρ58 33 7) + 1))) 33 8 = (gI ρ58 33 7) + 1); intro i h1 h2; have ei : i = gI ρ58 33 7 := (by omega); rw [ei]; omega) (Fr.rf [(33, 8)] (sI ρ58 33 8 (iz ((gI ρ58 33 7) + 1))))
    · refine z_aload_n (pc := 88) O dX9_next_88 rfl ?_
      refine z_iconst (pc := 89) (v := iz (0)) O dX9_next_89 (by decide) ?_
      refine z_putI (pc := 90) O fl_X9_238 rfl ⟨rfl, rfl⟩ (jo_33 (frρ58.lay J)) dX9_next_90 ?_
      refine z_aload_n (pc := 93) O dX9_next_93 rfl ?_
      refine z_aload_n (pc := 94) O dX9_next_94 rfl ?_
      refine zi_getv (pc := 95) (gI σ 33 3) O fl_X9_176 rfl (jo_33 (frρ58.lay J)) (sk2t (by decide) (sk2t (by decide) (Fr.it frρ58 rfl (izg σ 33 3)))) dX9_next_95 ?_
      refine z_putI (pc := 98) O fl_X9_231 rfl ⟨rfl, rfl⟩ (jo_33 (frρ58.lay J)) dX9_next_98 ?_
      refine z_aload_n (pc := 101) O dX9_next_101 rfl ?_
      refine z_aload_n (pc := 102) O dX9_next_102 rfl ?_
      refine zi_getv (pc := 103) (gI σ 33 3) O fl_X9_176 rfl (jo_33 (frρ58.lay J)) (sk2t (by decide) (sk2t (by decide) (sk2t (by decide) (Fr.it frρ58 rfl (izg σ 33 3))))) dX9_next_103 ?_
      refine z_putI (pc := 106) O fl_X9_228 rfl ⟨rfl, rfl⟩ (jo_33 (frρ58.lay J)) dX9_next_106 ?_
      refine z_goto (pc := 109) (tgt := 408) O dX9_next_109 (by decide) ?_
      refine z_vret (pc := 408) O dX9_next_408 ?_
      have NX9 : Nx σ (sI (sI (sI (sI ρ58 33 8 (iz ((gI ρ58 33 7) + 1))) 33 9 (iz 0)) 33 7 (iz (gI σ 33 3))) 33 8 (iz (gI σ 33 3))) := Nx.end ff58_1 (by omega) (gI_iz (sk2t (by decide) (hI_at _ _ _ _)) (rgI _ _ _) : gI (sI (sI (sI (sI ρ58 33 8 (iz ((gI ρ58 33 7) + 1))) 33 9 (iz 0)) 33 7 (iz (gI σ 33 3))) 33 8 (iz (gI σ 33 3))) 33 7 = gI σ 33 3) (gI_iz (hI_at _ _ _ _) (rgI _ _ _) : gI (sI (sI (sI (sI ρ58 33 8 (iz ((gI ρ58 33 7) + 1))) 33 9 (iz 0)) 33 7 (iz (gI σ 33 3))) 33 8 (iz (gI σ 33 3))) 33 8 = gI σ 33 3) (gI_iz (sk2t (by decide) (sk2t (by decide) (hI_at _ _ _ _))) (by omega) : gI (sI (sI (sI (sI ρ58 33 8 (iz ((gI ρ58 33 7) + 1))) 33 9 (iz 0)) 33 7 (iz (gI σ 33 3))) 33 8 (iz (gI σ 33 3))) 33 9 = 0)
      exact ⟨rfl, (((((frρ58.mono (V := [(33, 7), (33, 8), (33, 9), (33, 10), (33, 11)]) rfl).pI rfl).pI rfl).pI rfl).pI rfl), (by have : gI (sI (sI (sI (sI ρ58 33 8 (iz ((gI ρ58 33 7) + 1))) 33 9 (iz 0)) 33 7 (iz (gI σ 33 3))) 33 8 (iz (gI σ 33 3))) 33 7 = gI σ 33 3 := gI_iz (sk2t (by decide) (hI_at _ _ _ _)) (rgI _ _ _); omega), (by have : gI (sI (sI (sI (sI ρ58 33 8 (iz ((gI ρ58 33 7) + 1))) 33 9 (iz 0)) 33 7 (iz (gI σ 33 3))) 33 8 (iz (gI σ 33 3))) 33 7 = gI σ 33 3 := gI_iz (sk2t (by decide) (hI_at _ _ _ _)) (rgI _ _ _); have : gI (sI (sI (sI (sI ρ58 33 8 (iz ((gI ρ58 33 7) + 1))) 33 9 (iz 0)) 33 7 (iz (gI σ 33 3))) 33 8 (iz (gI σ 33 3))) 33 8 = gI σ 33 3 := gI_iz (hI_at _ _ _ _) (rgI _ _ _); have : gI (sI (sI (sI (sI ρ58 33 8 (iz ((gI ρ58 33 7) + 1))) 33 9 (iz 0)) 33 7 (iz (gI σ 33 3))) 33 8 (iz (gI σ 33 3))) 33 3 = gI σ 33 3 := gI_iz (sk2t (by decide) (sk2t (by decide) (sk2t (by decide) (sk2t (by decide) (Fr.it frρ58 rfl (izg σ 33 3)))))) (rgI _ _ _); have : gI (sI (sI (sI (sI ρ58 33 8 (iz ((gI ρ58 33 7) + 1))) 33 9 (iz 0)) 33 7 (iz (gI σ 33 3))) 33 8 (iz (gI σ 33 3))) 33 9 = 0 := gI_iz (sk2t (by decide) (sk2t (by decide) (hI_at _ _ _ _))) (by omega); omega), NX9⟩
  refine z_aload_n (pc := 0) O dX9_next_0 rfl ?_
  refine z_aload_n (pc := 1) O dX9_next_1 rfl ?_
  refine zi_getv (pc := 2) (gI σ 33 8) O fl_X9_228 rfl (jo_33 J) (izg σ 33 8) dX9_next_2 ?_
  have := rgI σ 33 8
  refine z_putI (pc := 5) O fl_X9_231 rfl ⟨rfl, rfl⟩ (jo_33 J) dX9_next_5 ?_
  have cut8 : ∀ (mu8 : Nat) (ρ8 : VH), (mu8 = (gI σ 33 3 - gI ρ8 33 7).toNat) → (gI σ 33 8 ≤ gI ρ8 33 7 ∧ gI ρ8 33 7 ≤ gI σ 33 3) → (Bl (sg σ) (gI σ 33 8) (gI ρ8 33 7)) → (Fr [(33, 7)] (sI σ 33 7 (iz (gI σ 33 8))) ρ8) → Z κ γ 3 ρ8 0 0 (QM κ γ (fun r τ => r = none ∧ (Fr [(33, 7), (33, 8), (33, 9), (33, 10), (33, 11)] σ τ) ∧ (gI σ 33 8 ≤ gI τ 33 7) ∧ (0 ≤ gI τ 33 7 ∧ gI τ 33 7 ≤ gI τ 33 8 ∧ gI τ 33 8 ≤ gI τ 33 3 ∧ gI τ 33 3 ≤ 700 ∧ ((gI τ 33 9 = 0 ∧ gI τ 33 7 = gI τ 33 3) ∨ (gI τ 33 7 < gI τ 33 8 ∧ 1 ≤ gI τ 33 9 ∧ gI τ 33 9 ≤ 5))) ∧ (Nx σ τ)) 0 0) 8 [(0, .ref 33)] [] := by
    intro mu8
    induction mu8 using Nat.strongRecOn with
    | ind mu8 ih8 =>
    intro ρ8 hmu8 ff8_0 ff8_1 frρ8
    refine z_aload_n (pc := 8) O dX9_next_8 rfl ?_
    refine zi_getv (pc := 9) (gI ρ8 33 7) O fl_X9_231 rfl (jo_33 (frρ8.lay J)) (izg ρ8 33 7) dX9_next_9 ?_
    have := rgI ρ8 33 7
    refine z_aload_n (pc := 12) O dX9_next_12 rfl ?_
    refine zi_getv (pc := 13) (gI σ 33 3) O fl_X9_176 rfl (jo_33 (frρ8.lay J)) (Fr.it frρ8 rfl (sk2t (by decide) (izg σ 33 3))) dX9_next_13 ?_
    have := rgI σ 33 3
    refine zi_icmp_ge (pc := 16) (tgt := 58) O dX9_next_16 (by decide) (by omega) (by omega) (fun h16 => ?_) (fun h16 => ?_)
    · refine z_lk [(0, .ref 33)] ⟨rfl, trivial⟩ ?_
      exact cut58 ρ8 (by omega) ff8_1 (by omega) (((Fr.rf [(33, 7)] σ).pI rfl).tr frρ8)
    · refine z_aload_n (pc := 19) O dX9_next_19 rfl ?_
      refine z_aload_n (pc := 20) O dX9_next_20 rfl ?_
      refine zi_getv (pc := 21) (gI ρ8 33 7) O fl_X9_231 rfl (jo_33 (frρ8.lay J)) (izg ρ8 33 7) dX9_next_21 ?_
      refine z_callV (pc := 24) O cl_X9_234 (k9_sign _ _ (gI ρ8 33 7) (by omega) (frρ8.lay J) (by have : gI ρ8 33 3 = gI σ 33 3 := gI_iz (Fr.it frρ8 rfl (sk2t (by decide) (izg σ 33 3))) (rgI _ _ _); omega) (by omega)) (by decide) (jo_33 (frρ8.lay J)) kc_9 rfl rfl (Nat.le_of_ble_eq_true rfl) ⟨Nat.zero_le _, Nat.zero_le _⟩ dX9_next_24 (fun r τ30 hp => ?_)
      obtain ⟨z31, rfl, fτ30_0, fτ30_1, fτ30_2, rfl⟩ := hp
      have : gI ρ8 33 3 = gI σ 33 3 := gI_iz (Fr.it frρ8 rfl (sk2t (by decide) (izg σ 33 3))) (rgI _ _ _)
      have : z31 = sg σ (gI ρ8 33 7) := fτ30_1.trans (sg_fr (((Fr.rf [(33, 7), (33, 8), (33, 9), (33, 10), (33, 11)] σ).pI rfl).tr (frρ8.mono (V := [(33, 7), (33, 8), (33, 9), (33, 10), (33, 11)]) rfl)) (fun _ => rfl) rfl)
      refine z_bipush (pc := 27) (v := iz (32)) O dX9_next_27 (by decide) ?_
      refine zi_icmp_eq (pc := 29) (tgt := 45) O dX9_next_29 (by decide) (by omega) (by decide) (fun h29 => ?_) (fun h29 => ?_)
      · refine z_aload_n (pc := 45) O dX9_next_45 rfl ?_
        refine z_dup (pc := 46) O dX9_next_46 rfl ?_
        refine zi_getv (pc := 47) (gI ρ8 33 7) O fl_X9_231 rfl (jo_33 (frρ8.lay J)) (izg ρ8 33 7) dX9_next_47 ?_
        refine z_iconst (pc := 50) (v := iz (1)) O dX9_next_50 (by decide) ?_
        refine zi_iadd (pc := 51) O dX9_next_51 ?_
        refine z_putI (pc := 52) O fl_X9_231 rfl ⟨rfl, rfl⟩ (jo_33 (frρ8.lay J)) dX9_next_52 ?_
        refine z_goto (pc := 55) (tgt := 8) O dX9_next_55 (by decide) ?_
        refine z_lk [(0, .ref 33)] ⟨rfl, trivial⟩ ?_
        exact ih8 _ (by have : gI (sI ρ8 33 7 (iz ((gI ρ8 33 7) + 1))) 33 7 = (gI ρ8 33 7) + 1 := gI_iz (hI_at _ _ _ _) (by omega); omega) (sI ρ8 33 7 (iz ((gI ρ8 33 7) + 1))) rfl (by have : gI (sI ρ8 33 7 (iz ((gI ρ8 33 7) + 1))) 33 7 = (gI ρ8 33 7) + 1 := gI_iz (hI_at _ _ _ _) (by omega); omega) (by have e7 := (gI_iz (hI_at _ _ _ _) (by omega) : gI (sI ρ8 33 7 (iz ((gI ρ8 33 7) + 1))) 33 7 = (gI ρ8 33 7) + 1); rw [e7]; exact Bl.snoc ff8_1 (by omega)) (frρ8.pI rfl)
      · refine z_aload_n (pc := 32) O dX9_next_32 rfl ?_
        refine z_aload_n (pc := 33) O dX9_next_33 rfl ?_
        refine zi_getv (pc := 34) (gI ρ8 33 7) O fl_X9_231 rfl (jo_33 (frρ8.lay J)) (izg ρ8 33 7) dX9_next_34 ?_
        refine z_callV (pc := 37) O cl_X9_234 (k9_sign _ _ (gI ρ8 33 7) (by omega) (frρ8.lay J) (by have : gI ρ8 33 3 = gI σ 33 3 := gI_iz (Fr.it frρ8 rfl (sk2t (by decide) (izg σ 33 3))) (rgI _ _ _); omega) (by omega)) (by decide) (jo_33 (frρ8.lay J)) kc_9 rfl rfl (Nat.le_of_ble_eq_true rfl) ⟨Nat.zero_le _, Nat.zero_le _⟩ dX9_next_37 (fun r τ32 hp => ?_)
        obtain ⟨z33, rfl, fτ32_0, fτ32_1, fτ32_2, rfl⟩ := hp
        have : gI ρ8 33 3 = gI σ 33 3 := gI_iz (Fr.it frρ8 rfl (sk2t (by decide) (izg σ 33 3))) (rgI _ _ _)
        have : z33 = sg σ (gI ρ8 33 7) := fτ32_1.trans (sg_fr (((Fr.rf [(33, 7), (33, 8), (33, 9), (33, 10), (33, 11)] σ).pI rfl).tr (frρ8.mono (V := [(33, 7), (33, 8), (33, 9), (33, 10), (33, 11)]) rfl)) (fun _ => rfl) rfl)
        refine z_bipush (pc := 40) (v := iz (10)) O dX9_next_40 (by decide) ?_
        refine zi_icmp_ne (pc := 42) (tgt := 58) O dX9_next_42 (by decide) (by omega) (by decide) (fun h42 => ?_) (fun h42 => ?_)
        · refine z_lk [(0, .ref 33)] ⟨rfl, trivial⟩ ?_
          exact cut58 ρ8 (by omega) ff8_1 (by omega) (((Fr.rf [(33, 7)] σ).pI rfl).tr frρ8)
        · refine z_aload_n (pc := 45) O dX9_next_45 rfl ?_
          refine z_dup (pc := 46) O dX9_next_46 rfl ?_
          refine zi_getv (pc := 47) (gI ρ8 33 7) O fl_X9_231 rfl (jo_33 (frρ8.lay J)) (izg ρ8 33 7) dX9_next_47 ?_
          refine z_iconst (pc := 50) (v := iz (1)) O dX9_next_50 (by decide) ?_
          refine zi_iadd (pc := 51) O dX9_next_51 ?_
          refine z_putI (pc := 52) O fl_X9_231 rfl ⟨rfl, rfl⟩ (jo_33 (frρ8.lay J)) dX9_next_52 ?_
          refine z_goto (pc := 55) (tgt := 8) O dX9_next_55 (by decide) ?_
          refine z_lk [(0, .ref 33)] ⟨rfl, trivial⟩ ?_
          exact ih8 _ (by have : gI (sI ρ8 33 7 (iz ((gI ρ8 33 7) + 1))) 33 7 = (gI ρ8 33 7) + 1 := gI_iz (hI_at _ _ _ _) (by omega); omega) (sI ρ8 33 7 (iz ((gI ρ8 33 7) + 1))) rfl (by have : gI (sI ρ8 33 7 (iz ((gI ρ8 33 7) + 1))) 33 7 = (gI ρ8 33 7) + 1 := gI_iz (hI_at _ _ _ _) (by omega); omega) (by have e7 := (gI_iz (hI_at _ _ _ _) (by omega) : gI (sI ρ8 33 7 (iz ((gI ρ8 33 7) + 1))) 33 7 = (gI ρ8 33 7) + 1); rw [e7]; exact Bl.snoc ff8_1 (by omega)) (frρ8.pI rfl)
  refine z_lk [(0, .ref 33)] ⟨rfl, trivial⟩ ?_
  exact cut8 _ (sI σ 33 7 (iz (gI σ 33 8))) rfl (by have : gI (sI σ 33 7 (iz (gI σ 33 8))) 33 7 = gI σ 33 8 := gI_iz (hI_at _ _ _ _) (rgI _ _ _); omega) (by have e7 := (gI_iz (hI_at _ _ _ _) (rgI _ _ _) : gI (sI σ 33 7 (iz (gI σ 33 8))) 33 7 = gI σ 33 8); rw [e7]; exact Bl.rf _ _) (Fr.rf [(33, 7)] (sI σ 33 7 (iz (gI σ 33 8))))
