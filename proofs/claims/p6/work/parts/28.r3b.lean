set_option maxHeartbeats 4000000 in
set_option maxRecDepth 20000 in
theorem k9_next (l : Launch) (σ : VH) (J : Lay σ) (hz : 0 ≤ gI σ 33 3 ∧ gI σ 33 3 ≤ 700) (he : 0 ≤ gI σ 33 8 ∧ gI σ 33 8 ≤ gI σ 33 3) : Ct l yX9_next cX9_next 3 none 2 0 0 [.ref 33] σ (fun r τ => r = none ∧ (Fr [(33, 7), (33, 8), (33, 9), (33, 10), (33, 11)] σ τ) ∧ (gI σ 33 8 ≤ gI τ 33 7) ∧ (0 ≤ gI τ 33 7 ∧ gI τ 33 7 ≤ gI τ 33 8 ∧ gI τ 33 8 ≤ gI τ 33 3 ∧ gI τ 33 3 ≤ 700 ∧ ((gI τ 33 9 = 0 ∧ gI τ 33 7 = gI τ 33 3) ∨ (gI τ 33 7 < gI τ 33 8 ∧ 1 ≤ gI τ 33 9 ∧ gI τ 33 9 ≤ 5)))) := by
  refine Ct.enter rfl (Nat.le_of_ble_eq_true rfl) ?_
  intro κ γ hκ O hrc hrs
  subst hκ
  have cut58 : ∀ (ρ58 : VH), (gI σ 33 8 ≤ gI ρ58 33 7 ∧ gI ρ58 33 7 ≤ gI σ 33 3) → (Fr [(33, 7)] σ ρ58) → Z κ γ 3 ρ58 0 0 (QM κ γ (fun r τ => r = none ∧ (Fr [(33, 7), (33, 8), (33, 9), (33, 10), (33, 11)] σ τ) ∧ (gI σ 33 8 ≤ gI τ 33 7) ∧ (0 ≤ gI τ 33 7 ∧ gI τ 33 7 ≤ gI τ 33 8 ∧ gI τ 33 8 ≤ gI τ 33 3 ∧ gI τ 33 3 ≤ 700 ∧ ((gI τ 33 9 = 0 ∧ gI τ 33 7 = gI τ 33 3) ∨ (gI τ 33 7 < gI τ 33 8 ∧ 1 ≤ gI τ 33 9 ∧ gI τ 33 9 ≤ 5)))) 0 0) 58 [(0, .ref 33)] [] := by
    intro ρ58 ff58_0 frρ58
    refine z_aload_n (pc := 58) O dX9_next_58 rfl ?_
    refine z_aload_n (pc := 59) O dX9_next_59 rfl ?_
    refine zi_getv (pc := 60) (gI ρ58 33 7) O fl_X9_231 rfl (jo_33 (frρ58.lay J)) (izg ρ58 33 7) dX9_next_60 ?_
    have := rgI ρ58 33 7
    refine z_callV (pc := 63) O cl_X9_234 (k9_sign _ _ (gI ρ58 33 7) (by omega) (frρ58.lay J) (by have : gI ρ58 33 3 = gI σ 33 3 := gI_iz (Fr.it frρ58 rfl (izg σ 33 3)) (rgI _ _ _); omega) (by omega)) (by decide) (jo_33 (frρ58.lay J)) kc_9 rfl rfl (Nat.le_of_ble_eq_true rfl) ⟨Nat.zero_le _, Nat.zero_le _⟩ dX9_next_63 (fun r τ1 hp => ?_)
    obtain ⟨z2, rfl, fτ1_0, fτ1_1, fτ1_2, rfl⟩ := hp
    have : gI ρ58 33 3 = gI σ 33 3 := gI_iz (Fr.it frρ58 rfl (izg σ 33 3)) (rgI _ _ _)
    refine z_istore_n (pc := 66) [(0, .ref 33), (1, .int (iz z2))] O dX9_next_66 (by decide) rfl ?_
    refine z_aload_n (pc := 67) O dX9_next_67 rfl ?_
    refine z_aload_n (pc := 68) O dX9_next_68 rfl ?_
    refine zi_getv (pc := 69) (gI ρ58 33 7) O fl_X9_231 rfl (jo_33 (frρ58.lay J)) (izg ρ58 33 7) dX9_next_69 ?_
    refine z_iconst (pc := 72) (v := iz (1)) O dX9_next_72 (by decide) ?_
    refine zi_iadd (pc := 73) O dX9_next_73 ?_
    refine z_putI (pc := 74) O fl_X9_228 rfl ⟨rfl, rfl⟩ (jo_33 (frρ58.lay J)) dX9_next_74 ?_
    refine z_aload_n (pc := 77) O dX9_next_77 rfl ?_
    refine zi_getv (pc := 78) (gI ρ58 33 7) O fl_X9_231 rfl (jo_33 (frρ58.lay J)) (sk2t (by decide) (izg ρ58 33 7)) dX9_next_78 ?_
    refine z_aload_n (pc := 81) O dX9_next_81 rfl ?_
    refine zi_getv (pc := 82) (gI σ 33 3) O fl_X9_176 rfl (jo_33 (frρ58.lay J)) (sk2t (by decide) (Fr.it frρ58 rfl (izg σ 33 3))) dX9_next_82 ?_
    have := rgI σ 33 3
    refine zi_icmp_lt (pc := 85) (tgt := 112) O dX9_next_85 (by decide) (by omega) (by omega) (fun h85 => ?_) (fun h85 => ?_)
    · refine z_iload_n (pc := 112) O dX9_next_112 rfl ?_
      refine z_callS (pc := 113) O cl_X9_241 (k9_isLetter _ _ z2 (by omega)) (by decide) rfl rfl (Nat.le_of_ble_eq_true rfl) ⟨Nat.zero_le _, Nat.zero_le _⟩ dX9_next_113 (fun r τ3 hp => ?_)
      obtain ⟨z4, rfl, fτ3_0, fτ3_1, rfl⟩ := hp
      refine zi_if_eq (pc := 116) (tgt := 239) O dX9_next_116 (by decide) (by omega) (fun h116 => ?_) (fun h116 => ?_)
      · refine z_iload_n (pc := 239) O dX9_next_239 rfl ?_
        refine z_callS (pc := 240) O cl_X9_253 (k9_isDigit _ _ z2 (by omega)) (by decide) rfl rfl (Nat.le_of_ble_eq_true rfl) ⟨Nat.zero_le _, Nat.zero_le _⟩ dX9_next_240 (fun r τ5 hp => ?_)
        obtain ⟨z6, rfl, fτ5_0, fτ5_1, rfl⟩ := hp
        refine zi_if_eq (pc := 243) (tgt := 363) O dX9_next_243 (by decide) (by omega) (fun h243 => ?_) (fun h243 => ?_)
        · refine z_aload_n (pc := 363) O dX9_next_363 rfl ?_
          refine z_iload_n (pc := 364) O dX9_next_364 rfl ?_
          refine z_bipush (pc := 365) (v := iz (59)) O dX9_next_365 (by decide) ?_
          refine zi_icmp_eq (pc := 367) (tgt := 400) O dX9_next_367 (by decide) (by omega) (by decide) (fun h367 => ?_) (fun h367 => ?_)
          · refine z_iconst (pc := 400) (v := iz (5)) O dX9_next_400 (by decide) ?_
            refine z_goto (pc := 401) (tgt := 405) O dX9_next_401 (by decide) ?_
            refine z_putI (pc := 405) O fl_X9_238 rfl ⟨rfl, rfl⟩ (jo_33 (frρ58.lay J)) dX9_next_405 ?_
            refine z_vret (pc := 408) O dX9_next_408 ?_
            exact ⟨rfl, (((frρ58.mono (V := [(33, 7), (33, 8), (33, 9), (33, 10), (33, 11)]) rfl).pI rfl).pI rfl), (by have : gI (sI (sI ρ58 33 8 (iz ((gI ρ58 33 7) + 1))) 33 9 (iz 5)) 33 7 = gI ρ58 33 7 := gI_iz (sk2t (by decide) (sk2t (by decide) (izg ρ58 33 7))) (rgI _ _ _); omega), (by have : gI (sI (sI ρ58 33 8 (iz ((gI ρ58 33 7) + 1))) 33 9 (iz 5)) 33 7 = gI ρ58 33 7 := gI_iz (sk2t (by decide) (sk2t (by decide) (izg ρ58 33 7))) (rgI _ _ _); have : gI (sI (sI ρ58 33 8 (iz ((gI ρ58 33 7) + 1))) 33 9 (iz 5)) 33 8 = (gI ρ58 33 7) + 1 := gI_iz (sk2t (by decide) (hI_at _ _ _ _)) (by omega); have : gI (sI (sI ρ58 33 8 (iz ((gI ρ58 33 7) + 1))) 33 9 (iz 5)) 33 3 = gI σ 33 3 := gI_iz (sk2t (by decide) (sk2t (by decide) (Fr.it frρ58 rfl (izg σ 33 3)))) (rgI _ _ _); have : gI (sI (sI ρ58 33 8 (iz ((gI ρ58 33 7) + 1))) 33 9 (iz 5)) 33 9 = 5 := gI_iz (hI_at _ _ _ _) (by omega); omega)⟩
          · refine z_iload_n (pc := 370) O dX9_next_370 rfl ?_
            refine z_bipush (pc := 371) (v := iz (40)) O dX9_next_371 (by decide) ?_
            refine zi_icmp_eq (pc := 373) (tgt := 400) O dX9_next_373 (by decide) (by omega) (by decide) (fun h373 => ?_) (fun h373 => ?_)
            · refine z_iconst (pc := 400) (v := iz (5)) O dX9_next_400 (by decide) ?_
              refine z_goto (pc := 401) (tgt := 405) O dX9_next_401 (by decide) ?_
              refine z_putI (pc := 405) O fl_X9_238 rfl ⟨rfl, rfl⟩ (jo_33 (frρ58.lay J)) dX9_next_405 ?_
              refine z_vret (pc := 408) O dX9_next_408 ?_
              exact ⟨rfl, (((frρ58.mono (V := [(33, 7), (33, 8), (33, 9), (33, 10), (33, 11)]) rfl).pI rfl).pI rfl), (by have : gI (sI (sI ρ58 33 8 (iz ((gI ρ58 33 7) + 1))) 33 9 (iz 5)) 33 7 = gI ρ58 33 7 := gI_iz (sk2t (by decide) (sk2t (by decide) (izg ρ58 33 7))) (rgI _ _ _); omega), (by have : gI (sI (sI ρ58 33 8 (iz ((gI ρ58 33 7) + 1))) 33 9 (iz 5)) 33 7 = gI ρ58 33 7 := gI_iz (sk2t (by decide) (sk2t (by decide) (izg ρ58 33 7))) (rgI _ _ _); have : gI (sI (sI ρ58 33 8 (iz ((gI ρ58 33 7) + 1))) 33 9 (iz 5)) 33 8 = (gI ρ58 33 7) + 1 := gI_iz (sk2t (by decide) (hI_at _ _ _ _)) (by omega); have : gI (sI (sI ρ58 33 8 (iz ((gI ρ58 33 7) + 1))) 33 9 (iz 5)) 33 3 = gI σ 33 3 := gI_iz (sk2t (by decide) (sk2t (by decide) (Fr.it frρ58 rfl (izg σ 33 3)))) (rgI _ _ _); have : gI (sI (sI ρ58 33 8 (iz ((gI ρ58 33 7) + 1))) 33 9 (iz 5)) 33 9 = 5 := gI_iz (hI_at _ _ _ _) (by omega); omega)⟩
            · refine z_iload_n (pc := 376) O dX9_next_376 rfl ?_
              refine z_bipush (pc := 377) (v := iz (41)) O dX9_next_377 (by decide) ?_
              refine zi_icmp_eq (pc := 379) (tgt := 400) O dX9_next_379 (by decide) (by omega) (by decide) (fun h379 => ?_) (fun h379 => ?_)
              · refine z_iconst (pc := 400) (v := iz (5)) O dX9_next_400 (by decide) ?_
                refine z_goto (pc := 401) (tgt := 405) O dX9_next_401 (by decide) ?_
                refine z_putI (pc := 405) O fl_X9_238 rfl ⟨rfl, rfl⟩ (jo_33 (frρ58.lay J)) dX9_next_405 ?_
                refine z_vret (pc := 408) O dX9_next_408 ?_
                exact ⟨rfl, (((frρ58.mono (V := [(33, 7), (33, 8), (33, 9), (33, 10), (33, 11)]) rfl).pI rfl).pI rfl), (by have : gI (sI (sI ρ58 33 8 (iz ((gI ρ58 33 7) + 1))) 33 9 (iz 5)) 33 7 = gI ρ58 33 7 := gI_iz (sk2t (by decide) (sk2t (by decide) (izg ρ58 33 7))) (rgI _ _ _); omega), (by have : gI (sI (sI ρ58 33 8 (iz ((gI ρ58 33 7) + 1))) 33 9 (iz 5)) 33 7 = gI ρ58 33 7 := gI_iz (sk2t (by decide) (sk2t (by decide) (izg ρ58 33 7))) (rgI _ _ _); have : gI (sI (sI ρ58 33 8 (iz ((gI ρ58 33 7) + 1))) 33 9 (iz 5)) 33 8 = (gI ρ58 33 7) + 1 := gI_iz (sk2t (by decide) (hI_at _ _ _ _)) (by omega); have : gI (sI (sI ρ58 33 8 (iz ((gI ρ58 33 7) + 1))) 33 9 (iz 5)) 33 3 = gI σ 33 3 := gI_iz (sk2t (by decide) (sk2t (by decide) (Fr.it frρ58 rfl (izg σ 33 3)))) (rgI _ _ _); have : gI (sI (sI ρ58 33 8 (iz ((gI ρ58 33 7) + 1))) 33 9 (iz 5)) 33 9 = 5 := gI_iz (hI_at _ _ _ _) (by omega); omega)⟩
              · refine z_iload_n (pc := 382) O dX9_next_382 rfl ?_
                refine z_bipush (pc := 383) (v := iz (60)) O dX9_next_383 (by decide) ?_
                refine zi_icmp_eq (pc := 385) (tgt := 400) O dX9_next_385 (by decide) (by omega) (by decide) (fun h385 => ?_) (fun h385 => ?_)
                · refine z_iconst (pc := 400) (v := iz (5)) O dX9_next_400 (by decide) ?_
                  refine z_goto (pc := 401) (tgt := 405) O dX9_next_401 (by decide) ?_
                  refine z_putI (pc := 405) O fl_X9_238 rfl ⟨rfl, rfl⟩ (jo_33 (frρ58.lay J)) dX9_next_405 ?_
                  refine z_vret (pc := 408) O dX9_next_408 ?_
                  exact ⟨rfl, (((frρ58.mono (V := [(33, 7), (33, 8), (33, 9), (33, 10), (33, 11)]) rfl).pI rfl).pI rfl), (by have : gI (sI (sI ρ58 33 8 (iz ((gI ρ58 33 7) + 1))) 33 9 (iz 5)) 33 7 = gI ρ58 33 7 := gI_iz (sk2t (by decide) (sk2t (by decide) (izg ρ58 33 7))) (rgI _ _ _); omega), (by have : gI (sI (sI ρ58 33 8 (iz ((gI ρ58 33 7) + 1))) 33 9 (iz 5)) 33 7 = gI ρ58 33 7 := gI_iz (sk2t (by decide) (sk2t (by decide) (izg ρ58 33 7))) (rgI _ _ _); have : gI (sI (sI ρ58 33 8 (iz ((gI ρ58 33 7) + 1))) 33 9 (iz 5)) 33 8 = (gI ρ58 33 7) + 1 := gI_iz (sk2t (by decide) (hI_at _ _ _ _)) (by omega); have : gI (sI (sI ρ58 33 8 (iz ((gI ρ58 33 7) + 1))) 33 9 (iz 5)) 33 3 = gI σ 33 3 := gI_iz (sk2t (by decide) (sk2t (by decide) (Fr.it frρ58 rfl (izg σ 33 3)))) (rgI _ _ _); have : gI (sI (sI ρ58 33 8 (iz ((gI ρ58 33 7) + 1))) 33 9 (iz 5)) 33 9 = 5 := gI_iz (hI_at _ _ _ _) (by omega); omega)⟩
                · refine z_iload_n (pc := 388) O dX9_next_388 rfl ?_
                  refine z_bipush (pc := 389) (v := iz (62)) O dX9_next_389 (by decide) ?_
                  refine zi_icmp_eq (pc := 391) (tgt := 400) O dX9_next_391 (by decide) (by omega) (by decide) (fun h391 => ?_) (fun h391 => ?_)
                  · refine z_iconst (pc := 400) (v := iz (5)) O dX9_next_400 (by decide) ?_
                    refine z_goto (pc := 401) (tgt := 405) O dX9_next_401 (by decide) ?_
                    refine z_putI (pc := 405) O fl_X9_238 rfl ⟨rfl, rfl⟩ (jo_33 (frρ58.lay J)) dX9_next_405 ?_
                    refine z_vret (pc := 408) O dX9_next_408 ?_
                    exact ⟨rfl, (((frρ58.mono (V := [(33, 7), (33, 8), (33, 9), (33, 10), (33, 11)]) rfl).pI rfl).pI rfl), (by have : gI (sI (sI ρ58 33 8 (iz ((gI ρ58 33 7) + 1))) 33 9 (iz 5)) 33 7 = gI ρ58 33 7 := gI_iz (sk2t (by decide) (sk2t (by decide) (izg ρ58 33 7))) (rgI _ _ _); omega), (by have : gI (sI (sI ρ58 33 8 (iz ((gI ρ58 33 7) + 1))) 33 9 (iz 5)) 33 7 = gI ρ58 33 7 := gI_iz (sk2t (by decide) (sk2t (by decide) (izg ρ58 33 7))) (rgI _ _ _); have : gI (sI (sI ρ58 33 8 (iz ((gI ρ58 33 7) + 1))) 33 9 (iz 5)) 33 8 = (gI ρ58 33 7) + 1 := gI_iz (sk2t (by decide) (hI_at _ _ _ _)) (by omega); have : gI (sI (sI ρ58 33 8 (iz ((gI ρ58 33 7) + 1))) 33 9 (iz 5)) 33 3 = gI σ 33 3 := gI_iz (sk2t (by decide) (sk2t (by decide) (Fr.it frρ58 rfl (izg σ 33 3)))) (rgI _ _ _); have : gI (sI (sI ρ58 33 8 (iz ((gI ρ58 33 7) + 1))) 33 9 (iz 5)) 33 9 = 5 := gI_iz (hI_at _ _ _ _) (by omega); omega)⟩
                  · refine z_iload_n (pc := 394) O dX9_next_394 rfl ?_
                    refine z_bipush (pc := 395) (v := iz (61)) O dX9_next_395 (by decide) ?_
                    refine zi_icmp_ne (pc := 397) (tgt := 404) O dX9_next_397 (by decide) (by omega) (by decide) (fun h397 => ?_) (fun h397 => ?_)
                    · refine z_iconst (pc := 404) (v := iz (1)) O dX9_next_404 (by decide) ?_
                      refine z_putI (pc := 405) O fl_X9_238 rfl ⟨rfl, rfl⟩ (jo_33 (frρ58.lay J)) dX9_next_405 ?_
                      refine z_vret (pc := 408) O dX9_next_408 ?_
                      exact ⟨rfl, (((frρ58.mono (V := [(33, 7), (33, 8), (33, 9), (33, 10), (33, 11)]) rfl).pI rfl).pI rfl), (by have : gI (sI (sI ρ58 33 8 (iz ((gI ρ58 33 7) + 1))) 33 9 (iz 1)) 33 7 = gI ρ58 33 7 := gI_iz (sk2t (by decide) (sk2t (by decide) (izg ρ58 33 7))) (rgI _ _ _); omega), (by have : gI (sI (sI ρ58 33 8 (iz ((gI ρ58 33 7) + 1))) 33 9 (iz 1)) 33 7 = gI ρ58 33 7 := gI_iz (sk2t (by decide) (sk2t (by decide) (izg ρ58 33 7))) (rgI _ _ _); have : gI (sI (sI ρ58 33 8 (iz ((gI ρ58 33 7) + 1))) 33 9 (iz 1)) 33 8 = (gI ρ58 33 7) + 1 := gI_iz (sk2t (by decide) (hI_at _ _ _ _)) (by omega); have : gI (sI (sI ρ58 33 8 (iz ((gI ρ58 33 7) + 1))) 33 9 (iz 1)) 33 3 = gI σ 33 3 := gI_iz (sk2t (by decide) (sk2t (by decide) (Fr.it frρ58 rfl (izg σ 33 3)))) (rgI _ _ _); have : gI (sI (sI ρ58 33 8 (iz ((gI ρ58 33 7) + 1))) 33 9 (iz 1)) 33 9 = 1 := gI_iz (hI_at _ _ _ _) (by omega); omega)⟩
                    · refine z_iconst (pc := 400) (v := iz (5)) O dX9_next_400 (by decide) ?_
                      refine z_goto (pc := 401) (tgt := 405) O dX9_next_401 (by decide) ?_
                      refine z_putI (pc := 405) O fl_X9_238 rfl ⟨rfl, rfl⟩ (jo_33 (frρ58.lay J)) dX9_next_405 ?_
                      refine z_vret (pc := 408) O dX9_next_408 ?_
                      exact ⟨rfl, (((frρ58.mono (V := [(33, 7), (33, 8), (33, 9), (33, 10), (33, 11)]) rfl).pI rfl).pI rfl), (by have : gI (sI (sI ρ58 33 8 (iz ((gI ρ58 33 7) + 1))) 33 9 (iz 5)) 33 7 = gI ρ58 33 7 := gI_iz (sk2t (by decide) (sk2t (by decide) (izg ρ58 33 7))) (rgI _ _ _); omega), (by have : gI (sI (sI ρ58 33 8 (iz ((gI ρ58 33 7) + 1))) 33 9 (iz 5)) 33 7 = gI ρ58 33 7 := gI_iz (sk2t (by decide) (sk2t (by decide) (izg ρ58 33 7))) (rgI _ _ _); have : gI (sI (sI ρ58 33 8 (iz ((gI ρ58 33 7) + 1))) 33 9 (iz 5)) 33 8 = (gI ρ58 33 7) + 1 := gI_iz (sk2t (by decide) (hI_at _ _ _ _)) (by omega); have : gI (sI (sI ρ58 33 8 (iz ((gI ρ58 33 7) + 1))) 33 9 (iz 5)) 33 3 = gI σ 33 3 := gI_iz (sk2t (by decide) (sk2t (by decide) (Fr.it frρ58 rfl (izg σ 33 3)))) (rgI _ _ _); have : gI (sI (sI ρ58 33 8 (iz ((gI ρ58 33 7) + 1))) 33 9 (iz 5)) 33 9 = 5 := gI_iz (hI_at _ _ _ _) (by omega); omega)⟩
        · refine z_aload_n (pc := 246) O dX9_next_246 rfl ?_
          refine z_iconst (pc := 247) (v := iz (0)) O dX9_next_247 (by decide) ?_
          refine z_putI (pc := 248) O fl_X9_256 rfl ⟨rfl, rfl⟩ (jo_33 (frρ58.lay J)) dX9_next_248 ?_
          refine z_aload_n (pc := 251) O dX9_next_251 rfl ?_
          refine z_aload_n (pc := 252) O dX9_next_252 rfl ?_
          refine zi_getv (pc := 253) (gI ρ58 33 7) O fl_X9_231 rfl (jo_33 (frρ58.lay J)) (sk2t (by decide) (sk2t (by decide) (izg ρ58 33 7))) dX9_next_253 ?_
          refine z_putI (pc := 256) O fl_X9_228 rfl ⟨rfl, rfl⟩ (jo_33 (frρ58.lay J)) dX9_next_256 ?_
          have cut259 : ∀ (mu259 : Nat) (ρ259 : VH), (mu259 = (gI σ 33 3 - gI ρ259 33 8).toNat) → (gI ρ58 33 7 ≤ gI ρ259 33 8 ∧ gI ρ259 33 8 ≤ gI σ 33 3) → (Fr [(33, 8), (33, 10)] (sI (sI (sI ρ58 33 8 (iz ((gI ρ58 33 7) + 1))) 33 10 (iz 0)) 33 8 (iz (gI ρ58 33 7))) ρ259) → Z κ γ 3 ρ259 0 0 (QM κ γ (fun r τ => r = none ∧ (Fr [(33, 7), (33, 8), (33, 9), (33, 10), (33, 11)] σ τ) ∧ (gI σ 33 8 ≤ gI τ 33 7) ∧ (0 ≤ gI τ 33 7 ∧ gI τ 33 7 ≤ gI τ 33 8 ∧ gI τ 33 8 ≤ gI τ 33 3 ∧ gI τ 33 3 ≤ 700 ∧ ((gI τ 33 9 = 0 ∧ gI τ 33 7 = gI τ 33 3) ∨ (gI τ 33 7 < gI τ 33 8 ∧ 1 ≤ gI τ 33 9 ∧ gI τ 33 9 ≤ 5)))) 0 0) 259 [(0, .ref 33), (1, .int (iz z2))] [] := by
            intro mu259
            induction mu259 using Nat.strongRecOn with
            | ind mu259 ih259 =>
            intro ρ259 hmu259 ff259_0 frρ259
            refine z_aload_n (pc := 259) O dX9_next_259 rfl ?_
            refine z_aload_n (pc := 260) O dX9_next_260 rfl ?_
            refine zi_getv (pc := 261) (gI ρ259 33 8) O fl_X9_228 rfl (jo_33 (frρ259.lay (frρ58.lay J))) (izg ρ259 33 8) dX9_next_261 ?_
            have := rgI ρ259 33 8
            refine z_callV (pc := 264) O cl_X9_234 (k9_sign _ _ (gI ρ259 33 8) (by omega) (frρ259.lay (frρ58.lay J)) (by have : gI ρ259 33 3 = gI σ 33 3 := gI_iz (Fr.it frρ259 rfl (sk2t (by decide) (sk2t (by decide) (sk2t (by decide) (Fr.it frρ58 rfl (izg σ 33 3)))))) (rgI _ _ _); omega) (by omega)) (by decide) (jo_33 (frρ259.lay (frρ58.lay J))) kc_9 rfl rfl (Nat.le_of_ble_eq_true rfl) ⟨Nat.zero_le _, Nat.zero_le _⟩ dX9_next_264 (fun r τ7 hp => ?_)
            obtain ⟨z8, rfl, fτ7_0, fτ7_1, fτ7_2, rfl⟩ := hp
            have : gI ρ259 33 3 = gI σ 33 3 := gI_iz (Fr.it frρ259 rfl (sk2t (by decide) (sk2t (by decide) (sk2t (by decide) (Fr.it frρ58 rfl (izg σ 33 3)))))) (rgI _ _ _)
            have sx : sg ρ259 (gI ρ259 33 8) = sg ρ58 (gI ρ259 33 8) := sg_fr (((((Fr.rf [(33, 7), (33, 8), (33, 9), (33, 10), (33, 11)] ρ58).pI rfl).pI rfl).pI rfl).tr (frρ259.mono (V := [(33, 7), (33, 8), (33, 9), (33, 10), (33, 11)]) rfl)) (fun _ => rfl) rfl
            have sy : gI ρ259 33 8 = gI ρ58 33 7 → sg ρ259 (gI ρ259 33 8) = z2 := fun e9 => by rw [sx, e9]; omega
            refine z_callS (pc := 267) O cl_X9_253 (k9_isDigit _ _ z8 (by omega)) (by decide) rfl rfl (Nat.le_of_ble_eq_true rfl) ⟨Nat.zero_le _, Nat.zero_le _⟩ dX9_next_267 (fun r τ9 hp => ?_)
            obtain ⟨z10, rfl, fτ9_0, fτ9_1, rfl⟩ := hp
            refine zi_if_eq (pc := 270) (tgt := 323) O dX9_next_270 (by decide) (by omega) (fun h270 => ?_) (fun h270 => ?_)
            · refine z_aload_n (pc := 323) O dX9_next_323 rfl ?_
              refine z_aload_n (pc := 324) O dX9_next_324 rfl ?_
              refine zi_getv (pc := 325) (gI ρ259 33 8) O fl_X9_228 rfl (jo_33 (frρ259.lay (frρ58.lay J))) (izg ρ259 33 8) dX9_next_325 ?_
              refine z_aload_n (pc := 328) O dX9_next_328 rfl ?_
              refine zi_getv (pc := 329) (gI ρ58 33 7) O fl_X9_231 rfl (jo_33 (frρ259.lay (frρ58.lay J))) (Fr.it frρ259 rfl (sk2t (by decide) (sk2t (by decide) (sk2t (by decide) (izg ρ58 33 7))))) dX9_next_329 ?_
              refine zi_isub (pc := 332) O dX9_next_332 ?_
              refine z_bipush (pc := 333) (v := iz (6)) O dX9_next_333 (by decide) ?_
              refine zi_icmp_gt (pc := 335) (tgt := 352) O dX9_next_335 (by decide) (by omega) (by decide) (fun h335 => ?_) (fun h335 => ?_)
              · refine z_iconst (pc := 352) (v := iz (1)) O dX9_next_352 (by decide) ?_
                refine z_goto (pc := 353) (tgt := 357) O dX9_next_353 (by decide) ?_
                refine z_putI (pc := 357) O fl_X9_238 rfl ⟨rfl, rfl⟩ (jo_33 (frρ259.lay (frρ58.lay J))) dX9_next_357 ?_
                refine z_goto (pc := 360) (tgt := 408) O dX9_next_360 (by decide) ?_
                refine z_vret (pc := 408) O dX9_next_408 ?_
                exact ⟨rfl, ((((((frρ58.mono (V := [(33, 7), (33, 8), (33, 9), (33, 10), (33, 11)]) rfl).pI rfl).pI rfl).pI rfl).tr (frρ259.mono (V := [(33, 7), (33, 8), (33, 9), (33, 10), (33, 11)]) rfl)).pI rfl), (by have : gI (sI ρ259 33 9 (iz 1)) 33 7 = gI ρ58 33 7 := gI_iz (sk2t (by decide) (Fr.it frρ259 rfl (sk2t (by decide) (sk2t (by decide) (sk2t (by decide) (izg ρ58 33 7)))))) (rgI _ _ _); omega), (by have : gI (sI ρ259 33 9 (iz 1)) 33 7 = gI ρ58 33 7 := gI_iz (sk2t (by decide) (Fr.it frρ259 rfl (sk2t (by decide) (sk2t (by decide) (sk2t (by decide) (izg ρ58 33 7)))))) (rgI _ _ _); have : gI (sI ρ259 33 9 (iz 1)) 33 8 = gI ρ259 33 8 := gI_iz (sk2t (by decide) (izg ρ259 33 8)) (rgI _ _ _); have : gI (sI ρ259 33 9 (iz 1)) 33 3 = gI σ 33 3 := gI_iz (sk2t (by decide) (Fr.it frρ259 rfl (sk2t (by decide) (sk2t (by decide) (sk2t (by decide) (Fr.it frρ58 rfl (izg σ 33 3))))))) (rgI _ _ _); have : gI (sI ρ259 33 9 (iz 1)) 33 9 = 1 := gI_iz (hI_at _ _ _ _) (by omega); omega)⟩
              · refine z_aload_n (pc := 338) O dX9_next_338 rfl ?_
                refine z_aload_n (pc := 339) O dX9_next_339 rfl ?_
                refine zi_getv (pc := 340) (gI ρ259 33 8) O fl_X9_228 rfl (jo_33 (frρ259.lay (frρ58.lay J))) (izg ρ259 33 8) dX9_next_340 ?_
                refine z_callV (pc := 343) O cl_X9_234 (k9_sign _ _ (gI ρ259 33 8) (by omega) (frρ259.lay (frρ58.lay J)) (by have : gI ρ259 33 3 = gI σ 33 3 := gI_iz (Fr.it frρ259 rfl (sk2t (by decide) (sk2t (by decide) (sk2t (by decide) (Fr.it frρ58 rfl (izg σ 33 3)))))) (rgI _ _ _); omega) (by omega)) (by decide) (jo_33 (frρ259.lay (frρ58.lay J))) kc_9 rfl rfl (Nat.le_of_ble_eq_true rfl) ⟨Nat.zero_le _, Nat.zero_le _⟩ dX9_next_343 (fun r τ11 hp => ?_)
                obtain ⟨z12, rfl, fτ11_0, fτ11_1, fτ11_2, rfl⟩ := hp
                have : gI ρ259 33 3 = gI σ 33 3 := gI_iz (Fr.it frρ259 rfl (sk2t (by decide) (sk2t (by decide) (sk2t (by decide) (Fr.it frρ58 rfl (izg σ 33 3)))))) (rgI _ _ _)
                refine z_callS (pc := 346) O cl_X9_241 (k9_isLetter _ _ z12 (by omega)) (by decide) rfl rfl (Nat.le_of_ble_eq_true rfl) ⟨Nat.zero_le _, Nat.zero_le _⟩ dX9_next_346 (fun r τ13 hp => ?_)
                obtain ⟨z14, rfl, fτ13_0, fτ13_1, rfl⟩ := hp
                refine zi_if_eq (pc := 349) (tgt := 356) O dX9_next_349 (by decide) (by omega) (fun h349 => ?_) (fun h349 => ?_)
                · refine z_iconst (pc := 356) (v := iz (4)) O dX9_next_356 (by decide) ?_
                  refine z_putI (pc := 357) O fl_X9_238 rfl ⟨rfl, rfl⟩ (jo_33 (frρ259.lay (frρ58.lay J))) dX9_next_357 ?_
                  refine z_goto (pc := 360) (tgt := 408) O dX9_next_360 (by decide) ?_
                  refine z_vret (pc := 408) O dX9_next_408 ?_
                  exact ⟨rfl, ((((((frρ58.mono (V := [(33, 7), (33, 8), (33, 9), (33, 10), (33, 11)]) rfl).pI rfl).pI rfl).pI rfl).tr (frρ259.mono (V := [(33, 7), (33, 8), (33, 9), (33, 10), (33, 11)]) rfl)).pI rfl), (by have : gI (sI ρ259 33 9 (iz 4)) 33 7 = gI ρ58 33 7 := gI_iz (sk2t (by decide) (Fr.it frρ259 rfl (sk2t (by decide) (sk2t (by decide) (sk2t (by decide) (izg ρ58 33 7)))))) (rgI _ _ _); omega), (by have : gI (sI ρ259 33 9 (iz 4)) 33 7 = gI ρ58 33 7 := gI_iz (sk2t (by decide) (Fr.it frρ259 rfl (sk2t (by decide) (sk2t (by decide) (sk2t (by decide) (izg ρ58 33 7)))))) (rgI _ _ _); have : gI (sI ρ259 33 9 (iz 4)) 33 8 = gI ρ259 33 8 := gI_iz (sk2t (by decide) (izg ρ259 33 8)) (rgI _ _ _); have : gI (sI ρ259 33 9 (iz 4)) 33 3 = gI σ 33 3 := gI_iz (sk2t (by decide) (Fr.it frρ259 rfl (sk2t (by decide) (sk2t (by decide) (sk2t (by decide) (Fr.it frρ58 rfl (izg σ 33 3))))))) (rgI _ _ _); have : gI (sI ρ259 33 9 (iz 4)) 33 9 = 4 := gI_iz (hI_at _ _ _ _) (by omega); omega)⟩
                · refine z_iconst (pc := 352) (v := iz (1)) O dX9_next_352 (by decide) ?_
                  refine z_goto (pc := 353) (tgt := 357) O dX9_next_353 (by decide) ?_
                  refine z_putI (pc := 357) O fl_X9_238 rfl ⟨rfl, rfl⟩ (jo_33 (frρ259.lay (frρ58.lay J))) dX9_next_357 ?_
                  refine z_goto (pc := 360) (tgt := 408) O dX9_next_360 (by decide) ?_
                  refine z_vret (pc := 408) O dX9_next_408 ?_
                  exact ⟨rfl, ((((((frρ58.mono (V := [(33, 7), (33, 8), (33, 9), (33, 10), (33, 11)]) rfl).pI rfl).pI rfl).pI rfl).tr (frρ259.mono (V := [(33, 7), (33, 8), (33, 9), (33, 10), (33, 11)]) rfl)).pI rfl), (by have : gI (sI ρ259 33 9 (iz 1)) 33 7 = gI ρ58 33 7 := gI_iz (sk2t (by decide) (Fr.it frρ259 rfl (sk2t (by decide) (sk2t (by decide) (sk2t (by decide) (izg ρ58 33 7)))))) (rgI _ _ _); omega), (by have : gI (sI ρ259 33 9 (iz 1)) 33 7 = gI ρ58 33 7 := gI_iz (sk2t (by decide) (Fr.it frρ259 rfl (sk2t (by decide) (sk2t (by decide) (sk2t (by decide) (izg ρ58 33 7)))))) (rgI _ _ _); have : gI (sI ρ259 33 9 (iz 1)) 33 8 = gI ρ259 33 8 := gI_iz (sk2t (by decide) (izg ρ259 33 8)) (rgI _ _ _); have : gI (sI ρ259 33 9 (iz 1)) 33 3 = gI σ 33 3 := gI_iz (sk2t (by decide) (Fr.it frρ259 rfl (sk2t (by decide) (sk2t (by decide) (sk2t (by decide) (Fr.it frρ58 rfl (izg σ 33 3))))))) (rgI _ _ _); have : gI (sI ρ259 33 9 (iz 1)) 33 9 = 1 := gI_iz (hI_at _ _ _ _) (by omega); omega)⟩
            · have cut310 : ∀ (ρ310 : VH), (Fr [(33, 10)] ρ259 ρ310) → Z κ γ 3 ρ310 0 0 (QM κ γ (fun r τ => r = none ∧ (Fr [(33, 7), (33, 8), (33, 9), (33, 10), (33, 11)] σ τ) ∧ (gI σ 33 8 ≤ gI τ 33 7) ∧ (0 ≤ gI τ 33 7 ∧ gI τ 33 7 ≤ gI τ 33 8 ∧ gI τ 33 8 ≤ gI τ 33 3 ∧ gI τ 33 3 ≤ 700 ∧ ((gI τ 33 9 = 0 ∧ gI τ 33 7 = gI τ 33 3) ∨ (gI τ 33 7 < gI τ 33 8 ∧ 1 ≤ gI τ 33 9 ∧ gI τ 33 9 ≤ 5)))) 0 0) 310 [(0, .ref 33), (1, .int (iz z2))] [] := by
                intro ρ310 frρ310
                refine z_aload_n (pc := 310) O dX9_next_310 rfl ?_
                refine z_dup (pc := 311) O dX9_next_311 rfl ?_
                refine zi_getv (pc := 312) (gI ρ259 33 8) O fl_X9_228 rfl (jo_33 (frρ310.lay (frρ259.lay (frρ58.lay J)))) (Fr.it frρ310 rfl (izg ρ259 33 8)) dX9_next_312 ?_
                refine z_iconst (pc := 315) (v := iz (1)) O dX9_next_315 (by decide) ?_
                refine zi_iadd (pc := 316) O dX9_next_316 ?_
                refine z_putI (pc := 317) O fl_X9_228 rfl ⟨rfl, rfl⟩ (jo_33 (frρ310.lay (frρ259.lay (frρ58.lay J)))) dX9_next_317 ?_
                refine z_goto (pc := 320) (tgt := 259) O dX9_next_320 (by decide) ?_
                refine z_lk [(0, .ref 33), (1, .int (iz z2))] ⟨rfl, rfl, trivial⟩ ?_
                exact ih259 _ (by have : gI (sI ρ310 33 8 (iz ((gI ρ259 33 8) + 1))) 33 8 = (gI ρ259 33 8) + 1 := gI_iz (hI_at _ _ _ _) (by omega); omega) (sI ρ310 33 8 (iz ((gI ρ259 33 8) + 1))) rfl (by have : gI (sI ρ310 33 8 (iz ((gI ρ259 33 8) + 1))) 33 8 = (gI ρ259 33 8) + 1 := gI_iz (hI_at _ _ _ _) (by omega); omega) ((frρ259.tr (frρ310.mono (V := [(33, 8), (33, 10)]) rfl)).pI rfl)
              refine z_aload_n (pc := 273) O dX9_next_273 rfl ?_
              refine zi_getv (pc := 274) (gI ρ259 33 8) O fl_X9_228 rfl (jo_33 (frρ259.lay (frρ58.lay J))) (izg ρ259 33 8) dX9_next_274 ?_
              refine z_aload_n (pc := 277) O dX9_next_277 rfl ?_
              refine zi_getv (pc := 278) (gI ρ58 33 7) O fl_X9_231 rfl (jo_33 (frρ259.lay (frρ58.lay J))) (Fr.it frρ259 rfl (sk2t (by decide) (sk2t (by decide) (sk2t (by decide) (izg ρ58 33 7))))) dX9_next_278 ?_
              refine zi_isub (pc := 281) O dX9_next_281 ?_
              refine z_bipush (pc := 282) (v := iz (6)) O dX9_next_282 (by decide) ?_
              refine zi_icmp_ge (pc := 284) (tgt := 310) O dX9_next_284 (by decide) (by omega) (by decide) (fun h284 => ?_) (fun h284 => ?_)
              · refine z_lk [(0, .ref 33), (1, .int (iz z2))] ⟨rfl, rfl, trivial⟩ ?_
                exact cut310 ρ259 (Fr.rf [(33, 10)] ρ259)
              · refine z_aload_n (pc := 287) O dX9_next_287 rfl ?_
                refine z_bipush (pc := 288) (v := iz (10)) O dX9_next_288 (by decide) ?_
                refine z_aload_n (pc := 290) O dX9_next_290 rfl ?_
                refine zi_getv (pc := 291) (gI ρ259 33 10) O fl_X9_256 rfl (jo_33 (frρ259.lay (frρ58.lay J))) (izg ρ259 33 10) dX9_next_291 ?_
                have := rgI ρ259 33 10
                refine zi_imul (pc := 294) O dX9_next_294 ?_
                refine z_aload_n (pc := 295) O dX9_next_295 rfl ?_
                refine z_aload_n (pc := 296) O dX9_next_296 rfl ?_
                refine zi_getv (pc := 297) (gI ρ259 33 8) O fl_X9_228 rfl (jo_33 (frρ259.lay (frρ58.lay J))) (izg ρ259 33 8) dX9_next_297 ?_
                refine z_callV (pc := 300) O cl_X9_234 (k9_sign _ _ (gI ρ259 33 8) (by omega) (frρ259.lay (frρ58.lay J)) (by have : gI ρ259 33 3 = gI σ 33 3 := gI_iz (Fr.it frρ259 rfl (sk2t (by decide) (sk2t (by decide) (sk2t (by decide) (Fr.it frρ58 rfl (izg σ 33 3)))))) (rgI _ _ _); omega) (by omega)) (by decide) (jo_33 (frρ259.lay (frρ58.lay J))) kc_9 rfl rfl (Nat.le_of_ble_eq_true rfl) ⟨Nat.zero_le _, Nat.zero_le _⟩ dX9_next_300 (fun r τ15 hp => ?_)
                obtain ⟨z16, rfl, fτ15_0, fτ15_1, fτ15_2, rfl⟩ := hp
                have : gI ρ259 33 3 = gI σ 33 3 := gI_iz (Fr.it frρ259 rfl (sk2t (by decide) (sk2t (by decide) (sk2t (by decide) (Fr.it frρ58 rfl (izg σ 33 3)))))) (rgI _ _ _)
                refine zi_iadd (pc := 303) O dX9_next_303 ?_
                refine z_bipush (pc := 304) (v := iz (48)) O dX9_next_304 (by decide) ?_
                refine zi_isub (pc := 306) O dX9_next_306 ?_
                refine zi_any (fun z17 rz17 ez17 => ?_)
                refine z_putI (pc := 307) O fl_X9_256 rfl ⟨rfl, rfl⟩ (jo_33 (frρ259.lay (frρ58.lay J))) dX9_next_307 ?_
                refine z_lk [(0, .ref 33), (1, .int (iz z2))] ⟨rfl, rfl, trivial⟩ ?_
                exact cut310 (sI ρ259 33 10 (iz z17)) ((Fr.rf [(33, 10)] ρ259).pI rfl)
          refine z_lk [(0, .ref 33), (1, .int (iz z2))] ⟨rfl, rfl, trivial⟩ ?_
          exact cut259 _ (sI (sI (sI ρ58 33 8 (iz ((gI ρ58 33 7) + 1))) 33 10 (iz 0)) 33 8 (iz (gI ρ58 33 7))) rfl (by have : gI (sI (sI (sI ρ58 33 8 (iz ((gI ρ58 33 7) + 1))) 33 10 (iz 0)) 33 8 (iz (gI ρ58 33 7))) 33 8 = gI ρ58 33 7 := gI_iz (hI_at _ _ _ _) (rgI _ _ _); omega) (Fr.rf [(33, 8), (33, 10)] (sI (sI (sI ρ58 33 8 (iz ((gI ρ58 33 7) + 1))) 33 10 (iz 0)) 33 8 (iz (gI ρ58 33 7))))
      · have cut119 : ∀ (mu119 : Nat) (ρ119 : VH), (mu119 = (gI σ 33 3 - gI ρ119 33 8).toNat) → (gI ρ58 33 7 < gI ρ119 33 8 ∧ gI ρ119 33 8 ≤ gI σ 33 3) → (Fr [(33, 8)] (sI ρ58 33 8 (iz ((gI ρ58 33 7) + 1))) ρ119) → Z κ γ 3 ρ119 0 0 (QM κ γ (fun r τ => r = none ∧ (Fr [(33, 7), (33, 8), (33, 9), (33, 10), (33, 11)] σ τ) ∧ (gI σ 33 8 ≤ gI τ 33 7) ∧ (0 ≤ gI τ 33 7 ∧ gI τ 33 7 ≤ gI τ 33 8 ∧ gI τ 33 8 ≤ gI τ 33 3 ∧ gI τ 33 3 ≤ 700 ∧ ((gI τ 33 9 = 0 ∧ gI τ 33 7 = gI τ 33 3) ∨ (gI τ 33 7 < gI τ 33 8 ∧ 1 ≤ gI τ 33 9 ∧ gI τ 33 9 ≤ 5)))) 0 0) 119 [(0, .ref 33), (1, .int (iz z2))] [] := by
          intro mu119
          induction mu119 using Nat.strongRecOn with
          | ind mu119 ih119 =>
          intro ρ119 hmu119 ff119_0 frρ119
          refine z_aload_n (pc := 119) O dX9_next_119 rfl ?_
          refine z_aload_n (pc := 120) O dX9_next_120 rfl ?_
          refine zi_getv (pc := 121) (gI ρ119 33 8) O fl_X9_228 rfl (jo_33 (frρ119.lay (frρ58.lay J))) (izg ρ119 33 8) dX9_next_121 ?_
          have := rgI ρ119 33 8
          refine z_callV (pc := 124) O cl_X9_234 (k9_sign _ _ (gI ρ119 33 8) (by omega) (frρ119.lay (frρ58.lay J)) (by have : gI ρ119 33 3 = gI σ 33 3 := gI_iz (Fr.it frρ119 rfl (sk2t (by decide) (Fr.it frρ58 rfl (izg σ 33 3)))) (rgI _ _ _); omega) (by omega)) (by decide) (jo_33 (frρ119.lay (frρ58.lay J))) kc_9 rfl rfl (Nat.le_of_ble_eq_true rfl) ⟨Nat.zero_le _, Nat.zero_le _⟩ dX9_next_124 (fun r τ18 hp => ?_)
          obtain ⟨z19, rfl, fτ18_0, fτ18_1, fτ18_2, rfl⟩ := hp
          have : gI ρ119 33 3 = gI σ 33 3 := gI_iz (Fr.it frρ119 rfl (sk2t (by decide) (Fr.it frρ58 rfl (izg σ 33 3)))) (rgI _ _ _)
          refine z_callS (pc := 127) O cl_X9_241 (k9_isLetter _ _ z19 (by omega)) (by decide) rfl rfl (Nat.le_of_ble_eq_true rfl) ⟨Nat.zero_le _, Nat.zero_le _⟩ dX9_next_127 (fun r τ20 hp => ?_)
          obtain ⟨z21, rfl, fτ20_0, fτ20_1, rfl⟩ := hp
          refine zi_if_eq (pc := 130) (tgt := 146) O dX9_next_130 (by decide) (by omega) (fun h130 => ?_) (fun h130 => ?_)
          · refine z_aload_n (pc := 146) O dX9_next_146 rfl ?_
            refine z_lconst (pc := 147) (v := 0) O dX9_next_147 (by decide) ?_
            refine z_putL (pc := 148) O fl_X9_245 rfl ⟨rfl, rfl⟩ (jo_33 (frρ119.lay (frρ58.lay J))) dX9_next_148 ?_
            refine z_aload_n (pc := 151) O dX9_next_151 rfl ?_
            refine zi_getv (pc := 152) (gI ρ58 33 7) O fl_X9_231 rfl (jo_33 (frρ119.lay (frρ58.lay J))) (skL (Fr.it frρ119 rfl (sk2t (by decide) (izg ρ58 33 7)))) dX9_next_152 ?_
            refine z_istore_n (pc := 155) [(0, .ref 33), (1, .int (iz z2)), (2, .int (iz (gI ρ58 33 7)))] O dX9_next_155 (by decide) rfl ?_
            have cut156 : ∀ (mu156 : Nat) (k : Int) (ρ156 : VH), (mu156 = (gI ρ58 33 7 + 8 - k).toNat) → (-2147483648 ≤ k ∧ k < 2147483648) → (gI ρ58 33 7 ≤ k ∧ k ≤ gI ρ58 33 7 + 8) → (Fr [(33, 11)] (sL ρ119 33 11 0) ρ156) → Z κ γ 3 ρ156 0 0 (QM κ γ (fun r τ => r = none ∧ (Fr [(33, 7), (33, 8), (33, 9), (33, 10), (33, 11)] σ τ) ∧ (gI σ 33 8 ≤ gI τ 33 7) ∧ (0 ≤ gI τ 33 7 ∧ gI τ 33 7 ≤ gI τ 33 8 ∧ gI τ 33 8 ≤ gI τ 33 3 ∧ gI τ 33 3 ≤ 700 ∧ ((gI τ 33 9 = 0 ∧ gI τ 33 7 = gI τ 33 3) ∨ (gI τ 33 7 < gI τ 33 8 ∧ 1 ≤ gI τ 33 9 ∧ gI τ 33 9 ≤ 5)))) 0 0) 156 [(0, .ref 33), (1, .int (iz z2)), (2, .int (iz k))] [] := by
              intro mu156
              induction mu156 using Nat.strongRecOn with
              | ind mu156 ih156 =>
              intro k ρ156 hmu156 rr156_0 ff156_0 frρ156
              refine z_iload_n (pc := 156) O dX9_next_156 rfl ?_
              refine z_aload_n (pc := 157) O dX9_next_157 rfl ?_
              refine zi_getv (pc := 158) (gI ρ119 33 8) O fl_X9_228 rfl (jo_33 (frρ156.lay (frρ119.lay (frρ58.lay J)))) (Fr.it frρ156 rfl (skL (izg ρ119 33 8))) dX9_next_158 ?_
              refine zi_icmp_ge (pc := 161) (tgt := 199) O dX9_next_161 (by decide) (by omega) (by omega) (fun h161 => ?_) (fun h161 => ?_)
              · refine z_aload_n (pc := 199) O dX9_next_199 rfl ?_
                refine z_aload_n (pc := 200) O dX9_next_200 rfl ?_
                refine zi_getv (pc := 201) (gI ρ119 33 8) O fl_X9_228 rfl (jo_33 (frρ156.lay (frρ119.lay (frρ58.lay J)))) (Fr.it frρ156 rfl (skL (izg ρ119 33 8))) dX9_next_201 ?_
                refine z_aload_n (pc := 204) O dX9_next_204 rfl ?_
                refine zi_getv (pc := 205) (gI ρ58 33 7) O fl_X9_231 rfl (jo_33 (frρ156.lay (frρ119.lay (frρ58.lay J)))) (Fr.it frρ156 rfl (skL (Fr.it frρ119 rfl (sk2t (by decide) (izg ρ58 33 7))))) dX9_next_205 ?_
                refine zi_isub (pc := 208) O dX9_next_208 ?_
                refine z_bipush (pc := 209) (v := iz (8)) O dX9_next_209 (by decide) ?_
                refine zi_icmp_le (pc := 211) (tgt := 218) O dX9_next_211 (by decide) (by omega) (by decide) (fun h211 => ?_) (fun h211 => ?_)
                · refine z_aload_n (pc := 218) O dX9_next_218 rfl ?_
                  refine zi_getLv (pc := 219) (hL ρ156 33 11) O fl_X9_245 rfl (jo_33 (frρ156.lay (frρ119.lay (frρ58.lay J)))) rfl dX9_next_219 ?_
                  refine z_callS (pc := 222) O cl_X9_249 (k9_isKept _ _ (hL ρ156 33 11)) (by decide) rfl rfl (Nat.le_of_ble_eq_true rfl) ⟨Nat.zero_le _, Nat.zero_le _⟩ dX9_next_222 (fun r τ22 hp => ?_)
                  obtain ⟨z23, rfl, fτ22_0, rfl⟩ := hp
                  refine zi_if_eq (pc := 225) (tgt := 232) O dX9_next_225 (by decide) (by omega) (fun h225 => ?_) (fun h225 => ?_)
                  · refine z_iconst (pc := 232) (v := iz (2)) O dX9_next_232 (by decide) ?_
                    refine z_putI (pc := 233) O fl_X9_238 rfl ⟨rfl, rfl⟩ (jo_33 (frρ156.lay (frρ119.lay (frρ58.lay J)))) dX9_next_233 ?_
                    refine z_goto (pc := 236) (tgt := 408) O dX9_next_236 (by decide) ?_
                    refine z_vret (pc := 408) O dX9_next_408 ?_
                    exact ⟨rfl, ((((((frρ58.mono (V := [(33, 7), (33, 8), (33, 9), (33, 10), (33, 11)]) rfl).pI rfl).tr (frρ119.mono (V := [(33, 7), (33, 8), (33, 9), (33, 10), (33, 11)]) rfl)).pL rfl).tr (frρ156.mono (V := [(33, 7), (33, 8), (33, 9), (33, 10), (33, 11)]) rfl)).pI rfl), (by have : gI (sI ρ156 33 9 (iz 2)) 33 7 = gI ρ58 33 7 := gI_iz (sk2t (by decide) (Fr.it frρ156 rfl (skL (Fr.it frρ119 rfl (sk2t (by decide) (izg ρ58 33 7)))))) (rgI _ _ _); omega), (by have : gI (sI ρ156 33 9 (iz 2)) 33 7 = gI ρ58 33 7 := gI_iz (sk2t (by decide) (Fr.it frρ156 rfl (skL (Fr.it frρ119 rfl (sk2t (by decide) (izg ρ58 33 7)))))) (rgI _ _ _); have : gI (sI ρ156 33 9 (iz 2)) 33 8 = gI ρ119 33 8 := gI_iz (sk2t (by decide) (Fr.it frρ156 rfl (skL (izg ρ119 33 8)))) (rgI _ _ _); have : gI (sI ρ156 33 9 (iz 2)) 33 3 = gI σ 33 3 := gI_iz (sk2t (by decide) (Fr.it frρ156 rfl (skL (Fr.it frρ119 rfl (sk2t (by decide) (Fr.it frρ58 rfl (izg σ 33 3))))))) (rgI _ _ _); have : gI (sI ρ156 33 9 (iz 2)) 33 9 = 2 := gI_iz (hI_at _ _ _ _) (by omega); omega)⟩
                  · refine z_iconst (pc := 228) (v := iz (3)) O dX9_next_228 (by decide) ?_
                    refine z_goto (pc := 229) (tgt := 233) O dX9_next_229 (by decide) ?_
                    refine z_putI (pc := 233) O fl_X9_238 rfl ⟨rfl, rfl⟩ (jo_33 (frρ156.lay (frρ119.lay (frρ58.lay J)))) dX9_next_233 ?_
                    refine z_goto (pc := 236) (tgt := 408) O dX9_next_236 (by decide) ?_
                    refine z_vret (pc := 408) O dX9_next_408 ?_
                    exact ⟨rfl, ((((((frρ58.mono (V := [(33, 7), (33, 8), (33, 9), (33, 10), (33, 11)]) rfl).pI rfl).tr (frρ119.mono (V := [(33, 7), (33, 8), (33, 9), (33, 10), (33, 11)]) rfl)).pL rfl).tr (frρ156.mono (V := [(33, 7), (33, 8), (33, 9), (33, 10), (33, 11)]) rfl)).pI rfl), (by have : gI (sI ρ156 33 9 (iz 3)) 33 7 = gI ρ58 33 7 := gI_iz (sk2t (by decide) (Fr.it frρ156 rfl (skL (Fr.it frρ119 rfl (sk2t (by decide) (izg ρ58 33 7)))))) (rgI _ _ _); omega), (by have : gI (sI ρ156 33 9 (iz 3)) 33 7 = gI ρ58 33 7 := gI_iz (sk2t (by decide) (Fr.it frρ156 rfl (skL (Fr.it frρ119 rfl (sk2t (by decide) (izg ρ58 33 7)))))) (rgI _ _ _); have : gI (sI ρ156 33 9 (iz 3)) 33 8 = gI ρ119 33 8 := gI_iz (sk2t (by decide) (Fr.it frρ156 rfl (skL (izg ρ119 33 8)))) (rgI _ _ _); have : gI (sI ρ156 33 9 (iz 3)) 33 3 = gI σ 33 3 := gI_iz (sk2t (by decide) (Fr.it frρ156 rfl (skL (Fr.it frρ119 rfl (sk2t (by decide) (Fr.it frρ58 rfl (izg σ 33 3))))))) (rgI _ _ _); have : gI (sI ρ156 33 9 (iz 3)) 33 9 = 3 := gI_iz (hI_at _ _ _ _) (by omega); omega)⟩
                · refine z_iconst (pc := 214) (v := iz (1)) O dX9_next_214 (by decide) ?_
                  refine z_goto (pc := 215) (tgt := 233) O dX9_next_215 (by decide) ?_
                  refine z_putI (pc := 233) O fl_X9_238 rfl ⟨rfl, rfl⟩ (jo_33 (frρ156.lay (frρ119.lay (frρ58.lay J)))) dX9_next_233 ?_
                  refine z_goto (pc := 236) (tgt := 408) O dX9_next_236 (by decide) ?_
                  refine z_vret (pc := 408) O dX9_next_408 ?_
                  exact ⟨rfl, ((((((frρ58.mono (V := [(33, 7), (33, 8), (33, 9), (33, 10), (33, 11)]) rfl).pI rfl).tr (frρ119.mono (V := [(33, 7), (33, 8), (33, 9), (33, 10), (33, 11)]) rfl)).pL rfl).tr (frρ156.mono (V := [(33, 7), (33, 8), (33, 9), (33, 10), (33, 11)]) rfl)).pI rfl), (by have : gI (sI ρ156 33 9 (iz 1)) 33 7 = gI ρ58 33 7 := gI_iz (sk2t (by decide) (Fr.it frρ156 rfl (skL (Fr.it frρ119 rfl (sk2t (by decide) (izg ρ58 33 7)))))) (rgI _ _ _); omega), (by have : gI (sI ρ156 33 9 (iz 1)) 33 7 = gI ρ58 33 7 := gI_iz (sk2t (by decide) (Fr.it frρ156 rfl (skL (Fr.it frρ119 rfl (sk2t (by decide) (izg ρ58 33 7)))))) (rgI _ _ _); have : gI (sI ρ156 33 9 (iz 1)) 33 8 = gI ρ119 33 8 := gI_iz (sk2t (by decide) (Fr.it frρ156 rfl (skL (izg ρ119 33 8)))) (rgI _ _ _); have : gI (sI ρ156 33 9 (iz 1)) 33 3 = gI σ 33 3 := gI_iz (sk2t (by decide) (Fr.it frρ156 rfl (skL (Fr.it frρ119 rfl (sk2t (by decide) (Fr.it frρ58 rfl (izg σ 33 3))))))) (rgI _ _ _); have : gI (sI ρ156 33 9 (iz 1)) 33 9 = 1 := gI_iz (hI_at _ _ _ _) (by omega); omega)⟩
              · refine z_iload_n (pc := 164) O dX9_next_164 rfl ?_
                refine z_aload_n (pc := 165) O dX9_next_165 rfl ?_
                refine zi_getv (pc := 166) (gI ρ58 33 7) O fl_X9_231 rfl (jo_33 (frρ156.lay (frρ119.lay (frρ58.lay J)))) (Fr.it frρ156 rfl (skL (Fr.it frρ119 rfl (sk2t (by decide) (izg ρ58 33 7))))) dX9_next_166 ?_
                refine z_bipush (pc := 169) (v := iz (8)) O dX9_next_169 (by decide) ?_
                refine zi_iadd (pc := 171) O dX9_next_171 ?_
                refine zi_icmp_ge (pc := 172) (tgt := 199) O dX9_next_172 (by decide) (by omega) (by omega) (fun h172 => ?_) (fun h172 => ?_)
                · refine z_aload_n (pc := 199) O dX9_next_199 rfl ?_
                  refine z_aload_n (pc := 200) O dX9_next_200 rfl ?_
                  refine zi_getv (pc := 201) (gI ρ119 33 8) O fl_X9_228 rfl (jo_33 (frρ156.lay (frρ119.lay (frρ58.lay J)))) (Fr.it frρ156 rfl (skL (izg ρ119 33 8))) dX9_next_201 ?_
                  refine z_aload_n (pc := 204) O dX9_next_204 rfl ?_
                  refine zi_getv (pc := 205) (gI ρ58 33 7) O fl_X9_231 rfl (jo_33 (frρ156.lay (frρ119.lay (frρ58.lay J)))) (Fr.it frρ156 rfl (skL (Fr.it frρ119 rfl (sk2t (by decide) (izg ρ58 33 7))))) dX9_next_205 ?_
                  refine zi_isub (pc := 208) O dX9_next_208 ?_
                  refine z_bipush (pc := 209) (v := iz (8)) O dX9_next_209 (by decide) ?_
                  refine zi_icmp_le (pc := 211) (tgt := 218) O dX9_next_211 (by decide) (by omega) (by decide) (fun h211 => ?_) (fun h211 => ?_)
                  · refine z_aload_n (pc := 218) O dX9_next_218 rfl ?_
                    refine zi_getLv (pc := 219) (hL ρ156 33 11) O fl_X9_245 rfl (jo_33 (frρ156.lay (frρ119.lay (frρ58.lay J)))) rfl dX9_next_219 ?_
                    refine z_callS (pc := 222) O cl_X9_249 (k9_isKept _ _ (hL ρ156 33 11)) (by decide) rfl rfl (Nat.le_of_ble_eq_true rfl) ⟨Nat.zero_le _, Nat.zero_le _⟩ dX9_next_222 (fun r τ24 hp => ?_)
                    obtain ⟨z25, rfl, fτ24_0, rfl⟩ := hp
                    refine zi_if_eq (pc := 225) (tgt := 232) O dX9_next_225 (by decide) (by omega) (fun h225 => ?_) (fun h225 => ?_)
                    · refine z_iconst (pc := 232) (v := iz (2)) O dX9_next_232 (by decide) ?_
                      refine z_putI (pc := 233) O fl_X9_238 rfl ⟨rfl, rfl⟩ (jo_33 (frρ156.lay (frρ119.lay (frρ58.lay J)))) dX9_next_233 ?_
                      refine z_goto (pc := 236) (tgt := 408) O dX9_next_236 (by decide) ?_
                      refine z_vret (pc := 408) O dX9_next_408 ?_
                      exact ⟨rfl, ((((((frρ58.mono (V := [(33, 7), (33, 8), (33, 9), (33, 10), (33, 11)]) rfl).pI rfl).tr (frρ119.mono (V := [(33, 7), (33, 8), (33, 9), (33, 10), (33, 11)]) rfl)).pL rfl).tr (frρ156.mono (V := [(33, 7), (33, 8), (33, 9), (33, 10), (33, 11)]) rfl)).pI rfl), (by have : gI (sI ρ156 33 9 (iz 2)) 33 7 = gI ρ58 33 7 := gI_iz (sk2t (by decide) (Fr.it frρ156 rfl (skL (Fr.it frρ119 rfl (sk2t (by decide) (izg ρ58 33 7)))))) (rgI _ _ _); omega), (by have : gI (sI ρ156 33 9 (iz 2)) 33 7 = gI ρ58 33 7 := gI_iz (sk2t (by decide) (Fr.it frρ156 rfl (skL (Fr.it frρ119 rfl (sk2t (by decide) (izg ρ58 33 7)))))) (rgI _ _ _); have : gI (sI ρ156 33 9 (iz 2)) 33 8 = gI ρ119 33 8 := gI_iz (sk2t (by decide) (Fr.it frρ156 rfl (skL (izg ρ119 33 8)))) (rgI _ _ _); have : gI (sI ρ156 33 9 (iz 2)) 33 3 = gI σ 33 3 := gI_iz (sk2t (by decide) (Fr.it frρ156 rfl (skL (Fr.it frρ119 rfl (sk2t (by decide) (Fr.it frρ58 rfl (izg σ 33 3))))))) (rgI _ _ _); have : gI (sI ρ156 33 9 (iz 2)) 33 9 = 2 := gI_iz (hI_at _ _ _ _) (by omega); omega)⟩
                    · refine z_iconst (pc := 228) (v := iz (3)) O dX9_next_228 (by decide) ?_
                      refine z_goto (pc := 229) (tgt := 233) O dX9_next_229 (by decide) ?_
                      refine z_putI (pc := 233) O fl_X9_238 rfl ⟨rfl, rfl⟩ (jo_33 (frρ156.lay (frρ119.lay (frρ58.lay J)))) dX9_next_233 ?_
                      refine z_goto (pc := 236) (tgt := 408) O dX9_next_236 (by decide) ?_
                      refine z_vret (pc := 408) O dX9_next_408 ?_
                      exact ⟨rfl, ((((((frρ58.mono (V := [(33, 7), (33, 8), (33, 9), (33, 10), (33, 11)]) rfl).pI rfl).tr (frρ119.mono (V := [(33, 7), (33, 8), (33, 9), (33, 10), (33, 11)]) rfl)).pL rfl).tr (frρ156.mono (V := [(33, 7), (33, 8), (33, 9), (33, 10), (33, 11)]) rfl)).pI rfl), (by have : gI (sI ρ156 33 9 (iz 3)) 33 7 = gI ρ58 33 7 := gI_iz (sk2t (by decide) (Fr.it frρ156 rfl (skL (Fr.it frρ119 rfl (sk2t (by decide) (izg ρ58 33 7)))))) (rgI _ _ _); omega), (by have : gI (sI ρ156 33 9 (iz 3)) 33 7 = gI ρ58 33 7 := gI_iz (sk2t (by decide) (Fr.it frρ156 rfl (skL (Fr.it frρ119 rfl (sk2t (by decide) (izg ρ58 33 7)))))) (rgI _ _ _); have : gI (sI ρ156 33 9 (iz 3)) 33 8 = gI ρ119 33 8 := gI_iz (sk2t (by decide) (Fr.it frρ156 rfl (skL (izg ρ119 33 8)))) (rgI _ _ _); have : gI (sI ρ156 33 9 (iz 3)) 33 3 = gI σ 33 3 := gI_iz (sk2t (by decide) (Fr.it frρ156 rfl (skL (Fr.it frρ119 rfl (sk2t (by decide) (Fr.it frρ58 rfl (izg σ 33 3))))))) (rgI _ _ _); have : gI (sI ρ156 33 9 (iz 3)) 33 9 = 3 := gI_iz (hI_at _ _ _ _) (by omega); omega)⟩
                  · refine z_iconst (pc := 214) (v := iz (1)) O dX9_next_214 (by decide) ?_
                    refine z_goto (pc := 215) (tgt := 233) O dX9_next_215 (by decide) ?_
                    refine z_putI (pc := 233) O fl_X9_238 rfl ⟨rfl, rfl⟩ (jo_33 (frρ156.lay (frρ119.lay (frρ58.lay J)))) dX9_next_233 ?_
                    refine z_goto (pc := 236) (tgt := 408) O dX9_next_236 (by decide) ?_
                    refine z_vret (pc := 408) O dX9_next_408 ?_
                    exact ⟨rfl, ((((((frρ58.mono (V := [(33, 7), (33, 8), (33, 9), (33, 10), (33, 11)]) rfl).pI rfl).tr (frρ119.mono (V := [(33, 7), (33, 8), (33, 9), (33, 10), (33, 11)]) rfl)).pL rfl).tr (frρ156.mono (V := [(33, 7), (33, 8), (33, 9), (33, 10), (33, 11)]) rfl)).pI rfl), (by have : gI (sI ρ156 33 9 (iz 1)) 33 7 = gI ρ58 33 7 := gI_iz (sk2t (by decide) (Fr.it frρ156 rfl (skL (Fr.it frρ119 rfl (sk2t (by decide) (izg ρ58 33 7)))))) (rgI _ _ _); omega), (by have : gI (sI ρ156 33 9 (iz 1)) 33 7 = gI ρ58 33 7 := gI_iz (sk2t (by decide) (Fr.it frρ156 rfl (skL (Fr.it frρ119 rfl (sk2t (by decide) (izg ρ58 33 7)))))) (rgI _ _ _); have : gI (sI ρ156 33 9 (iz 1)) 33 8 = gI ρ119 33 8 := gI_iz (sk2t (by decide) (Fr.it frρ156 rfl (skL (izg ρ119 33 8)))) (rgI _ _ _); have : gI (sI ρ156 33 9 (iz 1)) 33 3 = gI σ 33 3 := gI_iz (sk2t (by decide) (Fr.it frρ156 rfl (skL (Fr.it frρ119 rfl (sk2t (by decide) (Fr.it frρ58 rfl (izg σ 33 3))))))) (rgI _ _ _); have : gI (sI ρ156 33 9 (iz 1)) 33 9 = 1 := gI_iz (hI_at _ _ _ _) (by omega); omega)⟩
                · refine z_aload_n (pc := 175) O dX9_next_175 rfl ?_
                  refine z_aload_n (pc := 176) O dX9_next_176 rfl ?_
                  refine zi_getLv (pc := 177) (hL ρ156 33 11) O fl_X9_245 rfl (jo_33 (frρ156.lay (frρ119.lay (frρ58.lay J)))) rfl dX9_next_177 ?_
                  refine z_bipush (pc := 180) (v := iz (8)) O dX9_next_180 (by decide) ?_
                  refine z_lshl (pc := 182) O dX9_next_182 ?_
                  refine z_topl (pc := 183) (fun w26 ew26 => ?_)
                  refine z_aload_n (pc := 183) O dX9_next_183 rfl ?_
                  refine z_iload_n (pc := 184) O dX9_next_184 rfl ?_
                  refine z_callV (pc := 185) O cl_X9_234 (k9_sign _ _ k (by omega) (frρ156.lay (frρ119.lay (frρ58.lay J))) (by have : gI ρ156 33 3 = gI σ 33 3 := gI_iz (Fr.it frρ156 rfl (skL (Fr.it frρ119 rfl (sk2t (by decide) (Fr.it frρ58 rfl (izg σ 33 3)))))) (rgI _ _ _); omega) (by omega)) (by decide) (jo_33 (frρ156.lay (frρ119.lay (frρ58.lay J)))) kc_9 rfl rfl (Nat.le_of_ble_eq_true rfl) ⟨Nat.zero_le _, Nat.zero_le _⟩ dX9_next_185 (fun r τ27 hp => ?_)
                  obtain ⟨z28, rfl, fτ27_0, fτ27_1, fτ27_2, rfl⟩ := hp
                  have : gI ρ156 33 3 = gI σ 33 3 := gI_iz (Fr.it frρ156 rfl (skL (Fr.it frρ119 rfl (sk2t (by decide) (Fr.it frρ58 rfl (izg σ 33 3)))))) (rgI _ _ _)
                  refine z_i2l (pc := 188) O dX9_next_188 ?_
                  refine z_topl (pc := 189) (fun w29 ew29 => ?_)
                  refine z_lor (pc := 189) O dX9_next_189 ?_
                  refine z_topl (pc := 190) (fun w30 ew30 => ?_)
                  refine z_putL (pc := 190) O fl_X9_245 rfl ⟨rfl, rfl⟩ (jo_33 (frρ156.lay (frρ119.lay (frρ58.lay J)))) dX9_next_190 ?_
                  refine zi_iinc (pc := 193) (k + 1) [(0, .ref 33), (1, .int (iz z2)), (2, .int (iz (k + 1)))] O dX9_next_193 rfl (by omega) (by decide) rfl ?_
                  refine z_goto (pc := 196) (tgt := 156) O dX9_next_196 (by decide) ?_
                  refine z_lk [(0, .ref 33), (1, .int (iz z2)), (2, .int (iz (k + 1)))] ⟨rfl, rfl, rfl, trivial⟩ ?_
                  exact ih156 _ (by omega) (k + 1) (sL ρ156 33 11 w30) rfl (by omega) (by omega) (frρ156.pL rfl)
            refine z_lk [(0, .ref 33), (1, .int (iz z2)), (2, .int (iz (gI ρ58 33 7)))] ⟨rfl, rfl, rfl, trivial⟩ ?_
            exact cut156 _ (gI ρ58 33 7) (sL ρ119 33 11 0) rfl (by omega) (by omega) (Fr.rf [(33, 11)] (sL ρ119 33 11 0))
          · refine z_aload_n (pc := 133) O dX9_next_133 rfl ?_
            refine z_dup (pc := 134) O dX9_next_134 rfl ?_
            refine zi_getv (pc := 135) (gI ρ119 33 8) O fl_X9_228 rfl (jo_33 (frρ119.lay (frρ58.lay J))) (izg ρ119 33 8) dX9_next_135 ?_
            refine z_iconst (pc := 138) (v := iz (1)) O dX9_next_138 (by decide) ?_
            refine zi_iadd (pc := 139) O dX9_next_139 ?_
            refine z_putI (pc := 140) O fl_X9_228 rfl ⟨rfl, rfl⟩ (jo_33 (frρ119.lay (frρ58.lay J))) dX9_next_140 ?_
            refine z_goto (pc := 143) (tgt := 119) O dX9_next_143 (by decide) ?_
            refine z_lk [(0, .ref 33), (1, .int (iz z2))] ⟨rfl, rfl, trivial⟩ ?_
            exact ih119 _ (by have : gI (sI ρ119 33 8 (iz ((gI ρ119 33 8) + 1))) 33 8 = (gI ρ119 33 8) + 1 := gI_iz (hI_at _ _ _ _) (by omega); omega) (sI ρ119 33 8 (iz ((gI ρ119 33 8) + 1))) rfl (by have : gI (sI ρ119 33 8 (iz ((gI ρ119 33 8) + 1))) 33 8 = (gI ρ119 33 8) + 1 := gI_iz (hI_at _ _ _ _) (by omega); omega) (frρ119.pI rfl)
        refine z_lk [(0, .ref 33), (1, .int (iz z2))] ⟨rfl, rfl, trivial⟩ ?_
        exact cut119 _ (sI ρ58 33 8 (iz ((gI ρ58 33 7) + 1))) rfl (by have : gI (sI ρ58 33 8 (iz ((gI ρ58 33 7) + 1))) 33 8 = (gI ρ58 33 7) + 1 := gI_iz (hI_at _ _ _ _) (by omega); omega) (Fr.rf [(33, 8)] (sI ρ58 33 8 (iz ((gI ρ58 33 7) + 1))))
    · refine z_aload_n (pc := 88) O dX9_next_88 rfl ?_
      refine z_iconst (pc := 89) (v := iz (0)) O dX9_next_89 (by decide) ?_
      refine z_putI (pc := 90) O fl_X9_238 rfl ⟨rfl, rfl⟩ (jo_33 (frρ58.lay J)) dX9_next_90 ?_
      refine z_aload_n (pc := 93) O dX9_next_93 rfl ?_
      refine z_aload_n (pc := 94) O dX9_next_94 rfl ?_
      refine zi_getv (pc := 95) (gI σ 33 3) O fl_X9_176 rfl (jo_33 (frρ58.lay J)) (sk2t (by decide) (sk2t (by decide) (Fr.it frρ58 rfl (izg σ 33 3)))) dX9_next_95 ?_
      refine z_putI (pc := 98) O fl_X9_231 rfl ⟨rfl, rfl⟩ (jo_33 (frρ58.lay J)) dX9_next_98 ?_
      refine z_aload_n (pc := 101) O dX9_next_101 rfl ?_
      refine z_aload_n (pc := 102) O dX9_next_102 rfl ?_
      refine zi_getv (pc := 103) (gI σ 33 3) O fl_X9_176 rfl (jo_33 (frρ58.lay J)) (sk2t (by decide) (sk2t (by decide) (sk2t (by decide) (Fr.it frρ58 rfl (izg σ 33 3))))) dX9_next_103 ?_
      refine z_putI (pc := 106) O fl_X9_228 rfl ⟨rfl, rfl⟩ (jo_33 (frρ58.lay J)) dX9_next_106 ?_
      refine z_goto (pc := 109) (tgt := 408) O dX9_next_109 (by decide) ?_
      refine z_vret (pc := 408) O dX9_next_408 ?_
      exact ⟨rfl, (((((frρ58.mono (V := [(33, 7), (33, 8), (33, 9), (33, 10), (33, 11)]) rfl).pI rfl).pI rfl).pI rfl).pI rfl), (by have : gI (sI (sI (sI (sI ρ58 33 8 (iz ((gI ρ58 33 7) + 1))) 33 9 (iz 0)) 33 7 (iz (gI σ 33 3))) 33 8 (iz (gI σ 33 3))) 33 7 = gI σ 33 3 := gI_iz (sk2t (by decide) (hI_at _ _ _ _)) (rgI _ _ _); omega), (by have : gI (sI (sI (sI (sI ρ58 33 8 (iz ((gI ρ58 33 7) + 1))) 33 9 (iz 0)) 33 7 (iz (gI σ 33 3))) 33 8 (iz (gI σ 33 3))) 33 7 = gI σ 33 3 := gI_iz (sk2t (by decide) (hI_at _ _ _ _)) (rgI _ _ _); have : gI (sI (sI (sI (sI ρ58 33 8 (iz ((gI ρ58 33 7) + 1))) 33 9 (iz 0)) 33 7 (iz (gI σ 33 3))) 33 8 (iz (gI σ 33 3))) 33 8 = gI σ 33 3 := gI_iz (hI_at _ _ _ _) (rgI _ _ _); have : gI (sI (sI (sI (sI ρ58 33 8 (iz ((gI ρ58 33 7) + 1))) 33 9 (iz 0)) 33 7 (iz (gI σ 33 3))) 33 8 (iz (gI σ 33 3))) 33 3 = gI σ 33 3 := gI_iz (sk2t (by decide) (sk2t (by decide) (sk2t (by decide) (sk2t (by decide) (Fr.it frρ58 rfl (izg σ 33 3)))))) (rgI _ _ _); have : gI (sI (sI (sI (sI ρ58 33 8 (iz ((gI ρ58 33 7) + 1))) 33 9 (iz 0)) 33 7 (iz (gI σ 33 3))) 33 8 (iz (gI σ 33 3))) 33 9 = 0 := gI_iz (sk2t (by decide) (sk2t (by decide) (hI_at _ _ _ _))) (by omega); omega)⟩
  refine z_aload_n (pc := 0) O dX9_next_0 rfl ?_
  refine z_aload_n (pc := 1) O dX9_next_1 rfl ?_
  refine zi_getv (pc := 2) (gI σ 33 8) O fl_X9_228 rfl (jo_33 J) (izg σ 33 8) dX9_next_2 ?_
  have := rgI σ 33 8
  refine z_putI (pc := 5) O fl_X9_231 rfl ⟨rfl, rfl⟩ (jo_33 J) dX9_next_5 ?_
  have cut8 : ∀ (mu8 : Nat) (ρ8 : VH), (mu8 = (gI σ 33 3 - gI ρ8 33 7).toNat) → (gI σ 33 8 ≤ gI ρ8 33 7 ∧ gI ρ8 33 7 ≤ gI σ 33 3) → (Fr [(33, 7)] (sI σ 33 7 (iz (gI σ 33 8))) ρ8) → Z κ γ 3 ρ8 0 0 (QM κ γ (fun r τ => r = none ∧ (Fr [(33, 7), (33, 8), (33, 9), (33, 10), (33, 11)] σ τ) ∧ (gI σ 33 8 ≤ gI τ 33 7) ∧ (0 ≤ gI τ 33 7 ∧ gI τ 33 7 ≤ gI τ 33 8 ∧ gI τ 33 8 ≤ gI τ 33 3 ∧ gI τ 33 3 ≤ 700 ∧ ((gI τ 33 9 = 0 ∧ gI τ 33 7 = gI τ 33 3) ∨ (gI τ 33 7 < gI τ 33 8 ∧ 1 ≤ gI τ 33 9 ∧ gI τ 33 9 ≤ 5)))) 0 0) 8 [(0, .ref 33)] [] := by
    intro mu8
    induction mu8 using Nat.strongRecOn with
    | ind mu8 ih8 =>
    intro ρ8 hmu8 ff8_0 frρ8
    refine z_aload_n (pc := 8) O dX9_next_8 rfl ?_
    refine zi_getv (pc := 9) (gI ρ8 33 7) O fl_X9_231 rfl (jo_33 (frρ8.lay J)) (izg ρ8 33 7) dX9_next_9 ?_
    have := rgI ρ8 33 7
    refine z_aload_n (pc := 12) O dX9_next_12 rfl ?_
    refine zi_getv (pc := 13) (gI σ 33 3) O fl_X9_176 rfl (jo_33 (frρ8.lay J)) (Fr.it frρ8 rfl (sk2t (by decide) (izg σ 33 3))) dX9_next_13 ?_
    have := rgI σ 33 3
    refine zi_icmp_ge (pc := 16) (tgt := 58) O dX9_next_16 (by decide) (by omega) (by omega) (fun h16 => ?_) (fun h16 => ?_)
    · refine z_lk [(0, .ref 33)] ⟨rfl, trivial⟩ ?_
      exact cut58 ρ8 (by omega) (((Fr.rf [(33, 7)] σ).pI rfl).tr frρ8)
    · refine z_aload_n (pc := 19) O dX9_next_19 rfl ?_
      refine z_aload_n (pc := 20) O dX9_next_20 rfl ?_
      refine zi_getv (pc := 21) (gI ρ8 33 7) O fl_X9_231 rfl (jo_33 (frρ8.lay J)) (izg ρ8 33 7) dX9_next_21 ?_
      refine z_callV (pc := 24) O cl_X9_234 (k9_sign _ _ (gI ρ8 33 7) (by omega) (frρ8.lay J) (by have : gI ρ8 33 3 = gI σ 33 3 := gI_iz (Fr.it frρ8 rfl (sk2t (by decide) (izg σ 33 3))) (rgI _ _ _); omega) (by omega)) (by decide) (jo_33 (frρ8.lay J)) kc_9 rfl rfl (Nat.le_of_ble_eq_true rfl) ⟨Nat.zero_le _, Nat.zero_le _⟩ dX9_next_24 (fun r τ31 hp => ?_)
      obtain ⟨z32, rfl, fτ31_0, fτ31_1, fτ31_2, rfl⟩ := hp
      have : gI ρ8 33 3 = gI σ 33 3 := gI_iz (Fr.it frρ8 rfl (sk2t (by decide) (izg σ 33 3))) (rgI _ _ _)
      refine z_bipush (pc := 27) (v := iz (32)) O dX9_next_27 (by decide) ?_
      refine zi_icmp_eq (pc := 29) (tgt := 45) O dX9_next_29 (by decide) (by omega) (by decide) (fun h29 => ?_) (fun h29 => ?_)
      · refine z_aload_n (pc := 45) O dX9_next_45 rfl ?_
        refine z_dup (pc := 46) O dX9_next_46 rfl ?_
        refine zi_getv (pc := 47) (gI ρ8 33 7) O fl_X9_231 rfl (jo_33 (frρ8.lay J)) (izg ρ8 33 7) dX9_next_47 ?_
        refine z_iconst (pc := 50) (v := iz (1)) O dX9_next_50 (by decide) ?_
        refine zi_iadd (pc := 51) O dX9_next_51 ?_
        refine z_putI (pc := 52) O fl_X9_231 rfl ⟨rfl, rfl⟩ (jo_33 (frρ8.lay J)) dX9_next_52 ?_
        refine z_goto (pc := 55) (tgt := 8) O dX9_next_55 (by decide) ?_
        refine z_lk [(0, .ref 33)] ⟨rfl, trivial⟩ ?_
        exact ih8 _ (by have : gI (sI ρ8 33 7 (iz ((gI ρ8 33 7) + 1))) 33 7 = (gI ρ8 33 7) + 1 := gI_iz (hI_at _ _ _ _) (by omega); omega) (sI ρ8 33 7 (iz ((gI ρ8 33 7) + 1))) rfl (by have : gI (sI ρ8 33 7 (iz ((gI ρ8 33 7) + 1))) 33 7 = (gI ρ8 33 7) + 1 := gI_iz (hI_at _ _ _ _) (by omega); omega) (frρ8.pI rfl)
      · refine z_aload_n (pc := 32) O dX9_next_32 rfl ?_
        refine z_aload_n (pc := 33) O dX9_next_33 rfl ?_
        refine zi_getv (pc := 34) (gI ρ8 33 7) O fl_X9_231 rfl (jo_33 (frρ8.lay J)) (izg ρ8 33 7) dX9_next_34 ?_
        refine z_callV (pc := 37) O cl_X9_234 (k9_sign _ _ (gI ρ8 33 7) (by omega) (frρ8.lay J) (by have : gI ρ8 33 3 = gI σ 33 3 := gI_iz (Fr.it frρ8 rfl (sk2t (by decide) (izg σ 33 3))) (rgI _ _ _); omega) (by omega)) (by decide) (jo_33 (frρ8.lay J)) kc_9 rfl rfl (Nat.le_of_ble_eq_true rfl) ⟨Nat.zero_le _, Nat.zero_le _⟩ dX9_next_37 (fun r τ33 hp => ?_)
        obtain ⟨z34, rfl, fτ33_0, fτ33_1, fτ33_2, rfl⟩ := hp
        have : gI ρ8 33 3 = gI σ 33 3 := gI_iz (Fr.it frρ8 rfl (sk2t (by decide) (izg σ 33 3))) (rgI _ _ _)
        refine z_bipush (pc := 40) (v := iz (10)) O dX9_next_40 (by decide) ?_
        refine zi_icmp_ne (pc := 42) (tgt := 58) O dX9_next_42 (by decide) (by omega) (by decide) (fun h42 => ?_) (fun h42 => ?_)
        · refine z_lk [(0, .ref 33)] ⟨rfl, trivial⟩ ?_
          exact cut58 ρ8 (by omega) (((Fr.rf [(33, 7)] σ).pI rfl).tr frρ8)
        · refine z_aload_n (pc := 45) O dX9_next_45 rfl ?_
          refine z_dup (pc := 46) O dX9_next_46 rfl ?_
          refine zi_getv (pc := 47) (gI ρ8 33 7) O fl_X9_231 rfl (jo_33 (frρ8.lay J)) (izg ρ8 33 7) dX9_next_47 ?_
          refine z_iconst (pc := 50) (v := iz (1)) O dX9_next_50 (by decide) ?_
          refine zi_iadd (pc := 51) O dX9_next_51 ?_
          refine z_putI (pc := 52) O fl_X9_231 rfl ⟨rfl, rfl⟩ (jo_33 (frρ8.lay J)) dX9_next_52 ?_
          refine z_goto (pc := 55) (tgt := 8) O dX9_next_55 (by decide) ?_
          refine z_lk [(0, .ref 33)] ⟨rfl, trivial⟩ ?_
          exact ih8 _ (by have : gI (sI ρ8 33 7 (iz ((gI ρ8 33 7) + 1))) 33 7 = (gI ρ8 33 7) + 1 := gI_iz (hI_at _ _ _ _) (by omega); omega) (sI ρ8 33 7 (iz ((gI ρ8 33 7) + 1))) rfl (by have : gI (sI ρ8 33 7 (iz ((gI ρ8 33 7) + 1))) 33 7 = (gI ρ8 33 7) + 1 := gI_iz (hI_at _ _ _ _) (by omega); omega) (frρ8.pI rfl)
  refine z_lk [(0, .ref 33)] ⟨rfl, trivial⟩ ?_
  exact cut8 _ (sI σ 33 7 (iz (gI σ 33 8))) rfl (by have : gI (sI σ 33 7 (iz (gI σ 33 8))) 33 7 = gI σ 33 8 := gI_iz (hI_at _ _ _ _) (rgI _ _ _); omega) (Fr.rf [(33, 7)] (sI σ 33 7 (iz (gI σ 33 8))))
set_option maxHeartbeats 4000000 in
set_option maxRecDepth 20000 in
theorem k9_mustWord (l : Launch) (σ : VH) (v : Int64) (J : Lay σ) (ht : (0 ≤ gI σ 33 7 ∧ gI σ 33 7 ≤ gI σ 33 8 ∧ gI σ 33 8 ≤ gI σ 33 3 ∧ gI σ 33 3 ≤ 700 ∧ ((gI σ 33 9 = 0 ∧ gI σ 33 7 = gI σ 33 3) ∨ (gI σ 33 7 < gI σ 33 8 ∧ 1 ≤ gI σ 33 9 ∧ gI σ 33 9 ≤ 5)))) (hf : 0 ≤ gI σ 33 4) : Ct l yX9_mustWord cX9_mustWord 3 none 3 0 0 [.ref 33, .long v] σ (fun r τ => r = none ∧ (Fr [(33, 7), (33, 8), (33, 9), (33, 10), (33, 11), (33, 4), (33, 5)] σ τ) ∧ (0 ≤ gI τ 33 7 ∧ gI τ 33 7 ≤ gI τ 33 8 ∧ gI τ 33 8 ≤ gI τ 33 3 ∧ gI τ 33 3 ≤ 700 ∧ ((gI τ 33 9 = 0 ∧ gI τ 33 7 = gI τ 33 3) ∨ (gI τ 33 7 < gI τ 33 8 ∧ 1 ≤ gI τ 33 9 ∧ gI τ 33 9 ≤ 5))) ∧ (gI σ 33 7 ≤ gI τ 33 7) ∧ ((gI σ 33 4 ≤ 0 ∨ 0 < gI τ 33 4) ∧ 0 ≤ gI τ 33 4)) := by
  refine Ct.enter rfl (Nat.le_of_ble_eq_true rfl) ?_
  intro κ γ hκ O hrc hrs
  subst hκ
  refine z_aload_n (pc := 0) O dX9_mustWord_0 rfl ?_
  refine z_lload_n (pc := 1) O dX9_mustWord_1 rfl ?_
  refine z_callV (pc := 2) O cl_X9_263 (k9_isWord _ _ v J) (by decide) (jo_33 J) kc_9 rfl rfl (Nat.le_of_ble_eq_true rfl) ⟨Nat.zero_le _, Nat.zero_le _⟩ dX9_mustWord_2 (fun r τ1 hp => ?_)
  obtain ⟨z2, rfl, fτ1_0, fτ1_1, rfl⟩ := hp
  refine zi_if_eq (pc := 5) (tgt := 15) O dX9_mustWord_5 (by decide) (by omega) (fun h5 => ?_) (fun h5 => ?_)
  · refine z_aload_n (pc := 15) O dX9_mustWord_15 rfl ?_
    refine z_callV (pc := 16) O cl_X9_269 (k9_wrong _ _ J) (by decide) (jo_33 J) kc_9 rfl rfl (Nat.le_of_ble_eq_true rfl) ⟨Nat.zero_le _, Nat.zero_le _⟩ dX9_mustWord_16 (fun r τ3 hp => ?_)
    obtain ⟨rfl, frτ3, eτ3_0⟩ := hp
    refine z_vret (pc := 19) O dX9_mustWord_19 ?_
    exact ⟨rfl, (frτ3.mono (V := [(33, 7), (33, 8), (33, 9), (33, 10), (33, 11), (33, 4), (33, 5)]) rfl), (by have : gI τ3 33 7 = gI σ 33 7 := gI_iz (Fr.it frτ3 rfl (izg σ 33 7)) (rgI _ _ _); have : gI τ3 33 8 = gI σ 33 8 := gI_iz (Fr.it frτ3 rfl (izg σ 33 8)) (rgI _ _ _); have : gI τ3 33 3 = gI σ 33 3 := gI_iz (Fr.it frτ3 rfl (izg σ 33 3)) (rgI _ _ _); have : gI τ3 33 9 = gI σ 33 9 := gI_iz (Fr.it frτ3 rfl (izg σ 33 9)) (rgI _ _ _); omega), (by have : gI τ3 33 7 = gI σ 33 7 := gI_iz (Fr.it frτ3 rfl (izg σ 33 7)) (rgI _ _ _); omega), (by omega)⟩
  · refine z_aload_n (pc := 8) O dX9_mustWord_8 rfl ?_
    refine z_callV (pc := 9) O cl_X9_266 (k9_next _ _ J (by omega) (by omega)) (by decide) (jo_33 J) kc_9 rfl rfl (Nat.le_of_ble_eq_true rfl) ⟨Nat.zero_le _, Nat.zero_le _⟩ dX9_mustWord_9 (fun r τ5 hp => ?_)
    obtain ⟨rfl, frτ5, eτ5_0, eτ5_1⟩ := hp
    have : gI τ5 33 3 = gI σ 33 3 := gI_iz (Fr.it frτ5 rfl (izg σ 33 3)) (rgI _ _ _)
    refine z_goto (pc := 12) (tgt := 19) O dX9_mustWord_12 (by decide) ?_
    refine z_vret (pc := 19) O dX9_mustWord_19 ?_
    exact ⟨rfl, (frτ5.mono (V := [(33, 7), (33, 8), (33, 9), (33, 10), (33, 11), (33, 4), (33, 5)]) rfl), (by have : gI τ5 33 3 = gI σ 33 3 := gI_iz (Fr.it frτ5 rfl (izg σ 33 3)) (rgI _ _ _); omega), (by omega), (by have : gI τ5 33 4 = gI σ 33 4 := gI_iz (Fr.it frτ5 rfl (izg σ 33 4)) (rgI _ _ _); omega)⟩
set_option maxHeartbeats 4000000 in
set_option maxRecDepth 20000 in
theorem k9_numeral (l : Launch) (σ : VH) (y : Int) (ry : (-2147483648 ≤ y ∧ y < 2147483648)) (x : Int) (rx : (-2147483648 ≤ x ∧ x < 2147483648)) (J : Lay σ) (ht : (0 ≤ gI σ 33 7 ∧ gI σ 33 7 ≤ gI σ 33 8 ∧ gI σ 33 8 ≤ gI σ 33 3 ∧ gI σ 33 3 ≤ 700 ∧ ((gI σ 33 9 = 0 ∧ gI σ 33 7 = gI σ 33 3) ∨ (gI σ 33 7 < gI σ 33 8 ∧ 1 ≤ gI σ 33 9 ∧ gI σ 33 9 ≤ 5)))) (hf : 0 ≤ gI σ 33 4) : Ct l yX9_numeral cX9_numeral 4 (some .int) 3 0 0 [.ref 33, .int (iz y), .int (iz x)] σ (fun r τ => ∃ z : Int, r = some (.int (iz z)) ∧ (-2147483648 ≤ z ∧ z < 2147483648) ∧ (Fr [(33, 7), (33, 8), (33, 9), (33, 10), (33, 11), (33, 4), (33, 5)] σ τ) ∧ (0 ≤ gI τ 33 7 ∧ gI τ 33 7 ≤ gI τ 33 8 ∧ gI τ 33 8 ≤ gI τ 33 3 ∧ gI τ 33 3 ≤ 700 ∧ ((gI τ 33 9 = 0 ∧ gI τ 33 7 = gI τ 33 3) ∨ (gI τ 33 7 < gI τ 33 8 ∧ 1 ≤ gI τ 33 9 ∧ gI τ 33 9 ≤ 5))) ∧ (gI σ 33 7 ≤ gI τ 33 7) ∧ ((gI σ 33 4 ≤ 0 ∨ 0 < gI τ 33 4) ∧ 0 ≤ gI τ 33 4) ∧ (0 < gI τ 33 4 ∨ (y ≤ z ∧ z ≤ x ∧ gI σ 33 7 < gI τ 33 7))) := by
  refine Ct.enter rfl (Nat.le_of_ble_eq_true rfl) ?_
  intro κ γ hκ O hrc hrs
  subst hκ
  refine z_aload_n (pc := 0) O dX9_numeral_0 rfl ?_
  refine z_callV (pc := 1) O cl_X9_272 (k9_isGood _ _ J) (by decide) (jo_33 J) kc_9 rfl rfl (Nat.le_of_ble_eq_true rfl) ⟨Nat.zero_le _, Nat.zero_le _⟩ dX9_numeral_1 (fun r τ1 hp => ?_)
  obtain ⟨z2, rfl, fτ1_0, fτ1_1, rfl⟩ := hp
  refine zi_if_ne (pc := 4) (tgt := 9) O dX9_numeral_4 (by decide) (by omega) (fun h4 => ?_) (fun h4 => ?_)
  · refine z_aload_n (pc := 9) O dX9_numeral_9 rfl ?_
    refine zi_getv (pc := 10) (gI σ 33 9) O fl_X9_238 rfl (jo_33 J) (izg σ 33 9) dX9_numeral_10 ?_
    have := rgI σ 33 9
    refine z_iconst (pc := 13) (v := iz (4)) O dX9_numeral_13 (by decide) ?_
    refine zi_icmp_eq (pc := 14) (tgt := 21) O dX9_numeral_14 (by decide) (by omega) (by decide) (fun h14 => ?_) (fun h14 => ?_)
    · refine z_aload_n (pc := 21) O dX9_numeral_21 rfl ?_
      refine z_callV (pc := 22) O cl_X9_272 (k9_isGood _ _ J) (by decide) (jo_33 J) kc_9 rfl rfl (Nat.le_of_ble_eq_true rfl) ⟨Nat.zero_le _, Nat.zero_le _⟩ dX9_numeral_22 (fun r τ3 hp => ?_)
      obtain ⟨z4, rfl, fτ3_0, fτ3_1, rfl⟩ := hp
      refine zi_if_eq (pc := 25) (tgt := 53) O dX9_numeral_25 (by decide) (by omega) (fun h25 => ?_) (fun h25 => ?_)
      · refine z_aload_n (pc := 53) O dX9_numeral_53 rfl ?_
        refine zi_getv (pc := 54) (gI σ 33 10) O fl_X9_256 rfl (jo_33 J) (izg σ 33 10) dX9_numeral_54 ?_
        have := rgI σ 33 10
        refine z_istore_n (pc := 57) [(0, .ref 33), (1, .int (iz y)), (2, .int (iz x)), (3, .int (iz (gI σ 33 10)))] O dX9_numeral_57 (by decide) rfl ?_
        refine z_aload_n (pc := 58) O dX9_numeral_58 rfl ?_
        refine z_callV (pc := 59) O cl_X9_272 (k9_isGood _ _ J) (by decide) (jo_33 J) kc_9 rfl rfl (Nat.le_of_ble_eq_true rfl) ⟨Nat.zero_le _, Nat.zero_le _⟩ dX9_numeral_59 (fun r τ5 hp => ?_)
        obtain ⟨z6, rfl, fτ5_0, fτ5_1, rfl⟩ := hp
        refine zi_if_eq (pc := 62) (tgt := 69) O dX9_numeral_62 (by decide) (by omega) (fun h62 => ?_) (fun h62 => ?_)
        · refine z_iload_n (pc := 69) O dX9_numeral_69 rfl ?_
          refine z_iret (pc := 70) O dX9_numeral_70 ?_
          exact ⟨(gI σ 33 10), rfl, (by omega), (Fr.rf [(33, 7), (33, 8), (33, 9), (33, 10), (33, 11), (33, 4), (33, 5)] σ), (by omega), (by omega), (by omega), (by omega)⟩
        · refine z_aload_n (pc := 65) O dX9_numeral_65 rfl ?_
          refine z_callV (pc := 66) O cl_X9_266 (k9_next _ _ J (by omega) (by omega)) (by decide) (jo_33 J) kc_9 rfl rfl (Nat.le_of_ble_eq_true rfl) ⟨Nat.zero_le _, Nat.zero_le _⟩ dX9_numeral_66 (fun r τ7 hp => ?_)
          obtain ⟨rfl, frτ7, eτ7_0, eτ7_1⟩ := hp
          have : gI τ7 33 3 = gI σ 33 3 := gI_iz (Fr.it frτ7 rfl (izg σ 33 3)) (rgI _ _ _)
          refine z_iload_n (pc := 69) O dX9_numeral_69 rfl ?_
          refine z_iret (pc := 70) O dX9_numeral_70 ?_
          exact ⟨(gI σ 33 10), rfl, (by omega), (frτ7.mono (V := [(33, 7), (33, 8), (33, 9), (33, 10), (33, 11), (33, 4), (33, 5)]) rfl), (by have : gI τ7 33 3 = gI σ 33 3 := gI_iz (Fr.it frτ7 rfl (izg σ 33 3)) (rgI _ _ _); omega), (by omega), (by have : gI τ7 33 4 = gI σ 33 4 := gI_iz (Fr.it frτ7 rfl (izg σ 33 4)) (rgI _ _ _); omega), (by have : gI τ7 33 4 = gI σ 33 4 := gI_iz (Fr.it frτ7 rfl (izg σ 33 4)) (rgI _ _ _); omega)⟩
      · refine z_aload_n (pc := 28) O dX9_numeral_28 rfl ?_
        refine zi_getv (pc := 29) (gI σ 33 10) O fl_X9_256 rfl (jo_33 J) (izg σ 33 10) dX9_numeral_29 ?_
        have := rgI σ 33 10
        refine z_iload_n (pc := 32) O dX9_numeral_32 rfl ?_
        refine zi_icmp_lt (pc := 33) (tgt := 44) O dX9_numeral_33 (by decide) (by omega) (by omega) (fun h33 => ?_) (fun h33 => ?_)
        · refine z_aload_n (pc := 44) O dX9_numeral_44 rfl ?_
          refine z_iconst (pc := 45) (v := iz (4)) O dX9_numeral_45 (by decide) ?_
          refine z_aload_n (pc := 46) O dX9_numeral_46 rfl ?_
          refine zi_getv (pc := 47) (gI σ 33 7) O fl_X9_231 rfl (jo_33 J) (izg σ 33 7) dX9_numeral_47 ?_
          have := rgI σ 33 7
          refine z_callV (pc := 50) O cl_X9_259 (k9_fails _ _ 4 (by decide) (gI σ 33 7) (by omega) J) (by decide) (jo_33 J) kc_9 rfl rfl (Nat.le_of_ble_eq_true rfl) ⟨Nat.zero_le _, Nat.zero_le _⟩ dX9_numeral_50 (fun r τ9 hp => ?_)
          obtain ⟨rfl, frτ9, eτ9_0⟩ := hp
          refine z_aload_n (pc := 53) O dX9_numeral_53 rfl ?_
          refine zi_getv (pc := 54) (gI σ 33 10) O fl_X9_256 rfl (jo_33 (frτ9.lay J)) (Fr.it frτ9 rfl (izg σ 33 10)) dX9_numeral_54 ?_
          refine z_istore_n (pc := 57) [(0, .ref 33), (1, .int (iz y)), (2, .int (iz x)), (3, .int (iz (gI σ 33 10)))] O dX9_numeral_57 (by decide) rfl ?_
          refine z_aload_n (pc := 58) O dX9_numeral_58 rfl ?_
          refine z_callV (pc := 59) O cl_X9_272 (k9_isGood _ _ (frτ9.lay J)) (by decide) (jo_33 (frτ9.lay J)) kc_9 rfl rfl (Nat.le_of_ble_eq_true rfl) ⟨Nat.zero_le _, Nat.zero_le _⟩ dX9_numeral_59 (fun r τ11 hp => ?_)
          obtain ⟨z12, rfl, fτ11_0, fτ11_1, rfl⟩ := hp
          refine zi_if_eq (pc := 62) (tgt := 69) O dX9_numeral_62 (by decide) (by omega) (fun h62 => ?_) (fun h62 => ?_)
          · refine z_iload_n (pc := 69) O dX9_numeral_69 rfl ?_
            refine z_iret (pc := 70) O dX9_numeral_70 ?_
            exact ⟨(gI σ 33 10), rfl, (by omega), (frτ9.mono (V := [(33, 7), (33, 8), (33, 9), (33, 10), (33, 11), (33, 4), (33, 5)]) rfl), (by have : gI τ9 33 7 = gI σ 33 7 := gI_iz (Fr.it frτ9 rfl (izg σ 33 7)) (rgI _ _ _); have : gI τ9 33 8 = gI σ 33 8 := gI_iz (Fr.it frτ9 rfl (izg σ 33 8)) (rgI _ _ _); have : gI τ9 33 3 = gI σ 33 3 := gI_iz (Fr.it frτ9 rfl (izg σ 33 3)) (rgI _ _ _); have : gI τ9 33 9 = gI σ 33 9 := gI_iz (Fr.it frτ9 rfl (izg σ 33 9)) (rgI _ _ _); omega), (by have : gI τ9 33 7 = gI σ 33 7 := gI_iz (Fr.it frτ9 rfl (izg σ 33 7)) (rgI _ _ _); omega), (by omega), (by have : gI τ9 33 7 = gI σ 33 7 := gI_iz (Fr.it frτ9 rfl (izg σ 33 7)) (rgI _ _ _); omega)⟩
          · refine z_aload_n (pc := 65) O dX9_numeral_65 rfl ?_
            refine z_callV (pc := 66) O cl_X9_266 (k9_next _ _ (frτ9.lay J) (by have : gI τ9 33 3 = gI σ 33 3 := gI_iz (Fr.it frτ9 rfl (izg σ 33 3)) (rgI _ _ _); omega) (by have : gI τ9 33 8 = gI σ 33 8 := gI_iz (Fr.it frτ9 rfl (izg σ 33 8)) (rgI _ _ _); have : gI τ9 33 3 = gI σ 33 3 := gI_iz (Fr.it frτ9 rfl (izg σ 33 3)) (rgI _ _ _); omega)) (by decide) (jo_33 (frτ9.lay J)) kc_9 rfl rfl (Nat.le_of_ble_eq_true rfl) ⟨Nat.zero_le _, Nat.zero_le _⟩ dX9_numeral_66 (fun r τ13 hp => ?_)
            obtain ⟨rfl, frτ13, eτ13_0, eτ13_1⟩ := hp
            have : gI τ9 33 8 = gI σ 33 8 := gI_iz (Fr.it frτ9 rfl (izg σ 33 8)) (rgI _ _ _)
            have : gI τ13 33 3 = gI σ 33 3 := gI_iz (Fr.it frτ13 rfl (Fr.it frτ9 rfl (izg σ 33 3))) (rgI _ _ _)
            refine z_iload_n (pc := 69) O dX9_numeral_69 rfl ?_
            refine z_iret (pc := 70) O dX9_numeral_70 ?_
            exact ⟨(gI σ 33 10), rfl, (by omega), ((frτ9.mono (V := [(33, 7), (33, 8), (33, 9), (33, 10), (33, 11), (33, 4), (33, 5)]) rfl).tr (frτ13.mono (V := [(33, 7), (33, 8), (33, 9), (33, 10), (33, 11), (33, 4), (33, 5)]) rfl)), (by have : gI τ13 33 3 = gI σ 33 3 := gI_iz (Fr.it frτ13 rfl (Fr.it frτ9 rfl (izg σ 33 3))) (rgI _ _ _); omega), (by omega), (by have : gI τ13 33 4 = gI τ9 33 4 := gI_iz (Fr.it frτ13 rfl (izg τ9 33 4)) (rgI _ _ _); omega), (by have : gI τ13 33 4 = gI τ9 33 4 := gI_iz (Fr.it frτ13 rfl (izg τ9 33 4)) (rgI _ _ _); omega)⟩
        · refine z_aload_n (pc := 36) O dX9_numeral_36 rfl ?_
          refine zi_getv (pc := 37) (gI σ 33 10) O fl_X9_256 rfl (jo_33 J) (izg σ 33 10) dX9_numeral_37 ?_
          refine z_iload_n (pc := 40) O dX9_numeral_40 rfl ?_
          refine zi_icmp_le (pc := 41) (tgt := 53) O dX9_numeral_41 (by decide) (by omega) (by omega) (fun h41 => ?_) (fun h41 => ?_)
          · refine z_aload_n (pc := 53) O dX9_numeral_53 rfl ?_
            refine zi_getv (pc := 54) (gI σ 33 10) O fl_X9_256 rfl (jo_33 J) (izg σ 33 10) dX9_numeral_54 ?_
            refine z_istore_n (pc := 57) [(0, .ref 33), (1, .int (iz y)), (2, .int (iz x)), (3, .int (iz (gI σ 33 10)))] O dX9_numeral_57 (by decide) rfl ?_
            refine z_aload_n (pc := 58) O dX9_numeral_58 rfl ?_
            refine z_callV (pc := 59) O cl_X9_272 (k9_isGood _ _ J) (by decide) (jo_33 J) kc_9 rfl rfl (Nat.le_of_ble_eq_true rfl) ⟨Nat.zero_le _, Nat.zero_le _⟩ dX9_numeral_59 (fun r τ15 hp => ?_)
            obtain ⟨z16, rfl, fτ15_0, fτ15_1, rfl⟩ := hp
            refine zi_if_eq (pc := 62) (tgt := 69) O dX9_numeral_62 (by decide) (by omega) (fun h62 => ?_) (fun h62 => ?_)
            · refine z_iload_n (pc := 69) O dX9_numeral_69 rfl ?_
              refine z_iret (pc := 70) O dX9_numeral_70 ?_
              exact ⟨(gI σ 33 10), rfl, (by omega), (Fr.rf [(33, 7), (33, 8), (33, 9), (33, 10), (33, 11), (33, 4), (33, 5)] σ), (by omega), (by omega), (by omega), (by omega)⟩
            · refine z_aload_n (pc := 65) O dX9_numeral_65 rfl ?_
              refine z_callV (pc := 66) O cl_X9_266 (k9_next _ _ J (by omega) (by omega)) (by decide) (jo_33 J) kc_9 rfl rfl (Nat.le_of_ble_eq_true rfl) ⟨Nat.zero_le _, Nat.zero_le _⟩ dX9_numeral_66 (fun r τ17 hp => ?_)
              obtain ⟨rfl, frτ17, eτ17_0, eτ17_1⟩ := hp
              have : gI τ17 33 3 = gI σ 33 3 := gI_iz (Fr.it frτ17 rfl (izg σ 33 3)) (rgI _ _ _)
              refine z_iload_n (pc := 69) O dX9_numeral_69 rfl ?_
              refine z_iret (pc := 70) O dX9_numeral_70 ?_
              exact ⟨(gI σ 33 10), rfl, (by omega), (frτ17.mono (V := [(33, 7), (33, 8), (33, 9), (33, 10), (33, 11), (33, 4), (33, 5)]) rfl), (by have : gI τ17 33 3 = gI σ 33 3 := gI_iz (Fr.it frτ17 rfl (izg σ 33 3)) (rgI _ _ _); omega), (by omega), (by have : gI τ17 33 4 = gI σ 33 4 := gI_iz (Fr.it frτ17 rfl (izg σ 33 4)) (rgI _ _ _); omega), (by have : gI τ17 33 4 = gI σ 33 4 := gI_iz (Fr.it frτ17 rfl (izg σ 33 4)) (rgI _ _ _); omega)⟩
          · refine z_aload_n (pc := 44) O dX9_numeral_44 rfl ?_
            refine z_iconst (pc := 45) (v := iz (4)) O dX9_numeral_45 (by decide) ?_
            refine z_aload_n (pc := 46) O dX9_numeral_46 rfl ?_
            refine zi_getv (pc := 47) (gI σ 33 7) O fl_X9_231 rfl (jo_33 J) (izg σ 33 7) dX9_numeral_47 ?_
            have := rgI σ 33 7
            refine z_callV (pc := 50) O cl_X9_259 (k9_fails _ _ 4 (by decide) (gI σ 33 7) (by omega) J) (by decide) (jo_33 J) kc_9 rfl rfl (Nat.le_of_ble_eq_true rfl) ⟨Nat.zero_le _, Nat.zero_le _⟩ dX9_numeral_50 (fun r τ19 hp => ?_)
            obtain ⟨rfl, frτ19, eτ19_0⟩ := hp
            refine z_aload_n (pc := 53) O dX9_numeral_53 rfl ?_
            refine zi_getv (pc := 54) (gI σ 33 10) O fl_X9_256 rfl (jo_33 (frτ19.lay J)) (Fr.it frτ19 rfl (izg σ 33 10)) dX9_numeral_54 ?_
            refine z_istore_n (pc := 57) [(0, .ref 33), (1, .int (iz y)), (2, .int (iz x)), (3, .int (iz (gI σ 33 10)))] O dX9_numeral_57 (by decide) rfl ?_
            refine z_aload_n (pc := 58) O dX9_numeral_58 rfl ?_
            refine z_callV (pc := 59) O cl_X9_272 (k9_isGood _ _ (frτ19.lay J)) (by decide) (jo_33 (frτ19.lay J)) kc_9 rfl rfl (Nat.le_of_ble_eq_true rfl) ⟨Nat.zero_le _, Nat.zero_le _⟩ dX9_numeral_59 (fun r τ21 hp => ?_)
            obtain ⟨z22, rfl, fτ21_0, fτ21_1, rfl⟩ := hp
            refine zi_if_eq (pc := 62) (tgt := 69) O dX9_numeral_62 (by decide) (by omega) (fun h62 => ?_) (fun h62 => ?_)
            · refine z_iload_n (pc := 69) O dX9_numeral_69 rfl ?_
              refine z_iret (pc := 70) O dX9_numeral_70 ?_
              exact ⟨(gI σ 33 10), rfl, (by omega), (frτ19.mono (V := [(33, 7), (33, 8), (33, 9), (33, 10), (33, 11), (33, 4), (33, 5)]) rfl), (by have : gI τ19 33 7 = gI σ 33 7 := gI_iz (Fr.it frτ19 rfl (izg σ 33 7)) (rgI _ _ _); have : gI τ19 33 8 = gI σ 33 8 := gI_iz (Fr.it frτ19 rfl (izg σ 33 8)) (rgI _ _ _); have : gI τ19 33 3 = gI σ 33 3 := gI_iz (Fr.it frτ19 rfl (izg σ 33 3)) (rgI _ _ _); have : gI τ19 33 9 = gI σ 33 9 := gI_iz (Fr.it frτ19 rfl (izg σ 33 9)) (rgI _ _ _); omega), (by have : gI τ19 33 7 = gI σ 33 7 := gI_iz (Fr.it frτ19 rfl (izg σ 33 7)) (rgI _ _ _); omega), (by omega), (by have : gI τ19 33 7 = gI σ 33 7 := gI_iz (Fr.it frτ19 rfl (izg σ 33 7)) (rgI _ _ _); omega)⟩
            · refine z_aload_n (pc := 65) O dX9_numeral_65 rfl ?_
              refine z_callV (pc := 66) O cl_X9_266 (k9_next _ _ (frτ19.lay J) (by have : gI τ19 33 3 = gI σ 33 3 := gI_iz (Fr.it frτ19 rfl (izg σ 33 3)) (rgI _ _ _); omega) (by have : gI τ19 33 8 = gI σ 33 8 := gI_iz (Fr.it frτ19 rfl (izg σ 33 8)) (rgI _ _ _); have : gI τ19 33 3 = gI σ 33 3 := gI_iz (Fr.it frτ19 rfl (izg σ 33 3)) (rgI _ _ _); omega)) (by decide) (jo_33 (frτ19.lay J)) kc_9 rfl rfl (Nat.le_of_ble_eq_true rfl) ⟨Nat.zero_le _, Nat.zero_le _⟩ dX9_numeral_66 (fun r τ23 hp => ?_)
              obtain ⟨rfl, frτ23, eτ23_0, eτ23_1⟩ := hp
              have : gI τ19 33 8 = gI σ 33 8 := gI_iz (Fr.it frτ19 rfl (izg σ 33 8)) (rgI _ _ _)
              have : gI τ23 33 3 = gI σ 33 3 := gI_iz (Fr.it frτ23 rfl (Fr.it frτ19 rfl (izg σ 33 3))) (rgI _ _ _)
              refine z_iload_n (pc := 69) O dX9_numeral_69 rfl ?_
              refine z_iret (pc := 70) O dX9_numeral_70 ?_
              exact ⟨(gI σ 33 10), rfl, (by omega), ((frτ19.mono (V := [(33, 7), (33, 8), (33, 9), (33, 10), (33, 11), (33, 4), (33, 5)]) rfl).tr (frτ23.mono (V := [(33, 7), (33, 8), (33, 9), (33, 10), (33, 11), (33, 4), (33, 5)]) rfl)), (by have : gI τ23 33 3 = gI σ 33 3 := gI_iz (Fr.it frτ23 rfl (Fr.it frτ19 rfl (izg σ 33 3))) (rgI _ _ _); omega), (by omega), (by have : gI τ23 33 4 = gI τ19 33 4 := gI_iz (Fr.it frτ23 rfl (izg τ19 33 4)) (rgI _ _ _); omega), (by have : gI τ23 33 4 = gI τ19 33 4 := gI_iz (Fr.it frτ23 rfl (izg τ19 33 4)) (rgI _ _ _); omega)⟩
    · refine z_aload_n (pc := 17) O dX9_numeral_17 rfl ?_
      refine z_callV (pc := 18) O cl_X9_269 (k9_wrong _ _ J) (by decide) (jo_33 J) kc_9 rfl rfl (Nat.le_of_ble_eq_true rfl) ⟨Nat.zero_le _, Nat.zero_le _⟩ dX9_numeral_18 (fun r τ25 hp => ?_)
      obtain ⟨rfl, frτ25, eτ25_0⟩ := hp
      refine z_aload_n (pc := 21) O dX9_numeral_21 rfl ?_
      refine z_callV (pc := 22) O cl_X9_272 (k9_isGood _ _ (frτ25.lay J)) (by decide) (jo_33 (frτ25.lay J)) kc_9 rfl rfl (Nat.le_of_ble_eq_true rfl) ⟨Nat.zero_le _, Nat.zero_le _⟩ dX9_numeral_22 (fun r τ27 hp => ?_)
      obtain ⟨z28, rfl, fτ27_0, fτ27_1, rfl⟩ := hp
      refine zi_if_eq (pc := 25) (tgt := 53) O dX9_numeral_25 (by decide) (by omega) (fun h25 => ?_) (fun h25 => ?_)
      · refine z_aload_n (pc := 53) O dX9_numeral_53 rfl ?_
        refine zi_getv (pc := 54) (gI σ 33 10) O fl_X9_256 rfl (jo_33 (frτ25.lay J)) (Fr.it frτ25 rfl (izg σ 33 10)) dX9_numeral_54 ?_
        have := rgI σ 33 10
        refine z_istore_n (pc := 57) [(0, .ref 33), (1, .int (iz y)), (2, .int (iz x)), (3, .int (iz (gI σ 33 10)))] O dX9_numeral_57 (by decide) rfl ?_
        refine z_aload_n (pc := 58) O dX9_numeral_58 rfl ?_
        refine z_callV (pc := 59) O cl_X9_272 (k9_isGood _ _ (frτ25.lay J)) (by decide) (jo_33 (frτ25.lay J)) kc_9 rfl rfl (Nat.le_of_ble_eq_true rfl) ⟨Nat.zero_le _, Nat.zero_le _⟩ dX9_numeral_59 (fun r τ29 hp => ?_)
        obtain ⟨z30, rfl, fτ29_0, fτ29_1, rfl⟩ := hp
        refine zi_if_eq (pc := 62) (tgt := 69) O dX9_numeral_62 (by decide) (by omega) (fun h62 => ?_) (fun h62 => ?_)
        · refine z_iload_n (pc := 69) O dX9_numeral_69 rfl ?_
          refine z_iret (pc := 70) O dX9_numeral_70 ?_
          exact ⟨(gI σ 33 10), rfl, (by omega), (frτ25.mono (V := [(33, 7), (33, 8), (33, 9), (33, 10), (33, 11), (33, 4), (33, 5)]) rfl), (by have : gI τ25 33 7 = gI σ 33 7 := gI_iz (Fr.it frτ25 rfl (izg σ 33 7)) (rgI _ _ _); have : gI τ25 33 8 = gI σ 33 8 := gI_iz (Fr.it frτ25 rfl (izg σ 33 8)) (rgI _ _ _); have : gI τ25 33 3 = gI σ 33 3 := gI_iz (Fr.it frτ25 rfl (izg σ 33 3)) (rgI _ _ _); have : gI τ25 33 9 = gI σ 33 9 := gI_iz (Fr.it frτ25 rfl (izg σ 33 9)) (rgI _ _ _); omega), (by have : gI τ25 33 7 = gI σ 33 7 := gI_iz (Fr.it frτ25 rfl (izg σ 33 7)) (rgI _ _ _); omega), (by omega), (by have : gI τ25 33 7 = gI σ 33 7 := gI_iz (Fr.it frτ25 rfl (izg σ 33 7)) (rgI _ _ _); omega)⟩
        · refine z_aload_n (pc := 65) O dX9_numeral_65 rfl ?_
          refine z_callV (pc := 66) O cl_X9_266 (k9_next _ _ (frτ25.lay J) (by have : gI τ25 33 3 = gI σ 33 3 := gI_iz (Fr.it frτ25 rfl (izg σ 33 3)) (rgI _ _ _); omega) (by have : gI τ25 33 8 = gI σ 33 8 := gI_iz (Fr.it frτ25 rfl (izg σ 33 8)) (rgI _ _ _); have : gI τ25 33 3 = gI σ 33 3 := gI_iz (Fr.it frτ25 rfl (izg σ 33 3)) (rgI _ _ _); omega)) (by decide) (jo_33 (frτ25.lay J)) kc_9 rfl rfl (Nat.le_of_ble_eq_true rfl) ⟨Nat.zero_le _, Nat.zero_le _⟩ dX9_numeral_66 (fun r τ31 hp => ?_)
          obtain ⟨rfl, frτ31, eτ31_0, eτ31_1⟩ := hp
          have : gI τ25 33 8 = gI σ 33 8 := gI_iz (Fr.it frτ25 rfl (izg σ 33 8)) (rgI _ _ _)
          have : gI τ31 33 3 = gI σ 33 3 := gI_iz (Fr.it frτ31 rfl (Fr.it frτ25 rfl (izg σ 33 3))) (rgI _ _ _)
          refine z_iload_n (pc := 69) O dX9_numeral_69 rfl ?_
          refine z_iret (pc := 70) O dX9_numeral_70 ?_
          exact ⟨(gI σ 33 10), rfl, (by omega), ((frτ25.mono (V := [(33, 7), (33, 8), (33, 9), (33, 10), (33, 11), (33, 4), (33, 5)]) rfl).tr (frτ31.mono (V := [(33, 7), (33, 8), (33, 9), (33, 10), (33, 11), (33, 4), (33, 5)]) rfl)), (by have : gI τ31 33 3 = gI σ 33 3 := gI_iz (Fr.it frτ31 rfl (Fr.it frτ25 rfl (izg σ 33 3))) (rgI _ _ _); omega), (by omega), (by have : gI τ31 33 4 = gI τ25 33 4 := gI_iz (Fr.it frτ31 rfl (izg τ25 33 4)) (rgI _ _ _); omega), (by have : gI τ31 33 4 = gI τ25 33 4 := gI_iz (Fr.it frτ31 rfl (izg τ25 33 4)) (rgI _ _ _); omega)⟩
      · refine z_aload_n (pc := 28) O dX9_numeral_28 rfl ?_
        refine zi_getv (pc := 29) (gI σ 33 10) O fl_X9_256 rfl (jo_33 (frτ25.lay J)) (Fr.it frτ25 rfl (izg σ 33 10)) dX9_numeral_29 ?_
        have := rgI σ 33 10
        refine z_iload_n (pc := 32) O dX9_numeral_32 rfl ?_
        refine zi_icmp_lt (pc := 33) (tgt := 44) O dX9_numeral_33 (by decide) (by omega) (by omega) (fun h33 => ?_) (fun h33 => ?_)
        · refine z_aload_n (pc := 44) O dX9_numeral_44 rfl ?_
          refine z_iconst (pc := 45) (v := iz (4)) O dX9_numeral_45 (by decide) ?_
          refine z_aload_n (pc := 46) O dX9_numeral_46 rfl ?_
          refine zi_getv (pc := 47) (gI σ 33 7) O fl_X9_231 rfl (jo_33 (frτ25.lay J)) (Fr.it frτ25 rfl (izg σ 33 7)) dX9_numeral_47 ?_
          have := rgI σ 33 7
          refine z_callV (pc := 50) O cl_X9_259 (k9_fails _ _ 4 (by decide) (gI σ 33 7) (by omega) (frτ25.lay J)) (by decide) (jo_33 (frτ25.lay J)) kc_9 rfl rfl (Nat.le_of_ble_eq_true rfl) ⟨Nat.zero_le _, Nat.zero_le _⟩ dX9_numeral_50 (fun r τ33 hp => ?_)
          obtain ⟨rfl, frτ33, eτ33_0⟩ := hp
          refine z_aload_n (pc := 53) O dX9_numeral_53 rfl ?_
          refine zi_getv (pc := 54) (gI σ 33 10) O fl_X9_256 rfl (jo_33 (frτ33.lay (frτ25.lay J))) (Fr.it frτ33 rfl (Fr.it frτ25 rfl (izg σ 33 10))) dX9_numeral_54 ?_
          refine z_istore_n (pc := 57) [(0, .ref 33), (1, .int (iz y)), (2, .int (iz x)), (3, .int (iz (gI σ 33 10)))] O dX9_numeral_57 (by decide) rfl ?_
          refine z_aload_n (pc := 58) O dX9_numeral_58 rfl ?_
          refine z_callV (pc := 59) O cl_X9_272 (k9_isGood _ _ (frτ33.lay (frτ25.lay J))) (by decide) (jo_33 (frτ33.lay (frτ25.lay J))) kc_9 rfl rfl (Nat.le_of_ble_eq_true rfl) ⟨Nat.zero_le _, Nat.zero_le _⟩ dX9_numeral_59 (fun r τ35 hp => ?_)
          obtain ⟨z36, rfl, fτ35_0, fτ35_1, rfl⟩ := hp
          refine zi_if_eq (pc := 62) (tgt := 69) O dX9_numeral_62 (by decide) (by omega) (fun h62 => ?_) (fun h62 => ?_)
          · refine z_iload_n (pc := 69) O dX9_numeral_69 rfl ?_
            refine z_iret (pc := 70) O dX9_numeral_70 ?_
            exact ⟨(gI σ 33 10), rfl, (by omega), ((frτ25.mono (V := [(33, 7), (33, 8), (33, 9), (33, 10), (33, 11), (33, 4), (33, 5)]) rfl).tr (frτ33.mono (V := [(33, 7), (33, 8), (33, 9), (33, 10), (33, 11), (33, 4), (33, 5)]) rfl)), (by have : gI τ33 33 7 = gI σ 33 7 := gI_iz (Fr.it frτ33 rfl (Fr.it frτ25 rfl (izg σ 33 7))) (rgI _ _ _); have : gI τ33 33 8 = gI σ 33 8 := gI_iz (Fr.it frτ33 rfl (Fr.it frτ25 rfl (izg σ 33 8))) (rgI _ _ _); have : gI τ33 33 3 = gI σ 33 3 := gI_iz (Fr.it frτ33 rfl (Fr.it frτ25 rfl (izg σ 33 3))) (rgI _ _ _); have : gI τ33 33 9 = gI σ 33 9 := gI_iz (Fr.it frτ33 rfl (Fr.it frτ25 rfl (izg σ 33 9))) (rgI _ _ _); omega), (by have : gI τ33 33 7 = gI σ 33 7 := gI_iz (Fr.it frτ33 rfl (Fr.it frτ25 rfl (izg σ 33 7))) (rgI _ _ _); omega), (by omega), (by have : gI τ33 33 7 = gI σ 33 7 := gI_iz (Fr.it frτ33 rfl (Fr.it frτ25 rfl (izg σ 33 7))) (rgI _ _ _); omega)⟩
          · refine z_aload_n (pc := 65) O dX9_numeral_65 rfl ?_
            refine z_callV (pc := 66) O cl_X9_266 (k9_next _ _ (frτ33.lay (frτ25.lay J)) (by have : gI τ33 33 3 = gI σ 33 3 := gI_iz (Fr.it frτ33 rfl (Fr.it frτ25 rfl (izg σ 33 3))) (rgI _ _ _); omega) (by have : gI τ33 33 8 = gI σ 33 8 := gI_iz (Fr.it frτ33 rfl (Fr.it frτ25 rfl (izg σ 33 8))) (rgI _ _ _); have : gI τ33 33 3 = gI σ 33 3 := gI_iz (Fr.it frτ33 rfl (Fr.it frτ25 rfl (izg σ 33 3))) (rgI _ _ _); omega)) (by decide) (jo_33 (frτ33.lay (frτ25.lay J))) kc_9 rfl rfl (Nat.le_of_ble_eq_true rfl) ⟨Nat.zero_le _, Nat.zero_le _⟩ dX9_numeral_66 (fun r τ37 hp => ?_)
            obtain ⟨rfl, frτ37, eτ37_0, eτ37_1⟩ := hp
            have : gI τ33 33 8 = gI σ 33 8 := gI_iz (Fr.it frτ33 rfl (Fr.it frτ25 rfl (izg σ 33 8))) (rgI _ _ _)
            have : gI τ37 33 3 = gI σ 33 3 := gI_iz (Fr.it frτ37 rfl (Fr.it frτ33 rfl (Fr.it frτ25 rfl (izg σ 33 3)))) (rgI _ _ _)
            refine z_iload_n (pc := 69) O dX9_numeral_69 rfl ?_
            refine z_iret (pc := 70) O dX9_numeral_70 ?_
            exact ⟨(gI σ 33 10), rfl, (by omega), (((frτ25.mono (V := [(33, 7), (33, 8), (33, 9), (33, 10), (33, 11), (33, 4), (33, 5)]) rfl).tr (frτ33.mono (V := [(33, 7), (33, 8), (33, 9), (33, 10), (33, 11), (33, 4), (33, 5)]) rfl)).tr (frτ37.mono (V := [(33, 7), (33, 8), (33, 9), (33, 10), (33, 11), (33, 4), (33, 5)]) rfl)), (by have : gI τ37 33 3 = gI σ 33 3 := gI_iz (Fr.it frτ37 rfl (Fr.it frτ33 rfl (Fr.it frτ25 rfl (izg σ 33 3)))) (rgI _ _ _); omega), (by omega), (by have : gI τ37 33 4 = gI τ33 33 4 := gI_iz (Fr.it frτ37 rfl (izg τ33 33 4)) (rgI _ _ _); omega), (by have : gI τ37 33 4 = gI τ33 33 4 := gI_iz (Fr.it frτ37 rfl (izg τ33 33 4)) (rgI _ _ _); omega)⟩
        · refine z_aload_n (pc := 36) O dX9_numeral_36 rfl ?_
          refine zi_getv (pc := 37) (gI σ 33 10) O fl_X9_256 rfl (jo_33 (frτ25.lay J)) (Fr.it frτ25 rfl (izg σ 33 10)) dX9_numeral_37 ?_
          refine z_iload_n (pc := 40) O dX9_numeral_40 rfl ?_
          refine zi_icmp_le (pc := 41) (tgt := 53) O dX9_numeral_41 (by decide) (by omega) (by omega) (fun h41 => ?_) (fun h41 => ?_)
          · refine z_aload_n (pc := 53) O dX9_numeral_53 rfl ?_
            refine zi_getv (pc := 54) (gI σ 33 10) O fl_X9_256 rfl (jo_33 (frτ25.lay J)) (Fr.it frτ25 rfl (izg σ 33 10)) dX9_numeral_54 ?_
            refine z_istore_n (pc := 57) [(0, .ref 33), (1, .int (iz y)), (2, .int (iz x)), (3, .int (iz (gI σ 33 10)))] O dX9_numeral_57 (by decide) rfl ?_
            refine z_aload_n (pc := 58) O dX9_numeral_58 rfl ?_
            refine z_callV (pc := 59) O cl_X9_272 (k9_isGood _ _ (frτ25.lay J)) (by decide) (jo_33 (frτ25.lay J)) kc_9 rfl rfl (Nat.le_of_ble_eq_true rfl) ⟨Nat.zero_le _, Nat.zero_le _⟩ dX9_numeral_59 (fun r τ39 hp => ?_)
            obtain ⟨z40, rfl, fτ39_0, fτ39_1, rfl⟩ := hp
            refine zi_if_eq (pc := 62) (tgt := 69) O dX9_numeral_62 (by decide) (by omega) (fun h62 => ?_) (fun h62 => ?_)
            · refine z_iload_n (pc := 69) O dX9_numeral_69 rfl ?_
              refine z_iret (pc := 70) O dX9_numeral_70 ?_
              exact ⟨(gI σ 33 10), rfl, (by omega), (frτ25.mono (V := [(33, 7), (33, 8), (33, 9), (33, 10), (33, 11), (33, 4), (33, 5)]) rfl), (by have : gI τ25 33 7 = gI σ 33 7 := gI_iz (Fr.it frτ25 rfl (izg σ 33 7)) (rgI _ _ _); have : gI τ25 33 8 = gI σ 33 8 := gI_iz (Fr.it frτ25 rfl (izg σ 33 8)) (rgI _ _ _); have : gI τ25 33 3 = gI σ 33 3 := gI_iz (Fr.it frτ25 rfl (izg σ 33 3)) (rgI _ _ _); have : gI τ25 33 9 = gI σ 33 9 := gI_iz (Fr.it frτ25 rfl (izg σ 33 9)) (rgI _ _ _); omega), (by have : gI τ25 33 7 = gI σ 33 7 := gI_iz (Fr.it frτ25 rfl (izg σ 33 7)) (rgI _ _ _); omega), (by omega), (by have : gI τ25 33 7 = gI σ 33 7 := gI_iz (Fr.it frτ25 rfl (izg σ 33 7)) (rgI _ _ _); omega)⟩
            · refine z_aload_n (pc := 65) O dX9_numeral_65 rfl ?_
              refine z_callV (pc := 66) O cl_X9_266 (k9_next _ _ (frτ25.lay J) (by have : gI τ25 33 3 = gI σ 33 3 := gI_iz (Fr.it frτ25 rfl (izg σ 33 3)) (rgI _ _ _); omega) (by have : gI τ25 33 8 = gI σ 33 8 := gI_iz (Fr.it frτ25 rfl (izg σ 33 8)) (rgI _ _ _); have : gI τ25 33 3 = gI σ 33 3 := gI_iz (Fr.it frτ25 rfl (izg σ 33 3)) (rgI _ _ _); omega)) (by decide) (jo_33 (frτ25.lay J)) kc_9 rfl rfl (Nat.le_of_ble_eq_true rfl) ⟨Nat.zero_le _, Nat.zero_le _⟩ dX9_numeral_66 (fun r τ41 hp => ?_)
              obtain ⟨rfl, frτ41, eτ41_0, eτ41_1⟩ := hp
              have : gI τ25 33 8 = gI σ 33 8 := gI_iz (Fr.it frτ25 rfl (izg σ 33 8)) (rgI _ _ _)
              have : gI τ41 33 3 = gI σ 33 3 := gI_iz (Fr.it frτ41 rfl (Fr.it frτ25 rfl (izg σ 33 3))) (rgI _ _ _)
              refine z_iload_n (pc := 69) O dX9_numeral_69 rfl ?_
              refine z_iret (pc := 70) O dX9_numeral_70 ?_
              exact ⟨(gI σ 33 10), rfl, (by omega), ((frτ25.mono (V := [(33, 7), (33, 8), (33, 9), (33, 10), (33, 11), (33, 4), (33, 5)]) rfl).tr (frτ41.mono (V := [(33, 7), (33, 8), (33, 9), (33, 10), (33, 11), (33, 4), (33, 5)]) rfl)), (by have : gI τ41 33 3 = gI σ 33 3 := gI_iz (Fr.it frτ41 rfl (Fr.it frτ25 rfl (izg σ 33 3))) (rgI _ _ _); omega), (by omega), (by have : gI τ41 33 4 = gI τ25 33 4 := gI_iz (Fr.it frτ41 rfl (izg τ25 33 4)) (rgI _ _ _); omega), (by have : gI τ41 33 4 = gI τ25 33 4 := gI_iz (Fr.it frτ41 rfl (izg τ25 33 4)) (rgI _ _ _); omega)⟩
          · refine z_aload_n (pc := 44) O dX9_numeral_44 rfl ?_
            refine z_iconst (pc := 45) (v := iz (4)) O dX9_numeral_45 (by decide) ?_
            refine z_aload_n (pc := 46) O dX9_numeral_46 rfl ?_
            refine zi_getv (pc := 47) (gI σ 33 7) O fl_X9_231 rfl (jo_33 (frτ25.lay J)) (Fr.it frτ25 rfl (izg σ 33 7)) dX9_numeral_47 ?_
            have := rgI σ 33 7
            refine z_callV (pc := 50) O cl_X9_259 (k9_fails _ _ 4 (by decide) (gI σ 33 7) (by omega) (frτ25.lay J)) (by decide) (jo_33 (frτ25.lay J)) kc_9 rfl rfl (Nat.le_of_ble_eq_true rfl) ⟨Nat.zero_le _, Nat.zero_le _⟩ dX9_numeral_50 (fun r τ43 hp => ?_)
            obtain ⟨rfl, frτ43, eτ43_0⟩ := hp
            refine z_aload_n (pc := 53) O dX9_numeral_53 rfl ?_
            refine zi_getv (pc := 54) (gI σ 33 10) O fl_X9_256 rfl (jo_33 (frτ43.lay (frτ25.lay J))) (Fr.it frτ43 rfl (Fr.it frτ25 rfl (izg σ 33 10))) dX9_numeral_54 ?_
            refine z_istore_n (pc := 57) [(0, .ref 33), (1, .int (iz y)), (2, .int (iz x)), (3, .int (iz (gI σ 33 10)))] O dX9_numeral_57 (by decide) rfl ?_
            refine z_aload_n (pc := 58) O dX9_numeral_58 rfl ?_
            refine z_callV (pc := 59) O cl_X9_272 (k9_isGood _ _ (frτ43.lay (frτ25.lay J))) (by decide) (jo_33 (frτ43.lay (frτ25.lay J))) kc_9 rfl rfl (Nat.le_of_ble_eq_true rfl) ⟨Nat.zero_le _, Nat.zero_le _⟩ dX9_numeral_59 (fun r τ45 hp => ?_)
            obtain ⟨z46, rfl, fτ45_0, fτ45_1, rfl⟩ := hp
            refine zi_if_eq (pc := 62) (tgt := 69) O dX9_numeral_62 (by decide) (by omega) (fun h62 => ?_) (fun h62 => ?_)
            · refine z_iload_n (pc := 69) O dX9_numeral_69 rfl ?_
              refine z_iret (pc := 70) O dX9_numeral_70 ?_
              exact ⟨(gI σ 33 10), rfl, (by omega), ((frτ25.mono (V := [(33, 7), (33, 8), (33, 9), (33, 10), (33, 11), (33, 4), (33, 5)]) rfl).tr (frτ43.mono (V := [(33, 7), (33, 8), (33, 9), (33, 10), (33, 11), (33, 4), (33, 5)]) rfl)), (by have : gI τ43 33 7 = gI σ 33 7 := gI_iz (Fr.it frτ43 rfl (Fr.it frτ25 rfl (izg σ 33 7))) (rgI _ _ _); have : gI τ43 33 8 = gI σ 33 8 := gI_iz (Fr.it frτ43 rfl (Fr.it frτ25 rfl (izg σ 33 8))) (rgI _ _ _); have : gI τ43 33 3 = gI σ 33 3 := gI_iz (Fr.it frτ43 rfl (Fr.it frτ25 rfl (izg σ 33 3))) (rgI _ _ _); have : gI τ43 33 9 = gI σ 33 9 := gI_iz (Fr.it frτ43 rfl (Fr.it frτ25 rfl (izg σ 33 9))) (rgI _ _ _); omega), (by have : gI τ43 33 7 = gI σ 33 7 := gI_iz (Fr.it frτ43 rfl (Fr.it frτ25 rfl (izg σ 33 7))) (rgI _ _ _); omega), (by omega), (by have : gI τ43 33 7 = gI σ 33 7 := gI_iz (Fr.it frτ43 rfl (Fr.it frτ25 rfl (izg σ 33 7))) (rgI _ _ _); omega)⟩
            · refine z_aload_n (pc := 65) O dX9_numeral_65 rfl ?_
              refine z_callV (pc := 66) O cl_X9_266 (k9_next _ _ (frτ43.lay (frτ25.lay J)) (by have : gI τ43 33 3 = gI σ 33 3 := gI_iz (Fr.it frτ43 rfl (Fr.it frτ25 rfl (izg σ 33 3))) (rgI _ _ _); omega) (by have : gI τ43 33 8 = gI σ 33 8 := gI_iz (Fr.it frτ43 rfl (Fr.it frτ25 rfl (izg σ 33 8))) (rgI _ _ _); have : gI τ43 33 3 = gI σ 33 3 := gI_iz (Fr.it frτ43 rfl (Fr.it frτ25 rfl (izg σ 33 3))) (rgI _ _ _); omega)) (by decide) (jo_33 (frτ43.lay (frτ25.lay J))) kc_9 rfl rfl (Nat.le_of_ble_eq_true rfl) ⟨Nat.zero_le _, Nat.zero_le _⟩ dX9_numeral_66 (fun r τ47 hp => ?_)
              obtain ⟨rfl, frτ47, eτ47_0, eτ47_1⟩ := hp
              have : gI τ43 33 8 = gI σ 33 8 := gI_iz (Fr.it frτ43 rfl (Fr.it frτ25 rfl (izg σ 33 8))) (rgI _ _ _)
              have : gI τ47 33 3 = gI σ 33 3 := gI_iz (Fr.it frτ47 rfl (Fr.it frτ43 rfl (Fr.it frτ25 rfl (izg σ 33 3)))) (rgI _ _ _)
              refine z_iload_n (pc := 69) O dX9_numeral_69 rfl ?_
              refine z_iret (pc := 70) O dX9_numeral_70 ?_
              exact ⟨(gI σ 33 10), rfl, (by omega), (((frτ25.mono (V := [(33, 7), (33, 8), (33, 9), (33, 10), (33, 11), (33, 4), (33, 5)]) rfl).tr (frτ43.mono (V := [(33, 7), (33, 8), (33, 9), (33, 10), (33, 11), (33, 4), (33, 5)]) rfl)).tr (frτ47.mono (V := [(33, 7), (33, 8), (33, 9), (33, 10), (33, 11), (33, 4), (33, 5)]) rfl)), (by have : gI τ47 33 3 = gI σ 33 3 := gI_iz (Fr.it frτ47 rfl (Fr.it frτ43 rfl (Fr.it frτ25 rfl (izg σ 33 3)))) (rgI _ _ _); omega), (by omega), (by have : gI τ47 33 4 = gI τ43 33 4 := gI_iz (Fr.it frτ47 rfl (izg τ43 33 4)) (rgI _ _ _); omega), (by have : gI τ47 33 4 = gI τ43 33 4 := gI_iz (Fr.it frτ47 rfl (izg τ43 33 4)) (rgI _ _ _); omega)⟩
  · refine z_iconst (pc := 7) (v := iz (0)) O dX9_numeral_7 (by decide) ?_
    refine z_iret (pc := 8) O dX9_numeral_8 ?_
    exact ⟨0, rfl, (by decide), (Fr.rf [(33, 7), (33, 8), (33, 9), (33, 10), (33, 11), (33, 4), (33, 5)] σ), (by omega), (by omega), (by omega), (by omega)⟩
