set_option maxHeartbeats 4000000 in
set_option maxRecDepth 20000 in
theorem g_case8 (κ : Kx) (γ : Gh) (Q : State → Prop) (nm : String) (O : OK κ γ code 4 "BloodPriceLaw" 2000 ret nm) (hrc : κ.2.2.2.1.cells = 600000) (hrs : κ.2.2.2.1.slots = 7302250) (L : Nat) (hLγ : γ.2.2.2.2.2.2.1 = L) (hL : L ≤ 4096) (i : Int) (hi : 0 ≤ i ∧ i + 8 ≤ L) (σ : VH) (cells slots : Nat) (hc : cells ≤ 500000) (hs : slots ≤ 7000000) (IX : InvX σ) (IM : InvM σ) (K : Cp σ) (K2 : Cxt σ) (K3 : Cl σ) (fin : ∀ (τ : VH) (c s : Nat), InvX τ → InvM τ → Cp τ → Cxt τ → Cl τ → c ≤ cells + 10 → s ≤ slots + 863 → Z κ γ 4 τ c s Q 1049 [(0, .float 0), (1, .ref 2), (2, .ref 33), (3, .int (iz i))] []) : Z κ γ 4 σ cells slots Q 434 [(0, .float 0), (1, .ref 2), (2, .ref 33), (3, .int (iz i))] [] := by
  unfold Cp at K
  have ix1 := IX.2.1
  unfold InvX1 at ix1
  have im1 := IM.2.1
  unfold InvM1 at im1
  refine z_aload_n (pc := 434) O dL_law_434 rfl ?_
  refine z_aloadS (pc := 435) O dL_law_435 rfl ?_
  refine z_iload_n (pc := 436) O dL_law_436 rfl ?_
  refine z_iconst (pc := 437) (v := iz (1)) O dL_law_437 (by decide) ?_
  refine zi_iadd (pc := 438) O dL_law_438 ?_
  refine z_sld (pc := 439) ((i + 1).toNat) O (iz_nI (by omega)) (by rw [hLγ]; omega) (by rw [hLγ]; omega) dL_law_439 ?_
  refine zi_val _ (izi _) ?_
  have := rng (γ.2.2.2.2.2.2.2 ((i + 1).toNat))
  refine z_aloadS (pc := 440) O dL_law_440 rfl ?_
  refine z_iload_n (pc := 441) O dL_law_441 rfl ?_
  refine z_iconst (pc := 442) (v := iz (2)) O dL_law_442 (by decide) ?_
  refine zi_iadd (pc := 443) O dL_law_443 ?_
  refine z_sld (pc := 444) ((i + 2).toNat) O (iz_nI (by omega)) (by rw [hLγ]; omega) (by rw [hLγ]; omega) dL_law_444 ?_
  refine zi_val _ (izi _) ?_
  have := rng (γ.2.2.2.2.2.2.2 ((i + 2).toNat))
  refine z_aloadS (pc := 445) O dL_law_445 rfl ?_
  refine z_iload_n (pc := 446) O dL_law_446 rfl ?_
  refine z_iconst (pc := 447) (v := iz (3)) O dL_law_447 (by decide) ?_
  refine zi_iadd (pc := 448) O dL_law_448 ?_
  refine z_sld (pc := 449) ((i + 3).toNat) O (iz_nI (by omega)) (by rw [hLγ]; omega) (by rw [hLγ]; omega) dL_law_449 ?_
  refine zi_val _ (izi _) ?_
  have := rng (γ.2.2.2.2.2.2.2 ((i + 3).toNat))
  refine z_callV (pc := 450) O cl_L_49 (k8_ranked _ _ ((γ.2.2.2.2.2.2.2 ((i + 1).toNat)).toInt) (by omega) ((γ.2.2.2.2.2.2.2 ((i + 2).toNat)).toInt) (by omega) ((γ.2.2.2.2.2.2.2 ((i + 3).toNat)).toInt) (by omega) IX) (by decide) (jo_2 IX.1) kc_8 rfl rfl (Nat.le_of_ble_eq_true rfl) ⟨by rw [hrc]; omega, by rw [hrs]; omega⟩ dL_law_450 (fun r τ1 hp => ?_)
  obtain ⟨z2, rfl, fτ1_0, frτ1, ivτ1_InvX⟩ := hp
  have imτ1 : InvM τ1 := InvM.cls frτ1.G IM ivτ1_InvX.1 rfl
  have srτ1 : SRw τ1 := SRw.frW K2.2.2 frτ1.G (fun _ => rfl) (fun _ => rfl)
  have clτ1 : Cl τ1 := Cl.mv K3 IX IM (fun k => (gI_eq (Fr.it frτ1 rfl rfl : hI τ1 36 k = hI σ 36 k))) (fun k => (gI_eq (Fr.it frτ1 rfl rfl : hI τ1 37 k = hI σ 37 k))) (fun k => (gI_eq (Fr.it frτ1 rfl rfl : hI τ1 38 k = hI σ 38 k))) (gI_eq (Fr.it frτ1 rfl rfl : hI τ1 33 33 = hI σ 33 33)) (fun j => by rw [frτ1.2.2.1]) (Old.fr frτ1)
  refine z_pop (pc := 453) O dL_law_453 rfl ?_
  refine z_aload_n (pc := 454) O dL_law_454 rfl ?_
  refine z_aloadS (pc := 455) O dL_law_455 rfl ?_
  refine z_iload_n (pc := 456) O dL_law_456 rfl ?_
  refine z_iconst (pc := 457) (v := iz (1)) O dL_law_457 (by decide) ?_
  refine zi_iadd (pc := 458) O dL_law_458 ?_
  refine z_sld (pc := 459) ((i + 1).toNat) O (iz_nI (by omega)) (by rw [hLγ]; omega) (by rw [hLγ]; omega) dL_law_459 ?_
  refine zi_val _ (izi _) ?_
  have := rng (γ.2.2.2.2.2.2.2 ((i + 1).toNat))
  refine z_aloadS (pc := 460) O dL_law_460 rfl ?_
  refine z_iload_n (pc := 461) O dL_law_461 rfl ?_
  refine z_iconst (pc := 462) (v := iz (2)) O dL_law_462 (by decide) ?_
  refine zi_iadd (pc := 463) O dL_law_463 ?_
  refine z_sld (pc := 464) ((i + 2).toNat) O (iz_nI (by omega)) (by rw [hLγ]; omega) (by rw [hLγ]; omega) dL_law_464 ?_
  refine zi_val _ (izi _) ?_
  have := rng (γ.2.2.2.2.2.2.2 ((i + 2).toNat))
  refine z_aloadS (pc := 465) O dL_law_465 rfl ?_
  refine z_iload_n (pc := 466) O dL_law_466 rfl ?_
  refine z_iconst (pc := 467) (v := iz (3)) O dL_law_467 (by decide) ?_
  refine zi_iadd (pc := 468) O dL_law_468 ?_
  refine z_sld (pc := 469) ((i + 3).toNat) O (iz_nI (by omega)) (by rw [hLγ]; omega) (by rw [hLγ]; omega) dL_law_469 ?_
  refine zi_val _ (izi _) ?_
  have := rng (γ.2.2.2.2.2.2.2 ((i + 3).toNat))
  refine z_callV (pc := 470) O cl_L_52 (k9_ranked _ _ ((γ.2.2.2.2.2.2.2 ((i + 1).toNat)).toInt) (by omega) ((γ.2.2.2.2.2.2.2 ((i + 2).toNat)).toInt) (by omega) ((γ.2.2.2.2.2.2.2 ((i + 3).toNat)).toInt) (by omega) (frτ1.lay IX.1) (by have : gI τ1 33 53 = gI σ 33 53 := gI_iz (Fr.it frτ1 rfl (izg σ 33 53)) (rgI _ _ _); omega)) (by decide) (jo_33 (frτ1.lay IX.1)) kc_9 rfl rfl (Nat.le_of_ble_eq_true rfl) ⟨by rw [hrc]; omega, by rw [hrs]; omega⟩ dL_law_470 (fun r τ3 hp => ?_)
  obtain ⟨z4, rfl, fτ3_0, rfl⟩ := hp
  refine z_pop (pc := 473) O dL_law_473 rfl ?_
  refine z_goto (pc := 474) (tgt := 1049) O dL_law_474 (by decide) ?_
  exact fin τ1 _ _ ivτ1_InvX imτ1 (by unfold Cp; have : gI τ1 2 15 = gI σ 2 15 := gI_iz (Fr.it frτ1 rfl (izg σ 2 15)) (rgI _ _ _); have : gI τ1 33 73 = gI σ 33 73 := gI_iz (Fr.it frτ1 rfl (izg σ 33 73)) (rgI _ _ _); have : gI τ1 2 7 = gI σ 2 7 := gI_iz (Fr.it frτ1 rfl (izg σ 2 7)) (rgI _ _ _); have : gI τ1 33 6 = gI σ 33 6 := gI_iz (Fr.it frτ1 rfl (izg σ 33 6)) (rgI _ _ _); have : gI τ1 21 4 = gI σ 21 4 := gI_iz (Fr.it frτ1 rfl (izg σ 21 4)) (rgI _ _ _); have : gI τ1 33 54 = gI σ 33 54 := gI_iz (Fr.it frτ1 rfl (izg σ 33 54)) (rgI _ _ _); have : gI τ1 9 7 = gI σ 9 7 := gI_iz (Fr.it frτ1 rfl (izg σ 9 7)) (rgI _ _ _); have : gI τ1 33 52 = gI σ 33 52 := gI_iz (Fr.it frτ1 rfl (izg σ 33 52)) (rgI _ _ _); have : gI τ1 16 4 = gI σ 16 4 := gI_iz (Fr.it frτ1 rfl (izg σ 16 4)) (rgI _ _ _); have : gI τ1 33 53 = gI σ 33 53 := gI_iz (Fr.it frτ1 rfl (izg σ 33 53)) (rgI _ _ _); have : gI τ1 2 1 = gI σ 2 1 := gI_iz (Fr.it frτ1 rfl (izg σ 2 1)) (rgI _ _ _); have : gI τ1 33 2 = gI σ 33 2 := gI_iz (Fr.it frτ1 rfl (izg σ 33 2)) (rgI _ _ _); have : gI τ1 2 5 = gI σ 2 5 := gI_iz (Fr.it frτ1 rfl (izg σ 2 5)) (rgI _ _ _); have : gI τ1 33 4 = gI σ 33 4 := gI_iz (Fr.it frτ1 rfl (izg σ 33 4)) (rgI _ _ _); have : gI τ1 2 6 = gI σ 2 6 := gI_iz (Fr.it frτ1 rfl (izg σ 2 6)) (rgI _ _ _); have : gI τ1 33 5 = gI σ 33 5 := gI_iz (Fr.it frτ1 rfl (izg σ 33 5)) (rgI _ _ _); omega) ⟨(fun k => by rw [(Fr.it frτ1 rfl rfl : hI τ1 3 k = hI σ 3 k), (Fr.it frτ1 rfl rfl : hI τ1 34 k = hI σ 34 k)]; exact K2.1 k), (fun k => by rw [(gI_eq (Fr.it frτ1 rfl rfl : hI τ1 8 k = hI σ 8 k)), (gI_eq (Fr.it frτ1 rfl rfl : hI τ1 38 k = hI σ 38 k))]; exact K2.2.1 k), srτ1⟩ clτ1 (by omega) (by omega)
set_option maxHeartbeats 4000000 in
set_option maxRecDepth 20000 in
theorem g_case9 (κ : Kx) (γ : Gh) (Q : State → Prop) (nm : String) (O : OK κ γ code 4 "BloodPriceLaw" 2000 ret nm) (hrc : κ.2.2.2.1.cells = 600000) (hrs : κ.2.2.2.1.slots = 7302250) (L : Nat) (hLγ : γ.2.2.2.2.2.2.1 = L) (hL : L ≤ 4096) (i : Int) (hi : 0 ≤ i ∧ i + 8 ≤ L) (σ : VH) (cells slots : Nat) (hc : cells ≤ 500000) (hs : slots ≤ 7000000) (IX : InvX σ) (IM : InvM σ) (K : Cp σ) (K2 : Cxt σ) (K3 : Cl σ) (fin : ∀ (τ : VH) (c s : Nat), InvX τ → InvM τ → Cp τ → Cxt τ → Cl τ → c ≤ cells + 10 → s ≤ slots + 863 → Z κ γ 4 τ c s Q 1049 [(0, .float 0), (1, .ref 2), (2, .ref 33), (3, .int (iz i))] []) : Z κ γ 4 σ cells slots Q 477 [(0, .float 0), (1, .ref 2), (2, .ref 33), (3, .int (iz i))] [] := by
  unfold Cp at K
  have ix1 := IX.2.1
  unfold InvX1 at ix1
  have im1 := IM.2.1
  unfold InvM1 at im1
  refine z_aload_n (pc := 477) O dL_law_477 rfl ?_
  refine z_aloadS (pc := 478) O dL_law_478 rfl ?_
  refine z_iload_n (pc := 479) O dL_law_479 rfl ?_
  refine z_iconst (pc := 480) (v := iz (1)) O dL_law_480 (by decide) ?_
  refine zi_iadd (pc := 481) O dL_law_481 ?_
  refine z_sld (pc := 482) ((i + 1).toNat) O (iz_nI (by omega)) (by rw [hLγ]; omega) (by rw [hLγ]; omega) dL_law_482 ?_
  refine zi_val _ (izi _) ?_
  have := rng (γ.2.2.2.2.2.2.2 ((i + 1).toNat))
  refine z_aloadS (pc := 483) O dL_law_483 rfl ?_
  refine z_iload_n (pc := 484) O dL_law_484 rfl ?_
  refine z_iconst (pc := 485) (v := iz (2)) O dL_law_485 (by decide) ?_
  refine zi_iadd (pc := 486) O dL_law_486 ?_
  refine z_sld (pc := 487) ((i + 2).toNat) O (iz_nI (by omega)) (by rw [hLγ]; omega) (by rw [hLγ]; omega) dL_law_487 ?_
  refine zi_val _ (izi _) ?_
  have := rng (γ.2.2.2.2.2.2.2 ((i + 2).toNat))
  refine z_callV (pc := 488) O cl_L_53 (k8_dead _ _ ((γ.2.2.2.2.2.2.2 ((i + 1).toNat)).toInt) (by omega) ((γ.2.2.2.2.2.2.2 ((i + 2).toNat)).toInt) (by omega) IX) (by decide) (jo_2 IX.1) kc_8 rfl rfl (Nat.le_of_ble_eq_true rfl) ⟨by rw [hrc]; omega, by rw [hrs]; omega⟩ dL_law_488 (fun r τ1 hp => ?_)
  obtain ⟨z2, rfl, fτ1_0, frτ1, ivτ1_InvX⟩ := hp
  have imτ1 : InvM τ1 := InvM.cls frτ1.G IM ivτ1_InvX.1 rfl
  have srτ1 : SRw τ1 := SRw.frW K2.2.2 frτ1.G (fun _ => rfl) (fun _ => rfl)
  have clτ1 : Cl τ1 := Cl.mv K3 IX IM (fun k => (gI_eq (Fr.it frτ1 rfl rfl : hI τ1 36 k = hI σ 36 k))) (fun k => (gI_eq (Fr.it frτ1 rfl rfl : hI τ1 37 k = hI σ 37 k))) (fun k => (gI_eq (Fr.it frτ1 rfl rfl : hI τ1 38 k = hI σ 38 k))) (gI_eq (Fr.it frτ1 rfl rfl : hI τ1 33 33 = hI σ 33 33)) (fun j => by rw [frτ1.2.2.1]) (Old.fr frτ1)
  refine z_pop (pc := 491) O dL_law_491 rfl ?_
  refine z_aload_n (pc := 492) O dL_law_492 rfl ?_
  refine z_aloadS (pc := 493) O dL_law_493 rfl ?_
  refine z_iload_n (pc := 494) O dL_law_494 rfl ?_
  refine z_iconst (pc := 495) (v := iz (1)) O dL_law_495 (by decide) ?_
  refine zi_iadd (pc := 496) O dL_law_496 ?_
  refine z_sld (pc := 497) ((i + 1).toNat) O (iz_nI (by omega)) (by rw [hLγ]; omega) (by rw [hLγ]; omega) dL_law_497 ?_
  refine zi_val _ (izi _) ?_
  have := rng (γ.2.2.2.2.2.2.2 ((i + 1).toNat))
  refine z_aloadS (pc := 498) O dL_law_498 rfl ?_
  refine z_iload_n (pc := 499) O dL_law_499 rfl ?_
  refine z_iconst (pc := 500) (v := iz (2)) O dL_law_500 (by decide) ?_
  refine zi_iadd (pc := 501) O dL_law_501 ?_
  refine z_sld (pc := 502) ((i + 2).toNat) O (iz_nI (by omega)) (by rw [hLγ]; omega) (by rw [hLγ]; omega) dL_law_502 ?_
  refine zi_val _ (izi _) ?_
  have := rng (γ.2.2.2.2.2.2.2 ((i + 2).toNat))
  refine z_callV (pc := 503) O cl_L_57 (k9_dead _ _ ((γ.2.2.2.2.2.2.2 ((i + 1).toNat)).toInt) (by omega) ((γ.2.2.2.2.2.2.2 ((i + 2).toNat)).toInt) (by omega) imτ1) (by decide) (jo_33 (frτ1.lay IX.1)) kc_9 rfl rfl (Nat.le_of_ble_eq_true rfl) ⟨by rw [hrc]; omega, by rw [hrs]; omega⟩ dL_law_503 (fun r τ3 hp => ?_)
  obtain ⟨z4, rfl, fτ3_0, frτ3, ivτ3_InvM⟩ := hp
  have ixτ3 : InvX τ3 := InvX.mod frτ3 ivτ1_InvX rfl
  have srτ3 : SRw τ3 := SRw.frW srτ1 frτ3.G (fun _ => rfl) (fun _ => rfl)
  have clτ3 : Cl τ3 := Cl.mv clτ1 ivτ1_InvX imτ1 (fun k => (gI_eq (Fr.it frτ3 rfl rfl : hI τ3 36 k = hI τ1 36 k))) (fun k => (gI_eq (Fr.it frτ3 rfl rfl : hI τ3 37 k = hI τ1 37 k))) (fun k => (gI_eq (Fr.it frτ3 rfl rfl : hI τ3 38 k = hI τ1 38 k))) (gI_eq (Fr.it frτ3 rfl rfl : hI τ3 33 33 = hI τ1 33 33)) (fun j => by rw [frτ3.2.2.1]) (Old.fr frτ3)
  refine z_pop (pc := 506) O dL_law_506 rfl ?_
  refine z_goto (pc := 507) (tgt := 1049) O dL_law_507 (by decide) ?_
  exact fin τ3 _ _ ixτ3 ivτ3_InvM (by unfold Cp; have : gI τ3 2 15 = gI σ 2 15 := gI_iz (Fr.it frτ3 rfl (Fr.it frτ1 rfl (izg σ 2 15))) (rgI _ _ _); have : gI τ3 33 73 = gI σ 33 73 := gI_iz (Fr.it frτ3 rfl (Fr.it frτ1 rfl (izg σ 33 73))) (rgI _ _ _); have : gI τ3 2 7 = gI σ 2 7 := gI_iz (Fr.it frτ3 rfl (Fr.it frτ1 rfl (izg σ 2 7))) (rgI _ _ _); have : gI τ3 33 6 = gI σ 33 6 := gI_iz (Fr.it frτ3 rfl (Fr.it frτ1 rfl (izg σ 33 6))) (rgI _ _ _); have : gI τ3 21 4 = gI σ 21 4 := gI_iz (Fr.it frτ3 rfl (Fr.it frτ1 rfl (izg σ 21 4))) (rgI _ _ _); have : gI τ3 33 54 = gI σ 33 54 := gI_iz (Fr.it frτ3 rfl (Fr.it frτ1 rfl (izg σ 33 54))) (rgI _ _ _); have : gI τ3 9 7 = gI σ 9 7 := gI_iz (Fr.it frτ3 rfl (Fr.it frτ1 rfl (izg σ 9 7))) (rgI _ _ _); have : gI τ3 33 52 = gI σ 33 52 := gI_iz (Fr.it frτ3 rfl (Fr.it frτ1 rfl (izg σ 33 52))) (rgI _ _ _); have : gI τ3 16 4 = gI σ 16 4 := gI_iz (Fr.it frτ3 rfl (Fr.it frτ1 rfl (izg σ 16 4))) (rgI _ _ _); have : gI τ3 33 53 = gI σ 33 53 := gI_iz (Fr.it frτ3 rfl (Fr.it frτ1 rfl (izg σ 33 53))) (rgI _ _ _); have : gI τ3 2 1 = gI σ 2 1 := gI_iz (Fr.it frτ3 rfl (Fr.it frτ1 rfl (izg σ 2 1))) (rgI _ _ _); have : gI τ3 33 2 = gI σ 33 2 := gI_iz (Fr.it frτ3 rfl (Fr.it frτ1 rfl (izg σ 33 2))) (rgI _ _ _); have : gI τ3 2 5 = gI σ 2 5 := gI_iz (Fr.it frτ3 rfl (Fr.it frτ1 rfl (izg σ 2 5))) (rgI _ _ _); have : gI τ3 33 4 = gI σ 33 4 := gI_iz (Fr.it frτ3 rfl (Fr.it frτ1 rfl (izg σ 33 4))) (rgI _ _ _); have : gI τ3 2 6 = gI σ 2 6 := gI_iz (Fr.it frτ3 rfl (Fr.it frτ1 rfl (izg σ 2 6))) (rgI _ _ _); have : gI τ3 33 5 = gI σ 33 5 := gI_iz (Fr.it frτ3 rfl (Fr.it frτ1 rfl (izg σ 33 5))) (rgI _ _ _); omega) ⟨(fun k => by rw [(Fr.it frτ3 rfl rfl : hI τ3 3 k = hI τ1 3 k), (Fr.it frτ1 rfl rfl : hI τ1 3 k = hI σ 3 k), (Fr.it frτ3 rfl rfl : hI τ3 34 k = hI τ1 34 k), (Fr.it frτ1 rfl rfl : hI τ1 34 k = hI σ 34 k)]; exact K2.1 k), (fun k => by rw [(gI_eq (Fr.it frτ3 rfl rfl : hI τ3 8 k = hI τ1 8 k)), (gI_eq (Fr.it frτ1 rfl rfl : hI τ1 8 k = hI σ 8 k)), (gI_eq (Fr.it frτ3 rfl rfl : hI τ3 38 k = hI τ1 38 k)), (gI_eq (Fr.it frτ1 rfl rfl : hI τ1 38 k = hI σ 38 k))]; exact K2.2.1 k), srτ3⟩ clτ3 (by omega) (by omega)
set_option maxHeartbeats 4000000 in
set_option maxRecDepth 20000 in
theorem g_case10 (κ : Kx) (γ : Gh) (Q : State → Prop) (nm : String) (O : OK κ γ code 4 "BloodPriceLaw" 2000 ret nm) (hrc : κ.2.2.2.1.cells = 600000) (hrs : κ.2.2.2.1.slots = 7302250) (L : Nat) (hLγ : γ.2.2.2.2.2.2.1 = L) (hL : L ≤ 4096) (i : Int) (hi : 0 ≤ i ∧ i + 8 ≤ L) (σ : VH) (cells slots : Nat) (hc : cells ≤ 500000) (hs : slots ≤ 7000000) (IX : InvX σ) (IM : InvM σ) (K : Cp σ) (K2 : Cxt σ) (K3 : Cl σ) (fin : ∀ (τ : VH) (c s : Nat), InvX τ → InvM τ → Cp τ → Cxt τ → Cl τ → c ≤ cells + 10 → s ≤ slots + 863 → Z κ γ 4 τ c s Q 1049 [(0, .float 0), (1, .ref 2), (2, .ref 33), (3, .int (iz i))] []) : Z κ γ 4 σ cells slots Q 510 [(0, .float 0), (1, .ref 2), (2, .ref 33), (3, .int (iz i))] [] := by
  unfold Cp at K
  have ix1 := IX.2.1
  unfold InvX1 at ix1
  have im1 := IM.2.1
  unfold InvM1 at im1
  refine z_aload_n (pc := 510) O dL_law_510 rfl ?_
  refine z_aloadS (pc := 511) O dL_law_511 rfl ?_
  refine z_iload_n (pc := 512) O dL_law_512 rfl ?_
  refine z_iconst (pc := 513) (v := iz (1)) O dL_law_513 (by decide) ?_
  refine zi_iadd (pc := 514) O dL_law_514 ?_
  refine z_sld (pc := 515) ((i + 1).toNat) O (iz_nI (by omega)) (by rw [hLγ]; omega) (by rw [hLγ]; omega) dL_law_515 ?_
  refine zi_val _ (izi _) ?_
  have := rng (γ.2.2.2.2.2.2.2 ((i + 1).toNat))
  refine z_aloadS (pc := 516) O dL_law_516 rfl ?_
  refine z_iload_n (pc := 517) O dL_law_517 rfl ?_
  refine z_iconst (pc := 518) (v := iz (2)) O dL_law_518 (by decide) ?_
  refine zi_iadd (pc := 519) O dL_law_519 ?_
  refine z_sld (pc := 520) ((i + 2).toNat) O (iz_nI (by omega)) (by rw [hLγ]; omega) (by rw [hLγ]; omega) dL_law_520 ?_
  refine zi_val _ (izi _) ?_
  have := rng (γ.2.2.2.2.2.2.2 ((i + 2).toNat))
  refine z_aloadS (pc := 521) O dL_law_521 rfl ?_
  refine z_iload_n (pc := 522) O dL_law_522 rfl ?_
  refine z_iconst (pc := 523) (v := iz (3)) O dL_law_523 (by decide) ?_
  refine zi_iadd (pc := 524) O dL_law_524 ?_
  refine z_sld (pc := 525) ((i + 3).toNat) O (iz_nI (by omega)) (by rw [hLγ]; omega) (by rw [hLγ]; omega) dL_law_525 ?_
  refine zi_val _ (izi _) ?_
  have := rng (γ.2.2.2.2.2.2.2 ((i + 3).toNat))
  refine z_aloadS (pc := 526) O dL_law_526 rfl ?_
  refine z_iload_n (pc := 527) O dL_law_527 rfl ?_
  refine z_iconst (pc := 528) (v := iz (4)) O dL_law_528 (by decide) ?_
  refine zi_iadd (pc := 529) O dL_law_529 ?_
  refine z_sld (pc := 530) ((i + 4).toNat) O (iz_nI (by omega)) (by rw [hLγ]; omega) (by rw [hLγ]; omega) dL_law_530 ?_
  refine zi_val _ (izi _) ?_
  have := rng (γ.2.2.2.2.2.2.2 ((i + 4).toNat))
  refine z_callV (pc := 531) O cl_L_58 (k8_truce _ _ ((γ.2.2.2.2.2.2.2 ((i + 1).toNat)).toInt) (by omega) ((γ.2.2.2.2.2.2.2 ((i + 2).toNat)).toInt) (by omega) ((γ.2.2.2.2.2.2.2 ((i + 3).toNat)).toInt) (by omega) ((γ.2.2.2.2.2.2.2 ((i + 4).toNat)).toInt) (by omega) IX) (by decide) (jo_2 IX.1) kc_8 rfl rfl (Nat.le_of_ble_eq_true rfl) ⟨by rw [hrc]; omega, by rw [hrs]; omega⟩ dL_law_531 (fun r τ1 hp => ?_)
  obtain ⟨z2, rfl, fτ1_0, fτ1_1, frτ1, ivτ1_InvX, eτ1_0⟩ := hp
  have imτ1 : InvM τ1 := InvM.cls frτ1.G IM ivτ1_InvX.1 rfl
  have srτ1 : SRw τ1 := SRw.frW K2.2.2 frτ1.G (fun _ => rfl) (fun _ => rfl)
  have clτ1 : Cl τ1 := Cl.mv K3 IX IM (fun k => (gI_eq (Fr.it frτ1 rfl rfl : hI τ1 36 k = hI σ 36 k))) (fun k => (gI_eq (Fr.it frτ1 rfl rfl : hI τ1 37 k = hI σ 37 k))) (fun k => (gI_eq (Fr.it frτ1 rfl rfl : hI τ1 38 k = hI σ 38 k))) (gI_eq (Fr.it frτ1 rfl rfl : hI τ1 33 33 = hI σ 33 33)) (fun j => by rw [frτ1.2.2.1]) (Old.fr frτ1)
  refine z_pop (pc := 534) O dL_law_534 rfl ?_
  refine z_aload_n (pc := 535) O dL_law_535 rfl ?_
  refine z_aloadS (pc := 536) O dL_law_536 rfl ?_
  refine z_iload_n (pc := 537) O dL_law_537 rfl ?_
  refine z_iconst (pc := 538) (v := iz (1)) O dL_law_538 (by decide) ?_
  refine zi_iadd (pc := 539) O dL_law_539 ?_
  refine z_sld (pc := 540) ((i + 1).toNat) O (iz_nI (by omega)) (by rw [hLγ]; omega) (by rw [hLγ]; omega) dL_law_540 ?_
  refine zi_val _ (izi _) ?_
  have := rng (γ.2.2.2.2.2.2.2 ((i + 1).toNat))
  refine z_aloadS (pc := 541) O dL_law_541 rfl ?_
  refine z_iload_n (pc := 542) O dL_law_542 rfl ?_
  refine z_iconst (pc := 543) (v := iz (2)) O dL_law_543 (by decide) ?_
  refine zi_iadd (pc := 544) O dL_law_544 ?_
  refine z_sld (pc := 545) ((i + 2).toNat) O (iz_nI (by omega)) (by rw [hLγ]; omega) (by rw [hLγ]; omega) dL_law_545 ?_
  refine zi_val _ (izi _) ?_
  have := rng (γ.2.2.2.2.2.2.2 ((i + 2).toNat))
  refine z_aloadS (pc := 546) O dL_law_546 rfl ?_
  refine z_iload_n (pc := 547) O dL_law_547 rfl ?_
  refine z_iconst (pc := 548) (v := iz (3)) O dL_law_548 (by decide) ?_
  refine zi_iadd (pc := 549) O dL_law_549 ?_
  refine z_sld (pc := 550) ((i + 3).toNat) O (iz_nI (by omega)) (by rw [hLγ]; omega) (by rw [hLγ]; omega) dL_law_550 ?_
  refine zi_val _ (izi _) ?_
  have := rng (γ.2.2.2.2.2.2.2 ((i + 3).toNat))
  refine z_aloadS (pc := 551) O dL_law_551 rfl ?_
  refine z_iload_n (pc := 552) O dL_law_552 rfl ?_
  refine z_iconst (pc := 553) (v := iz (4)) O dL_law_553 (by decide) ?_
  refine zi_iadd (pc := 554) O dL_law_554 ?_
  refine z_sld (pc := 555) ((i + 4).toNat) O (iz_nI (by omega)) (by rw [hLγ]; omega) (by rw [hLγ]; omega) dL_law_555 ?_
  refine zi_val _ (izi _) ?_
  have := rng (γ.2.2.2.2.2.2.2 ((i + 4).toNat))
  refine z_callV (pc := 556) O cl_L_62 (k9_truce _ _ ((γ.2.2.2.2.2.2.2 ((i + 1).toNat)).toInt) (by omega) ((γ.2.2.2.2.2.2.2 ((i + 2).toNat)).toInt) (by omega) ((γ.2.2.2.2.2.2.2 ((i + 3).toNat)).toInt) (by omega) ((γ.2.2.2.2.2.2.2 ((i + 4).toNat)).toInt) (by omega) imτ1) (by decide) (jo_33 (frτ1.lay IX.1)) kc_9 rfl rfl (Nat.le_of_ble_eq_true rfl) ⟨by rw [hrc]; omega, by rw [hrs]; omega⟩ dL_law_556 (fun r τ3 hp => ?_)
  obtain ⟨z4, rfl, fτ3_0, fτ3_1, frτ3, ivτ3_InvM, eτ3_0⟩ := hp
  have : gI τ1 33 54 = gI σ 33 54 := gI_iz (Fr.it frτ1 rfl (izg σ 33 54)) (rgI _ _ _)
  have : gI τ1 33 54 = gI σ 33 54 := gI_iz (Fr.it frτ1 rfl (izg σ 33 54)) (rgI _ _ _)
  have ixτ3 : InvX τ3 := InvX.mod frτ3 ivτ1_InvX rfl
  have srτ3 : SRw τ3 := SRw.frW srτ1 frτ3.G (fun _ => rfl) (fun _ => rfl)
  have clτ3 : Cl τ3 := Cl.mv clτ1 ivτ1_InvX imτ1 (fun k => (gI_eq (Fr.it frτ3 rfl rfl : hI τ3 36 k = hI τ1 36 k))) (fun k => (gI_eq (Fr.it frτ3 rfl rfl : hI τ3 37 k = hI τ1 37 k))) (fun k => (gI_eq (Fr.it frτ3 rfl rfl : hI τ3 38 k = hI τ1 38 k))) (gI_eq (Fr.it frτ3 rfl rfl : hI τ3 33 33 = hI τ1 33 33)) (fun j => by rw [frτ3.2.2.1]) (Old.fr frτ3)
  refine z_pop (pc := 559) O dL_law_559 rfl ?_
  refine z_goto (pc := 560) (tgt := 1049) O dL_law_560 (by decide) ?_
  exact fin τ3 _ _ ixτ3 ivτ3_InvM (by unfold Cp; have : gI τ3 2 15 = gI σ 2 15 := gI_iz (Fr.it frτ3 rfl (Fr.it frτ1 rfl (izg σ 2 15))) (rgI _ _ _); have : gI τ3 33 73 = gI σ 33 73 := gI_iz (Fr.it frτ3 rfl (Fr.it frτ1 rfl (izg σ 33 73))) (rgI _ _ _); have : gI τ3 2 7 = gI σ 2 7 := gI_iz (Fr.it frτ3 rfl (Fr.it frτ1 rfl (izg σ 2 7))) (rgI _ _ _); have : gI τ3 33 6 = gI σ 33 6 := gI_iz (Fr.it frτ3 rfl (Fr.it frτ1 rfl (izg σ 33 6))) (rgI _ _ _); have : gI τ3 21 4 = gI τ1 21 4 := gI_iz (Fr.it frτ3 rfl (izg τ1 21 4)) (rgI _ _ _); have : gI τ3 9 7 = gI σ 9 7 := gI_iz (Fr.it frτ3 rfl (Fr.it frτ1 rfl (izg σ 9 7))) (rgI _ _ _); have : gI τ3 33 52 = gI σ 33 52 := gI_iz (Fr.it frτ3 rfl (Fr.it frτ1 rfl (izg σ 33 52))) (rgI _ _ _); have : gI τ3 16 4 = gI σ 16 4 := gI_iz (Fr.it frτ3 rfl (Fr.it frτ1 rfl (izg σ 16 4))) (rgI _ _ _); have : gI τ3 33 53 = gI σ 33 53 := gI_iz (Fr.it frτ3 rfl (Fr.it frτ1 rfl (izg σ 33 53))) (rgI _ _ _); have : gI τ3 2 1 = gI σ 2 1 := gI_iz (Fr.it frτ3 rfl (Fr.it frτ1 rfl (izg σ 2 1))) (rgI _ _ _); have : gI τ3 33 2 = gI σ 33 2 := gI_iz (Fr.it frτ3 rfl (Fr.it frτ1 rfl (izg σ 33 2))) (rgI _ _ _); have : gI τ3 2 5 = gI σ 2 5 := gI_iz (Fr.it frτ3 rfl (Fr.it frτ1 rfl (izg σ 2 5))) (rgI _ _ _); have : gI τ3 33 4 = gI σ 33 4 := gI_iz (Fr.it frτ3 rfl (Fr.it frτ1 rfl (izg σ 33 4))) (rgI _ _ _); have : gI τ3 2 6 = gI σ 2 6 := gI_iz (Fr.it frτ3 rfl (Fr.it frτ1 rfl (izg σ 2 6))) (rgI _ _ _); have : gI τ3 33 5 = gI σ 33 5 := gI_iz (Fr.it frτ3 rfl (Fr.it frτ1 rfl (izg σ 33 5))) (rgI _ _ _); omega) ⟨(fun k => by rw [(Fr.it frτ3 rfl rfl : hI τ3 3 k = hI τ1 3 k), (Fr.it frτ1 rfl rfl : hI τ1 3 k = hI σ 3 k), (Fr.it frτ3 rfl rfl : hI τ3 34 k = hI τ1 34 k), (Fr.it frτ1 rfl rfl : hI τ1 34 k = hI σ 34 k)]; exact K2.1 k), (fun k => by rw [(gI_eq (Fr.it frτ3 rfl rfl : hI τ3 8 k = hI τ1 8 k)), (gI_eq (Fr.it frτ1 rfl rfl : hI τ1 8 k = hI σ 8 k)), (gI_eq (Fr.it frτ3 rfl rfl : hI τ3 38 k = hI τ1 38 k)), (gI_eq (Fr.it frτ1 rfl rfl : hI τ1 38 k = hI σ 38 k))]; exact K2.2.1 k), srτ3⟩ clτ3 (by omega) (by omega)
set_option maxHeartbeats 4000000 in
set_option maxRecDepth 20000 in
theorem g_case11 (κ : Kx) (γ : Gh) (Q : State → Prop) (nm : String) (O : OK κ γ code 4 "BloodPriceLaw" 2000 ret nm) (hrc : κ.2.2.2.1.cells = 600000) (hrs : κ.2.2.2.1.slots = 7302250) (L : Nat) (hLγ : γ.2.2.2.2.2.2.1 = L) (hL : L ≤ 4096) (i : Int) (hi : 0 ≤ i ∧ i + 8 ≤ L) (σ : VH) (cells slots : Nat) (hc : cells ≤ 500000) (hs : slots ≤ 7000000) (IX : InvX σ) (IM : InvM σ) (K : Cp σ) (K2 : Cxt σ) (K3 : Cl σ) (fin : ∀ (τ : VH) (c s : Nat), InvX τ → InvM τ → Cp τ → Cxt τ → Cl τ → c ≤ cells + 10 → s ≤ slots + 863 → Z κ γ 4 τ c s Q 1049 [(0, .float 0), (1, .ref 2), (2, .ref 33), (3, .int (iz i))] []) : Z κ γ 4 σ cells slots Q 563 [(0, .float 0), (1, .ref 2), (2, .ref 33), (3, .int (iz i))] [] := by
  unfold Cp at K
  have ix1 := IX.2.1
  unfold InvX1 at ix1
  have im1 := IM.2.1
  unfold InvM1 at im1
  refine z_aload_n (pc := 563) O dL_law_563 rfl ?_
  refine z_aloadS (pc := 564) O dL_law_564 rfl ?_
  refine z_iload_n (pc := 565) O dL_law_565 rfl ?_
  refine z_iconst (pc := 566) (v := iz (1)) O dL_law_566 (by decide) ?_
  refine zi_iadd (pc := 567) O dL_law_567 ?_
  refine z_sld (pc := 568) ((i + 1).toNat) O (iz_nI (by omega)) (by rw [hLγ]; omega) (by rw [hLγ]; omega) dL_law_568 ?_
  refine zi_val _ (izi _) ?_
  have := rng (γ.2.2.2.2.2.2.2 ((i + 1).toNat))
  refine z_callV (pc := 569) O cl_L_63 (k8_later _ _ ((γ.2.2.2.2.2.2.2 ((i + 1).toNat)).toInt) (by omega) IX) (by decide) (jo_2 IX.1) kc_8 rfl rfl (Nat.le_of_ble_eq_true rfl) ⟨by rw [hrc]; omega, by rw [hrs]; omega⟩ dL_law_569 (fun r τ1 hp => ?_)
  obtain ⟨z2, rfl, fτ1_0, fτ1_1, frτ1, ivτ1_InvX, eτ1_0⟩ := hp
  have imτ1 : InvM τ1 := InvM.cls frτ1.G IM ivτ1_InvX.1 rfl
  have srτ1 : SRw τ1 := SRw.frW K2.2.2 frτ1.G (fun _ => rfl) (fun _ => rfl)
  have clτ1 : Cl τ1 := Cl.mv K3 IX IM (fun k => (gI_eq (Fr.it frτ1 rfl rfl : hI τ1 36 k = hI σ 36 k))) (fun k => (gI_eq (Fr.it frτ1 rfl rfl : hI τ1 37 k = hI σ 37 k))) (fun k => (gI_eq (Fr.it frτ1 rfl rfl : hI τ1 38 k = hI σ 38 k))) (gI_eq (Fr.it frτ1 rfl rfl : hI τ1 33 33 = hI σ 33 33)) (fun j => by rw [frτ1.2.2.1]) (Old.fr frτ1)
  refine z_pop (pc := 572) O dL_law_572 rfl ?_
  refine z_aload_n (pc := 573) O dL_law_573 rfl ?_
  refine z_aloadS (pc := 574) O dL_law_574 rfl ?_
  refine z_iload_n (pc := 575) O dL_law_575 rfl ?_
  refine z_iconst (pc := 576) (v := iz (1)) O dL_law_576 (by decide) ?_
  refine zi_iadd (pc := 577) O dL_law_577 ?_
  refine z_sld (pc := 578) ((i + 1).toNat) O (iz_nI (by omega)) (by rw [hLγ]; omega) (by rw [hLγ]; omega) dL_law_578 ?_
  refine zi_val _ (izi _) ?_
  have := rng (γ.2.2.2.2.2.2.2 ((i + 1).toNat))
  refine z_callV (pc := 579) O cl_L_66 (k9_later _ _ ((γ.2.2.2.2.2.2.2 ((i + 1).toNat)).toInt) (by omega) imτ1) (by decide) (jo_33 (frτ1.lay IX.1)) kc_9 rfl rfl (Nat.le_of_ble_eq_true rfl) ⟨by rw [hrc]; omega, by rw [hrs]; omega⟩ dL_law_579 (fun r τ3 hp => ?_)
  obtain ⟨z4, rfl, fτ3_0, fτ3_1, frτ3, ivτ3_InvM, eτ3_0⟩ := hp
  have : gI τ1 33 6 = gI σ 33 6 := gI_iz (Fr.it frτ1 rfl (izg σ 33 6)) (rgI _ _ _)
  have : gI τ1 33 6 = gI σ 33 6 := gI_iz (Fr.it frτ1 rfl (izg σ 33 6)) (rgI _ _ _)
  have ixτ3 : InvX τ3 := InvX.mod frτ3 ivτ1_InvX rfl
  have srτ3 : SRw τ3 := SRw.frW srτ1 frτ3.G (fun _ => rfl) (fun _ => rfl)
  have clτ3 : Cl τ3 := Cl.mv clτ1 ivτ1_InvX imτ1 (fun k => (gI_eq (Fr.it frτ3 rfl rfl : hI τ3 36 k = hI τ1 36 k))) (fun k => (gI_eq (Fr.it frτ3 rfl rfl : hI τ3 37 k = hI τ1 37 k))) (fun k => (gI_eq (Fr.it frτ3 rfl rfl : hI τ3 38 k = hI τ1 38 k))) (gI_eq (Fr.it frτ3 rfl rfl : hI τ3 33 33 = hI τ1 33 33)) (fun j => by rw [frτ3.2.2.1]) (Old.fr frτ3)
  refine z_pop (pc := 582) O dL_law_582 rfl ?_
  refine z_goto (pc := 583) (tgt := 1049) O dL_law_583 (by decide) ?_
  exact fin τ3 _ _ ixτ3 ivτ3_InvM (by unfold Cp; have : gI τ3 2 15 = gI σ 2 15 := gI_iz (Fr.it frτ3 rfl (Fr.it frτ1 rfl (izg σ 2 15))) (rgI _ _ _); have : gI τ3 33 73 = gI σ 33 73 := gI_iz (Fr.it frτ3 rfl (Fr.it frτ1 rfl (izg σ 33 73))) (rgI _ _ _); have : gI τ3 2 7 = gI τ1 2 7 := gI_iz (Fr.it frτ3 rfl (izg τ1 2 7)) (rgI _ _ _); have : gI τ3 21 4 = gI σ 21 4 := gI_iz (Fr.it frτ3 rfl (Fr.it frτ1 rfl (izg σ 21 4))) (rgI _ _ _); have : gI τ3 33 54 = gI σ 33 54 := gI_iz (Fr.it frτ3 rfl (Fr.it frτ1 rfl (izg σ 33 54))) (rgI _ _ _); have : gI τ3 9 7 = gI σ 9 7 := gI_iz (Fr.it frτ3 rfl (Fr.it frτ1 rfl (izg σ 9 7))) (rgI _ _ _); have : gI τ3 33 52 = gI σ 33 52 := gI_iz (Fr.it frτ3 rfl (Fr.it frτ1 rfl (izg σ 33 52))) (rgI _ _ _); have : gI τ3 16 4 = gI σ 16 4 := gI_iz (Fr.it frτ3 rfl (Fr.it frτ1 rfl (izg σ 16 4))) (rgI _ _ _); have : gI τ3 33 53 = gI σ 33 53 := gI_iz (Fr.it frτ3 rfl (Fr.it frτ1 rfl (izg σ 33 53))) (rgI _ _ _); have : gI τ3 2 1 = gI σ 2 1 := gI_iz (Fr.it frτ3 rfl (Fr.it frτ1 rfl (izg σ 2 1))) (rgI _ _ _); have : gI τ3 33 2 = gI σ 33 2 := gI_iz (Fr.it frτ3 rfl (Fr.it frτ1 rfl (izg σ 33 2))) (rgI _ _ _); have : gI τ3 2 5 = gI σ 2 5 := gI_iz (Fr.it frτ3 rfl (Fr.it frτ1 rfl (izg σ 2 5))) (rgI _ _ _); have : gI τ3 33 4 = gI σ 33 4 := gI_iz (Fr.it frτ3 rfl (Fr.it frτ1 rfl (izg σ 33 4))) (rgI _ _ _); have : gI τ3 2 6 = gI σ 2 6 := gI_iz (Fr.it frτ3 rfl (Fr.it frτ1 rfl (izg σ 2 6))) (rgI _ _ _); have : gI τ3 33 5 = gI σ 33 5 := gI_iz (Fr.it frτ3 rfl (Fr.it frτ1 rfl (izg σ 33 5))) (rgI _ _ _); omega) ⟨(fun k => by rw [(Fr.it frτ3 rfl rfl : hI τ3 3 k = hI τ1 3 k), (Fr.it frτ1 rfl rfl : hI τ1 3 k = hI σ 3 k), (Fr.it frτ3 rfl rfl : hI τ3 34 k = hI τ1 34 k), (Fr.it frτ1 rfl rfl : hI τ1 34 k = hI σ 34 k)]; exact K2.1 k), (fun k => by rw [(gI_eq (Fr.it frτ3 rfl rfl : hI τ3 8 k = hI τ1 8 k)), (gI_eq (Fr.it frτ1 rfl rfl : hI τ1 8 k = hI σ 8 k)), (gI_eq (Fr.it frτ3 rfl rfl : hI τ3 38 k = hI τ1 38 k)), (gI_eq (Fr.it frτ1 rfl rfl : hI τ1 38 k = hI σ 38 k))]; exact K2.2.1 k), srτ3⟩ clτ3 (by omega) (by omega)
