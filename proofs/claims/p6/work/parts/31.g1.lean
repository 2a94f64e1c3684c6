set_option maxHeartbeats 4000000 in
set_option maxRecDepth 20000 in
theorem g_case4 (κ : Kx) (γ : Gh) (Q : State → Prop) (nm : String) (O : OK κ γ code 4 "BloodPriceLaw" 2000 ret nm) (hrc : κ.2.2.2.1.cells = 600000) (hrs : κ.2.2.2.1.slots = 7302250) (L : Nat) (hLγ : γ.2.2.2.2.2.2.1 = L) (hL : L ≤ 4096) (i : Int) (hi : 0 ≤ i ∧ i + 8 ≤ L) (σ : VH) (cells slots : Nat) (hc : cells ≤ 500000) (hs : slots ≤ 7000000) (IX : InvX σ) (IM : InvM σ) (K : Cp σ) (K2 : Cxt σ) (K3 : Cl σ) (fin : ∀ (τ : VH) (c s : Nat), InvX τ → InvM τ → Cp τ → Cxt τ → Cl τ → c ≤ cells + 10 → s ≤ slots + 863 → Z κ γ 4 τ c s Q 1049 [(0, .float 0), (1, .ref 2), (2, .ref 33), (3, .int (iz i))] []) : Z κ γ 4 σ cells slots Q 282 [(0, .float 0), (1, .ref 2), (2, .ref 33), (3, .int (iz i))] [] := by
  unfold Cp at K
  have ix1 := IX.2.1
  unfold InvX1 at ix1
  have im1 := IM.2.1
  unfold InvM1 at im1
  refine z_aload_n (pc := 282) O dL_law_282 rfl ?_
  refine z_aloadS (pc := 283) O dL_law_283 rfl ?_
  refine z_iload_n (pc := 284) O dL_law_284 rfl ?_
  refine z_iconst (pc := 285) (v := iz (1)) O dL_law_285 (by decide) ?_
  refine zi_iadd (pc := 286) O dL_law_286 ?_
  refine z_sld (pc := 287) ((i + 1).toNat) O (iz_nI (by omega)) (by rw [hLγ]; omega) (by rw [hLγ]; omega) dL_law_287 ?_
  refine zi_val _ (izi _) ?_
  have := rng (γ.2.2.2.2.2.2.2 ((i + 1).toNat))
  refine z_aloadS (pc := 288) O dL_law_288 rfl ?_
  refine z_iload_n (pc := 289) O dL_law_289 rfl ?_
  refine z_iconst (pc := 290) (v := iz (2)) O dL_law_290 (by decide) ?_
  refine zi_iadd (pc := 291) O dL_law_291 ?_
  refine z_sld (pc := 292) ((i + 2).toNat) O (iz_nI (by omega)) (by rw [hLγ]; omega) (by rw [hLγ]; omega) dL_law_292 ?_
  refine zi_val _ (izi _) ?_
  have := rng (γ.2.2.2.2.2.2.2 ((i + 2).toNat))
  refine z_callV (pc := 293) O cl_L_32 (k8_lawOn3 _ _ ((γ.2.2.2.2.2.2.2 ((i + 1).toNat)).toInt) (by omega) ((γ.2.2.2.2.2.2.2 ((i + 2).toNat)).toInt) (by omega) IX (Opq.mk (fun hf i hi hn => by obtain ⟨l, -, -, -, v, hv, -⟩ := K3.some K2.2.1 hf i hi; rw [hn] at hv; cases hv))) (by decide) (jo_2 IX.1) kc_8 rfl rfl (Nat.le_of_ble_eq_true rfl) ⟨by rw [hrc]; omega, by rw [hrs]; omega⟩ dL_law_293 (fun r τ1 hp => ?_)
  obtain ⟨z2, rfl, fτ1_0, fτ1_1, fτ1_2, rfl⟩ := hp
  refine z_aload_n (pc := 296) O dL_law_296 rfl ?_
  refine z_aloadS (pc := 297) O dL_law_297 rfl ?_
  refine z_iload_n (pc := 298) O dL_law_298 rfl ?_
  refine z_iconst (pc := 299) (v := iz (1)) O dL_law_299 (by decide) ?_
  refine zi_iadd (pc := 300) O dL_law_300 ?_
  refine z_sld (pc := 301) ((i + 1).toNat) O (iz_nI (by omega)) (by rw [hLγ]; omega) (by rw [hLγ]; omega) dL_law_301 ?_
  refine zi_val _ (izi _) ?_
  have := rng (γ.2.2.2.2.2.2.2 ((i + 1).toNat))
  refine z_aloadS (pc := 302) O dL_law_302 rfl ?_
  refine z_iload_n (pc := 303) O dL_law_303 rfl ?_
  refine z_iconst (pc := 304) (v := iz (2)) O dL_law_304 (by decide) ?_
  refine zi_iadd (pc := 305) O dL_law_305 ?_
  refine z_sld (pc := 306) ((i + 2).toNat) O (iz_nI (by omega)) (by rw [hLγ]; omega) (by rw [hLγ]; omega) dL_law_306 ?_
  refine zi_val _ (izi _) ?_
  have := rng (γ.2.2.2.2.2.2.2 ((i + 2).toNat))
  refine z_callV (pc := 307) O cl_L_35 (k9_lawOn3 _ _ ((γ.2.2.2.2.2.2.2 ((i + 1).toNat)).toInt) (by omega) ((γ.2.2.2.2.2.2.2 ((i + 2).toNat)).toInt) (by omega) IM) (by decide) (jo_33 IX.1) kc_9 rfl rfl (Nat.le_of_ble_eq_true rfl) ⟨by rw [hrc]; omega, by rw [hrs]; omega⟩ dL_law_307 (fun r τ3 hp => ?_)
  obtain ⟨z4, rfl, fτ3_0, fτ3_1, frτ3, ivτ3_InvM⟩ := hp
  have ixτ3 : InvX τ3 := InvX.mod frτ3 IX rfl
  have srτ3 : SRw τ3 := SRw.frW K2.2.2 frτ3.G (fun _ => rfl) (fun _ => rfl)
  have clτ3 : Cl τ3 := Cl.mv K3 IX IM (fun k => (gI_eq (Fr.it frτ3 rfl rfl : hI τ3 36 k = hI σ 36 k))) (fun k => (gI_eq (Fr.it frτ3 rfl rfl : hI τ3 37 k = hI σ 37 k))) (fun k => (gI_eq (Fr.it frτ3 rfl rfl : hI τ3 38 k = hI σ 38 k))) (gI_eq (Fr.it frτ3 rfl rfl : hI τ3 33 33 = hI σ 33 33)) (fun j => by rw [frτ3.2.2.1]) (Old.fr frτ3)
  have hz : z2 = z4 := Cl.lo K3 K2.2.1 fτ1_2 fτ3_1 (fun _ => rfl) (fun _ => rfl) rfl
  refine zi_icmp_eq (pc := 310) (tgt := 1049) O dL_law_310 (by decide) (by omega) (by omega) (fun h310 => ?_) (fun h310 => ?_)
  · exact fin τ3 _ _ ixτ3 ivτ3_InvM (by unfold Cp; have : gI τ3 2 15 = gI σ 2 15 := gI_iz (Fr.it frτ3 rfl (izg σ 2 15)) (rgI _ _ _); have : gI τ3 33 73 = gI σ 33 73 := gI_iz (Fr.it frτ3 rfl (izg σ 33 73)) (rgI _ _ _); have : gI τ3 2 7 = gI σ 2 7 := gI_iz (Fr.it frτ3 rfl (izg σ 2 7)) (rgI _ _ _); have : gI τ3 33 6 = gI σ 33 6 := gI_iz (Fr.it frτ3 rfl (izg σ 33 6)) (rgI _ _ _); have : gI τ3 21 4 = gI σ 21 4 := gI_iz (Fr.it frτ3 rfl (izg σ 21 4)) (rgI _ _ _); have : gI τ3 33 54 = gI σ 33 54 := gI_iz (Fr.it frτ3 rfl (izg σ 33 54)) (rgI _ _ _); have : gI τ3 9 7 = gI σ 9 7 := gI_iz (Fr.it frτ3 rfl (izg σ 9 7)) (rgI _ _ _); have : gI τ3 33 52 = gI σ 33 52 := gI_iz (Fr.it frτ3 rfl (izg σ 33 52)) (rgI _ _ _); have : gI τ3 16 4 = gI σ 16 4 := gI_iz (Fr.it frτ3 rfl (izg σ 16 4)) (rgI _ _ _); have : gI τ3 33 53 = gI σ 33 53 := gI_iz (Fr.it frτ3 rfl (izg σ 33 53)) (rgI _ _ _); have : gI τ3 2 1 = gI σ 2 1 := gI_iz (Fr.it frτ3 rfl (izg σ 2 1)) (rgI _ _ _); have : gI τ3 33 2 = gI σ 33 2 := gI_iz (Fr.it frτ3 rfl (izg σ 33 2)) (rgI _ _ _); have : gI τ3 2 5 = gI σ 2 5 := gI_iz (Fr.it frτ3 rfl (izg σ 2 5)) (rgI _ _ _); have : gI τ3 33 4 = gI σ 33 4 := gI_iz (Fr.it frτ3 rfl (izg σ 33 4)) (rgI _ _ _); have : gI τ3 2 6 = gI σ 2 6 := gI_iz (Fr.it frτ3 rfl (izg σ 2 6)) (rgI _ _ _); have : gI τ3 33 5 = gI σ 33 5 := gI_iz (Fr.it frτ3 rfl (izg σ 33 5)) (rgI _ _ _); omega) ⟨(fun k => by rw [(Fr.it frτ3 rfl rfl : hI τ3 3 k = hI σ 3 k), (Fr.it frτ3 rfl rfl : hI τ3 34 k = hI σ 34 k)]; exact K2.1 k), (fun k => by rw [(gI_eq (Fr.it frτ3 rfl rfl : hI τ3 8 k = hI σ 8 k)), (gI_eq (Fr.it frτ3 rfl rfl : hI τ3 38 k = hI σ 38 k))]; exact K2.2.1 k), srτ3⟩ clτ3 (by omega) (by omega)
  · exfalso; omega
set_option maxHeartbeats 4000000 in
set_option maxRecDepth 20000 in
theorem g_case5 (κ : Kx) (γ : Gh) (Q : State → Prop) (nm : String) (O : OK κ γ code 4 "BloodPriceLaw" 2000 ret nm) (hrc : κ.2.2.2.1.cells = 600000) (hrs : κ.2.2.2.1.slots = 7302250) (L : Nat) (hLγ : γ.2.2.2.2.2.2.1 = L) (hL : L ≤ 4096) (i : Int) (hi : 0 ≤ i ∧ i + 8 ≤ L) (σ : VH) (cells slots : Nat) (hc : cells ≤ 500000) (hs : slots ≤ 7000000) (IX : InvX σ) (IM : InvM σ) (K : Cp σ) (K2 : Cxt σ) (K3 : Cl σ) (fin : ∀ (τ : VH) (c s : Nat), InvX τ → InvM τ → Cp τ → Cxt τ → Cl τ → c ≤ cells + 10 → s ≤ slots + 863 → Z κ γ 4 τ c s Q 1049 [(0, .float 0), (1, .ref 2), (2, .ref 33), (3, .int (iz i))] []) : Z κ γ 4 σ cells slots Q 315 [(0, .float 0), (1, .ref 2), (2, .ref 33), (3, .int (iz i))] [] := by
  unfold Cp at K
  have ix1 := IX.2.1
  unfold InvX1 at ix1
  have im1 := IM.2.1
  unfold InvM1 at im1
  refine z_aload_n (pc := 315) O dL_law_315 rfl ?_
  refine z_aloadS (pc := 316) O dL_law_316 rfl ?_
  refine z_iload_n (pc := 317) O dL_law_317 rfl ?_
  refine z_iconst (pc := 318) (v := iz (1)) O dL_law_318 (by decide) ?_
  refine zi_iadd (pc := 319) O dL_law_319 ?_
  refine z_sld (pc := 320) ((i + 1).toNat) O (iz_nI (by omega)) (by rw [hLγ]; omega) (by rw [hLγ]; omega) dL_law_320 ?_
  refine zi_val _ (izi _) ?_
  have := rng (γ.2.2.2.2.2.2.2 ((i + 1).toNat))
  refine z_aloadS (pc := 321) O dL_law_321 rfl ?_
  refine z_iload_n (pc := 322) O dL_law_322 rfl ?_
  refine z_iconst (pc := 323) (v := iz (2)) O dL_law_323 (by decide) ?_
  refine zi_iadd (pc := 324) O dL_law_324 ?_
  refine z_sld (pc := 325) ((i + 2).toNat) O (iz_nI (by omega)) (by rw [hLγ]; omega) (by rw [hLγ]; omega) dL_law_325 ?_
  refine zi_val _ (izi _) ?_
  have := rng (γ.2.2.2.2.2.2.2 ((i + 2).toNat))
  refine z_aloadS (pc := 326) O dL_law_326 rfl ?_
  refine z_iload_n (pc := 327) O dL_law_327 rfl ?_
  refine z_iconst (pc := 328) (v := iz (3)) O dL_law_328 (by decide) ?_
  refine zi_iadd (pc := 329) O dL_law_329 ?_
  refine z_sld (pc := 330) ((i + 3).toNat) O (iz_nI (by omega)) (by rw [hLγ]; omega) (by rw [hLγ]; omega) dL_law_330 ?_
  refine zi_val _ (izi _) ?_
  have := rng (γ.2.2.2.2.2.2.2 ((i + 3).toNat))
  refine z_callV (pc := 331) O cl_L_36 (k8_person _ _ ((γ.2.2.2.2.2.2.2 ((i + 1).toNat)).toInt) (by omega) ((γ.2.2.2.2.2.2.2 ((i + 2).toNat)).toInt) (by omega) ((γ.2.2.2.2.2.2.2 ((i + 3).toNat)).toInt) (by omega) IX) (by decide) (jo_2 IX.1) kc_8 rfl rfl (Nat.le_of_ble_eq_true rfl) ⟨by rw [hrc]; omega, by rw [hrs]; omega⟩ dL_law_331 (fun r τ1 hp => ?_)
  obtain ⟨z2, rfl, fτ1_0, fτ1_1, frτ1, ivτ1_InvX, eτ1_0⟩ := hp
  have imτ1 : InvM τ1 := InvM.cls frτ1.G IM ivτ1_InvX.1 rfl
  have srτ1 : SRw τ1 := SRw.frW K2.2.2 frτ1.G (fun _ => rfl) (fun _ => rfl)
  have clτ1 : Cl τ1 := Cl.mv K3 IX IM (fun k => (gI_eq (Fr.it frτ1 rfl rfl : hI τ1 36 k = hI σ 36 k))) (fun k => (gI_eq (Fr.it frτ1 rfl rfl : hI τ1 37 k = hI σ 37 k))) (fun k => (gI_eq (Fr.it frτ1 rfl rfl : hI τ1 38 k = hI σ 38 k))) (gI_eq (Fr.it frτ1 rfl rfl : hI τ1 33 33 = hI σ 33 33)) (fun j => by rw [frτ1.2.2.1]) (Old.fr frτ1)
  refine z_pop (pc := 334) O dL_law_334 rfl ?_
  refine z_aload_n (pc := 335) O dL_law_335 rfl ?_
  refine z_aloadS (pc := 336) O dL_law_336 rfl ?_
  refine z_iload_n (pc := 337) O dL_law_337 rfl ?_
  refine z_iconst (pc := 338) (v := iz (1)) O dL_law_338 (by decide) ?_
  refine zi_iadd (pc := 339) O dL_law_339 ?_
  refine z_sld (pc := 340) ((i + 1).toNat) O (iz_nI (by omega)) (by rw [hLγ]; omega) (by rw [hLγ]; omega) dL_law_340 ?_
  refine zi_val _ (izi _) ?_
  have := rng (γ.2.2.2.2.2.2.2 ((i + 1).toNat))
  refine z_aloadS (pc := 341) O dL_law_341 rfl ?_
  refine z_iload_n (pc := 342) O dL_law_342 rfl ?_
  refine z_iconst (pc := 343) (v := iz (2)) O dL_law_343 (by decide) ?_
  refine zi_iadd (pc := 344) O dL_law_344 ?_
  refine z_sld (pc := 345) ((i + 2).toNat) O (iz_nI (by omega)) (by rw [hLγ]; omega) (by rw [hLγ]; omega) dL_law_345 ?_
  refine zi_val _ (izi _) ?_
  have := rng (γ.2.2.2.2.2.2.2 ((i + 2).toNat))
  refine z_aloadS (pc := 346) O dL_law_346 rfl ?_
  refine z_iload_n (pc := 347) O dL_law_347 rfl ?_
  refine z_iconst (pc := 348) (v := iz (3)) O dL_law_348 (by decide) ?_
  refine zi_iadd (pc := 349) O dL_law_349 ?_
  refine z_sld (pc := 350) ((i + 3).toNat) O (iz_nI (by omega)) (by rw [hLγ]; omega) (by rw [hLγ]; omega) dL_law_350 ?_
  refine zi_val _ (izi _) ?_
  have := rng (γ.2.2.2.2.2.2.2 ((i + 3).toNat))
  refine z_callV (pc := 351) O cl_L_40 (k9_person _ _ ((γ.2.2.2.2.2.2.2 ((i + 1).toNat)).toInt) (by omega) ((γ.2.2.2.2.2.2.2 ((i + 2).toNat)).toInt) (by omega) ((γ.2.2.2.2.2.2.2 ((i + 3).toNat)).toInt) (by omega) imτ1) (by decide) (jo_33 (frτ1.lay IX.1)) kc_9 rfl rfl (Nat.le_of_ble_eq_true rfl) ⟨by rw [hrc]; omega, by rw [hrs]; omega⟩ dL_law_351 (fun r τ3 hp => ?_)
  obtain ⟨z4, rfl, fτ3_0, fτ3_1, frτ3, ivτ3_InvM, eτ3_0⟩ := hp
  have : gI τ1 33 52 = gI σ 33 52 := gI_iz (Fr.it frτ1 rfl (izg σ 33 52)) (rgI _ _ _)
  have : gI τ1 33 52 = gI σ 33 52 := gI_iz (Fr.it frτ1 rfl (izg σ 33 52)) (rgI _ _ _)
  have ixτ3 : InvX τ3 := InvX.mod frτ3 ivτ1_InvX rfl
  have srτ3 : SRw τ3 := SRw.frW srτ1 frτ3.G (fun _ => rfl) (fun _ => rfl)
  have clτ3 : Cl τ3 := Cl.mv clτ1 ivτ1_InvX imτ1 (fun k => (gI_eq (Fr.it frτ3 rfl rfl : hI τ3 36 k = hI τ1 36 k))) (fun k => (gI_eq (Fr.it frτ3 rfl rfl : hI τ3 37 k = hI τ1 37 k))) (fun k => (gI_eq (Fr.it frτ3 rfl rfl : hI τ3 38 k = hI τ1 38 k))) (gI_eq (Fr.it frτ3 rfl rfl : hI τ3 33 33 = hI τ1 33 33)) (fun j => by rw [frτ3.2.2.1]) (Old.fr frτ3)
  refine z_pop (pc := 354) O dL_law_354 rfl ?_
  refine z_goto (pc := 355) (tgt := 1049) O dL_law_355 (by decide) ?_
  exact fin τ3 _ _ ixτ3 ivτ3_InvM (by unfold Cp; have : gI τ3 2 15 = gI σ 2 15 := gI_iz (Fr.it frτ3 rfl (Fr.it frτ1 rfl (izg σ 2 15))) (rgI _ _ _); have : gI τ3 33 73 = gI σ 33 73 := gI_iz (Fr.it frτ3 rfl (Fr.it frτ1 rfl (izg σ 33 73))) (rgI _ _ _); have : gI τ3 2 7 = gI σ 2 7 := gI_iz (Fr.it frτ3 rfl (Fr.it frτ1 rfl (izg σ 2 7))) (rgI _ _ _); have : gI τ3 33 6 = gI σ 33 6 := gI_iz (Fr.it frτ3 rfl (Fr.it frτ1 rfl (izg σ 33 6))) (rgI _ _ _); have : gI τ3 21 4 = gI σ 21 4 := gI_iz (Fr.it frτ3 rfl (Fr.it frτ1 rfl (izg σ 21 4))) (rgI _ _ _); have : gI τ3 33 54 = gI σ 33 54 := gI_iz (Fr.it frτ3 rfl (Fr.it frτ1 rfl (izg σ 33 54))) (rgI _ _ _); have : gI τ3 9 7 = gI τ1 9 7 := gI_iz (Fr.it frτ3 rfl (izg τ1 9 7)) (rgI _ _ _); have : gI τ3 16 4 = gI σ 16 4 := gI_iz (Fr.it frτ3 rfl (Fr.it frτ1 rfl (izg σ 16 4))) (rgI _ _ _); have : gI τ3 33 53 = gI σ 33 53 := gI_iz (Fr.it frτ3 rfl (Fr.it frτ1 rfl (izg σ 33 53))) (rgI _ _ _); have : gI τ3 2 1 = gI σ 2 1 := gI_iz (Fr.it frτ3 rfl (Fr.it frτ1 rfl (izg σ 2 1))) (rgI _ _ _); have : gI τ3 33 2 = gI σ 33 2 := gI_iz (Fr.it frτ3 rfl (Fr.it frτ1 rfl (izg σ 33 2))) (rgI _ _ _); have : gI τ3 2 5 = gI σ 2 5 := gI_iz (Fr.it frτ3 rfl (Fr.it frτ1 rfl (izg σ 2 5))) (rgI _ _ _); have : gI τ3 33 4 = gI σ 33 4 := gI_iz (Fr.it frτ3 rfl (Fr.it frτ1 rfl (izg σ 33 4))) (rgI _ _ _); have : gI τ3 2 6 = gI σ 2 6 := gI_iz (Fr.it frτ3 rfl (Fr.it frτ1 rfl (izg σ 2 6))) (rgI _ _ _); have : gI τ3 33 5 = gI σ 33 5 := gI_iz (Fr.it frτ3 rfl (Fr.it frτ1 rfl (izg σ 33 5))) (rgI _ _ _); omega) ⟨(fun k => by rw [(Fr.it frτ3 rfl rfl : hI τ3 3 k = hI τ1 3 k), (Fr.it frτ1 rfl rfl : hI τ1 3 k = hI σ 3 k), (Fr.it frτ3 rfl rfl : hI τ3 34 k = hI τ1 34 k), (Fr.it frτ1 rfl rfl : hI τ1 34 k = hI σ 34 k)]; exact K2.1 k), (fun k => by rw [(gI_eq (Fr.it frτ3 rfl rfl : hI τ3 8 k = hI τ1 8 k)), (gI_eq (Fr.it frτ1 rfl rfl : hI τ1 8 k = hI σ 8 k)), (gI_eq (Fr.it frτ3 rfl rfl : hI τ3 38 k = hI τ1 38 k)), (gI_eq (Fr.it frτ1 rfl rfl : hI τ1 38 k = hI σ 38 k))]; exact K2.2.1 k), srτ3⟩ clτ3 (by omega) (by omega)
set_option maxHeartbeats 4000000 in
set_option maxRecDepth 20000 in
theorem g_case6 (κ : Kx) (γ : Gh) (Q : State → Prop) (nm : String) (O : OK κ γ code 4 "BloodPriceLaw" 2000 ret nm) (hrc : κ.2.2.2.1.cells = 600000) (hrs : κ.2.2.2.1.slots = 7302250) (L : Nat) (hLγ : γ.2.2.2.2.2.2.1 = L) (hL : L ≤ 4096) (i : Int) (hi : 0 ≤ i ∧ i + 8 ≤ L) (σ : VH) (cells slots : Nat) (hc : cells ≤ 500000) (hs : slots ≤ 7000000) (IX : InvX σ) (IM : InvM σ) (K : Cp σ) (K2 : Cxt σ) (K3 : Cl σ) (fin : ∀ (τ : VH) (c s : Nat), InvX τ → InvM τ → Cp τ → Cxt τ → Cl τ → c ≤ cells + 10 → s ≤ slots + 863 → Z κ γ 4 τ c s Q 1049 [(0, .float 0), (1, .ref 2), (2, .ref 33), (3, .int (iz i))] []) : Z κ γ 4 σ cells slots Q 358 [(0, .float 0), (1, .ref 2), (2, .ref 33), (3, .int (iz i))] [] := by
  unfold Cp at K
  have ix1 := IX.2.1
  unfold InvX1 at ix1
  have im1 := IM.2.1
  unfold InvM1 at im1
  refine z_aload_n (pc := 358) O dL_law_358 rfl ?_
  refine z_aloadS (pc := 359) O dL_law_359 rfl ?_
  refine z_iload_n (pc := 360) O dL_law_360 rfl ?_
  refine z_iconst (pc := 361) (v := iz (1)) O dL_law_361 (by decide) ?_
  refine zi_iadd (pc := 362) O dL_law_362 ?_
  refine z_sld (pc := 363) ((i + 1).toNat) O (iz_nI (by omega)) (by rw [hLγ]; omega) (by rw [hLγ]; omega) dL_law_363 ?_
  refine zi_val _ (izi _) ?_
  have := rng (γ.2.2.2.2.2.2.2 ((i + 1).toNat))
  refine z_aloadS (pc := 364) O dL_law_364 rfl ?_
  refine z_iload_n (pc := 365) O dL_law_365 rfl ?_
  refine z_iconst (pc := 366) (v := iz (2)) O dL_law_366 (by decide) ?_
  refine zi_iadd (pc := 367) O dL_law_367 ?_
  refine z_sld (pc := 368) ((i + 2).toNat) O (iz_nI (by omega)) (by rw [hLγ]; omega) (by rw [hLγ]; omega) dL_law_368 ?_
  refine zi_val _ (izi _) ?_
  have := rng (γ.2.2.2.2.2.2.2 ((i + 2).toNat))
  refine z_callV (pc := 369) O cl_L_41 (k8_degree _ _ ((γ.2.2.2.2.2.2.2 ((i + 1).toNat)).toInt) (by omega) ((γ.2.2.2.2.2.2.2 ((i + 2).toNat)).toInt) (by omega) IX) (by decide) (jo_2 IX.1) kc_8 rfl rfl (Nat.le_of_ble_eq_true rfl) ⟨by rw [hrc]; omega, by rw [hrs]; omega⟩ dL_law_369 (fun r τ1 hp => ?_)
  obtain ⟨z2, rfl, fτ1_0, frτ1, ivτ1_InvX⟩ := hp
  have imτ1 : InvM τ1 := InvM.cls frτ1.G IM ivτ1_InvX.1 rfl
  have srτ1 : SRw τ1 := SRw.frW K2.2.2 frτ1.G (fun _ => rfl) (fun _ => rfl)
  have clτ1 : Cl τ1 := Cl.mv K3 IX IM (fun k => (gI_eq (Fr.it frτ1 rfl rfl : hI τ1 36 k = hI σ 36 k))) (fun k => (gI_eq (Fr.it frτ1 rfl rfl : hI τ1 37 k = hI σ 37 k))) (fun k => (gI_eq (Fr.it frτ1 rfl rfl : hI τ1 38 k = hI σ 38 k))) (gI_eq (Fr.it frτ1 rfl rfl : hI τ1 33 33 = hI σ 33 33)) (fun j => by rw [frτ1.2.2.1]) (Old.fr frτ1)
  refine z_pop (pc := 372) O dL_law_372 rfl ?_
  refine z_aload_n (pc := 373) O dL_law_373 rfl ?_
  refine z_aloadS (pc := 374) O dL_law_374 rfl ?_
  refine z_iload_n (pc := 375) O dL_law_375 rfl ?_
  refine z_iconst (pc := 376) (v := iz (1)) O dL_law_376 (by decide) ?_
  refine zi_iadd (pc := 377) O dL_law_377 ?_
  refine z_sld (pc := 378) ((i + 1).toNat) O (iz_nI (by omega)) (by rw [hLγ]; omega) (by rw [hLγ]; omega) dL_law_378 ?_
  refine zi_val _ (izi _) ?_
  have := rng (γ.2.2.2.2.2.2.2 ((i + 1).toNat))
  refine z_aloadS (pc := 379) O dL_law_379 rfl ?_
  refine z_iload_n (pc := 380) O dL_law_380 rfl ?_
  refine z_iconst (pc := 381) (v := iz (2)) O dL_law_381 (by decide) ?_
  refine zi_iadd (pc := 382) O dL_law_382 ?_
  refine z_sld (pc := 383) ((i + 2).toNat) O (iz_nI (by omega)) (by rw [hLγ]; omega) (by rw [hLγ]; omega) dL_law_383 ?_
  refine zi_val _ (izi _) ?_
  have := rng (γ.2.2.2.2.2.2.2 ((i + 2).toNat))
  refine z_callV (pc := 384) O cl_L_44 (k9_degree _ _ ((γ.2.2.2.2.2.2.2 ((i + 1).toNat)).toInt) (by omega) ((γ.2.2.2.2.2.2.2 ((i + 2).toNat)).toInt) (by omega) (frτ1.lay IX.1) (by have : gI τ1 33 52 = gI σ 33 52 := gI_iz (Fr.it frτ1 rfl (izg σ 33 52)) (rgI _ _ _); omega)) (by decide) (jo_33 (frτ1.lay IX.1)) kc_9 rfl rfl (Nat.le_of_ble_eq_true rfl) ⟨by rw [hrc]; omega, by rw [hrs]; omega⟩ dL_law_384 (fun r τ3 hp => ?_)
  obtain ⟨z4, rfl, fτ3_0, fτ3_1, rfl⟩ := hp
  refine z_pop (pc := 387) O dL_law_387 rfl ?_
  refine z_goto (pc := 388) (tgt := 1049) O dL_law_388 (by decide) ?_
  exact fin τ1 _ _ ivτ1_InvX imτ1 (by unfold Cp; have : gI τ1 2 15 = gI σ 2 15 := gI_iz (Fr.it frτ1 rfl (izg σ 2 15)) (rgI _ _ _); have : gI τ1 33 73 = gI σ 33 73 := gI_iz (Fr.it frτ1 rfl (izg σ 33 73)) (rgI _ _ _); have : gI τ1 2 7 = gI σ 2 7 := gI_iz (Fr.it frτ1 rfl (izg σ 2 7)) (rgI _ _ _); have : gI τ1 33 6 = gI σ 33 6 := gI_iz (Fr.it frτ1 rfl (izg σ 33 6)) (rgI _ _ _); have : gI τ1 21 4 = gI σ 21 4 := gI_iz (Fr.it frτ1 rfl (izg σ 21 4)) (rgI _ _ _); have : gI τ1 33 54 = gI σ 33 54 := gI_iz (Fr.it frτ1 rfl (izg σ 33 54)) (rgI _ _ _); have : gI τ1 9 7 = gI σ 9 7 := gI_iz (Fr.it frτ1 rfl (izg σ 9 7)) (rgI _ _ _); have : gI τ1 33 52 = gI σ 33 52 := gI_iz (Fr.it frτ1 rfl (izg σ 33 52)) (rgI _ _ _); have : gI τ1 16 4 = gI σ 16 4 := gI_iz (Fr.it frτ1 rfl (izg σ 16 4)) (rgI _ _ _); have : gI τ1 33 53 = gI σ 33 53 := gI_iz (Fr.it frτ1 rfl (izg σ 33 53)) (rgI _ _ _); have : gI τ1 2 1 = gI σ 2 1 := gI_iz (Fr.it frτ1 rfl (izg σ 2 1)) (rgI _ _ _); have : gI τ1 33 2 = gI σ 33 2 := gI_iz (Fr.it frτ1 rfl (izg σ 33 2)) (rgI _ _ _); have : gI τ1 2 5 = gI σ 2 5 := gI_iz (Fr.it frτ1 rfl (izg σ 2 5)) (rgI _ _ _); have : gI τ1 33 4 = gI σ 33 4 := gI_iz (Fr.it frτ1 rfl (izg σ 33 4)) (rgI _ _ _); have : gI τ1 2 6 = gI σ 2 6 := gI_iz (Fr.it frτ1 rfl (izg σ 2 6)) (rgI _ _ _); have : gI τ1 33 5 = gI σ 33 5 := gI_iz (Fr.it frτ1 rfl (izg σ 33 5)) (rgI _ _ _); omega) ⟨(fun k => by rw [(Fr.it frτ1 rfl rfl : hI τ1 3 k = hI σ 3 k), (Fr.it frτ1 rfl rfl : hI τ1 34 k = hI σ 34 k)]; exact K2.1 k), (fun k => by rw [(gI_eq (Fr.it frτ1 rfl rfl : hI τ1 8 k = hI σ 8 k)), (gI_eq (Fr.it frτ1 rfl rfl : hI τ1 38 k = hI σ 38 k))]; exact K2.2.1 k), srτ1⟩ clτ1 (by omega) (by omega)
set_option maxHeartbeats 4000000 in
set_option maxRecDepth 20000 in
theorem g_case7 (κ : Kx) (γ : Gh) (Q : State → Prop) (nm : String) (O : OK κ γ code 4 "BloodPriceLaw" 2000 ret nm) (hrc : κ.2.2.2.1.cells = 600000) (hrs : κ.2.2.2.1.slots = 7302250) (L : Nat) (hLγ : γ.2.2.2.2.2.2.1 = L) (hL : L ≤ 4096) (i : Int) (hi : 0 ≤ i ∧ i + 8 ≤ L) (σ : VH) (cells slots : Nat) (hc : cells ≤ 500000) (hs : slots ≤ 7000000) (IX : InvX σ) (IM : InvM σ) (K : Cp σ) (K2 : Cxt σ) (K3 : Cl σ) (fin : ∀ (τ : VH) (c s : Nat), InvX τ → InvM τ → Cp τ → Cxt τ → Cl τ → c ≤ cells + 10 → s ≤ slots + 863 → Z κ γ 4 τ c s Q 1049 [(0, .float 0), (1, .ref 2), (2, .ref 33), (3, .int (iz i))] []) : Z κ γ 4 σ cells slots Q 391 [(0, .float 0), (1, .ref 2), (2, .ref 33), (3, .int (iz i))] [] := by
  unfold Cp at K
  have ix1 := IX.2.1
  unfold InvX1 at ix1
  have im1 := IM.2.1
  unfold InvM1 at im1
  refine z_aload_n (pc := 391) O dL_law_391 rfl ?_
  refine z_aloadS (pc := 392) O dL_law_392 rfl ?_
  refine z_iload_n (pc := 393) O dL_law_393 rfl ?_
  refine z_iconst (pc := 394) (v := iz (1)) O dL_law_394 (by decide) ?_
  refine zi_iadd (pc := 395) O dL_law_395 ?_
  refine z_sld (pc := 396) ((i + 1).toNat) O (iz_nI (by omega)) (by rw [hLγ]; omega) (by rw [hLγ]; omega) dL_law_396 ?_
  refine zi_val _ (izi _) ?_
  have := rng (γ.2.2.2.2.2.2.2 ((i + 1).toNat))
  refine z_aloadS (pc := 397) O dL_law_397 rfl ?_
  refine z_iload_n (pc := 398) O dL_law_398 rfl ?_
  refine z_iconst (pc := 399) (v := iz (2)) O dL_law_399 (by decide) ?_
  refine zi_iadd (pc := 400) O dL_law_400 ?_
  refine z_sld (pc := 401) ((i + 2).toNat) O (iz_nI (by omega)) (by rw [hLγ]; omega) (by rw [hLγ]; omega) dL_law_401 ?_
  refine zi_val _ (izi _) ?_
  have := rng (γ.2.2.2.2.2.2.2 ((i + 2).toNat))
  refine z_aloadS (pc := 402) O dL_law_402 rfl ?_
  refine z_iload_n (pc := 403) O dL_law_403 rfl ?_
  refine z_iconst (pc := 404) (v := iz (3)) O dL_law_404 (by decide) ?_
  refine zi_iadd (pc := 405) O dL_law_405 ?_
  refine z_sld (pc := 406) ((i + 3).toNat) O (iz_nI (by omega)) (by rw [hLγ]; omega) (by rw [hLγ]; omega) dL_law_406 ?_
  refine zi_val _ (izi _) ?_
  have := rng (γ.2.2.2.2.2.2.2 ((i + 3).toNat))
  refine z_callV (pc := 407) O cl_L_45 (k8_rank _ _ ((γ.2.2.2.2.2.2.2 ((i + 1).toNat)).toInt) (by omega) ((γ.2.2.2.2.2.2.2 ((i + 2).toNat)).toInt) (by omega) ((γ.2.2.2.2.2.2.2 ((i + 3).toNat)).toInt) (by omega) IX) (by decide) (jo_2 IX.1) kc_8 rfl rfl (Nat.le_of_ble_eq_true rfl) ⟨by rw [hrc]; omega, by rw [hrs]; omega⟩ dL_law_407 (fun r τ1 hp => ?_)
  obtain ⟨z2, rfl, fτ1_0, fτ1_1, frτ1, ivτ1_InvX, eτ1_0⟩ := hp
  have imτ1 : InvM τ1 := InvM.cls frτ1.G IM ivτ1_InvX.1 rfl
  have srτ1 : SRw τ1 := SRw.frW K2.2.2 frτ1.G (fun _ => rfl) (fun _ => rfl)
  have clτ1 : Cl τ1 := Cl.mv K3 IX IM (fun k => (gI_eq (Fr.it frτ1 rfl rfl : hI τ1 36 k = hI σ 36 k))) (fun k => (gI_eq (Fr.it frτ1 rfl rfl : hI τ1 37 k = hI σ 37 k))) (fun k => (gI_eq (Fr.it frτ1 rfl rfl : hI τ1 38 k = hI σ 38 k))) (gI_eq (Fr.it frτ1 rfl rfl : hI τ1 33 33 = hI σ 33 33)) (fun j => by rw [frτ1.2.2.1]) (Old.fr frτ1)
  refine z_pop (pc := 410) O dL_law_410 rfl ?_
  refine z_aload_n (pc := 411) O dL_law_411 rfl ?_
  refine z_aloadS (pc := 412) O dL_law_412 rfl ?_
  refine z_iload_n (pc := 413) O dL_law_413 rfl ?_
  refine z_iconst (pc := 414) (v := iz (1)) O dL_law_414 (by decide) ?_
  refine zi_iadd (pc := 415) O dL_law_415 ?_
  refine z_sld (pc := 416) ((i + 1).toNat) O (iz_nI (by omega)) (by rw [hLγ]; omega) (by rw [hLγ]; omega) dL_law_416 ?_
  refine zi_val _ (izi _) ?_
  have := rng (γ.2.2.2.2.2.2.2 ((i + 1).toNat))
  refine z_aloadS (pc := 417) O dL_law_417 rfl ?_
  refine z_iload_n (pc := 418) O dL_law_418 rfl ?_
  refine z_iconst (pc := 419) (v := iz (2)) O dL_law_419 (by decide) ?_
  refine zi_iadd (pc := 420) O dL_law_420 ?_
  refine z_sld (pc := 421) ((i + 2).toNat) O (iz_nI (by omega)) (by rw [hLγ]; omega) (by rw [hLγ]; omega) dL_law_421 ?_
  refine zi_val _ (izi _) ?_
  have := rng (γ.2.2.2.2.2.2.2 ((i + 2).toNat))
  refine z_aloadS (pc := 422) O dL_law_422 rfl ?_
  refine z_iload_n (pc := 423) O dL_law_423 rfl ?_
  refine z_iconst (pc := 424) (v := iz (3)) O dL_law_424 (by decide) ?_
  refine zi_iadd (pc := 425) O dL_law_425 ?_
  refine z_sld (pc := 426) ((i + 3).toNat) O (iz_nI (by omega)) (by rw [hLγ]; omega) (by rw [hLγ]; omega) dL_law_426 ?_
  refine zi_val _ (izi _) ?_
  have := rng (γ.2.2.2.2.2.2.2 ((i + 3).toNat))
  refine z_callV (pc := 427) O cl_L_48 (k9_rank _ _ ((γ.2.2.2.2.2.2.2 ((i + 1).toNat)).toInt) (by omega) ((γ.2.2.2.2.2.2.2 ((i + 2).toNat)).toInt) (by omega) ((γ.2.2.2.2.2.2.2 ((i + 3).toNat)).toInt) (by omega) imτ1) (by decide) (jo_33 (frτ1.lay IX.1)) kc_9 rfl rfl (Nat.le_of_ble_eq_true rfl) ⟨by rw [hrc]; omega, by rw [hrs]; omega⟩ dL_law_427 (fun r τ3 hp => ?_)
  obtain ⟨z4, rfl, fτ3_0, fτ3_1, frτ3, ivτ3_InvM, eτ3_0⟩ := hp
  have : gI τ1 33 53 = gI σ 33 53 := gI_iz (Fr.it frτ1 rfl (izg σ 33 53)) (rgI _ _ _)
  have : gI τ1 33 52 = gI σ 33 52 := gI_iz (Fr.it frτ1 rfl (izg σ 33 52)) (rgI _ _ _)
  have : gI τ1 33 53 = gI σ 33 53 := gI_iz (Fr.it frτ1 rfl (izg σ 33 53)) (rgI _ _ _)
  have ixτ3 : InvX τ3 := InvX.mod frτ3 ivτ1_InvX rfl
  have srτ3 : SRw τ3 := SRw.frW srτ1 frτ3.G (fun _ => rfl) (fun _ => rfl)
  have clτ3 : Cl τ3 := Cl.mv clτ1 ivτ1_InvX imτ1 (fun k => (gI_eq (Fr.it frτ3 rfl rfl : hI τ3 36 k = hI τ1 36 k))) (fun k => (gI_eq (Fr.it frτ3 rfl rfl : hI τ3 37 k = hI τ1 37 k))) (fun k => (gI_eq (Fr.it frτ3 rfl rfl : hI τ3 38 k = hI τ1 38 k))) (gI_eq (Fr.it frτ3 rfl rfl : hI τ3 33 33 = hI τ1 33 33)) (fun j => by rw [frτ3.2.2.1]) (Old.fr frτ3)
  refine z_pop (pc := 430) O dL_law_430 rfl ?_
  refine z_goto (pc := 431) (tgt := 1049) O dL_law_431 (by decide) ?_
  exact fin τ3 _ _ ixτ3 ivτ3_InvM (by unfold Cp; have : gI τ3 2 15 = gI σ 2 15 := gI_iz (Fr.it frτ3 rfl (Fr.it frτ1 rfl (izg σ 2 15))) (rgI _ _ _); have : gI τ3 33 73 = gI σ 33 73 := gI_iz (Fr.it frτ3 rfl (Fr.it frτ1 rfl (izg σ 33 73))) (rgI _ _ _); have : gI τ3 2 7 = gI σ 2 7 := gI_iz (Fr.it frτ3 rfl (Fr.it frτ1 rfl (izg σ 2 7))) (rgI _ _ _); have : gI τ3 33 6 = gI σ 33 6 := gI_iz (Fr.it frτ3 rfl (Fr.it frτ1 rfl (izg σ 33 6))) (rgI _ _ _); have : gI τ3 21 4 = gI σ 21 4 := gI_iz (Fr.it frτ3 rfl (Fr.it frτ1 rfl (izg σ 21 4))) (rgI _ _ _); have : gI τ3 33 54 = gI σ 33 54 := gI_iz (Fr.it frτ3 rfl (Fr.it frτ1 rfl (izg σ 33 54))) (rgI _ _ _); have : gI τ3 9 7 = gI σ 9 7 := gI_iz (Fr.it frτ3 rfl (Fr.it frτ1 rfl (izg σ 9 7))) (rgI _ _ _); have : gI τ3 33 52 = gI σ 33 52 := gI_iz (Fr.it frτ3 rfl (Fr.it frτ1 rfl (izg σ 33 52))) (rgI _ _ _); have : gI τ3 16 4 = gI τ1 16 4 := gI_iz (Fr.it frτ3 rfl (izg τ1 16 4)) (rgI _ _ _); have : gI τ3 2 1 = gI σ 2 1 := gI_iz (Fr.it frτ3 rfl (Fr.it frτ1 rfl (izg σ 2 1))) (rgI _ _ _); have : gI τ3 33 2 = gI σ 33 2 := gI_iz (Fr.it frτ3 rfl (Fr.it frτ1 rfl (izg σ 33 2))) (rgI _ _ _); have : gI τ3 2 5 = gI σ 2 5 := gI_iz (Fr.it frτ3 rfl (Fr.it frτ1 rfl (izg σ 2 5))) (rgI _ _ _); have : gI τ3 33 4 = gI σ 33 4 := gI_iz (Fr.it frτ3 rfl (Fr.it frτ1 rfl (izg σ 33 4))) (rgI _ _ _); have : gI τ3 2 6 = gI σ 2 6 := gI_iz (Fr.it frτ3 rfl (Fr.it frτ1 rfl (izg σ 2 6))) (rgI _ _ _); have : gI τ3 33 5 = gI σ 33 5 := gI_iz (Fr.it frτ3 rfl (Fr.it frτ1 rfl (izg σ 33 5))) (rgI _ _ _); omega) ⟨(fun k => by rw [(Fr.it frτ3 rfl rfl : hI τ3 3 k = hI τ1 3 k), (Fr.it frτ1 rfl rfl : hI τ1 3 k = hI σ 3 k), (Fr.it frτ3 rfl rfl : hI τ3 34 k = hI τ1 34 k), (Fr.it frτ1 rfl rfl : hI τ1 34 k = hI σ 34 k)]; exact K2.1 k), (fun k => by rw [(gI_eq (Fr.it frτ3 rfl rfl : hI τ3 8 k = hI τ1 8 k)), (gI_eq (Fr.it frτ1 rfl rfl : hI τ1 8 k = hI σ 8 k)), (gI_eq (Fr.it frτ3 rfl rfl : hI τ3 38 k = hI τ1 38 k)), (gI_eq (Fr.it frτ1 rfl rfl : hI τ1 38 k = hI σ 38 k))]; exact K2.2.1 k), srτ3⟩ clτ3 (by omega) (by omega)
