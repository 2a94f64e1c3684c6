set_option maxHeartbeats 4000000 in
set_option maxRecDepth 20000 in
theorem k4_expect3 (l : Launch) (σ : VH) (b : Nat) (v : Int64) (tk : Nat → Int) (pl : Nat → Int) (m : Nat) (j : Nat) (J : Lay σ) (R : RdS σ b tk pl m j) : Ct l yX4_expect cX4_expect 3 (some .boolean) 1 0 0 [.ref (b + 9), .long v] σ (fun r τ => ∃ z : Int, r = some (.int (iz z)) ∧ (z = 0 ∨ z = 1) ∧ (FrX b [(9, 8), (9, 9), (9, 2), (9, 3)] σ τ) ∧ (RdX τ b) ∧ (Rt τ b tk pl m z (exR tk m j v.toInt))) := by
  refine Ct.enter rfl (Nat.le_of_ble_eq_true rfl) ?_
  intro κ γ hκ O hrc hrs
  subst hκ
  have hX := R.1
  have hR0 := hX.1.1
  have hR4 := hX.2.2.2.1
  have hR5 := hX.2.2.2.2
  have hR6 := hX.1.2.2.2.2.1
  have hR7 := hX.1.2.2.2.2.2.1
  have hT := R.2.1
  have hct := R.2.1.2.2.1
  have hat := R.2.2.1
  have hcur := R.2.2.2.1
  have hfl := R.2.2.2.2
  refine z_aload_n (pc := 0) O dX4_expect_0 rfl ?_
  refine zi_getLv (pc := 1) (hL σ (b + 9) 3) O fl_X4_29 rfl (hX).2.1 rfl dX4_expect_1 ?_
  refine z_lload_n (pc := 4) O dX4_expect_4 rfl ?_
  refine z_lcmp (pc := 5) O dX4_expect_5 ?_
  refine zi_lcj_eq (pc := 6) (tgt := 15) O dX4_expect_6 (by decide) (fun h6 => ?_) (fun h6 => ?_)
  · refine z_aload_n (pc := 15) O dX4_expect_15 rfl ?_
    refine z_callV (pc := 16) O cl_X4_68 (k4_advance3 _ _ b tk pl m j J R) (by decide) (hX).2.1 kc_4 rfl rfl (Nat.le_of_ble_eq_true rfl) ⟨Nat.zero_le _, Nat.zero_le _⟩ dX4_expect_16 (fun r τ1 hp => ?_)
    obtain ⟨rfl, frτ1, ivτ1_RdX, eτ1_0⟩ := hp
    have := (ivτ1_RdX).2.2.2.1
    have := (ivτ1_RdX).2.2.2.2
    have := (ivτ1_RdX).1.2.2.2.2.1
    have := (ivτ1_RdX).1.2.2.2.2.2.1
    have : gI τ1 4 2 = gI σ 4 2 := gI_iz (FrD.it frτ1.1 (by omega) (izg σ 4 2)) (rgI _ _ _)
    refine z_iconst (pc := 19) (v := iz (1)) O dX4_expect_19 (by decide) ?_
    refine z_zret (pc := 20) O dX4_expect_20 rfl ?_
    exact ⟨1, rfl, (by decide), ((FrX.rf b [(9, 8), (9, 9), (9, 2), (9, 3)] σ).tr (frτ1.mono (V := [(9, 8), (9, 9), (9, 2), (9, 3)]) rfl)), ivτ1_RdX, (Rt.ok (exR_t (by omega)) eτ1_0)⟩
  · refine z_aload_n (pc := 9) O dX4_expect_9 rfl ?_
    refine z_iconst (pc := 10) (v := iz (2)) O dX4_expect_10 (by decide) ?_
    refine z_callV (pc := 11) O cl_X4_59 (k4_refuse3 _ _ b 2 (by decide) tk pl m j J R) (by decide) (hX).2.1 kc_4 rfl rfl (Nat.le_of_ble_eq_true rfl) ⟨Nat.zero_le _, Nat.zero_le _⟩ dX4_expect_11 (fun r τ3 hp => ?_)
    obtain ⟨z4, rfl, fτ3_0, fτ3_1, frτ3, ivτ3_RdX, eτ3_0⟩ := hp
    have := (ivτ3_RdX).2.2.2.1
    have := (ivτ3_RdX).2.2.2.2
    have := (ivτ3_RdX).1.2.2.2.2.1
    have := (ivτ3_RdX).1.2.2.2.2.2.1
    have : gI τ3 4 2 = gI σ 4 2 := gI_iz (FrD.it frτ3.1 (by omega) (izg σ 4 2)) (rgI _ _ _)
    refine z_zret (pc := 14) O dX4_expect_14 (nar_z (by omega)) ?_
    exact ⟨z4, rfl, (by omega), ((FrX.rf b [(9, 8), (9, 9), (9, 2), (9, 3)] σ).tr (frτ3.mono (V := [(9, 8), (9, 9), (9, 2), (9, 3)]) rfl)), ivτ3_RdX, (by rw [show z4 = 0 by omega]; exact Rt.no (exR_f (by omega)) (flt_ne (by decide)) eτ3_0)⟩
set_option maxHeartbeats 4000000 in
set_option maxRecDepth 20000 in
theorem k4_readNumber3 (l : Launch) (σ : VH) (b : Nat) (y : Int) (ry : (-2147483648 ≤ y ∧ y < 2147483648)) (x : Int) (rx : (-2147483648 ≤ x ∧ x < 2147483648)) (tk : Nat → Int) (pl : Nat → Int) (m : Nat) (j : Nat) (J : Lay σ) (R : RdS σ b tk pl m j) (hy : 0 ≤ y) : Ct l yX4_readNumber cX4_readNumber 4 (some .int) 1 0 0 [.ref (b + 9), .int (iz y), .int (iz x)] σ (fun r τ => ∃ z : Int, r = some (.int (iz z)) ∧ (-2147483648 ≤ z ∧ z < 2147483648) ∧ (z = -1 ∨ (y ≤ z ∧ z ≤ x)) ∧ (FrX b [(9, 8), (9, 9), (9, 2), (9, 3)] σ τ) ∧ (RdX τ b) ∧ (NmR τ b tk pl m j y x z)) := by
  refine Ct.enter rfl (Nat.le_of_ble_eq_true rfl) ?_
  intro κ γ hκ O hrc hrs
  subst hκ
  have hX := R.1
  have hR0 := hX.1.1
  have hR4 := hX.2.2.2.1
  have hR5 := hX.2.2.2.2
  have hR6 := hX.1.2.2.2.2.1
  have hR7 := hX.1.2.2.2.2.2.1
  have hT := R.2.1
  have hct := R.2.1.2.2.1
  have hat := R.2.2.1
  have hcur := R.2.2.2.1
  have hfl := R.2.2.2.2
  refine z_aload_n (pc := 0) O dX4_readNumber_0 rfl ?_
  refine zi_getLv (pc := 1) (hL σ (b + 9) 3) O fl_X4_29 rfl (hX).2.1 rfl dX4_readNumber_1 ?_
  refine z_lconst (pc := 4) (v := 0) O dX4_readNumber_4 (by decide) ?_
  refine z_lcmp (pc := 5) O dX4_readNumber_5 ?_
  refine zi_lci_lt (pc := 6) (tgt := 17) (0) O dX4_readNumber_6 (by decide) (by decide) (fun h6 => ?_) (fun h6 => ?_)
  · refine z_aload_n (pc := 17) O dX4_readNumber_17 rfl ?_
    refine zi_getLv (pc := 18) (hL σ (b + 9) 3) O fl_X4_29 rfl (hX).2.1 rfl dX4_readNumber_18 ?_
    refine z_ldc2 (pc := 21) O tw_399 dX4_readNumber_21 ?_
    refine z_lxor (pc := 24) O dX4_readNumber_24 ?_
    refine z_topl (pc := 25) (fun w1 ew1 => ?_)
    refine z_l2i (pc := 25) O dX4_readNumber_25 ?_
    refine zi_any (fun z2 rz2 ez2 => ?_)
    have hnum : z2 = -1 - tk j := numv hcur (hT.2.2.2 j (by omega)) (by omega) ew1 ez2 (by omega)
    refine z_istore_n (pc := 26) [(0, .ref (b + 9)), (1, .int (iz y)), (2, .int (iz x)), (3, .int (iz z2))] O dX4_readNumber_26 (by decide) rfl ?_
    refine z_iload_n (pc := 27) O dX4_readNumber_27 rfl ?_
    refine z_iload_n (pc := 28) O dX4_readNumber_28 rfl ?_
    refine zi_icmp_lt (pc := 29) (tgt := 37) O dX4_readNumber_29 (by decide) (by omega) (by omega) (fun h29 => ?_) (fun h29 => ?_)
    · refine z_aload_n (pc := 37) O dX4_readNumber_37 rfl ?_
      refine z_iconst (pc := 38) (v := iz (4)) O dX4_readNumber_38 (by decide) ?_
      refine z_callV (pc := 39) O cl_X4_59 (k4_refuse3 _ _ b 4 (by decide) tk pl m j J R) (by decide) (hX).2.1 kc_4 rfl rfl (Nat.le_of_ble_eq_true rfl) ⟨Nat.zero_le _, Nat.zero_le _⟩ dX4_readNumber_39 (fun r τ3 hp => ?_)
      obtain ⟨z4, rfl, fτ3_0, fτ3_1, frτ3, ivτ3_RdX, eτ3_0⟩ := hp
      have := (ivτ3_RdX).2.2.2.1
      have := (ivτ3_RdX).2.2.2.2
      have := (ivτ3_RdX).1.2.2.2.2.1
      have := (ivτ3_RdX).1.2.2.2.2.2.1
      have : gI τ3 4 2 = gI σ 4 2 := gI_iz (FrD.it frτ3.1 (by omega) (izg σ 4 2)) (rgI _ _ _)
      refine z_pop (pc := 42) O dX4_readNumber_42 rfl ?_
      refine z_iconst (pc := 43) (v := iz (-1)) O dX4_readNumber_43 (by decide) ?_
      refine z_iret (pc := 44) O dX4_readNumber_44 ?_
      have f4 : flt tk j 4 = 4 := by
        unfold flt
        rw [if_neg (by omega)]
      rw [f4] at eτ3_0
      exact ⟨(-1), rfl, (by decide), (by omega), ((FrX.rf b [(9, 8), (9, 9), (9, 2), (9, 3)] σ).tr (frτ3.mono (V := [(9, 8), (9, 9), (9, 2), (9, 3)]) rfl)), ivτ3_RdX, (Or.inl ⟨rfl, by rw [numR_4 (by omega) (by omega)]; exact (by decide : ¬ (4 : Int) = 0), by rw [numR_4 (by omega) (by omega)]; exact eτ3_0⟩)⟩
    · refine z_iload_n (pc := 32) O dX4_readNumber_32 rfl ?_
      refine z_iload_n (pc := 33) O dX4_readNumber_33 rfl ?_
      refine zi_icmp_le (pc := 34) (tgt := 45) O dX4_readNumber_34 (by decide) (by omega) (by omega) (fun h34 => ?_) (fun h34 => ?_)
      · refine z_aload_n (pc := 45) O dX4_readNumber_45 rfl ?_
        refine z_callV (pc := 46) O cl_X4_68 (k4_advance3 _ _ b tk pl m j J R) (by decide) (hX).2.1 kc_4 rfl rfl (Nat.le_of_ble_eq_true rfl) ⟨Nat.zero_le _, Nat.zero_le _⟩ dX4_readNumber_46 (fun r τ5 hp => ?_)
        obtain ⟨rfl, frτ5, ivτ5_RdX, eτ5_0⟩ := hp
        have := (ivτ5_RdX).2.2.2.1
        have := (ivτ5_RdX).2.2.2.2
        have := (ivτ5_RdX).1.2.2.2.2.1
        have := (ivτ5_RdX).1.2.2.2.2.2.1
        have : gI τ5 4 2 = gI σ 4 2 := gI_iz (FrD.it frτ5.1 (by omega) (izg σ 4 2)) (rgI _ _ _)
        refine z_iload_n (pc := 49) O dX4_readNumber_49 rfl ?_
        refine z_iret (pc := 50) O dX4_readNumber_50 ?_
        exact ⟨z2, rfl, (by omega), (by omega), ((FrX.rf b [(9, 8), (9, 9), (9, 2), (9, 3)] σ).tr (frτ5.mono (V := [(9, 8), (9, 9), (9, 2), (9, 3)]) rfl)), ivτ5_RdX, (Or.inr ⟨by omega, by omega, numR_0 (by omega) (by omega) (by omega), eτ5_0⟩)⟩
      · refine z_aload_n (pc := 37) O dX4_readNumber_37 rfl ?_
        refine z_iconst (pc := 38) (v := iz (4)) O dX4_readNumber_38 (by decide) ?_
        refine z_callV (pc := 39) O cl_X4_59 (k4_refuse3 _ _ b 4 (by decide) tk pl m j J R) (by decide) (hX).2.1 kc_4 rfl rfl (Nat.le_of_ble_eq_true rfl) ⟨Nat.zero_le _, Nat.zero_le _⟩ dX4_readNumber_39 (fun r τ7 hp => ?_)
        obtain ⟨z8, rfl, fτ7_0, fτ7_1, frτ7, ivτ7_RdX, eτ7_0⟩ := hp
        have := (ivτ7_RdX).2.2.2.1
        have := (ivτ7_RdX).2.2.2.2
        have := (ivτ7_RdX).1.2.2.2.2.1
        have := (ivτ7_RdX).1.2.2.2.2.2.1
        have : gI τ7 4 2 = gI σ 4 2 := gI_iz (FrD.it frτ7.1 (by omega) (izg σ 4 2)) (rgI _ _ _)
        refine z_pop (pc := 42) O dX4_readNumber_42 rfl ?_
        refine z_iconst (pc := 43) (v := iz (-1)) O dX4_readNumber_43 (by decide) ?_
        refine z_iret (pc := 44) O dX4_readNumber_44 ?_
        have f4 : flt tk j 4 = 4 := by
          unfold flt
          rw [if_neg (by omega)]
        rw [f4] at eτ7_0
        exact ⟨(-1), rfl, (by decide), (by omega), ((FrX.rf b [(9, 8), (9, 9), (9, 2), (9, 3)] σ).tr (frτ7.mono (V := [(9, 8), (9, 9), (9, 2), (9, 3)]) rfl)), ivτ7_RdX, (Or.inl ⟨rfl, by rw [numR_4 (by omega) (by omega)]; exact (by decide : ¬ (4 : Int) = 0), by rw [numR_4 (by omega) (by omega)]; exact eτ7_0⟩)⟩
  · refine z_aload_n (pc := 9) O dX4_readNumber_9 rfl ?_
    refine z_iconst (pc := 10) (v := iz (2)) O dX4_readNumber_10 (by decide) ?_
    refine z_callV (pc := 11) O cl_X4_59 (k4_refuse3 _ _ b 2 (by decide) tk pl m j J R) (by decide) (hX).2.1 kc_4 rfl rfl (Nat.le_of_ble_eq_true rfl) ⟨Nat.zero_le _, Nat.zero_le _⟩ dX4_readNumber_11 (fun r τ9 hp => ?_)
    obtain ⟨z10, rfl, fτ9_0, fτ9_1, frτ9, ivτ9_RdX, eτ9_0⟩ := hp
    have := (ivτ9_RdX).2.2.2.1
    have := (ivτ9_RdX).2.2.2.2
    have := (ivτ9_RdX).1.2.2.2.2.1
    have := (ivτ9_RdX).1.2.2.2.2.2.1
    have : gI τ9 4 2 = gI σ 4 2 := gI_iz (FrD.it frτ9.1 (by omega) (izg σ 4 2)) (rgI _ _ _)
    refine z_pop (pc := 14) O dX4_readNumber_14 rfl ?_
    refine z_iconst (pc := 15) (v := iz (-1)) O dX4_readNumber_15 (by decide) ?_
    refine z_iret (pc := 16) O dX4_readNumber_16 ?_
    exact ⟨(-1), rfl, (by decide), (by omega), ((FrX.rf b [(9, 8), (9, 9), (9, 2), (9, 3)] σ).tr (frτ9.mono (V := [(9, 8), (9, 9), (9, 2), (9, 3)]) rfl)), ivτ9_RdX, (Or.inl ⟨rfl, by rw [numR_2 (by omega)]; exact flt_ne (by decide), by rw [numR_2 (by omega)]; exact eτ9_0⟩)⟩
set_option maxHeartbeats 4000000 in
set_option maxRecDepth 20000 in
theorem k8_placeIn3 (l : Launch) (σ : VH) (q : Nat) (v : Int64) (len : Nat) (hq : ArL σ q len) (hl : len < 2147483648) : Ct l yX8_placeIn cX8_placeIn 4 (some .int) 0 0 0 [.ref q, .long v] σ (fun r τ => ∃ z : Int, r = some (.int (iz z)) ∧ (-2147483648 ≤ z ∧ z < 2147483648) ∧ ((z = -1 ∧ ∀ i : Nat, i < len → ¬ (hL σ q i).toInt = v.toInt) ∨ (0 ≤ z ∧ z < (len : Int) ∧ (hL σ q (z).toNat).toInt = v.toInt)) ∧ (σ = τ)) := by
  refine Ct.enter rfl (Nat.le_of_ble_eq_true rfl) ?_
  intro κ γ hκ O hrc hrs
  subst hκ
  refine z_iconst (pc := 0) (v := iz (0)) O dX8_placeIn_0 (by decide) ?_
  refine z_istore_n (pc := 1) [(0, .ref q), (1, .long v), (3, .int (iz 0))] O dX8_placeIn_1 (by decide) rfl ?_
  have cut2 : ∀ (mu2 : Nat) (k : Int), (mu2 = ((len : Int) - k).toNat) → (-2147483648 ≤ k ∧ k < 2147483648) → (0 ≤ k ∧ k ≤ (len : Int)) → (∀ i : Nat, (i : Int) < k → ¬ (hL σ q i).toInt = v.toInt) → Z κ γ 4 σ 0 0 (QM κ γ (fun r τ => ∃ z : Int, r = some (.int (iz z)) ∧ (-2147483648 ≤ z ∧ z < 2147483648) ∧ ((z = -1 ∧ ∀ i : Nat, i < len → ¬ (hL σ q i).toInt = v.toInt) ∨ (0 ≤ z ∧ z < (len : Int) ∧ (hL σ q (z).toNat).toInt = v.toInt)) ∧ (σ = τ)) 0 0) 2 [(0, .ref q), (1, .long v), (3, .int (iz k))] [] := by
    intro mu2
    induction mu2 using Nat.strongRecOn with
    | ind mu2 ih2 =>
    intro k hmu2 rr2_0 ff2_0 ff2_1
    refine z_iload_n (pc := 2) O dX8_placeIn_2 rfl ?_
    refine z_aload_n (pc := 3) O dX8_placeIn_3 rfl ?_
    refine z_alenL (pc := 4) (n := iz (len : Int)) O hq (iz_nI rfl).symm dX8_placeIn_4 ?_
    refine zi_icmp_ge (pc := 5) (tgt := 24) O dX8_placeIn_5 (by decide) (by omega) (by omega) (fun h5 => ?_) (fun h5 => ?_)
    · refine z_iconst (pc := 24) (v := iz (-1)) O dX8_placeIn_24 (by decide) ?_
      refine z_iret (pc := 25) O dX8_placeIn_25 ?_
      exact ⟨(-1), rfl, (by decide), (Or.inl ⟨rfl, fun i hi => ff2_1 i (by omega)⟩), rfl⟩
    · refine z_aload_n (pc := 8) O dX8_placeIn_8 rfl ?_
      refine z_iload_n (pc := 9) O dX8_placeIn_9 rfl ?_
      refine zi_lald (pc := 10) (k.toNat) O hq (by omega) (by omega) (by omega) dX8_placeIn_10 ?_
      refine z_lload_n (pc := 11) O dX8_placeIn_11 rfl ?_
      refine z_lcmp (pc := 12) O dX8_placeIn_12 ?_
      refine zi_lcj_ne (pc := 13) (tgt := 18) O dX8_placeIn_13 (by decide) (fun h13 => ?_) (fun h13 => ?_)
      · refine zi_iinc (pc := 18) (k + 1) [(0, .ref q), (1, .long v), (3, .int (iz (k + 1)))] O dX8_placeIn_18 rfl (by omega) (by decide) rfl ?_
        refine z_goto (pc := 21) (tgt := 2) O dX8_placeIn_21 (by decide) ?_
        refine z_lk [(0, .ref q), (1, .long v), (3, .int (iz (k + 1)))] ⟨rfl, rfl, rfl, trivial⟩ ?_
        exact ih2 _ (by omega) (k + 1) rfl (by omega) (by omega) (fun i hi => by by_cases h9 : (i : Int) = k; (rw [show i = k.toNat by omega]; exact h13); (exact ff2_1 i (by omega)))
      · refine z_iload_n (pc := 16) O dX8_placeIn_16 rfl ?_
        refine z_iret (pc := 17) O dX8_placeIn_17 ?_
        exact ⟨k, rfl, (by omega), (Or.inr ⟨by omega, by omega, h13⟩), rfl⟩
  refine z_lk [(0, .ref q), (1, .long v), (3, .int (iz 0))] ⟨rfl, rfl, rfl, trivial⟩ ?_
  exact cut2 _ 0 rfl (by omega) (by omega) (fun i hi => absurd hi (by omega))
set_option maxHeartbeats 4000000 in
set_option maxRecDepth 20000 in
theorem k4_comparisonOf3 (l : Launch) (σ : VH) (v : Int64) : Ct l yX4_comparisonOf cX4_comparisonOf 2 (some .int) 0 0 0 [.long v] σ (fun r τ => ∃ z : Int, r = some (.int (iz z)) ∧ (-2147483648 ≤ z ∧ z < 2147483648) ∧ ((z = -14 ∧ v.toInt = 60) ∨ (z = -15 ∧ v.toInt = 62) ∨ (z = -16 ∧ v.toInt = 61) ∨ (z = -1 ∧ ¬ v.toInt = 60 ∧ ¬ v.toInt = 62 ∧ ¬ v.toInt = 61)) ∧ (σ = τ)) := by
  refine Ct.enter rfl (Nat.le_of_ble_eq_true rfl) ?_
  intro κ γ hκ O hrc hrs
  subst hκ
  refine z_lload_n (pc := 0) O dX4_comparisonOf_0 rfl ?_
  refine z_ldc2 (pc := 1) O tw_442 dX4_comparisonOf_1 ?_
  refine z_lcmp (pc := 4) O dX4_comparisonOf_4 ?_
  refine zi_lci_ne (pc := 5) (tgt := 11) (60) O dX4_comparisonOf_5 (by decide) (by decide) (fun h5 => ?_) (fun h5 => ?_)
  · refine z_lload_n (pc := 11) O dX4_comparisonOf_11 rfl ?_
    refine z_ldc2 (pc := 12) O tw_443 dX4_comparisonOf_12 ?_
    refine z_lcmp (pc := 15) O dX4_comparisonOf_15 ?_
    refine zi_lci_ne (pc := 16) (tgt := 22) (62) O dX4_comparisonOf_16 (by decide) (by decide) (fun h16 => ?_) (fun h16 => ?_)
    · refine z_lload_n (pc := 22) O dX4_comparisonOf_22 rfl ?_
      refine z_ldc2 (pc := 23) O tw_444 dX4_comparisonOf_23 ?_
      refine z_lcmp (pc := 26) O dX4_comparisonOf_26 ?_
      refine zi_lci_ne (pc := 27) (tgt := 35) (61) O dX4_comparisonOf_27 (by decide) (by decide) (fun h27 => ?_) (fun h27 => ?_)
      · refine z_iconst (pc := 35) (v := iz (-1)) O dX4_comparisonOf_35 (by decide) ?_
        refine z_iret (pc := 36) O dX4_comparisonOf_36 ?_
        exact ⟨(-1), rfl, (by decide), (by omega), rfl⟩
      · refine z_bipush (pc := 30) (v := iz (-16)) O dX4_comparisonOf_30 (by decide) ?_
        refine z_goto (pc := 32) (tgt := 36) O dX4_comparisonOf_32 (by decide) ?_
        refine z_iret (pc := 36) O dX4_comparisonOf_36 ?_
        exact ⟨(-16), rfl, (by decide), (by omega), rfl⟩
    · refine z_bipush (pc := 19) (v := iz (-15)) O dX4_comparisonOf_19 (by decide) ?_
      refine z_iret (pc := 21) O dX4_comparisonOf_21 ?_
      exact ⟨(-15), rfl, (by decide), (by omega), rfl⟩
  · refine z_bipush (pc := 8) (v := iz (-14)) O dX4_comparisonOf_8 (by decide) ?_
    refine z_iret (pc := 10) O dX4_comparisonOf_10 ?_
    exact ⟨(-14), rfl, (by decide), (by omega), rfl⟩
set_option maxHeartbeats 4000000 in
set_option maxRecDepth 20000 in
theorem k4_deedOf3 (l : Launch) (σ : VH) (v : Int64) : Ct l yX4_deedOf cX4_deedOf 2 (some .int) 0 0 0 [.long v] σ (fun r τ => ∃ z : Int, r = some (.int (iz z)) ∧ (-2147483648 ≤ z ∧ z < 2147483648) ∧ ((z = 0 ∧ v.toInt = 110429873532005) ∨ (z = 1 ∧ v.toInt = 1751215206) ∨ (z = 2 ∧ v.toInt = 6382692) ∨ (z = 3 ∧ v.toInt = 1818588019) ∨ (z = -1 ∧ ¬ v.toInt = 110429873532005 ∧ ¬ v.toInt = 1751215206 ∧ ¬ v.toInt = 6382692 ∧ ¬ v.toInt = 1818588019)) ∧ (σ = τ)) := by
  refine Ct.enter rfl (Nat.le_of_ble_eq_true rfl) ?_
  intro κ γ hκ O hrc hrs
  subst hκ
  refine z_lload_n (pc := 0) O dX4_deedOf_0 rfl ?_
  refine z_ldc2 (pc := 1) O tw_451 dX4_deedOf_1 ?_
  refine z_lcmp (pc := 4) O dX4_deedOf_4 ?_
  refine zi_lci_ne (pc := 5) (tgt := 10) (110429873532005) O dX4_deedOf_5 (by decide) (by decide) (fun h5 => ?_) (fun h5 => ?_)
  · refine z_lload_n (pc := 10) O dX4_deedOf_10 rfl ?_
    refine z_ldc2 (pc := 11) O tw_452 dX4_deedOf_11 ?_
    refine z_lcmp (pc := 14) O dX4_deedOf_14 ?_
    refine zi_lci_ne (pc := 15) (tgt := 20) (1751215206) O dX4_deedOf_15 (by decide) (by decide) (fun h15 => ?_) (fun h15 => ?_)
    · refine z_lload_n (pc := 20) O dX4_deedOf_20 rfl ?_
      refine z_ldc2 (pc := 21) O tw_453 dX4_deedOf_21 ?_
      refine z_lcmp (pc := 24) O dX4_deedOf_24 ?_
      refine zi_lci_ne (pc := 25) (tgt := 30) (6382692) O dX4_deedOf_25 (by decide) (by decide) (fun h25 => ?_) (fun h25 => ?_)
      · refine z_lload_n (pc := 30) O dX4_deedOf_30 rfl ?_
        refine z_ldc2 (pc := 31) O tw_454 dX4_deedOf_31 ?_
        refine z_lcmp (pc := 34) O dX4_deedOf_34 ?_
        refine zi_lci_ne (pc := 35) (tgt := 42) (1818588019) O dX4_deedOf_35 (by decide) (by decide) (fun h35 => ?_) (fun h35 => ?_)
        · refine z_iconst (pc := 42) (v := iz (-1)) O dX4_deedOf_42 (by decide) ?_
          refine z_iret (pc := 43) O dX4_deedOf_43 ?_
          exact ⟨(-1), rfl, (by decide), (by omega), rfl⟩
        · refine z_iconst (pc := 38) (v := iz (3)) O dX4_deedOf_38 (by decide) ?_
          refine z_goto (pc := 39) (tgt := 43) O dX4_deedOf_39 (by decide) ?_
          refine z_iret (pc := 43) O dX4_deedOf_43 ?_
          exact ⟨3, rfl, (by decide), (by omega), rfl⟩
      · refine z_iconst (pc := 28) (v := iz (2)) O dX4_deedOf_28 (by decide) ?_
        refine z_iret (pc := 29) O dX4_deedOf_29 ?_
        exact ⟨2, rfl, (by decide), (by omega), rfl⟩
    · refine z_iconst (pc := 18) (v := iz (1)) O dX4_deedOf_18 (by decide) ?_
      refine z_iret (pc := 19) O dX4_deedOf_19 ?_
      exact ⟨1, rfl, (by decide), (by omega), rfl⟩
  · refine z_iconst (pc := 8) (v := iz (0)) O dX4_deedOf_8 (by decide) ?_
    refine z_iret (pc := 9) O dX4_deedOf_9 ?_
    exact ⟨0, rfl, (by decide), (by omega), rfl⟩
