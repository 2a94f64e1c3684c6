set_option maxHeartbeats 4000000 in
set_option maxRecDepth 20000 in
theorem k8_isFolk (l : Launch) (σ : VH) (x : Int) (rx : (-2147483648 ≤ x ∧ x < 2147483648)) : Ct l yX8_isFolk cX8_isFolk 1 (some .boolean) 0 0 0 [.int (iz x)] σ (fun r τ => ∃ z : Int, r = some (.int (iz z)) ∧ (z = 0 ∨ z = 1) ∧ (z = 1 ↔ (0 ≤ x ∧ x < 4)) ∧ (σ = τ)) := by
  refine Ct.enter rfl (Nat.le_of_ble_eq_true rfl) ?_
  intro κ γ hκ O hrc hrs
  subst hκ
  refine z_iload_n (pc := 0) O dX8_isFolk_0 rfl ?_
  refine zi_if_lt (pc := 1) (tgt := 13) O dX8_isFolk_1 (by decide) (by omega) (fun h1 => ?_) (fun h1 => ?_)
  · refine z_iconst (pc := 13) (v := iz (0)) O dX8_isFolk_13 (by decide) ?_
    refine z_zret (pc := 14) O dX8_isFolk_14 rfl ?_
    exact ⟨0, rfl, (by decide), (by omega), rfl⟩
  · refine z_iload_n (pc := 4) O dX8_isFolk_4 rfl ?_
    refine z_iconst (pc := 5) (v := iz (4)) O dX8_isFolk_5 (by decide) ?_
    refine zi_icmp_ge (pc := 6) (tgt := 13) O dX8_isFolk_6 (by decide) (by omega) (by decide) (fun h6 => ?_) (fun h6 => ?_)
    · refine z_iconst (pc := 13) (v := iz (0)) O dX8_isFolk_13 (by decide) ?_
      refine z_zret (pc := 14) O dX8_isFolk_14 rfl ?_
      exact ⟨0, rfl, (by decide), (by omega), rfl⟩
    · refine z_iconst (pc := 9) (v := iz (1)) O dX8_isFolk_9 (by decide) ?_
      refine z_goto (pc := 10) (tgt := 14) O dX8_isFolk_10 (by decide) ?_
      refine z_zret (pc := 14) O dX8_isFolk_14 rfl ?_
      exact ⟨1, rfl, (by decide), (by omega), rfl⟩
set_option maxHeartbeats 4000000 in
set_option maxRecDepth 20000 in
theorem k8_isDay (l : Launch) (σ : VH) (x : Int) (rx : (-2147483648 ≤ x ∧ x < 2147483648)) : Ct l yX8_isDay cX8_isDay 1 (some .boolean) 0 0 0 [.int (iz x)] σ (fun r τ => ∃ z : Int, r = some (.int (iz z)) ∧ (z = 0 ∨ z = 1) ∧ (z = 1 ↔ (0 ≤ x ∧ x ≤ 100000)) ∧ (σ = τ)) := by
  refine Ct.enter rfl (Nat.le_of_ble_eq_true rfl) ?_
  intro κ γ hκ O hrc hrs
  subst hκ
  refine z_iload_n (pc := 0) O dX8_isDay_0 rfl ?_
  refine zi_if_lt (pc := 1) (tgt := 14) O dX8_isDay_1 (by decide) (by omega) (fun h1 => ?_) (fun h1 => ?_)
  · refine z_iconst (pc := 14) (v := iz (0)) O dX8_isDay_14 (by decide) ?_
    refine z_zret (pc := 15) O dX8_isDay_15 rfl ?_
    exact ⟨0, rfl, (by decide), (by omega), rfl⟩
  · refine z_iload_n (pc := 4) O dX8_isDay_4 rfl ?_
    refine z_ldc (pc := 5) O tw_227 dX8_isDay_5 ?_
    refine zi_val (100000) (by decide) ?_
    refine zi_icmp_gt (pc := 7) (tgt := 14) O dX8_isDay_7 (by decide) (by omega) (by decide) (fun h7 => ?_) (fun h7 => ?_)
    · refine z_iconst (pc := 14) (v := iz (0)) O dX8_isDay_14 (by decide) ?_
      refine z_zret (pc := 15) O dX8_isDay_15 rfl ?_
      exact ⟨0, rfl, (by decide), (by omega), rfl⟩
    · refine z_iconst (pc := 10) (v := iz (1)) O dX8_isDay_10 (by decide) ?_
      refine z_goto (pc := 11) (tgt := 15) O dX8_isDay_11 (by decide) ?_
      refine z_zret (pc := 15) O dX8_isDay_15 rfl ?_
      exact ⟨1, rfl, (by decide), (by omega), rfl⟩
set_option maxHeartbeats 4000000 in
set_option maxRecDepth 20000 in
theorem k8_isKind (l : Launch) (σ : VH) (x : Int) (rx : (-2147483648 ≤ x ∧ x < 2147483648)) : Ct l yX8_isKind cX8_isKind 1 (some .boolean) 0 0 0 [.int (iz x)] σ (fun r τ => ∃ z : Int, r = some (.int (iz z)) ∧ (z = 0 ∨ z = 1) ∧ (z = 1 ↔ (0 ≤ x ∧ x < 4)) ∧ (σ = τ)) := by
  refine Ct.enter rfl (Nat.le_of_ble_eq_true rfl) ?_
  intro κ γ hκ O hrc hrs
  subst hκ
  refine z_iload_n (pc := 0) O dX8_isKind_0 rfl ?_
  refine zi_if_lt (pc := 1) (tgt := 13) O dX8_isKind_1 (by decide) (by omega) (fun h1 => ?_) (fun h1 => ?_)
  · refine z_iconst (pc := 13) (v := iz (0)) O dX8_isKind_13 (by decide) ?_
    refine z_zret (pc := 14) O dX8_isKind_14 rfl ?_
    exact ⟨0, rfl, (by decide), (by omega), rfl⟩
  · refine z_iload_n (pc := 4) O dX8_isKind_4 rfl ?_
    refine z_iconst (pc := 5) (v := iz (4)) O dX8_isKind_5 (by decide) ?_
    refine zi_icmp_ge (pc := 6) (tgt := 13) O dX8_isKind_6 (by decide) (by omega) (by decide) (fun h6 => ?_) (fun h6 => ?_)
    · refine z_iconst (pc := 13) (v := iz (0)) O dX8_isKind_13 (by decide) ?_
      refine z_zret (pc := 14) O dX8_isKind_14 rfl ?_
      exact ⟨0, rfl, (by decide), (by omega), rfl⟩
    · refine z_iconst (pc := 9) (v := iz (1)) O dX8_isKind_9 (by decide) ?_
      refine z_goto (pc := 10) (tgt := 14) O dX8_isKind_10 (by decide) ?_
      refine z_zret (pc := 14) O dX8_isKind_14 rfl ?_
      exact ⟨1, rfl, (by decide), (by omega), rfl⟩
set_option maxHeartbeats 4000000 in
set_option maxRecDepth 20000 in
theorem k8_isLetter (l : Launch) (σ : VH) (c : Int) (rc : (-2147483648 ≤ c ∧ c < 2147483648)) : Ct l yX8_isLetter cX8_isLetter 1 (some .boolean) 0 0 0 [.int (iz c)] σ (fun r τ => ∃ z : Int, r = some (.int (iz z)) ∧ (z = 0 ∨ z = 1) ∧ (z = 1 ↔ (97 ≤ c ∧ c ≤ 122)) ∧ (σ = τ)) := by
  refine Ct.enter rfl (Nat.le_of_ble_eq_true rfl) ?_
  intro κ γ hκ O hrc hrs
  subst hκ
  refine z_iload_n (pc := 0) O dX8_isLetter_0 rfl ?_
  refine z_bipush (pc := 1) (v := iz (97)) O dX8_isLetter_1 (by decide) ?_
  refine zi_icmp_lt (pc := 3) (tgt := 16) O dX8_isLetter_3 (by decide) (by omega) (by decide) (fun h3 => ?_) (fun h3 => ?_)
  · refine z_iconst (pc := 16) (v := iz (0)) O dX8_isLetter_16 (by decide) ?_
    refine z_zret (pc := 17) O dX8_isLetter_17 rfl ?_
    exact ⟨0, rfl, (by decide), (by omega), rfl⟩
  · refine z_iload_n (pc := 6) O dX8_isLetter_6 rfl ?_
    refine z_bipush (pc := 7) (v := iz (122)) O dX8_isLetter_7 (by decide) ?_
    refine zi_icmp_gt (pc := 9) (tgt := 16) O dX8_isLetter_9 (by decide) (by omega) (by decide) (fun h9 => ?_) (fun h9 => ?_)
    · refine z_iconst (pc := 16) (v := iz (0)) O dX8_isLetter_16 (by decide) ?_
      refine z_zret (pc := 17) O dX8_isLetter_17 rfl ?_
      exact ⟨0, rfl, (by decide), (by omega), rfl⟩
    · refine z_iconst (pc := 12) (v := iz (1)) O dX8_isLetter_12 (by decide) ?_
      refine z_goto (pc := 13) (tgt := 17) O dX8_isLetter_13 (by decide) ?_
      refine z_zret (pc := 17) O dX8_isLetter_17 rfl ?_
      exact ⟨1, rfl, (by decide), (by omega), rfl⟩
set_option maxHeartbeats 4000000 in
set_option maxRecDepth 20000 in
theorem kJ_bitCount (l : Launch) (σ : VH) (a : Int) (ra : (-2147483648 ≤ a ∧ a < 2147483648)) : Ct l yJ6_bitCount_0f7a4 cJ6_bitCount_0f7a4 1 (some .int) 0 0 0 [.int (iz a)] σ (fun r τ => ∃ z : Int, r = some (.int (iz z)) ∧ (-2147483648 ≤ z ∧ z < 2147483648) ∧ (σ = τ)) := by
  refine Ct.enter rfl (Nat.le_of_ble_eq_true rfl) ?_
  intro κ γ hκ O hrc hrs
  subst hκ
  refine z_iload_n (pc := 0) O dJ6_bitCount_0f7a4_0 rfl ?_
  refine z_iload_n (pc := 1) O dJ6_bitCount_0f7a4_1 rfl ?_
  refine z_iconst (pc := 2) (v := iz (1)) O dJ6_bitCount_0f7a4_2 (by decide) ?_
  refine z_iushr (pc := 3) O dJ6_bitCount_0f7a4_3 ?_
  refine zi_any (fun z1 rz1 ez1 => ?_)
  refine z_ldcw (pc := 4) O tw_675 dJ6_bitCount_0f7a4_4 ?_
  refine zi_val (1431655765) (by decide) ?_
  refine z_iand (pc := 7) O dJ6_bitCount_0f7a4_7 ?_
  refine zi_any (fun z2 rz2 ez2 => ?_)
  refine zi_isub (pc := 8) O dJ6_bitCount_0f7a4_8 ?_
  refine zi_any (fun z3 rz3 ez3 => ?_)
  refine z_istore_n (pc := 9) [(0, .int (iz z3))] O dJ6_bitCount_0f7a4_9 (by decide) rfl ?_
  refine z_iload_n (pc := 10) O dJ6_bitCount_0f7a4_10 rfl ?_
  refine z_ldcw (pc := 11) O tw_676 dJ6_bitCount_0f7a4_11 ?_
  refine zi_val (858993459) (by decide) ?_
  refine z_iand (pc := 14) O dJ6_bitCount_0f7a4_14 ?_
  refine zi_any (fun z4 rz4 ez4 => ?_)
  refine z_iload_n (pc := 15) O dJ6_bitCount_0f7a4_15 rfl ?_
  refine z_iconst (pc := 16) (v := iz (2)) O dJ6_bitCount_0f7a4_16 (by decide) ?_
  refine z_iushr (pc := 17) O dJ6_bitCount_0f7a4_17 ?_
  refine zi_any (fun z5 rz5 ez5 => ?_)
  refine z_ldcw (pc := 18) O tw_676 dJ6_bitCount_0f7a4_18 ?_
  refine zi_val (858993459) (by decide) ?_
  refine z_iand (pc := 21) O dJ6_bitCount_0f7a4_21 ?_
  refine zi_any (fun z6 rz6 ez6 => ?_)
  refine zi_iadd (pc := 22) O dJ6_bitCount_0f7a4_22 ?_
  refine zi_any (fun z7 rz7 ez7 => ?_)
  refine z_istore_n (pc := 23) [(0, .int (iz z7))] O dJ6_bitCount_0f7a4_23 (by decide) rfl ?_
  refine z_iload_n (pc := 24) O dJ6_bitCount_0f7a4_24 rfl ?_
  refine z_iload_n (pc := 25) O dJ6_bitCount_0f7a4_25 rfl ?_
  refine z_iconst (pc := 26) (v := iz (4)) O dJ6_bitCount_0f7a4_26 (by decide) ?_
  refine z_iushr (pc := 27) O dJ6_bitCount_0f7a4_27 ?_
  refine zi_any (fun z8 rz8 ez8 => ?_)
  refine zi_iadd (pc := 28) O dJ6_bitCount_0f7a4_28 ?_
  refine zi_any (fun z9 rz9 ez9 => ?_)
  refine z_ldcw (pc := 29) O tw_677 dJ6_bitCount_0f7a4_29 ?_
  refine zi_val (252645135) (by decide) ?_
  refine z_iand (pc := 32) O dJ6_bitCount_0f7a4_32 ?_
  refine zi_any (fun z10 rz10 ez10 => ?_)
  refine z_istore_n (pc := 33) [(0, .int (iz z10))] O dJ6_bitCount_0f7a4_33 (by decide) rfl ?_
  refine z_iload_n (pc := 34) O dJ6_bitCount_0f7a4_34 rfl ?_
  refine z_iload_n (pc := 35) O dJ6_bitCount_0f7a4_35 rfl ?_
  refine z_bipush (pc := 36) (v := iz (8)) O dJ6_bitCount_0f7a4_36 (by decide) ?_
  refine z_iushr (pc := 38) O dJ6_bitCount_0f7a4_38 ?_
  refine zi_any (fun z11 rz11 ez11 => ?_)
  refine zi_iadd (pc := 39) O dJ6_bitCount_0f7a4_39 ?_
  refine zi_any (fun z12 rz12 ez12 => ?_)
  refine z_istore_n (pc := 40) [(0, .int (iz z12))] O dJ6_bitCount_0f7a4_40 (by decide) rfl ?_
  refine z_iload_n (pc := 41) O dJ6_bitCount_0f7a4_41 rfl ?_
  refine z_iload_n (pc := 42) O dJ6_bitCount_0f7a4_42 rfl ?_
  refine z_bipush (pc := 43) (v := iz (16)) O dJ6_bitCount_0f7a4_43 (by decide) ?_
  refine z_iushr (pc := 45) O dJ6_bitCount_0f7a4_45 ?_
  refine zi_any (fun z13 rz13 ez13 => ?_)
  refine zi_iadd (pc := 46) O dJ6_bitCount_0f7a4_46 ?_
  refine zi_any (fun z14 rz14 ez14 => ?_)
  refine z_istore_n (pc := 47) [(0, .int (iz z14))] O dJ6_bitCount_0f7a4_47 (by decide) rfl ?_
  refine z_iload_n (pc := 48) O dJ6_bitCount_0f7a4_48 rfl ?_
  refine z_bipush (pc := 49) (v := iz (63)) O dJ6_bitCount_0f7a4_49 (by decide) ?_
  refine z_iand (pc := 51) O dJ6_bitCount_0f7a4_51 ?_
  refine zi_any (fun z15 rz15 ez15 => ?_)
  refine z_iret (pc := 52) O dJ6_bitCount_0f7a4_52 ?_
  exact ⟨z15, rfl, (by omega), rfl⟩
set_option maxHeartbeats 4000000 in
set_option maxRecDepth 20000 in
theorem k3_isThere (l : Launch) (σ : VH) (x : Int) (rx : (-2147483648 ≤ x ∧ x < 2147483648)) (J : Lay σ) : Ct l yX3_isThere cX3_isThere 2 (some .boolean) 0 0 0 [.ref 9, .int (iz x)] σ (fun r τ => ∃ z : Int, r = some (.int (iz z)) ∧ (z = 0 ∨ z = 1) ∧ (z = 1 ↔ (0 ≤ x ∧ x < gI σ 9 7)) ∧ (σ = τ)) := by
  refine Ct.enter rfl (Nat.le_of_ble_eq_true rfl) ?_
  intro κ γ hκ O hrc hrs
  subst hκ
  refine z_iload_n (pc := 0) O dX3_isThere_0 rfl ?_
  refine zi_if_lt (pc := 1) (tgt := 16) O dX3_isThere_1 (by decide) (by omega) (fun h1 => ?_) (fun h1 => ?_)
  · refine z_iconst (pc := 16) (v := iz (0)) O dX3_isThere_16 (by decide) ?_
    refine z_zret (pc := 17) O dX3_isThere_17 rfl ?_
    exact ⟨0, rfl, (by decide), (by omega), rfl⟩
  · refine z_iload_n (pc := 4) O dX3_isThere_4 rfl ?_
    refine z_aload_n (pc := 5) O dX3_isThere_5 rfl ?_
    refine zi_getv (pc := 6) (gI σ 9 7) O fl_X3_31 rfl (jo_9 J) (izg σ 9 7) dX3_isThere_6 ?_
    have := rgI σ 9 7
    refine zi_icmp_ge (pc := 9) (tgt := 16) O dX3_isThere_9 (by decide) (by omega) (by omega) (fun h9 => ?_) (fun h9 => ?_)
    · refine z_iconst (pc := 16) (v := iz (0)) O dX3_isThere_16 (by decide) ?_
      refine z_zret (pc := 17) O dX3_isThere_17 rfl ?_
      exact ⟨0, rfl, (by decide), (by omega), rfl⟩
    · refine z_iconst (pc := 12) (v := iz (1)) O dX3_isThere_12 (by decide) ?_
      refine z_goto (pc := 13) (tgt := 17) O dX3_isThere_13 (by decide) ?_
      refine z_zret (pc := 17) O dX3_isThere_17 rfl ?_
      exact ⟨1, rfl, (by decide), (by omega), rfl⟩
set_option maxHeartbeats 4000000 in
set_option maxRecDepth 20000 in
theorem k3_canBeParent (l : Launch) (σ : VH) (x : Int) (rx : (-2147483648 ≤ x ∧ x < 2147483648)) (J : Lay σ) : Ct l yX3_canBeParent cX3_canBeParent 2 (some .boolean) 1 0 0 [.ref 9, .int (iz x)] σ (fun r τ => ∃ z : Int, r = some (.int (iz z)) ∧ (z = 0 ∨ z = 1) ∧ (z = 1 ↔ (x = -1 ∨ (0 ≤ x ∧ x < gI σ 9 7))) ∧ (σ = τ)) := by
  refine Ct.enter rfl (Nat.le_of_ble_eq_true rfl) ?_
  intro κ γ hκ O hrc hrs
  subst hκ
  refine z_iload_n (pc := 0) O dX3_canBeParent_0 rfl ?_
  refine z_iconst (pc := 1) (v := iz (-1)) O dX3_canBeParent_1 (by decide) ?_
  refine zi_icmp_eq (pc := 2) (tgt := 13) O dX3_canBeParent_2 (by decide) (by omega) (by decide) (fun h2 => ?_) (fun h2 => ?_)
  · refine z_iconst (pc := 13) (v := iz (1)) O dX3_canBeParent_13 (by decide) ?_
    refine z_goto (pc := 14) (tgt := 18) O dX3_canBeParent_14 (by decide) ?_
    refine z_zret (pc := 18) O dX3_canBeParent_18 rfl ?_
    exact ⟨1, rfl, (by decide), (by omega), rfl⟩
  · refine z_aload_n (pc := 5) O dX3_canBeParent_5 rfl ?_
    refine z_iload_n (pc := 6) O dX3_canBeParent_6 rfl ?_
    refine z_callV (pc := 7) O cl_X3_35 (k3_isThere _ _ x (by omega) J) (by decide) (jo_9 J) kc_3 rfl rfl (Nat.le_of_ble_eq_true rfl) ⟨Nat.zero_le _, Nat.zero_le _⟩ dX3_canBeParent_7 (fun r τ1 hp => ?_)
    obtain ⟨z2, rfl, fτ1_0, fτ1_1, rfl⟩ := hp
    refine zi_if_eq (pc := 10) (tgt := 17) O dX3_canBeParent_10 (by decide) (by omega) (fun h10 => ?_) (fun h10 => ?_)
    · refine z_iconst (pc := 17) (v := iz (0)) O dX3_canBeParent_17 (by decide) ?_
      refine z_zret (pc := 18) O dX3_canBeParent_18 rfl ?_
      exact ⟨0, rfl, (by decide), (by omega), rfl⟩
    · refine z_iconst (pc := 13) (v := iz (1)) O dX3_canBeParent_13 (by decide) ?_
      refine z_goto (pc := 14) (tgt := 18) O dX3_canBeParent_14 (by decide) ?_
      refine z_zret (pc := 18) O dX3_canBeParent_18 rfl ?_
      exact ⟨1, rfl, (by decide), (by omega), rfl⟩
set_option maxHeartbeats 4000000 in
set_option maxRecDepth 20000 in
theorem k3_folkOf (l : Launch) (σ : VH) (x : Int) (rx : (-2147483648 ≤ x ∧ x < 2147483648)) (J : Lay σ) (hpe : 0 ≤ gI σ 9 7 ∧ gI σ 9 7 ≤ 20) : Ct l yX3_folkOf cX3_folkOf 2 (some .int) 1 0 0 [.ref 9, .int (iz x)] σ (fun r τ => ∃ z : Int, r = some (.int (iz z)) ∧ (-2147483648 ≤ z ∧ z < 2147483648) ∧ (σ = τ)) := by
  refine Ct.enter rfl (Nat.le_of_ble_eq_true rfl) ?_
  intro κ γ hκ O hrc hrs
  subst hκ
  refine z_aload_n (pc := 0) O dX3_folkOf_0 rfl ?_
  refine z_iload_n (pc := 1) O dX3_folkOf_1 rfl ?_
  refine z_callV (pc := 2) O cl_X3_35 (k3_isThere _ _ x (by omega) J) (by decide) (jo_9 J) kc_3 rfl rfl (Nat.le_of_ble_eq_true rfl) ⟨Nat.zero_le _, Nat.zero_le _⟩ dX3_folkOf_2 (fun r τ1 hp => ?_)
  obtain ⟨z2, rfl, fτ1_0, fτ1_1, rfl⟩ := hp
  refine zi_if_eq (pc := 5) (tgt := 17) O dX3_folkOf_5 (by decide) (by omega) (fun h5 => ?_) (fun h5 => ?_)
  · refine z_iconst (pc := 17) (v := iz (-1)) O dX3_folkOf_17 (by decide) ?_
    refine z_iret (pc := 18) O dX3_folkOf_18 ?_
    exact ⟨(-1), rfl, (by decide), rfl⟩
  · refine z_aload_n (pc := 8) O dX3_folkOf_8 rfl ?_
    refine z_getR (pc := 9) 10 O fl_X3_9 rfl (jo_9 J) (jr_9_0 J) dX3_folkOf_9 ?_
    refine z_iload_n (pc := 12) O dX3_folkOf_12 rfl ?_
    refine zi_ialdv (pc := 13) (x.toNat) (gI σ 10 (x.toNat)) O (ja_10 J) (by omega) (by omega) (by omega) (izg σ 10 (x.toNat)) dX3_folkOf_13 ?_
    have := rgI σ 10 (x.toNat)
    refine z_goto (pc := 14) (tgt := 18) O dX3_folkOf_14 (by decide) ?_
    refine z_iret (pc := 18) O dX3_folkOf_18 ?_
    exact ⟨(gI σ 10 (x.toNat)), rfl, (by omega), rfl⟩
set_option maxHeartbeats 4000000 in
set_option maxRecDepth 20000 in
theorem k3_deadOn (l : Launch) (σ : VH) (x : Int) (rx : (-2147483648 ≤ x ∧ x < 2147483648)) (d : Int) (rd : (-2147483648 ≤ d ∧ d < 2147483648)) (J : Lay σ) (hpe : 0 ≤ gI σ 9 7 ∧ gI σ 9 7 ≤ 20) : Ct l yX3_deadOn cX3_deadOn 3 (some .boolean) 1 0 0 [.ref 9, .int (iz x), .int (iz d)] σ (fun r τ => ∃ z : Int, r = some (.int (iz z)) ∧ (z = 0 ∨ z = 1) ∧ (σ = τ)) := by
  refine Ct.enter rfl (Nat.le_of_ble_eq_true rfl) ?_
  intro κ γ hκ O hrc hrs
  subst hκ
  refine z_aload_n (pc := 0) O dX3_deadOn_0 rfl ?_
  refine z_iload_n (pc := 1) O dX3_deadOn_1 rfl ?_
  refine z_callV (pc := 2) O cl_X3_35 (k3_isThere _ _ x (by omega) J) (by decide) (jo_9 J) kc_3 rfl rfl (Nat.le_of_ble_eq_true rfl) ⟨Nat.zero_le _, Nat.zero_le _⟩ dX3_deadOn_2 (fun r τ1 hp => ?_)
  obtain ⟨z2, rfl, fτ1_0, fτ1_1, rfl⟩ := hp
  refine zi_if_eq (pc := 5) (tgt := 32) O dX3_deadOn_5 (by decide) (by omega) (fun h5 => ?_) (fun h5 => ?_)
  · refine z_iconst (pc := 32) (v := iz (0)) O dX3_deadOn_32 (by decide) ?_
    refine z_zret (pc := 33) O dX3_deadOn_33 rfl ?_
    exact ⟨0, rfl, (by decide), rfl⟩
  · refine z_aload_n (pc := 8) O dX3_deadOn_8 rfl ?_
    refine z_getR (pc := 9) 13 O fl_X3_21 rfl (jo_9 J) (jr_9_3 J) dX3_deadOn_9 ?_
    refine z_iload_n (pc := 12) O dX3_deadOn_12 rfl ?_
    refine zi_ialdv (pc := 13) (x.toNat) (gI σ 13 (x.toNat)) O (ja_13 J) (by omega) (by omega) (by omega) (izg σ 13 (x.toNat)) dX3_deadOn_13 ?_
    have := rgI σ 13 (x.toNat)
    refine z_iconst (pc := 14) (v := iz (-1)) O dX3_deadOn_14 (by decide) ?_
    refine zi_icmp_eq (pc := 15) (tgt := 32) O dX3_deadOn_15 (by decide) (by omega) (by decide) (fun h15 => ?_) (fun h15 => ?_)
    · refine z_iconst (pc := 32) (v := iz (0)) O dX3_deadOn_32 (by decide) ?_
      refine z_zret (pc := 33) O dX3_deadOn_33 rfl ?_
      exact ⟨0, rfl, (by decide), rfl⟩
    · refine z_aload_n (pc := 18) O dX3_deadOn_18 rfl ?_
      refine z_getR (pc := 19) 13 O fl_X3_21 rfl (jo_9 J) (jr_9_3 J) dX3_deadOn_19 ?_
      refine z_iload_n (pc := 22) O dX3_deadOn_22 rfl ?_
      refine zi_ialdv (pc := 23) (x.toNat) (gI σ 13 (x.toNat)) O (ja_13 J) (by omega) (by omega) (by omega) (izg σ 13 (x.toNat)) dX3_deadOn_23 ?_
      refine z_iload_n (pc := 24) O dX3_deadOn_24 rfl ?_
      refine zi_icmp_gt (pc := 25) (tgt := 32) O dX3_deadOn_25 (by decide) (by omega) (by omega) (fun h25 => ?_) (fun h25 => ?_)
      · refine z_iconst (pc := 32) (v := iz (0)) O dX3_deadOn_32 (by decide) ?_
        refine z_zret (pc := 33) O dX3_deadOn_33 rfl ?_
        exact ⟨0, rfl, (by decide), rfl⟩
      · refine z_iconst (pc := 28) (v := iz (1)) O dX3_deadOn_28 (by decide) ?_
        refine z_goto (pc := 29) (tgt := 33) O dX3_deadOn_29 (by decide) ?_
        refine z_zret (pc := 33) O dX3_deadOn_33 rfl ?_
        exact ⟨1, rfl, (by decide), rfl⟩
set_option maxHeartbeats 4000000 in
set_option maxRecDepth 20000 in
theorem k3_add (l : Launch) (σ : VH) (f : Int) (rf : (-2147483648 ≤ f ∧ f < 2147483648)) (m : Int) (rm : (-2147483648 ≤ m ∧ m < 2147483648)) (p : Int) (rp : (-2147483648 ≤ p ∧ p < 2147483648)) (J : Lay σ) (hpe : 0 ≤ gI σ 9 7 ∧ gI σ 9 7 ≤ 20) : Ct l yX3_add cX3_add 4 (some .int) 0 0 0 [.ref 9, .int (iz f), .int (iz m), .int (iz p)] σ (fun r τ => ∃ z : Int, r = some (.int (iz z)) ∧ (-2147483648 ≤ z ∧ z < 2147483648) ∧ ((z = -1 ∧ gI σ 9 7 = 20) ∨ (z = gI σ 9 7 ∧ gI σ 9 7 < 20)) ∧ (Fr [(10, 99999), (11, 99999), (12, 99999), (13, 99999), (9, 7)] σ τ) ∧ (gI τ 9 7 = z + 1 ∨ (z = -1 ∧ gI τ 9 7 = 20)) ∧ (gI σ 9 7 ≤ gI τ 9 7)) := by
  refine Ct.enter rfl (Nat.le_of_ble_eq_true rfl) ?_
  intro κ γ hκ O hrc hrs
  subst hκ
  refine z_aload_n (pc := 0) O dX3_add_0 rfl ?_
  refine zi_getv (pc := 1) (gI σ 9 7) O fl_X3_31 rfl (jo_9 J) (izg σ 9 7) dX3_add_1 ?_
  have := rgI σ 9 7
  refine z_bipush (pc := 4) (v := iz (20)) O dX3_add_4 (by decide) ?_
  refine zi_icmp_lt (pc := 6) (tgt := 11) O dX3_add_6 (by decide) (by omega) (by decide) (fun h6 => ?_) (fun h6 => ?_)
  · refine z_aload_n (pc := 11) O dX3_add_11 rfl ?_
    refine z_getR (pc := 12) 10 O fl_X3_9 rfl (jo_9 J) (jr_9_0 J) dX3_add_12 ?_
    refine z_aload_n (pc := 15) O dX3_add_15 rfl ?_
    refine zi_getv (pc := 16) (gI σ 9 7) O fl_X3_31 rfl (jo_9 J) (izg σ 9 7) dX3_add_16 ?_
    refine z_iload_n (pc := 19) O dX3_add_19 rfl ?_
    refine zi_iast (pc := 20) ((gI σ 9 7).toNat) O (ja_10 J) (by omega) (by omega) (by omega) dX3_add_20 ?_
    refine z_aload_n (pc := 21) O dX3_add_21 rfl ?_
    refine z_getR (pc := 22) 11 O fl_X3_15 rfl (jo_9 J) (jr_9_1 J) dX3_add_22 ?_
    refine z_aload_n (pc := 25) O dX3_add_25 rfl ?_
    refine zi_getv (pc := 26) (gI σ 9 7) O fl_X3_31 rfl (jo_9 J) (sk1t (by decide) (izg σ 9 7)) dX3_add_26 ?_
    refine z_iload_n (pc := 29) O dX3_add_29 rfl ?_
    refine zi_iast (pc := 30) ((gI σ 9 7).toNat) O (ja_11 J) (by omega) (by omega) (by omega) dX3_add_30 ?_
    refine z_aload_n (pc := 31) O dX3_add_31 rfl ?_
    refine z_getR (pc := 32) 12 O fl_X3_18 rfl (jo_9 J) (jr_9_2 J) dX3_add_32 ?_
    refine z_aload_n (pc := 35) O dX3_add_35 rfl ?_
    refine zi_getv (pc := 36) (gI σ 9 7) O fl_X3_31 rfl (jo_9 J) (sk1t (by decide) (sk1t (by decide) (izg σ 9 7))) dX3_add_36 ?_
    refine z_iload_n (pc := 39) O dX3_add_39 rfl ?_
    refine zi_iast (pc := 40) ((gI σ 9 7).toNat) O (ja_12 J) (by omega) (by omega) (by omega) dX3_add_40 ?_
    refine z_aload_n (pc := 41) O dX3_add_41 rfl ?_
    refine z_getR (pc := 42) 13 O fl_X3_21 rfl (jo_9 J) (jr_9_3 J) dX3_add_42 ?_
    refine z_aload_n (pc := 45) O dX3_add_45 rfl ?_
    refine zi_getv (pc := 46) (gI σ 9 7) O fl_X3_31 rfl (jo_9 J) (sk1t (by decide) (sk1t (by decide) (sk1t (by decide) (izg σ 9 7)))) dX3_add_46 ?_
    refine z_iconst (pc := 49) (v := iz (-1)) O dX3_add_49 (by decide) ?_
    refine zi_iast (pc := 50) ((gI σ 9 7).toNat) O (ja_13 J) (by omega) (by omega) (by omega) dX3_add_50 ?_
    refine z_aload_n (pc := 51) O dX3_add_51 rfl ?_
    refine z_dup (pc := 52) O dX3_add_52 rfl ?_
    refine zi_getv (pc := 53) (gI σ 9 7) O fl_X3_31 rfl (jo_9 J) (sk1t (by decide) (sk1t (by decide) (sk1t (by decide) (sk1t (by decide) (izg σ 9 7))))) dX3_add_53 ?_
    refine z_iconst (pc := 56) (v := iz (1)) O dX3_add_56 (by decide) ?_
    refine zi_iadd (pc := 57) O dX3_add_57 ?_
    refine z_putI (pc := 58) O fl_X3_31 rfl ⟨rfl, rfl⟩ (jo_9 J) dX3_add_58 ?_
    refine z_aload_n (pc := 61) O dX3_add_61 rfl ?_
    refine zi_getv (pc := 62) ((gI σ 9 7) + 1) O fl_X3_31 rfl (jo_9 J) (hI_at _ _ _ _) dX3_add_62 ?_
    refine z_iconst (pc := 65) (v := iz (1)) O dX3_add_65 (by decide) ?_
    refine zi_isub (pc := 66) O dX3_add_66 ?_
    refine z_iret (pc := 67) O dX3_add_67 ?_
    exact ⟨(((gI σ 9 7) + 1) - 1), rfl, (by omega), (by omega), ((((((Fr.rf [(10, 99999), (11, 99999), (12, 99999), (13, 99999), (9, 7)] σ).pI rfl).pI rfl).pI rfl).pI rfl).pI rfl), (by have : gI (sI (sI (sI (sI (sI σ 10 ((gI σ 9 7).toNat) (iz f)) 11 ((gI σ 9 7).toNat) (iz m)) 12 ((gI σ 9 7).toNat) (iz p)) 13 ((gI σ 9 7).toNat) (iz (-1))) 9 7 (iz ((gI σ 9 7) + 1))) 9 7 = (gI σ 9 7) + 1 := gI_iz (hI_at _ _ _ _) (by omega); omega), (by have : gI (sI (sI (sI (sI (sI σ 10 ((gI σ 9 7).toNat) (iz f)) 11 ((gI σ 9 7).toNat) (iz m)) 12 ((gI σ 9 7).toNat) (iz p)) 13 ((gI σ 9 7).toNat) (iz (-1))) 9 7 (iz ((gI σ 9 7) + 1))) 9 7 = (gI σ 9 7) + 1 := gI_iz (hI_at _ _ _ _) (by omega); omega)⟩
  · refine z_iconst (pc := 9) (v := iz (-1)) O dX3_add_9 (by decide) ?_
    refine z_iret (pc := 10) O dX3_add_10 ?_
    exact ⟨(-1), rfl, (by decide), (by omega), (Fr.rf [(10, 99999), (11, 99999), (12, 99999), (13, 99999), (9, 7)] σ), (by omega), (by omega)⟩
set_option maxHeartbeats 4000000 in
set_option maxRecDepth 20000 in
theorem k3_bury (l : Launch) (σ : VH) (x : Int) (rx : (-2147483648 ≤ x ∧ x < 2147483648)) (d : Int) (rd : (-2147483648 ≤ d ∧ d < 2147483648)) (J : Lay σ) (hpe : 0 ≤ gI σ 9 7 ∧ gI σ 9 7 ≤ 20) : Ct l yX3_bury cX3_bury 3 (some .boolean) 1 0 0 [.ref 9, .int (iz x), .int (iz d)] σ (fun r τ => ∃ z : Int, r = some (.int (iz z)) ∧ (z = 0 ∨ z = 1) ∧ (Fr [(13, 99999)] σ τ)) := by
  refine Ct.enter rfl (Nat.le_of_ble_eq_true rfl) ?_
  intro κ γ hκ O hrc hrs
  subst hκ
  refine z_aload_n (pc := 0) O dX3_bury_0 rfl ?_
  refine z_iload_n (pc := 1) O dX3_bury_1 rfl ?_
  refine z_callV (pc := 2) O cl_X3_35 (k3_isThere _ _ x (by omega) J) (by decide) (jo_9 J) kc_3 rfl rfl (Nat.le_of_ble_eq_true rfl) ⟨Nat.zero_le _, Nat.zero_le _⟩ dX3_bury_2 (fun r τ1 hp => ?_)
  obtain ⟨z2, rfl, fτ1_0, fτ1_1, rfl⟩ := hp
  refine zi_if_eq (pc := 5) (tgt := 18) O dX3_bury_5 (by decide) (by omega) (fun h5 => ?_) (fun h5 => ?_)
  · refine z_iconst (pc := 18) (v := iz (0)) O dX3_bury_18 (by decide) ?_
    refine z_zret (pc := 19) O dX3_bury_19 rfl ?_
    exact ⟨0, rfl, (by decide), (Fr.rf [(13, 99999)] σ)⟩
  · refine z_aload_n (pc := 8) O dX3_bury_8 rfl ?_
    refine z_getR (pc := 9) 13 O fl_X3_21 rfl (jo_9 J) (jr_9_3 J) dX3_bury_9 ?_
    refine z_iload_n (pc := 12) O dX3_bury_12 rfl ?_
    refine zi_ialdv (pc := 13) (x.toNat) (gI σ 13 (x.toNat)) O (ja_13 J) (by omega) (by omega) (by omega) (izg σ 13 (x.toNat)) dX3_bury_13 ?_
    have := rgI σ 13 (x.toNat)
    refine z_iconst (pc := 14) (v := iz (-1)) O dX3_bury_14 (by decide) ?_
    refine zi_icmp_eq (pc := 15) (tgt := 20) O dX3_bury_15 (by decide) (by omega) (by decide) (fun h15 => ?_) (fun h15 => ?_)
    · refine z_aload_n (pc := 20) O dX3_bury_20 rfl ?_
      refine z_getR (pc := 21) 13 O fl_X3_21 rfl (jo_9 J) (jr_9_3 J) dX3_bury_21 ?_
      refine z_iload_n (pc := 24) O dX3_bury_24 rfl ?_
      refine z_iload_n (pc := 25) O dX3_bury_25 rfl ?_
      refine zi_iast (pc := 26) (x.toNat) O (ja_13 J) (by omega) (by omega) (by omega) dX3_bury_26 ?_
      refine z_iconst (pc := 27) (v := iz (1)) O dX3_bury_27 (by decide) ?_
      refine z_zret (pc := 28) O dX3_bury_28 rfl ?_
      exact ⟨1, rfl, (by decide), ((Fr.rf [(13, 99999)] σ).pI rfl)⟩
    · refine z_iconst (pc := 18) (v := iz (0)) O dX3_bury_18 (by decide) ?_
      refine z_zret (pc := 19) O dX3_bury_19 rfl ?_
      exact ⟨0, rfl, (by decide), (Fr.rf [(13, 99999)] σ)⟩
set_option maxHeartbeats 4000000 in
set_option maxRecDepth 20000 in
theorem k3_stepBetween (l : Launch) (σ : VH) (c : Int) (rc : (-2147483648 ≤ c ∧ c < 2147483648)) (p : Int) (rp : (-2147483648 ≤ p ∧ p < 2147483648)) (e : Int) (re : (-2147483648 ≤ e ∧ e < 2147483648)) (J : Lay σ) (hpe : 0 ≤ gI σ 9 7 ∧ gI σ 9 7 ≤ 20) (hc : 0 ≤ c ∧ c < 20) (hr : 0 ≤ e ∧ e < 20) : Ct l yX3_stepBetween cX3_stepBetween 4 none 1 0 0 [.ref 9, .int (iz c), .int (iz p), .int (iz e)] σ (fun r τ => r = none ∧ (Fr [(14, 99999)] σ τ)) := by
  refine Ct.enter rfl (Nat.le_of_ble_eq_true rfl) ?_
  intro κ γ hκ O hrc hrs
  subst hκ
  refine z_aload_n (pc := 0) O dX3_stepBetween_0 rfl ?_
  refine z_iload_n (pc := 1) O dX3_stepBetween_1 rfl ?_
  refine z_callV (pc := 2) O cl_X3_35 (k3_isThere _ _ p (by omega) J) (by decide) (jo_9 J) kc_3 rfl rfl (Nat.le_of_ble_eq_true rfl) ⟨Nat.zero_le _, Nat.zero_le _⟩ dX3_stepBetween_2 (fun r τ1 hp => ?_)
  obtain ⟨z2, rfl, fτ1_0, fτ1_1, rfl⟩ := hp
  refine zi_if_ne (pc := 5) (tgt := 9) O dX3_stepBetween_5 (by decide) (by omega) (fun h5 => ?_) (fun h5 => ?_)
  · refine z_aload_n (pc := 9) O dX3_stepBetween_9 rfl ?_
    refine z_getR (pc := 10) 14 O fl_X3_24 rfl (jo_9 J) (jr_9_4 J) dX3_stepBetween_10 ?_
    refine z_iload_n (pc := 13) O dX3_stepBetween_13 rfl ?_
    refine zi_ialdv (pc := 14) (c.toNat) (gI σ 14 (c.toNat)) O (ja_14 J) (by omega) (by omega) (by omega) (izg σ 14 (c.toNat)) dX3_stepBetween_14 ?_
    have := rgI σ 14 (c.toNat)
    refine z_iload_n (pc := 15) O dX3_stepBetween_15 rfl ?_
    refine zi_icmp_ne (pc := 16) (tgt := 41) O dX3_stepBetween_16 (by decide) (by omega) (by omega) (fun h16 => ?_) (fun h16 => ?_)
    · refine z_aload_n (pc := 41) O dX3_stepBetween_41 rfl ?_
      refine z_getR (pc := 42) 14 O fl_X3_24 rfl (jo_9 J) (jr_9_4 J) dX3_stepBetween_42 ?_
      refine z_iload_n (pc := 45) O dX3_stepBetween_45 rfl ?_
      refine zi_ialdv (pc := 46) (p.toNat) (gI σ 14 (p.toNat)) O (ja_14 J) (by omega) (by omega) (by omega) (izg σ 14 (p.toNat)) dX3_stepBetween_46 ?_
      have := rgI σ 14 (p.toNat)
      refine z_iload_n (pc := 47) O dX3_stepBetween_47 rfl ?_
      refine zi_icmp_ne (pc := 48) (tgt := 70) O dX3_stepBetween_48 (by decide) (by omega) (by omega) (fun h48 => ?_) (fun h48 => ?_)
      · refine z_vret (pc := 70) O dX3_stepBetween_70 ?_
        exact ⟨rfl, (Fr.rf [(14, 99999)] σ)⟩
      · refine z_aload_n (pc := 51) O dX3_stepBetween_51 rfl ?_
        refine z_getR (pc := 52) 14 O fl_X3_24 rfl (jo_9 J) (jr_9_4 J) dX3_stepBetween_52 ?_
        refine z_iload_n (pc := 55) O dX3_stepBetween_55 rfl ?_
        refine zi_ialdv (pc := 56) (c.toNat) (gI σ 14 (c.toNat)) O (ja_14 J) (by omega) (by omega) (by omega) (izg σ 14 (c.toNat)) dX3_stepBetween_56 ?_
        refine z_iconst (pc := 57) (v := iz (-1)) O dX3_stepBetween_57 (by decide) ?_
        refine zi_icmp_ne (pc := 58) (tgt := 70) O dX3_stepBetween_58 (by decide) (by omega) (by decide) (fun h58 => ?_) (fun h58 => ?_)
        · refine z_vret (pc := 70) O dX3_stepBetween_70 ?_
          exact ⟨rfl, (Fr.rf [(14, 99999)] σ)⟩
        · refine z_aload_n (pc := 61) O dX3_stepBetween_61 rfl ?_
          refine z_getR (pc := 62) 14 O fl_X3_24 rfl (jo_9 J) (jr_9_4 J) dX3_stepBetween_62 ?_
          refine z_iload_n (pc := 65) O dX3_stepBetween_65 rfl ?_
          refine z_iload_n (pc := 66) O dX3_stepBetween_66 rfl ?_
          refine z_iconst (pc := 67) (v := iz (1)) O dX3_stepBetween_67 (by decide) ?_
          refine zi_iadd (pc := 68) O dX3_stepBetween_68 ?_
          refine zi_iast (pc := 69) (c.toNat) O (ja_14 J) (by omega) (by omega) (by omega) dX3_stepBetween_69 ?_
          refine z_vret (pc := 70) O dX3_stepBetween_70 ?_
          exact ⟨rfl, ((Fr.rf [(14, 99999)] σ).pI rfl)⟩
    · refine z_aload_n (pc := 19) O dX3_stepBetween_19 rfl ?_
      refine z_getR (pc := 20) 14 O fl_X3_24 rfl (jo_9 J) (jr_9_4 J) dX3_stepBetween_20 ?_
      refine z_iload_n (pc := 23) O dX3_stepBetween_23 rfl ?_
      refine zi_ialdv (pc := 24) (p.toNat) (gI σ 14 (p.toNat)) O (ja_14 J) (by omega) (by omega) (by omega) (izg σ 14 (p.toNat)) dX3_stepBetween_24 ?_
      have := rgI σ 14 (p.toNat)
      refine z_iconst (pc := 25) (v := iz (-1)) O dX3_stepBetween_25 (by decide) ?_
      refine zi_icmp_ne (pc := 26) (tgt := 41) O dX3_stepBetween_26 (by decide) (by omega) (by decide) (fun h26 => ?_) (fun h26 => ?_)
      · refine z_aload_n (pc := 41) O dX3_stepBetween_41 rfl ?_
        refine z_getR (pc := 42) 14 O fl_X3_24 rfl (jo_9 J) (jr_9_4 J) dX3_stepBetween_42 ?_
        refine z_iload_n (pc := 45) O dX3_stepBetween_45 rfl ?_
        refine zi_ialdv (pc := 46) (p.toNat) (gI σ 14 (p.toNat)) O (ja_14 J) (by omega) (by omega) (by omega) (izg σ 14 (p.toNat)) dX3_stepBetween_46 ?_
        refine z_iload_n (pc := 47) O dX3_stepBetween_47 rfl ?_
        refine zi_icmp_ne (pc := 48) (tgt := 70) O dX3_stepBetween_48 (by decide) (by omega) (by omega) (fun h48 => ?_) (fun h48 => ?_)
        · refine z_vret (pc := 70) O dX3_stepBetween_70 ?_
          exact ⟨rfl, (Fr.rf [(14, 99999)] σ)⟩
        · refine z_aload_n (pc := 51) O dX3_stepBetween_51 rfl ?_
          refine z_getR (pc := 52) 14 O fl_X3_24 rfl (jo_9 J) (jr_9_4 J) dX3_stepBetween_52 ?_
          refine z_iload_n (pc := 55) O dX3_stepBetween_55 rfl ?_
          refine zi_ialdv (pc := 56) (c.toNat) (gI σ 14 (c.toNat)) O (ja_14 J) (by omega) (by omega) (by omega) (izg σ 14 (c.toNat)) dX3_stepBetween_56 ?_
          refine z_iconst (pc := 57) (v := iz (-1)) O dX3_stepBetween_57 (by decide) ?_
          refine zi_icmp_ne (pc := 58) (tgt := 70) O dX3_stepBetween_58 (by decide) (by omega) (by decide) (fun h58 => ?_) (fun h58 => ?_)
          · refine z_vret (pc := 70) O dX3_stepBetween_70 ?_
            exact ⟨rfl, (Fr.rf [(14, 99999)] σ)⟩
          · refine z_aload_n (pc := 61) O dX3_stepBetween_61 rfl ?_
            refine z_getR (pc := 62) 14 O fl_X3_24 rfl (jo_9 J) (jr_9_4 J) dX3_stepBetween_62 ?_
            refine z_iload_n (pc := 65) O dX3_stepBetween_65 rfl ?_
            refine z_iload_n (pc := 66) O dX3_stepBetween_66 rfl ?_
            refine z_iconst (pc := 67) (v := iz (1)) O dX3_stepBetween_67 (by decide) ?_
            refine zi_iadd (pc := 68) O dX3_stepBetween_68 ?_
            refine zi_iast (pc := 69) (c.toNat) O (ja_14 J) (by omega) (by omega) (by omega) dX3_stepBetween_69 ?_
            refine z_vret (pc := 70) O dX3_stepBetween_70 ?_
            exact ⟨rfl, ((Fr.rf [(14, 99999)] σ).pI rfl)⟩
      · refine z_aload_n (pc := 29) O dX3_stepBetween_29 rfl ?_
        refine z_getR (pc := 30) 14 O fl_X3_24 rfl (jo_9 J) (jr_9_4 J) dX3_stepBetween_30 ?_
        refine z_iload_n (pc := 33) O dX3_stepBetween_33 rfl ?_
        refine z_iload_n (pc := 34) O dX3_stepBetween_34 rfl ?_
        refine z_iconst (pc := 35) (v := iz (1)) O dX3_stepBetween_35 (by decide) ?_
        refine zi_iadd (pc := 36) O dX3_stepBetween_36 ?_
        refine zi_iast (pc := 37) (p.toNat) O (ja_14 J) (by omega) (by omega) (by omega) dX3_stepBetween_37 ?_
        refine z_goto (pc := 38) (tgt := 70) O dX3_stepBetween_38 (by decide) ?_
        refine z_vret (pc := 70) O dX3_stepBetween_70 ?_
        exact ⟨rfl, ((Fr.rf [(14, 99999)] σ).pI rfl)⟩
  · refine z_vret (pc := 8) O dX3_stepBetween_8 ?_
    exact ⟨rfl, (Fr.rf [(14, 99999)] σ)⟩
set_option maxHeartbeats 4000000 in
set_option maxRecDepth 20000 in
theorem k3_measureFrom (l : Launch) (σ : VH) (s : Int) (rs : (-2147483648 ≤ s ∧ s < 2147483648)) (J : Lay σ) (hpe : 0 ≤ gI σ 9 7 ∧ gI σ 9 7 ≤ 20) : Ct l yX3_measureFrom cX3_measureFrom 4 none 2 0 0 [.ref 9, .int (iz s)] σ (fun r τ => r = none ∧ (Fr [(14, 99999)] σ τ)) := by
  refine Ct.enter rfl (Nat.le_of_ble_eq_true rfl) ?_
  intro κ γ hκ O hrc hrs
  subst hκ
  refine z_iconst (pc := 0) (v := iz (0)) O dX3_measureFrom_0 (by decide) ?_
  refine z_istore_n (pc := 1) [(0, .ref 9), (1, .int (iz s)), (2, .int (iz 0))] O dX3_measureFrom_1 (by decide) rfl ?_
  have cut2 : ∀ (mu2 : Nat) (k : Int) (ρ2 : VH), (mu2 = (20 - k).toNat) → (-2147483648 ≤ k ∧ k < 2147483648) → (0 ≤ k ∧ k ≤ 20) → (Fr [(14, 99999)] σ ρ2) → Z κ γ 4 ρ2 0 0 (QM κ γ (fun r τ => r = none ∧ (Fr [(14, 99999)] σ τ)) 0 0) 2 [(0, .ref 9), (1, .int (iz s)), (2, .int (iz k))] [] := by
    intro mu2
    induction mu2 using Nat.strongRecOn with
    | ind mu2 ih2 =>
    intro k ρ2 hmu2 rr2_0 ff2_0 frρ2
    refine z_iload_n (pc := 2) O dX3_measureFrom_2 rfl ?_
    refine z_aload_n (pc := 3) O dX3_measureFrom_3 rfl ?_
    refine zi_getv (pc := 4) (gI σ 9 7) O fl_X3_31 rfl (jo_9 (frρ2.lay J)) (Fr.it frρ2 rfl (izg σ 9 7)) dX3_measureFrom_4 ?_
    have := rgI σ 9 7
    refine zi_icmp_ge (pc := 7) (tgt := 32) O dX3_measureFrom_7 (by decide) (by omega) (by omega) (fun h7 => ?_) (fun h7 => ?_)
    · refine z_iconst (pc := 32) (v := iz (0)) O dX3_measureFrom_32 (by decide) ?_
      refine z_istore_n (pc := 33) [(0, .ref 9), (1, .int (iz s)), (2, .int (iz 0))] O dX3_measureFrom_33 (by decide) rfl ?_
      have cut34 : ∀ (mu34 : Nat) (n : Int) (ρ34 : VH), (mu34 = (20 - n).toNat) → (-2147483648 ≤ n ∧ n < 2147483648) → (0 ≤ n ∧ n ≤ 20) → (Fr [(14, 99999)] ρ2 ρ34) → Z κ γ 4 ρ34 0 0 (QM κ γ (fun r τ => r = none ∧ (Fr [(14, 99999)] σ τ)) 0 0) 34 [(0, .ref 9), (1, .int (iz s)), (2, .int (iz n))] [] := by
        intro mu34
        induction mu34 using Nat.strongRecOn with
        | ind mu34 ih34 =>
        intro n ρ34 hmu34 rr34_0 ff34_0 frρ34
        refine z_iload_n (pc := 34) O dX3_measureFrom_34 rfl ?_
        refine z_aload_n (pc := 35) O dX3_measureFrom_35 rfl ?_
        refine zi_getv (pc := 36) (gI σ 9 7) O fl_X3_31 rfl (jo_9 (frρ34.lay (frρ2.lay J))) (Fr.it frρ34 rfl (Fr.it frρ2 rfl (izg σ 9 7))) dX3_measureFrom_36 ?_
        refine zi_icmp_ge (pc := 39) (tgt := 88) O dX3_measureFrom_39 (by decide) (by omega) (by omega) (fun h39 => ?_) (fun h39 => ?_)
        · refine z_vret (pc := 88) O dX3_measureFrom_88 ?_
          exact ⟨rfl, (frρ2.tr frρ34)⟩
        · refine z_iconst (pc := 42) (v := iz (0)) O dX3_measureFrom_42 (by decide) ?_
          refine z_istore_n (pc := 43) [(0, .ref 9), (1, .int (iz s)), (2, .int (iz n)), (3, .int (iz 0))] O dX3_measureFrom_43 (by decide) rfl ?_
          have cut44 : ∀ (mu44 : Nat) (k : Int) (ρ44 : VH), (mu44 = (20 - k).toNat) → (-2147483648 ≤ k ∧ k < 2147483648) → (0 ≤ k ∧ k ≤ 20) → (Fr [(14, 99999)] ρ34 ρ44) → Z κ γ 4 ρ44 0 0 (QM κ γ (fun r τ => r = none ∧ (Fr [(14, 99999)] σ τ)) 0 0) 44 [(0, .ref 9), (1, .int (iz s)), (2, .int (iz n)), (3, .int (iz k))] [] := by
            intro mu44
            induction mu44 using Nat.strongRecOn with
            | ind mu44 ih44 =>
            intro k ρ44 hmu44 rr44_0 ff44_0 frρ44
            refine z_iload_n (pc := 44) O dX3_measureFrom_44 rfl ?_
            refine z_aload_n (pc := 45) O dX3_measureFrom_45 rfl ?_
            refine zi_getv (pc := 46) (gI σ 9 7) O fl_X3_31 rfl (jo_9 (frρ44.lay (frρ34.lay (frρ2.lay J)))) (Fr.it frρ44 rfl (Fr.it frρ34 rfl (Fr.it frρ2 rfl (izg σ 9 7)))) dX3_measureFrom_46 ?_
            refine zi_icmp_ge (pc := 49) (tgt := 82) O dX3_measureFrom_49 (by decide) (by omega) (by omega) (fun h49 => ?_) (fun h49 => ?_)
            · refine zi_iinc (pc := 82) (n + 1) [(0, .ref 9), (1, .int (iz s)), (2, .int (iz (n + 1))), (3, .int (iz k))] O dX3_measureFrom_82 rfl (by omega) (by decide) rfl ?_
              refine z_goto (pc := 85) (tgt := 34) O dX3_measureFrom_85 (by decide) ?_
              refine z_lk [(0, .ref 9), (1, .int (iz s)), (2, .int (iz (n + 1)))] ⟨rfl, rfl, rfl, trivial⟩ ?_
              exact ih34 _ (by omega) (n + 1) ρ44 rfl (by omega) (by omega) (frρ34.tr frρ44)
            · refine z_aload_n (pc := 52) O dX3_measureFrom_52 rfl ?_
              refine z_iload_n (pc := 53) O dX3_measureFrom_53 rfl ?_
              refine z_aload_n (pc := 54) O dX3_measureFrom_54 rfl ?_
              refine z_getR (pc := 55) 11 O fl_X3_15 rfl (jo_9 (frρ44.lay (frρ34.lay (frρ2.lay J)))) (jr_9_1 (frρ44.lay (frρ34.lay (frρ2.lay J)))) dX3_measureFrom_55 ?_
              refine z_iload_n (pc := 58) O dX3_measureFrom_58 rfl ?_
              refine zi_ialdv (pc := 59) (k.toNat) (gI σ 11 (k.toNat)) O (ja_11 (frρ44.lay (frρ34.lay (frρ2.lay J)))) (by omega) (by omega) (by omega) (Fr.it frρ44 rfl (Fr.it frρ34 rfl (Fr.it frρ2 rfl (izg σ 11 (k.toNat))))) dX3_measureFrom_59 ?_
              have := rgI σ 11 (k.toNat)
              refine z_iload_n (pc := 60) O dX3_measureFrom_60 rfl ?_
              refine z_callV (pc := 61) O cl_X3_43 (k3_stepBetween _ _ k (by omega) (gI σ 11 (k.toNat)) (by omega) n (by omega) (frρ44.lay (frρ34.lay (frρ2.lay J))) (by have : gI ρ44 9 7 = gI σ 9 7 := gI_iz (Fr.it frρ44 rfl (Fr.it frρ34 rfl (Fr.it frρ2 rfl (izg σ 9 7)))) (rgI _ _ _); omega) (by omega) (by omega)) (by decide) (jo_9 (frρ44.lay (frρ34.lay (frρ2.lay J)))) kc_3 rfl rfl (Nat.le_of_ble_eq_true rfl) ⟨Nat.zero_le _, Nat.zero_le _⟩ dX3_measureFrom_61 (fun r τ1 hp => ?_)
              obtain ⟨rfl, frτ1⟩ := hp
              refine z_aload_n (pc := 64) O dX3_measureFrom_64 rfl ?_
              refine z_iload_n (pc := 65) O dX3_measureFrom_65 rfl ?_
              refine z_aload_n (pc := 66) O dX3_measureFrom_66 rfl ?_
              refine z_getR (pc := 67) 12 O fl_X3_18 rfl (jo_9 (frτ1.lay (frρ44.lay (frρ34.lay (frρ2.lay J))))) (jr_9_2 (frτ1.lay (frρ44.lay (frρ34.lay (frρ2.lay J))))) dX3_measureFrom_67 ?_
              refine z_iload_n (pc := 70) O dX3_measureFrom_70 rfl ?_
              refine zi_ialdv (pc := 71) (k.toNat) (gI σ 12 (k.toNat)) O (ja_12 (frτ1.lay (frρ44.lay (frρ34.lay (frρ2.lay J))))) (by omega) (by omega) (by omega) (Fr.it frτ1 rfl (Fr.it frρ44 rfl (Fr.it frρ34 rfl (Fr.it frρ2 rfl (izg σ 12 (k.toNat)))))) dX3_measureFrom_71 ?_
              have := rgI σ 12 (k.toNat)
              refine z_iload_n (pc := 72) O dX3_measureFrom_72 rfl ?_
              refine z_callV (pc := 73) O cl_X3_43 (k3_stepBetween _ _ k (by omega) (gI σ 12 (k.toNat)) (by omega) n (by omega) (frτ1.lay (frρ44.lay (frρ34.lay (frρ2.lay J)))) (by have : gI τ1 9 7 = gI σ 9 7 := gI_iz (Fr.it frτ1 rfl (Fr.it frρ44 rfl (Fr.it frρ34 rfl (Fr.it frρ2 rfl (izg σ 9 7))))) (rgI _ _ _); omega) (by omega) (by omega)) (by decide) (jo_9 (frτ1.lay (frρ44.lay (frρ34.lay (frρ2.lay J))))) kc_3 rfl rfl (Nat.le_of_ble_eq_true rfl) ⟨Nat.zero_le _, Nat.zero_le _⟩ dX3_measureFrom_73 (fun r τ3 hp => ?_)
              obtain ⟨rfl, frτ3⟩ := hp
              refine zi_iinc (pc := 76) (k + 1) [(0, .ref 9), (1, .int (iz s)), (2, .int (iz n)), (3, .int (iz (k + 1)))] O dX3_measureFrom_76 rfl (by omega) (by decide) rfl ?_
              refine z_goto (pc := 79) (tgt := 44) O dX3_measureFrom_79 (by decide) ?_
              refine z_lk [(0, .ref 9), (1, .int (iz s)), (2, .int (iz n)), (3, .int (iz (k + 1)))] ⟨rfl, rfl, rfl, rfl, trivial⟩ ?_
              exact ih44 _ (by omega) (k + 1) τ3 rfl (by omega) (by omega) ((frρ44.tr frτ1).tr frτ3)
          refine z_lk [(0, .ref 9), (1, .int (iz s)), (2, .int (iz n)), (3, .int (iz 0))] ⟨rfl, rfl, rfl, rfl, trivial⟩ ?_
          exact cut44 _ 0 ρ34 rfl (by omega) (by omega) (Fr.rf [(14, 99999)] ρ34)
      refine z_lk [(0, .ref 9), (1, .int (iz s)), (2, .int (iz 0))] ⟨rfl, rfl, rfl, trivial⟩ ?_
      exact cut34 _ 0 ρ2 rfl (by omega) (by omega) (Fr.rf [(14, 99999)] ρ2)
    · refine z_aload_n (pc := 10) O dX3_measureFrom_10 rfl ?_
      refine z_getR (pc := 11) 14 O fl_X3_24 rfl (jo_9 (frρ2.lay J)) (jr_9_4 (frρ2.lay J)) dX3_measureFrom_11 ?_
      refine z_iload_n (pc := 14) O dX3_measureFrom_14 rfl ?_
      refine z_iload_n (pc := 15) O dX3_measureFrom_15 rfl ?_
      refine z_iload_n (pc := 16) O dX3_measureFrom_16 rfl ?_
      refine zi_icmp_ne (pc := 17) (tgt := 24) O dX3_measureFrom_17 (by decide) (by omega) (by omega) (fun h17 => ?_) (fun h17 => ?_)
      · refine z_iconst (pc := 24) (v := iz (-1)) O dX3_measureFrom_24 (by decide) ?_
        refine zi_iast (pc := 25) (k.toNat) O (ja_14 (frρ2.lay J)) (by omega) (by omega) (by omega) dX3_measureFrom_25 ?_
        refine zi_iinc (pc := 26) (k + 1) [(0, .ref 9), (1, .int (iz s)), (2, .int (iz (k + 1)))] O dX3_measureFrom_26 rfl (by omega) (by decide) rfl ?_
        refine z_goto (pc := 29) (tgt := 2) O dX3_measureFrom_29 (by decide) ?_
        refine z_lk [(0, .ref 9), (1, .int (iz s)), (2, .int (iz (k + 1)))] ⟨rfl, rfl, rfl, trivial⟩ ?_
        exact ih2 _ (by omega) (k + 1) (sI ρ2 14 (k.toNat) (iz (-1))) rfl (by omega) (by omega) (frρ2.pI rfl)
      · refine z_iconst (pc := 20) (v := iz (0)) O dX3_measureFrom_20 (by decide) ?_
        refine z_goto (pc := 21) (tgt := 25) O dX3_measureFrom_21 (by decide) ?_
        refine zi_iast (pc := 25) (k.toNat) O (ja_14 (frρ2.lay J)) (by omega) (by omega) (by omega) dX3_measureFrom_25 ?_
        refine zi_iinc (pc := 26) (k + 1) [(0, .ref 9), (1, .int (iz s)), (2, .int (iz (k + 1)))] O dX3_measureFrom_26 rfl (by omega) (by decide) rfl ?_
        refine z_goto (pc := 29) (tgt := 2) O dX3_measureFrom_29 (by decide) ?_
        refine z_lk [(0, .ref 9), (1, .int (iz s)), (2, .int (iz (k + 1)))] ⟨rfl, rfl, rfl, trivial⟩ ?_
        exact ih2 _ (by omega) (k + 1) (sI ρ2 14 (k.toNat) (iz 0)) rfl (by omega) (by omega) (frρ2.pI rfl)
  refine z_lk [(0, .ref 9), (1, .int (iz s)), (2, .int (iz 0))] ⟨rfl, rfl, rfl, trivial⟩ ?_
  exact cut2 _ 0 σ rfl (by omega) (by omega) (Fr.rf [(14, 99999)] σ)
set_option maxHeartbeats 4000000 in
set_option maxRecDepth 20000 in
theorem k3_stepsBetween (l : Launch) (σ : VH) (a : Int) (ra : (-2147483648 ≤ a ∧ a < 2147483648)) (b : Int) (rb : (-2147483648 ≤ b ∧ b < 2147483648)) (J : Lay σ) (hpe : 0 ≤ gI σ 9 7 ∧ gI σ 9 7 ≤ 20) : Ct l yX3_stepsBetween cX3_stepsBetween 3 (some .int) 3 0 0 [.ref 9, .int (iz a), .int (iz b)] σ (fun r τ => ∃ z : Int, r = some (.int (iz z)) ∧ (-2147483648 ≤ z ∧ z < 2147483648) ∧ (Fr [(14, 99999)] σ τ)) := by
  refine Ct.enter rfl (Nat.le_of_ble_eq_true rfl) ?_
  intro κ γ hκ O hrc hrs
  subst hκ
  refine z_aload_n (pc := 0) O dX3_stepsBetween_0 rfl ?_
  refine z_iload_n (pc := 1) O dX3_stepsBetween_1 rfl ?_
  refine z_callV (pc := 2) O cl_X3_35 (k3_isThere _ _ a (by omega) J) (by decide) (jo_9 J) kc_3 rfl rfl (Nat.le_of_ble_eq_true rfl) ⟨Nat.zero_le _, Nat.zero_le _⟩ dX3_stepsBetween_2 (fun r τ1 hp => ?_)
  obtain ⟨z2, rfl, fτ1_0, fτ1_1, rfl⟩ := hp
  refine zi_if_eq (pc := 5) (tgt := 16) O dX3_stepsBetween_5 (by decide) (by omega) (fun h5 => ?_) (fun h5 => ?_)
  · refine z_iconst (pc := 16) (v := iz (-1)) O dX3_stepsBetween_16 (by decide) ?_
    refine z_iret (pc := 17) O dX3_stepsBetween_17 ?_
    exact ⟨(-1), rfl, (by decide), (Fr.rf [(14, 99999)] σ)⟩
  · refine z_aload_n (pc := 8) O dX3_stepsBetween_8 rfl ?_
    refine z_iload_n (pc := 9) O dX3_stepsBetween_9 rfl ?_
    refine z_callV (pc := 10) O cl_X3_35 (k3_isThere _ _ b (by omega) J) (by decide) (jo_9 J) kc_3 rfl rfl (Nat.le_of_ble_eq_true rfl) ⟨Nat.zero_le _, Nat.zero_le _⟩ dX3_stepsBetween_10 (fun r τ3 hp => ?_)
    obtain ⟨z4, rfl, fτ3_0, fτ3_1, rfl⟩ := hp
    refine zi_if_ne (pc := 13) (tgt := 18) O dX3_stepsBetween_13 (by decide) (by omega) (fun h13 => ?_) (fun h13 => ?_)
    · refine z_aload_n (pc := 18) O dX3_stepsBetween_18 rfl ?_
      refine z_iload_n (pc := 19) O dX3_stepsBetween_19 rfl ?_
      refine z_callV (pc := 20) O cl_X3_39 (k3_measureFrom _ _ a (by omega) J (by omega)) (by decide) (jo_9 J) kc_3 rfl rfl (Nat.le_of_ble_eq_true rfl) ⟨Nat.zero_le _, Nat.zero_le _⟩ dX3_stepsBetween_20 (fun r τ5 hp => ?_)
      obtain ⟨rfl, frτ5⟩ := hp
      refine z_aload_n (pc := 23) O dX3_stepsBetween_23 rfl ?_
      refine z_getR (pc := 24) 14 O fl_X3_24 rfl (jo_9 (frτ5.lay J)) (jr_9_4 (frτ5.lay J)) dX3_stepsBetween_24 ?_
      refine z_iload_n (pc := 27) O dX3_stepsBetween_27 rfl ?_
      refine zi_ialdv (pc := 28) (b.toNat) (gI τ5 14 (b.toNat)) O (ja_14 (frτ5.lay J)) (by omega) (by omega) (by omega) (izg τ5 14 (b.toNat)) dX3_stepsBetween_28 ?_
      have := rgI τ5 14 (b.toNat)
      refine z_iret (pc := 29) O dX3_stepsBetween_29 ?_
      exact ⟨(gI τ5 14 (b.toNat)), rfl, (by omega), frτ5⟩
    · refine z_iconst (pc := 16) (v := iz (-1)) O dX3_stepsBetween_16 (by decide) ?_
      refine z_iret (pc := 17) O dX3_stepsBetween_17 ?_
      exact ⟨(-1), rfl, (by decide), (Fr.rf [(14, 99999)] σ)⟩
set_option maxHeartbeats 4000000 in
set_option maxRecDepth 20000 in
theorem k3_pickSharers (l : Launch) (σ : VH) (a : Int) (ra : (-2147483648 ≤ a ∧ a < 2147483648)) (b : Int) (rb : (-2147483648 ≤ b ∧ b < 2147483648)) (c : Int) (rc : (-2147483648 ≤ c ∧ c < 2147483648)) (d : Int) (rd : (-2147483648 ≤ d ∧ d < 2147483648)) (J : Lay σ) (hpe : 0 ≤ gI σ 9 7 ∧ gI σ 9 7 ≤ 20) : Ct l yX3_pickSharers cX3_pickSharers 6 none 2 0 0 [.ref 9, .int (iz a), .int (iz b), .int (iz c), .int (iz d)] σ (fun r τ => r = none ∧ (Fr [(15, 99999), (9, 6)] σ τ) ∧ (0 ≤ gI τ 9 6 ∧ gI τ 9 6 ≤ 20)) := by
  refine Ct.enter rfl (Nat.le_of_ble_eq_true rfl) ?_
  intro κ γ hκ O hrc hrs
  subst hκ
  refine z_aload_n (pc := 0) O dX3_pickSharers_0 rfl ?_
  refine z_iconst (pc := 1) (v := iz (0)) O dX3_pickSharers_1 (by decide) ?_
  refine z_putI (pc := 2) O fl_X3_47 rfl ⟨rfl, rfl⟩ (jo_9 J) dX3_pickSharers_2 ?_
  refine z_iconst (pc := 5) (v := iz (0)) O dX3_pickSharers_5 (by decide) ?_
  refine z_istore (pc := 6) [(0, .ref 9), (1, .int (iz a)), (2, .int (iz b)), (3, .int (iz c)), (4, .int (iz d)), (5, .int (iz 0))] O dX3_pickSharers_6 (by decide) rfl ?_
  have cut8 : ∀ (mu8 : Nat) (k : Int) (ρ8 : VH), (mu8 = (20 - k).toNat) → (-2147483648 ≤ k ∧ k < 2147483648) → (0 ≤ k ∧ k ≤ 20) → (0 ≤ gI ρ8 9 6 ∧ gI ρ8 9 6 ≤ k) → (Fr [(15, 99999), (9, 6)] (sI σ 9 6 (iz 0)) ρ8) → Z κ γ 6 ρ8 0 0 (QM κ γ (fun r τ => r = none ∧ (Fr [(15, 99999), (9, 6)] σ τ) ∧ (0 ≤ gI τ 9 6 ∧ gI τ 9 6 ≤ 20)) 0 0) 8 [(0, .ref 9), (1, .int (iz a)), (2, .int (iz b)), (3, .int (iz c)), (4, .int (iz d)), (5, .int (iz k))] [] := by
    intro mu8
    induction mu8 using Nat.strongRecOn with
    | ind mu8 ih8 =>
    intro k ρ8 hmu8 rr8_0 ff8_0 ff8_1 frρ8
    refine z_iload (pc := 8) O dX3_pickSharers_8 rfl ?_
    refine z_aload_n (pc := 10) O dX3_pickSharers_10 rfl ?_
    refine zi_getv (pc := 11) (gI σ 9 7) O fl_X3_31 rfl (jo_9 (frρ8.lay J)) (Fr.it frρ8 rfl (sk2t (by decide) (izg σ 9 7))) dX3_pickSharers_11 ?_
    have := rgI σ 9 7
    refine zi_icmp_ge (pc := 14) (tgt := 102) O dX3_pickSharers_14 (by decide) (by omega) (by omega) (fun h14 => ?_) (fun h14 => ?_)
    · refine z_vret (pc := 102) O dX3_pickSharers_102 ?_
      exact ⟨rfl, (((Fr.rf [(15, 99999), (9, 6)] σ).pI rfl).tr frρ8), (by omega)⟩
    · refine z_aload_n (pc := 17) O dX3_pickSharers_17 rfl ?_
      refine z_getR (pc := 18) 15 O fl_X3_27 rfl (jo_9 (frρ8.lay J)) (jr_9_5 (frρ8.lay J)) dX3_pickSharers_18 ?_
      refine z_iload (pc := 21) O dX3_pickSharers_21 rfl ?_
      have cut71 : ∀ (x1 : Int), (-2147483648 ≤ x1 ∧ x1 < 2147483648) → (x1 = 0 ∨ x1 = 1) → Z κ γ 6 ρ8 0 0 (QM κ γ (fun r τ => r = none ∧ (Fr [(15, 99999), (9, 6)] σ τ) ∧ (0 ≤ gI τ 9 6 ∧ gI τ 9 6 ≤ 20)) 0 0) 71 [(0, .ref 9), (1, .int (iz a)), (2, .int (iz b)), (3, .int (iz c)), (4, .int (iz d)), (5, .int (iz k))] [.int (iz x1), .int (iz k), .ref 15] := by
        intro x1 rr71_0 ff71_0
        refine zi_zast (pc := 71) (k.toNat) O (ja_15 (frρ8.lay J)) (by omega) (by omega) (by omega) (by omega) dX3_pickSharers_71 ?_
        refine z_aload_n (pc := 72) O dX3_pickSharers_72 rfl ?_
        refine z_dup (pc := 73) O dX3_pickSharers_73 rfl ?_
        refine zi_getv (pc := 74) (gI ρ8 9 6) O fl_X3_47 rfl (jo_9 (frρ8.lay J)) (sk1t (by decide) (izg ρ8 9 6)) dX3_pickSharers_74 ?_
        have := rgI ρ8 9 6
        refine z_aload_n (pc := 77) O dX3_pickSharers_77 rfl ?_
        refine z_getR (pc := 78) 15 O fl_X3_27 rfl (jo_9 (frρ8.lay J)) (jr_9_5 (frρ8.lay J)) dX3_pickSharers_78 ?_
        refine z_iload (pc := 81) O dX3_pickSharers_81 rfl ?_
        refine zi_zaldv (pc := 83) (k.toNat) (x1) O (ja_15 (frρ8.lay J)) (by omega) (by omega) (by omega) (hI_at _ _ _ _) dX3_pickSharers_83 ?_
        refine zi_if_eq (pc := 84) (tgt := 91) O dX3_pickSharers_84 (by decide) (by omega) (fun h84 => ?_) (fun h84 => ?_)
        · refine z_iconst (pc := 91) (v := iz (0)) O dX3_pickSharers_91 (by decide) ?_
          refine zi_iadd (pc := 92) O dX3_pickSharers_92 ?_
          refine z_putI (pc := 93) O fl_X3_47 rfl ⟨rfl, rfl⟩ (jo_9 (frρ8.lay J)) dX3_pickSharers_93 ?_
          refine zi_iinc (pc := 96) (k + 1) [(0, .ref 9), (1, .int (iz a)), (2, .int (iz b)), (3, .int (iz c)), (4, .int (iz d)), (5, .int (iz (k + 1)))] O dX3_pickSharers_96 rfl (by omega) (by decide) rfl ?_
          refine z_goto (pc := 99) (tgt := 8) O dX3_pickSharers_99 (by decide) ?_
          refine z_lk [(0, .ref 9), (1, .int (iz a)), (2, .int (iz b)), (3, .int (iz c)), (4, .int (iz d)), (5, .int (iz (k + 1)))] ⟨rfl, rfl, rfl, rfl, rfl, rfl, trivial⟩ ?_
          exact ih8 _ (by omega) (k + 1) (sI (sI ρ8 15 (k.toNat) (iz x1)) 9 6 (iz ((gI ρ8 9 6) + 0))) rfl (by omega) (by omega) (by have : gI (sI (sI ρ8 15 (k.toNat) (iz x1)) 9 6 (iz ((gI ρ8 9 6) + 0))) 9 6 = (gI ρ8 9 6) + 0 := gI_iz (hI_at _ _ _ _) (by omega); omega) ((frρ8.pI rfl).pI rfl)
        · refine z_iconst (pc := 87) (v := iz (1)) O dX3_pickSharers_87 (by decide) ?_
          refine z_goto (pc := 88) (tgt := 92) O dX3_pickSharers_88 (by decide) ?_
          refine zi_iadd (pc := 92) O dX3_pickSharers_92 ?_
          refine z_putI (pc := 93) O fl_X3_47 rfl ⟨rfl, rfl⟩ (jo_9 (frρ8.lay J)) dX3_pickSharers_93 ?_
          refine zi_iinc (pc := 96) (k + 1) [(0, .ref 9), (1, .int (iz a)), (2, .int (iz b)), (3, .int (iz c)), (4, .int (iz d)), (5, .int (iz (k + 1)))] O dX3_pickSharers_96 rfl (by omega) (by decide) rfl ?_
          refine z_goto (pc := 99) (tgt := 8) O dX3_pickSharers_99 (by decide) ?_
          refine z_lk [(0, .ref 9), (1, .int (iz a)), (2, .int (iz b)), (3, .int (iz c)), (4, .int (iz d)), (5, .int (iz (k + 1)))] ⟨rfl, rfl, rfl, rfl, rfl, rfl, trivial⟩ ?_
          exact ih8 _ (by omega) (k + 1) (sI (sI ρ8 15 (k.toNat) (iz x1)) 9 6 (iz ((gI ρ8 9 6) + 1))) rfl (by omega) (by omega) (by have : gI (sI (sI ρ8 15 (k.toNat) (iz x1)) 9 6 (iz ((gI ρ8 9 6) + 1))) 9 6 = (gI ρ8 9 6) + 1 := gI_iz (hI_at _ _ _ _) (by omega); omega) ((frρ8.pI rfl).pI rfl)
      refine z_aload_n (pc := 23) O dX3_pickSharers_23 rfl ?_
      refine z_getR (pc := 24) 14 O fl_X3_24 rfl (jo_9 (frρ8.lay J)) (jr_9_4 (frρ8.lay J)) dX3_pickSharers_24 ?_
      refine z_iload (pc := 27) O dX3_pickSharers_27 rfl ?_
      refine zi_ialdv (pc := 29) (k.toNat) (gI σ 14 (k.toNat)) O (ja_14 (frρ8.lay J)) (by omega) (by omega) (by omega) (Fr.it frρ8 rfl (sk1t (by decide) (izg σ 14 (k.toNat)))) dX3_pickSharers_29 ?_
      have := rgI σ 14 (k.toNat)
      refine z_iload_n (pc := 30) O dX3_pickSharers_30 rfl ?_
      refine zi_icmp_ne (pc := 31) (tgt := 70) O dX3_pickSharers_31 (by decide) (by omega) (by omega) (fun h31 => ?_) (fun h31 => ?_)
      · refine z_iconst (pc := 70) (v := iz (0)) O dX3_pickSharers_70 (by decide) ?_
        refine z_lk [(0, .ref 9), (1, .int (iz a)), (2, .int (iz b)), (3, .int (iz c)), (4, .int (iz d)), (5, .int (iz k))] ⟨rfl, rfl, rfl, rfl, rfl, rfl, trivial⟩ ?_
        exact cut71 0 (by omega) (by omega)
      · refine z_iload (pc := 34) O dX3_pickSharers_34 rfl ?_
        refine z_iload_n (pc := 36) O dX3_pickSharers_36 rfl ?_
        refine zi_icmp_eq (pc := 37) (tgt := 70) O dX3_pickSharers_37 (by decide) (by omega) (by omega) (fun h37 => ?_) (fun h37 => ?_)
        · refine z_iconst (pc := 70) (v := iz (0)) O dX3_pickSharers_70 (by decide) ?_
          refine z_lk [(0, .ref 9), (1, .int (iz a)), (2, .int (iz b)), (3, .int (iz c)), (4, .int (iz d)), (5, .int (iz k))] ⟨rfl, rfl, rfl, rfl, rfl, rfl, trivial⟩ ?_
          exact cut71 0 (by omega) (by omega)
        · refine z_aload_n (pc := 40) O dX3_pickSharers_40 rfl ?_
          refine z_getR (pc := 41) 10 O fl_X3_9 rfl (jo_9 (frρ8.lay J)) (jr_9_0 (frρ8.lay J)) dX3_pickSharers_41 ?_
          refine z_iload (pc := 44) O dX3_pickSharers_44 rfl ?_
          refine zi_ialdv (pc := 46) (k.toNat) (gI σ 10 (k.toNat)) O (ja_10 (frρ8.lay J)) (by omega) (by omega) (by omega) (Fr.it frρ8 rfl (sk1t (by decide) (izg σ 10 (k.toNat)))) dX3_pickSharers_46 ?_
          have := rgI σ 10 (k.toNat)
          refine z_aload_n (pc := 47) O dX3_pickSharers_47 rfl ?_
          refine z_iload_n (pc := 48) O dX3_pickSharers_48 rfl ?_
          refine z_callV (pc := 49) O cl_X3_50 (k3_folkOf _ _ a (by omega) (frρ8.lay J) (by have : gI ρ8 9 7 = gI σ 9 7 := gI_iz (Fr.it frρ8 rfl (sk2t (by decide) (izg σ 9 7))) (rgI _ _ _); omega)) (by decide) (jo_9 (frρ8.lay J)) kc_3 rfl rfl (Nat.le_of_ble_eq_true rfl) ⟨Nat.zero_le _, Nat.zero_le _⟩ dX3_pickSharers_49 (fun r τ1 hp => ?_)
          obtain ⟨z2, rfl, fτ1_0, rfl⟩ := hp
          refine zi_icmp_ne (pc := 52) (tgt := 70) O dX3_pickSharers_52 (by decide) (by omega) (by omega) (fun h52 => ?_) (fun h52 => ?_)
          · refine z_iconst (pc := 70) (v := iz (0)) O dX3_pickSharers_70 (by decide) ?_
            refine z_lk [(0, .ref 9), (1, .int (iz a)), (2, .int (iz b)), (3, .int (iz c)), (4, .int (iz d)), (5, .int (iz k))] ⟨rfl, rfl, rfl, rfl, rfl, rfl, trivial⟩ ?_
            exact cut71 0 (by omega) (by omega)
          · refine z_aload_n (pc := 55) O dX3_pickSharers_55 rfl ?_
            refine z_iload (pc := 56) O dX3_pickSharers_56 rfl ?_
            refine z_iload (pc := 58) O dX3_pickSharers_58 rfl ?_
            refine z_callV (pc := 60) O cl_X3_54 (k3_deadOn _ _ k (by omega) d (by omega) (frρ8.lay J) (by have : gI ρ8 9 7 = gI σ 9 7 := gI_iz (Fr.it frρ8 rfl (sk2t (by decide) (izg σ 9 7))) (rgI _ _ _); omega)) (by decide) (jo_9 (frρ8.lay J)) kc_3 rfl rfl (Nat.le_of_ble_eq_true rfl) ⟨Nat.zero_le _, Nat.zero_le _⟩ dX3_pickSharers_60 (fun r τ3 hp => ?_)
            obtain ⟨z4, rfl, fτ3_0, rfl⟩ := hp
            refine zi_if_ne (pc := 63) (tgt := 70) O dX3_pickSharers_63 (by decide) (by omega) (fun h63 => ?_) (fun h63 => ?_)
            · refine z_iconst (pc := 70) (v := iz (0)) O dX3_pickSharers_70 (by decide) ?_
              refine z_lk [(0, .ref 9), (1, .int (iz a)), (2, .int (iz b)), (3, .int (iz c)), (4, .int (iz d)), (5, .int (iz k))] ⟨rfl, rfl, rfl, rfl, rfl, rfl, trivial⟩ ?_
              exact cut71 0 (by omega) (by omega)
            · refine z_iconst (pc := 66) (v := iz (1)) O dX3_pickSharers_66 (by decide) ?_
              refine z_goto (pc := 67) (tgt := 71) O dX3_pickSharers_67 (by decide) ?_
              refine z_lk [(0, .ref 9), (1, .int (iz a)), (2, .int (iz b)), (3, .int (iz c)), (4, .int (iz d)), (5, .int (iz k))] ⟨rfl, rfl, rfl, rfl, rfl, rfl, trivial⟩ ?_
              exact cut71 1 (by omega) (by omega)
  refine z_lk [(0, .ref 9), (1, .int (iz a)), (2, .int (iz b)), (3, .int (iz c)), (4, .int (iz d)), (5, .int (iz 0))] ⟨rfl, rfl, rfl, rfl, rfl, rfl, trivial⟩ ?_
  exact cut8 _ 0 (sI σ 9 6 (iz 0)) rfl (by omega) (by omega) (by have : gI (sI σ 9 6 (iz 0)) 9 6 = 0 := gI_iz (hI_at _ _ _ _) (by omega); omega) (Fr.rf [(15, 99999), (9, 6)] (sI σ 9 6 (iz 0)))
