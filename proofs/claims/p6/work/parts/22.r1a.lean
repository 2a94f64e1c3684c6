set_option maxHeartbeats 4000000 in
set_option maxRecDepth 20000 in
theorem k9_isPerson (l : Launch) (σ : VH) (p : Int) (rp : (-2147483648 ≤ p ∧ p < 2147483648)) (J : Lay σ) : Ct l yX9_isPerson cX9_isPerson 2 (some .boolean) 0 0 0 [.ref 33, .int (iz p)] σ (fun r τ => ∃ z : Int, r = some (.int (iz z)) ∧ (z = 0 ∨ z = 1) ∧ (z = 1 ↔ (0 ≤ p ∧ p < gI σ 33 52)) ∧ (σ = τ)) := by
  refine Ct.enter rfl (Nat.le_of_ble_eq_true rfl) ?_
  intro κ γ hκ O hrc hrs
  subst hκ
  refine z_iload_n (pc := 0) O dX9_isPerson_0 rfl ?_
  refine zi_if_lt (pc := 1) (tgt := 16) O dX9_isPerson_1 (by decide) (by omega) (fun h1 => ?_) (fun h1 => ?_)
  · refine z_iconst (pc := 16) (v := iz (0)) O dX9_isPerson_16 (by decide) ?_
    refine z_zret (pc := 17) O dX9_isPerson_17 rfl ?_
    exact ⟨0, rfl, (by decide), (by omega), rfl⟩
  · refine z_iload_n (pc := 4) O dX9_isPerson_4 rfl ?_
    refine z_aload_n (pc := 5) O dX9_isPerson_5 rfl ?_
    refine zi_getv (pc := 6) (gI σ 33 52) O fl_X9_353 rfl (jo_33 J) (izg σ 33 52) dX9_isPerson_6 ?_
    have := rgI σ 33 52
    refine zi_icmp_ge (pc := 9) (tgt := 16) O dX9_isPerson_9 (by decide) (by omega) (by omega) (fun h9 => ?_) (fun h9 => ?_)
    · refine z_iconst (pc := 16) (v := iz (0)) O dX9_isPerson_16 (by decide) ?_
      refine z_zret (pc := 17) O dX9_isPerson_17 rfl ?_
      exact ⟨0, rfl, (by decide), (by omega), rfl⟩
    · refine z_iconst (pc := 12) (v := iz (1)) O dX9_isPerson_12 (by decide) ?_
      refine z_goto (pc := 13) (tgt := 17) O dX9_isPerson_13 (by decide) ?_
      refine z_zret (pc := 17) O dX9_isPerson_17 rfl ?_
      exact ⟨1, rfl, (by decide), (by omega), rfl⟩
set_option maxHeartbeats 4000000 in
set_option maxRecDepth 20000 in
theorem k9_isCase (l : Launch) (σ : VH) (p : Int) (rp : (-2147483648 ≤ p ∧ p < 2147483648)) (J : Lay σ) : Ct l yX9_isCase cX9_isCase 2 (some .boolean) 0 0 0 [.ref 33, .int (iz p)] σ (fun r τ => ∃ z : Int, r = some (.int (iz z)) ∧ (z = 0 ∨ z = 1) ∧ (z = 1 ↔ (0 ≤ p ∧ p < gI σ 33 66)) ∧ (σ = τ)) := by
  refine Ct.enter rfl (Nat.le_of_ble_eq_true rfl) ?_
  intro κ γ hκ O hrc hrs
  subst hκ
  refine z_iload_n (pc := 0) O dX9_isCase_0 rfl ?_
  refine zi_if_lt (pc := 1) (tgt := 16) O dX9_isCase_1 (by decide) (by omega) (fun h1 => ?_) (fun h1 => ?_)
  · refine z_iconst (pc := 16) (v := iz (0)) O dX9_isCase_16 (by decide) ?_
    refine z_zret (pc := 17) O dX9_isCase_17 rfl ?_
    exact ⟨0, rfl, (by decide), (by omega), rfl⟩
  · refine z_iload_n (pc := 4) O dX9_isCase_4 rfl ?_
    refine z_aload_n (pc := 5) O dX9_isCase_5 rfl ?_
    refine zi_getv (pc := 6) (gI σ 33 66) O fl_X9_371 rfl (jo_33 J) (izg σ 33 66) dX9_isCase_6 ?_
    have := rgI σ 33 66
    refine zi_icmp_ge (pc := 9) (tgt := 16) O dX9_isCase_9 (by decide) (by omega) (by omega) (fun h9 => ?_) (fun h9 => ?_)
    · refine z_iconst (pc := 16) (v := iz (0)) O dX9_isCase_16 (by decide) ?_
      refine z_zret (pc := 17) O dX9_isCase_17 rfl ?_
      exact ⟨0, rfl, (by decide), (by omega), rfl⟩
    · refine z_iconst (pc := 12) (v := iz (1)) O dX9_isCase_12 (by decide) ?_
      refine z_goto (pc := 13) (tgt := 17) O dX9_isCase_13 (by decide) ?_
      refine z_zret (pc := 17) O dX9_isCase_17 rfl ?_
      exact ⟨1, rfl, (by decide), (by omega), rfl⟩
set_option maxHeartbeats 4000000 in
set_option maxRecDepth 20000 in
theorem k9_isLetter (l : Launch) (σ : VH) (c : Int) (rc : (-2147483648 ≤ c ∧ c < 2147483648)) : Ct l yX9_isLetter cX9_isLetter 1 (some .boolean) 0 0 0 [.int (iz c)] σ (fun r τ => ∃ z : Int, r = some (.int (iz z)) ∧ (z = 0 ∨ z = 1) ∧ (z = 1 ↔ (97 ≤ c ∧ c ≤ 122)) ∧ (σ = τ)) := by
  refine Ct.enter rfl (Nat.le_of_ble_eq_true rfl) ?_
  intro κ γ hκ O hrc hrs
  subst hκ
  refine z_iload_n (pc := 0) O dX9_isLetter_0 rfl ?_
  refine z_bipush (pc := 1) (v := iz (97)) O dX9_isLetter_1 (by decide) ?_
  refine zi_icmp_lt (pc := 3) (tgt := 16) O dX9_isLetter_3 (by decide) (by omega) (by decide) (fun h3 => ?_) (fun h3 => ?_)
  · refine z_iconst (pc := 16) (v := iz (0)) O dX9_isLetter_16 (by decide) ?_
    refine z_zret (pc := 17) O dX9_isLetter_17 rfl ?_
    exact ⟨0, rfl, (by decide), (by omega), rfl⟩
  · refine z_iload_n (pc := 6) O dX9_isLetter_6 rfl ?_
    refine z_bipush (pc := 7) (v := iz (122)) O dX9_isLetter_7 (by decide) ?_
    refine zi_icmp_gt (pc := 9) (tgt := 16) O dX9_isLetter_9 (by decide) (by omega) (by decide) (fun h9 => ?_) (fun h9 => ?_)
    · refine z_iconst (pc := 16) (v := iz (0)) O dX9_isLetter_16 (by decide) ?_
      refine z_zret (pc := 17) O dX9_isLetter_17 rfl ?_
      exact ⟨0, rfl, (by decide), (by omega), rfl⟩
    · refine z_iconst (pc := 12) (v := iz (1)) O dX9_isLetter_12 (by decide) ?_
      refine z_goto (pc := 13) (tgt := 17) O dX9_isLetter_13 (by decide) ?_
      refine z_zret (pc := 17) O dX9_isLetter_17 rfl ?_
      exact ⟨1, rfl, (by decide), (by omega), rfl⟩
set_option maxHeartbeats 4000000 in
set_option maxRecDepth 20000 in
theorem k9_isDigit (l : Launch) (σ : VH) (c : Int) (rc : (-2147483648 ≤ c ∧ c < 2147483648)) : Ct l yX9_isDigit cX9_isDigit 1 (some .boolean) 0 0 0 [.int (iz c)] σ (fun r τ => ∃ z : Int, r = some (.int (iz z)) ∧ (z = 0 ∨ z = 1) ∧ (z = 1 ↔ (48 ≤ c ∧ c ≤ 57)) ∧ (σ = τ)) := by
  refine Ct.enter rfl (Nat.le_of_ble_eq_true rfl) ?_
  intro κ γ hκ O hrc hrs
  subst hκ
  refine z_iload_n (pc := 0) O dX9_isDigit_0 rfl ?_
  refine z_bipush (pc := 1) (v := iz (48)) O dX9_isDigit_1 (by decide) ?_
  refine zi_icmp_lt (pc := 3) (tgt := 16) O dX9_isDigit_3 (by decide) (by omega) (by decide) (fun h3 => ?_) (fun h3 => ?_)
  · refine z_iconst (pc := 16) (v := iz (0)) O dX9_isDigit_16 (by decide) ?_
    refine z_zret (pc := 17) O dX9_isDigit_17 rfl ?_
    exact ⟨0, rfl, (by decide), (by omega), rfl⟩
  · refine z_iload_n (pc := 6) O dX9_isDigit_6 rfl ?_
    refine z_bipush (pc := 7) (v := iz (57)) O dX9_isDigit_7 (by decide) ?_
    refine zi_icmp_gt (pc := 9) (tgt := 16) O dX9_isDigit_9 (by decide) (by omega) (by decide) (fun h9 => ?_) (fun h9 => ?_)
    · refine z_iconst (pc := 16) (v := iz (0)) O dX9_isDigit_16 (by decide) ?_
      refine z_zret (pc := 17) O dX9_isDigit_17 rfl ?_
      exact ⟨0, rfl, (by decide), (by omega), rfl⟩
    · refine z_iconst (pc := 12) (v := iz (1)) O dX9_isDigit_12 (by decide) ?_
      refine z_goto (pc := 13) (tgt := 17) O dX9_isDigit_13 (by decide) ?_
      refine z_zret (pc := 17) O dX9_isDigit_17 rfl ?_
      exact ⟨1, rfl, (by decide), (by omega), rfl⟩
set_option maxHeartbeats 4000000 in
set_option maxRecDepth 20000 in
theorem k9_isName (l : Launch) (σ : VH) (v : Int64) : Ct l yX9_isName cX9_isName 5 (some .boolean) 1 0 0 [.long v] σ (fun r τ => ∃ z : Int, r = some (.int (iz z)) ∧ (z = 0 ∨ z = 1) ∧ (σ = τ)) := by
  refine Ct.enter rfl (Nat.le_of_ble_eq_true rfl) ?_
  intro κ γ hκ O hrc hrs
  subst hκ
  refine z_iconst (pc := 0) (v := iz (0)) O dX9_isName_0 (by decide) ?_
  refine z_istore_n (pc := 1) [(0, .long v), (2, .int (iz 0))] O dX9_isName_1 (by decide) rfl ?_
  refine z_bipush (pc := 2) (v := iz (56)) O dX9_isName_2 (by decide) ?_
  refine z_istore_n (pc := 4) [(0, .long v), (2, .int (iz 0)), (3, .int (iz 56))] O dX9_isName_4 (by decide) rfl ?_
  have cut5 : ∀ (mu5 : Nat) (b : Int) (k : Int), (mu5 = (k + 8).toNat) → (-2147483648 ≤ b ∧ b < 2147483648) → (-2147483648 ≤ k ∧ k < 2147483648) → (b = 0 ∨ b = 1) → (-8 ≤ k ∧ k ≤ 56) → Z κ γ 5 σ 0 0 (QM κ γ (fun r τ => ∃ z : Int, r = some (.int (iz z)) ∧ (z = 0 ∨ z = 1) ∧ (σ = τ)) 0 0) 5 [(0, .long v), (2, .int (iz b)), (3, .int (iz k))] [] := by
    intro mu5
    induction mu5 using Nat.strongRecOn with
    | ind mu5 ih5 =>
    intro b k hmu5 rr5_0 rr5_1 ff5_0 ff5_1
    refine z_iload_n (pc := 5) O dX9_isName_5 rfl ?_
    refine zi_if_lt (pc := 6) (tgt := 49) O dX9_isName_6 (by decide) (by omega) (fun h6 => ?_) (fun h6 => ?_)
    · refine z_iload_n (pc := 49) O dX9_isName_49 rfl ?_
      refine z_zret (pc := 50) O dX9_isName_50 (nar_z (by omega)) ?_
      exact ⟨b, rfl, (by omega), rfl⟩
    · refine z_lload_n (pc := 9) O dX9_isName_9 rfl ?_
      refine z_iload_n (pc := 10) O dX9_isName_10 rfl ?_
      refine z_lshr (pc := 11) O dX9_isName_11 ?_
      refine z_topl (pc := 12) (fun w1 ew1 => ?_)
      refine z_ldc2 (pc := 12) O tw_1166 dX9_isName_12 ?_
      refine z_land (pc := 15) O dX9_isName_15 ?_
      refine z_topl (pc := 16) (fun w2 ew2 => ?_)
      refine z_l2i (pc := 16) O dX9_isName_16 ?_
      refine zi_any (fun z3 rz3 ez3 => ?_)
      refine z_istore (pc := 17) [(0, .long v), (2, .int (iz b)), (3, .int (iz k)), (4, .int (iz z3))] O dX9_isName_17 (by decide) rfl ?_
      refine z_iload (pc := 19) O dX9_isName_19 rfl ?_
      refine zi_if_ne (pc := 21) (tgt := 31) O dX9_isName_21 (by decide) (by omega) (fun h21 => ?_) (fun h21 => ?_)
      · refine z_iload (pc := 31) O dX9_isName_31 rfl ?_
        refine z_callS (pc := 33) O cl_X9_241 (k9_isLetter _ _ z3 (by omega)) (by decide) rfl rfl (Nat.le_of_ble_eq_true rfl) ⟨Nat.zero_le _, Nat.zero_le _⟩ dX9_isName_33 (fun r τ4 hp => ?_)
        obtain ⟨z5, rfl, fτ4_0, fτ4_1, rfl⟩ := hp
        refine zi_if_ne (pc := 36) (tgt := 41) O dX9_isName_36 (by decide) (by omega) (fun h36 => ?_) (fun h36 => ?_)
        · refine z_iconst (pc := 41) (v := iz (1)) O dX9_isName_41 (by decide) ?_
          refine z_istore_n (pc := 42) [(0, .long v), (2, .int (iz 1)), (3, .int (iz k)), (4, .int (iz z3))] O dX9_isName_42 (by decide) rfl ?_
          refine zi_iinc (pc := 43) (k - 8) [(0, .long v), (2, .int (iz 1)), (3, .int (iz (k - 8))), (4, .int (iz z3))] O dX9_isName_43 rfl (by omega) (by decide) rfl ?_
          refine z_goto (pc := 46) (tgt := 5) O dX9_isName_46 (by decide) ?_
          refine z_lk [(0, .long v), (2, .int (iz 1)), (3, .int (iz (k - 8)))] ⟨rfl, rfl, rfl, trivial⟩ ?_
          exact ih5 _ (by omega) 1 (k - 8) rfl (by omega) (by omega) (by omega) (by omega)
        · refine z_iconst (pc := 39) (v := iz (0)) O dX9_isName_39 (by decide) ?_
          refine z_zret (pc := 40) O dX9_isName_40 rfl ?_
          exact ⟨0, rfl, (by decide), rfl⟩
      · refine z_iload_n (pc := 24) O dX9_isName_24 rfl ?_
        refine zi_if_ne (pc := 25) (tgt := 31) O dX9_isName_25 (by decide) (by omega) (fun h25 => ?_) (fun h25 => ?_)
        · refine z_iload (pc := 31) O dX9_isName_31 rfl ?_
          refine z_callS (pc := 33) O cl_X9_241 (k9_isLetter _ _ z3 (by omega)) (by decide) rfl rfl (Nat.le_of_ble_eq_true rfl) ⟨Nat.zero_le _, Nat.zero_le _⟩ dX9_isName_33 (fun r τ6 hp => ?_)
          obtain ⟨z7, rfl, fτ6_0, fτ6_1, rfl⟩ := hp
          refine zi_if_ne (pc := 36) (tgt := 41) O dX9_isName_36 (by decide) (by omega) (fun h36 => ?_) (fun h36 => ?_)
          · refine z_iconst (pc := 41) (v := iz (1)) O dX9_isName_41 (by decide) ?_
            refine z_istore_n (pc := 42) [(0, .long v), (2, .int (iz 1)), (3, .int (iz k)), (4, .int (iz z3))] O dX9_isName_42 (by decide) rfl ?_
            refine zi_iinc (pc := 43) (k - 8) [(0, .long v), (2, .int (iz 1)), (3, .int (iz (k - 8))), (4, .int (iz z3))] O dX9_isName_43 rfl (by omega) (by decide) rfl ?_
            refine z_goto (pc := 46) (tgt := 5) O dX9_isName_46 (by decide) ?_
            refine z_lk [(0, .long v), (2, .int (iz 1)), (3, .int (iz (k - 8)))] ⟨rfl, rfl, rfl, trivial⟩ ?_
            exact ih5 _ (by omega) 1 (k - 8) rfl (by omega) (by omega) (by omega) (by omega)
          · refine z_iconst (pc := 39) (v := iz (0)) O dX9_isName_39 (by decide) ?_
            refine z_zret (pc := 40) O dX9_isName_40 rfl ?_
            exact ⟨0, rfl, (by decide), rfl⟩
        · refine z_goto (pc := 28) (tgt := 43) O dX9_isName_28 (by decide) ?_
          refine zi_iinc (pc := 43) (k - 8) [(0, .long v), (2, .int (iz b)), (3, .int (iz (k - 8))), (4, .int (iz z3))] O dX9_isName_43 rfl (by omega) (by decide) rfl ?_
          refine z_goto (pc := 46) (tgt := 5) O dX9_isName_46 (by decide) ?_
          refine z_lk [(0, .long v), (2, .int (iz b)), (3, .int (iz (k - 8)))] ⟨rfl, rfl, rfl, trivial⟩ ?_
          exact ih5 _ (by omega) b (k - 8) rfl (by omega) (by omega) (by omega) (by omega)
  refine z_lk [(0, .long v), (2, .int (iz 0)), (3, .int (iz 56))] ⟨rfl, rfl, rfl, trivial⟩ ?_
  exact cut5 _ 0 56 rfl (by omega) (by omega) (by omega) (by omega)
set_option maxHeartbeats 4000000 in
set_option maxRecDepth 20000 in
theorem k9_lawFor (l : Launch) (σ : VH) (folk : Int) (rfolk : (-2147483648 ≤ folk ∧ folk < 2147483648)) (day : Int) (rday : (-2147483648 ≤ day ∧ day < 2147483648)) (J : Lay σ) (hla : 0 ≤ gI σ 33 33 ∧ gI σ 33 33 ≤ 16) : Ct l yX9_lawFor cX9_lawFor 5 (some .int) 0 0 0 [.ref 33, .int (iz folk), .int (iz day)] σ (fun r τ => ∃ z : Int, r = some (.int (iz z)) ∧ (-2147483648 ≤ z ∧ z < 2147483648) ∧ (z = lff (gI σ 36) (gI σ 37) folk day (gI σ 33 33).toNat) ∧ (-1 ≤ z ∧ z < gI σ 33 33) ∧ (σ = τ)) := by
  refine Ct.enter rfl (Nat.le_of_ble_eq_true rfl) ?_
  intro κ γ hκ O hrc hrs
  subst hκ
  refine z_iconst (pc := 0) (v := iz (-1)) O dX9_lawFor_0 (by decide) ?_
  refine z_istore_n (pc := 1) [(0, .ref 33), (1, .int (iz folk)), (2, .int (iz day)), (3, .int (iz (-1)))] O dX9_lawFor_1 (by decide) rfl ?_
  refine z_iconst (pc := 2) (v := iz (0)) O dX9_lawFor_2 (by decide) ?_
  refine z_istore (pc := 3) [(0, .ref 33), (1, .int (iz folk)), (2, .int (iz day)), (3, .int (iz (-1))), (4, .int (iz 0))] O dX9_lawFor_3 (by decide) rfl ?_
  have cut5 : ∀ (mu5 : Nat) (best : Int) (k : Int), (mu5 = (gI σ 33 33 - k).toNat) → (-2147483648 ≤ best ∧ best < 2147483648) → (-2147483648 ≤ k ∧ k < 2147483648) → (-1 ≤ best ∧ best < k) → (0 ≤ k ∧ k ≤ gI σ 33 33) → (best = lff (gI σ 36) (gI σ 37) folk day k.toNat) → Z κ γ 5 σ 0 0 (QM κ γ (fun r τ => ∃ z : Int, r = some (.int (iz z)) ∧ (-2147483648 ≤ z ∧ z < 2147483648) ∧ (z = lff (gI σ 36) (gI σ 37) folk day (gI σ 33 33).toNat) ∧ (-1 ≤ z ∧ z < gI σ 33 33) ∧ (σ = τ)) 0 0) 5 [(0, .ref 33), (1, .int (iz folk)), (2, .int (iz day)), (3, .int (iz best)), (4, .int (iz k))] [] := by
    intro mu5
    induction mu5 using Nat.strongRecOn with
    | ind mu5 ih5 =>
    intro best k hmu5 rr5_0 rr5_1 ff5_0 ff5_1 ff5_2
    refine z_iload (pc := 5) O dX9_lawFor_5 rfl ?_
    refine z_aload_n (pc := 7) O dX9_lawFor_7 rfl ?_
    refine zi_getv (pc := 8) (gI σ 33 33) O fl_X9_280 rfl (jo_33 J) (izg σ 33 33) dX9_lawFor_8 ?_
    have := rgI σ 33 33
    refine zi_icmp_ge (pc := 11) (tgt := 65) O dX9_lawFor_11 (by decide) (by omega) (by omega) (fun h11 => ?_) (fun h11 => ?_)
    · refine z_iload_n (pc := 65) O dX9_lawFor_65 rfl ?_
      refine z_iret (pc := 66) O dX9_lawFor_66 ?_
      exact ⟨best, rfl, (by omega), (by rw [ff5_2]; congr 1; omega), (by omega), rfl⟩
    · refine z_aload_n (pc := 14) O dX9_lawFor_14 rfl ?_
      refine z_getR (pc := 15) 36 O fl_X9_20 rfl (jo_33 J) (jr_33_12 J) dX9_lawFor_15 ?_
      refine z_iload (pc := 18) O dX9_lawFor_18 rfl ?_
      refine zi_ialdv (pc := 20) (k.toNat) (gI σ 36 (k.toNat)) O (ja_36 J) (by omega) (by omega) (by omega) (izg σ 36 (k.toNat)) dX9_lawFor_20 ?_
      have := rgI σ 36 (k.toNat)
      refine z_iload_n (pc := 21) O dX9_lawFor_21 rfl ?_
      refine zi_icmp_ne (pc := 22) (tgt := 59) O dX9_lawFor_22 (by decide) (by omega) (by omega) (fun h22 => ?_) (fun h22 => ?_)
      · refine zi_iinc (pc := 59) (k + 1) [(0, .ref 33), (1, .int (iz folk)), (2, .int (iz day)), (3, .int (iz best)), (4, .int (iz (k + 1)))] O dX9_lawFor_59 rfl (by omega) (by decide) rfl ?_
        refine z_goto (pc := 62) (tgt := 5) O dX9_lawFor_62 (by decide) ?_
        refine z_lk [(0, .ref 33), (1, .int (iz folk)), (2, .int (iz day)), (3, .int (iz best)), (4, .int (iz (k + 1)))] ⟨rfl, rfl, rfl, rfl, rfl, trivial⟩ ?_
        exact ih5 _ (by omega) best (k + 1) rfl (by omega) (by omega) (by omega) (by omega) (by rw [lff_step (by omega), ← ff5_2]; split <;> omega)
      · refine z_aload_n (pc := 25) O dX9_lawFor_25 rfl ?_
        refine z_getR (pc := 26) 37 O fl_X9_24 rfl (jo_33 J) (jr_33_13 J) dX9_lawFor_26 ?_
        refine z_iload (pc := 29) O dX9_lawFor_29 rfl ?_
        refine zi_ialdv (pc := 31) (k.toNat) (gI σ 37 (k.toNat)) O (ja_37 J) (by omega) (by omega) (by omega) (izg σ 37 (k.toNat)) dX9_lawFor_31 ?_
        have := rgI σ 37 (k.toNat)
        refine z_iload_n (pc := 32) O dX9_lawFor_32 rfl ?_
        refine zi_icmp_gt (pc := 33) (tgt := 59) O dX9_lawFor_33 (by decide) (by omega) (by omega) (fun h33 => ?_) (fun h33 => ?_)
        · refine zi_iinc (pc := 59) (k + 1) [(0, .ref 33), (1, .int (iz folk)), (2, .int (iz day)), (3, .int (iz best)), (4, .int (iz (k + 1)))] O dX9_lawFor_59 rfl (by omega) (by decide) rfl ?_
          refine z_goto (pc := 62) (tgt := 5) O dX9_lawFor_62 (by decide) ?_
          refine z_lk [(0, .ref 33), (1, .int (iz folk)), (2, .int (iz day)), (3, .int (iz best)), (4, .int (iz (k + 1)))] ⟨rfl, rfl, rfl, rfl, rfl, trivial⟩ ?_
          exact ih5 _ (by omega) best (k + 1) rfl (by omega) (by omega) (by omega) (by omega) (by rw [lff_step (by omega), ← ff5_2]; split <;> omega)
        · refine z_iload_n (pc := 36) O dX9_lawFor_36 rfl ?_
          refine zi_if_lt (pc := 37) (tgt := 56) O dX9_lawFor_37 (by decide) (by omega) (fun h37 => ?_) (fun h37 => ?_)
          · refine z_iload (pc := 56) O dX9_lawFor_56 rfl ?_
            refine z_istore_n (pc := 58) [(0, .ref 33), (1, .int (iz folk)), (2, .int (iz day)), (3, .int (iz k)), (4, .int (iz k))] O dX9_lawFor_58 (by decide) rfl ?_
            refine zi_iinc (pc := 59) (k + 1) [(0, .ref 33), (1, .int (iz folk)), (2, .int (iz day)), (3, .int (iz k)), (4, .int (iz (k + 1)))] O dX9_lawFor_59 rfl (by omega) (by decide) rfl ?_
            refine z_goto (pc := 62) (tgt := 5) O dX9_lawFor_62 (by decide) ?_
            refine z_lk [(0, .ref 33), (1, .int (iz folk)), (2, .int (iz day)), (3, .int (iz k)), (4, .int (iz (k + 1)))] ⟨rfl, rfl, rfl, rfl, rfl, trivial⟩ ?_
            exact ih5 _ (by omega) k (k + 1) rfl (by omega) (by omega) (by omega) (by omega) (by rw [lff_step (by omega), ← ff5_2]; split <;> omega)
          · refine z_aload_n (pc := 40) O dX9_lawFor_40 rfl ?_
            refine z_getR (pc := 41) 37 O fl_X9_24 rfl (jo_33 J) (jr_33_13 J) dX9_lawFor_41 ?_
            refine z_iload (pc := 44) O dX9_lawFor_44 rfl ?_
            refine zi_ialdv (pc := 46) (k.toNat) (gI σ 37 (k.toNat)) O (ja_37 J) (by omega) (by omega) (by omega) (izg σ 37 (k.toNat)) dX9_lawFor_46 ?_
            refine z_aload_n (pc := 47) O dX9_lawFor_47 rfl ?_
            refine z_getR (pc := 48) 37 O fl_X9_24 rfl (jo_33 J) (jr_33_13 J) dX9_lawFor_48 ?_
            refine z_iload_n (pc := 51) O dX9_lawFor_51 rfl ?_
            refine zi_ialdv (pc := 52) (best.toNat) (gI σ 37 (best.toNat)) O (ja_37 J) (by omega) (by omega) (by omega) (izg σ 37 (best.toNat)) dX9_lawFor_52 ?_
            have := rgI σ 37 (best.toNat)
            refine zi_icmp_lt (pc := 53) (tgt := 59) O dX9_lawFor_53 (by decide) (by omega) (by omega) (fun h53 => ?_) (fun h53 => ?_)
            · refine zi_iinc (pc := 59) (k + 1) [(0, .ref 33), (1, .int (iz folk)), (2, .int (iz day)), (3, .int (iz best)), (4, .int (iz (k + 1)))] O dX9_lawFor_59 rfl (by omega) (by decide) rfl ?_
              refine z_goto (pc := 62) (tgt := 5) O dX9_lawFor_62 (by decide) ?_
              refine z_lk [(0, .ref 33), (1, .int (iz folk)), (2, .int (iz day)), (3, .int (iz best)), (4, .int (iz (k + 1)))] ⟨rfl, rfl, rfl, rfl, rfl, trivial⟩ ?_
              exact ih5 _ (by omega) best (k + 1) rfl (by omega) (by omega) (by omega) (by omega) (by rw [lff_step (by omega), ← ff5_2]; split <;> omega)
            · refine z_iload (pc := 56) O dX9_lawFor_56 rfl ?_
              refine z_istore_n (pc := 58) [(0, .ref 33), (1, .int (iz folk)), (2, .int (iz day)), (3, .int (iz k)), (4, .int (iz k))] O dX9_lawFor_58 (by decide) rfl ?_
              refine zi_iinc (pc := 59) (k + 1) [(0, .ref 33), (1, .int (iz folk)), (2, .int (iz day)), (3, .int (iz k)), (4, .int (iz (k + 1)))] O dX9_lawFor_59 rfl (by omega) (by decide) rfl ?_
              refine z_goto (pc := 62) (tgt := 5) O dX9_lawFor_62 (by decide) ?_
              refine z_lk [(0, .ref 33), (1, .int (iz folk)), (2, .int (iz day)), (3, .int (iz k)), (4, .int (iz (k + 1)))] ⟨rfl, rfl, rfl, rfl, rfl, trivial⟩ ?_
              exact ih5 _ (by omega) k (k + 1) rfl (by omega) (by omega) (by omega) (by omega) (by rw [lff_step (by omega), ← ff5_2]; split <;> omega)
  refine z_lk [(0, .ref 33), (1, .int (iz folk)), (2, .int (iz day)), (3, .int (iz (-1))), (4, .int (iz 0))] ⟨rfl, rfl, rfl, rfl, rfl, trivial⟩ ?_
  exact cut5 _ (-1) 0 rfl (by omega) (by omega) (by omega) (by omega) (by rfl)
set_option maxHeartbeats 4000000 in
set_option maxRecDepth 20000 in
theorem k9_lawOf (l : Launch) (σ : VH) (c : Int) (rc : (-2147483648 ≤ c ∧ c < 2147483648)) (J : Lay σ) (hla : 0 ≤ gI σ 33 33 ∧ gI σ 33 33 ≤ 16) (hc : 0 ≤ c ∧ c < 20) (hk : 0 ≤ gI σ 71 (c.toNat) ∧ gI σ 71 (c.toNat) < 20) : Ct l yX9_lawOf cX9_lawOf 2 (some .int) 1 0 0 [.ref 33, .int (iz c)] σ (fun r τ => ∃ z : Int, r = some (.int (iz z)) ∧ (-2147483648 ≤ z ∧ z < 2147483648) ∧ (z = lffc σ c) ∧ (-1 ≤ z ∧ z < gI σ 33 33) ∧ (σ = τ)) := by
  refine Ct.enter rfl (Nat.le_of_ble_eq_true rfl) ?_
  intro κ γ hκ O hrc hrs
  subst hκ
  refine z_aload_n (pc := 0) O dX9_lawOf_0 rfl ?_
  refine z_aload_n (pc := 1) O dX9_lawOf_1 rfl ?_
  refine z_getR (pc := 2) 58 O fl_X9_89 rfl (jo_33 J) (jr_33_40 J) dX9_lawOf_2 ?_
  refine z_aload_n (pc := 5) O dX9_lawOf_5 rfl ?_
  refine z_getR (pc := 6) 71 O fl_X9_128 rfl (jo_33 J) (jr_33_56 J) dX9_lawOf_6 ?_
  refine z_iload_n (pc := 9) O dX9_lawOf_9 rfl ?_
  refine zi_ialdv (pc := 10) (c.toNat) (gI σ 71 (c.toNat)) O (ja_71 J) (by omega) (by omega) (by omega) (izg σ 71 (c.toNat)) dX9_lawOf_10 ?_
  have := rgI σ 71 (c.toNat)
  refine zi_ialdv (pc := 11) ((gI σ 71 (c.toNat)).toNat) (gI σ 58 ((gI σ 71 (c.toNat)).toNat)) O (ja_58 J) (by omega) (by omega) (by omega) (izg σ 58 ((gI σ 71 (c.toNat)).toNat)) dX9_lawOf_11 ?_
  have := rgI σ 58 ((gI σ 71 (c.toNat)).toNat)
  refine z_aload_n (pc := 12) O dX9_lawOf_12 rfl ?_
  refine z_getR (pc := 13) 72 O fl_X9_131 rfl (jo_33 J) (jr_33_57 J) dX9_lawOf_13 ?_
  refine z_iload_n (pc := 16) O dX9_lawOf_16 rfl ?_
  refine zi_ialdv (pc := 17) (c.toNat) (gI σ 72 (c.toNat)) O (ja_72 J) (by omega) (by omega) (by omega) (izg σ 72 (c.toNat)) dX9_lawOf_17 ?_
  have := rgI σ 72 (c.toNat)
  refine z_callV (pc := 18) O cl_X9_350 (k9_lawFor _ _ (gI σ 58 ((gI σ 71 (c.toNat)).toNat)) (by omega) (gI σ 72 (c.toNat)) (by omega) J (by omega)) (by decide) (jo_33 J) kc_9 rfl rfl (Nat.le_of_ble_eq_true rfl) ⟨Nat.zero_le _, Nat.zero_le _⟩ dX9_lawOf_18 (fun r τ1 hp => ?_)
  obtain ⟨z2, rfl, fτ1_0, fτ1_1, fτ1_2, rfl⟩ := hp
  refine z_iret (pc := 21) O dX9_lawOf_21 ?_
  exact ⟨z2, rfl, (by omega), (by unfold lffc; omega), (by omega), rfl⟩
set_option maxHeartbeats 4000000 in
set_option maxRecDepth 20000 in
theorem k9_lawOn (l : Launch) (σ : VH) (folk : Int) (rfolk : (-2147483648 ≤ folk ∧ folk < 2147483648)) (day : Int) (rday : (-2147483648 ≤ day ∧ day < 2147483648)) (I : InvM σ) : Ct l yX9_lawOn cX9_lawOn 6 (some .int) 1 0 0 [.ref 33, .int (iz folk), .int (iz day)] σ (fun r τ => ∃ z : Int, r = some (.int (iz z)) ∧ (-2147483648 ≤ z ∧ z < 2147483648) ∧ (Fr [] σ τ) ∧ (InvM τ)) := by
  refine Ct.enter rfl (Nat.le_of_ble_eq_true rfl) ?_
  intro κ γ hκ O hrc hrs
  subst hκ
  have i1 := I.2.1
  unfold InvM1 at i1
  have i2 := I.2.2.1.laws
  have i3 := I.2.2.2.1
  have cut19 : ∀ (best : Int), (-2147483648 ≤ best ∧ best < 2147483648) → (-1 ≤ best ∧ best < 16) → Z κ γ 6 σ 0 0 (QM κ γ (fun r τ => ∃ z : Int, r = some (.int (iz z)) ∧ (-2147483648 ≤ z ∧ z < 2147483648) ∧ (Fr [] σ τ) ∧ (InvM τ)) 0 0) 19 [(0, .ref 33), (1, .int (iz folk)), (2, .int (iz day))] [.int (iz best)] := by
    intro best rr19_0 ff19_0
    refine z_istore_n (pc := 19) [(0, .ref 33), (1, .int (iz folk)), (2, .int (iz day)), (3, .int (iz best))] O dX9_lawOn_19 (by decide) rfl ?_
    refine z_iconst (pc := 20) (v := iz (-1)) O dX9_lawOn_20 (by decide) ?_
    refine z_istore (pc := 21) [(0, .ref 33), (1, .int (iz folk)), (2, .int (iz day)), (3, .int (iz best)), (4, .int (iz (-1)))] O dX9_lawOn_21 (by decide) rfl ?_
    refine z_iconst (pc := 23) (v := iz (0)) O dX9_lawOn_23 (by decide) ?_
    refine z_istore (pc := 24) [(0, .ref 33), (1, .int (iz folk)), (2, .int (iz day)), (3, .int (iz best)), (4, .int (iz (-1))), (5, .int (iz 0))] O dX9_lawOn_24 (by decide) rfl ?_
    have cut26 : ∀ (mu26 : Nat) (n : Int) (k : Int), (mu26 = (16 - k).toNat) → (-2147483648 ≤ n ∧ n < 2147483648) → (-2147483648 ≤ k ∧ k < 2147483648) → (-1 ≤ n ∧ n < k) → (0 ≤ k ∧ k ≤ 16) → (k ≤ best + 1) → Z κ γ 6 σ 0 0 (QM κ γ (fun r τ => ∃ z : Int, r = some (.int (iz z)) ∧ (-2147483648 ≤ z ∧ z < 2147483648) ∧ (Fr [] σ τ) ∧ (InvM τ)) 0 0) 26 [(0, .ref 33), (1, .int (iz folk)), (2, .int (iz day)), (3, .int (iz best)), (4, .int (iz n)), (5, .int (iz k))] [] := by
      intro mu26
      induction mu26 using Nat.strongRecOn with
      | ind mu26 ih26 =>
      intro n k hmu26 rr26_0 rr26_1 ff26_0 ff26_1 ff26_2
      refine z_iload (pc := 26) O dX9_lawOn_26 rfl ?_
      refine z_iload_n (pc := 28) O dX9_lawOn_28 rfl ?_
      refine zi_icmp_gt (pc := 29) (tgt := 59) O dX9_lawOn_29 (by decide) (by omega) (by omega) (fun h29 => ?_) (fun h29 => ?_)
      · refine z_iload (pc := 59) O dX9_lawOn_59 rfl ?_
        refine z_iret (pc := 61) O dX9_lawOn_61 ?_
        exact ⟨n, rfl, (by omega), (Fr.rf [] σ), I⟩
      · refine z_iload (pc := 32) O dX9_lawOn_32 rfl ?_
        refine z_aload_n (pc := 34) O dX9_lawOn_34 rfl ?_
        refine z_getR (pc := 35) 36 O fl_X9_20 rfl (jo_33 I.1) (jr_33_12 I.1) dX9_lawOn_35 ?_
        refine z_iload (pc := 38) O dX9_lawOn_38 rfl ?_
        refine zi_ialdv (pc := 40) (k.toNat) (gI σ 36 (k.toNat)) O (ja_36 I.1) (by omega) (by omega) (by omega) (izg σ 36 (k.toNat)) dX9_lawOn_40 ?_
        have := rgI σ 36 (k.toNat)
        refine z_iload_n (pc := 41) O dX9_lawOn_41 rfl ?_
        refine zi_icmp_ne (pc := 42) (tgt := 49) O dX9_lawOn_42 (by decide) (by omega) (by omega) (fun h42 => ?_) (fun h42 => ?_)
        · refine z_iconst (pc := 49) (v := iz (0)) O dX9_lawOn_49 (by decide) ?_
          refine zi_iadd (pc := 50) O dX9_lawOn_50 ?_
          refine z_istore (pc := 51) [(0, .ref 33), (1, .int (iz folk)), (2, .int (iz day)), (3, .int (iz best)), (4, .int (iz (n + 0))), (5, .int (iz k))] O dX9_lawOn_51 (by decide) rfl ?_
          refine zi_iinc (pc := 53) (k + 1) [(0, .ref 33), (1, .int (iz folk)), (2, .int (iz day)), (3, .int (iz best)), (4, .int (iz (n + 0))), (5, .int (iz (k + 1)))] O dX9_lawOn_53 rfl (by omega) (by decide) rfl ?_
          refine z_goto (pc := 56) (tgt := 26) O dX9_lawOn_56 (by decide) ?_
          refine z_lk [(0, .ref 33), (1, .int (iz folk)), (2, .int (iz day)), (3, .int (iz best)), (4, .int (iz (n + 0))), (5, .int (iz (k + 1)))] ⟨rfl, rfl, rfl, rfl, rfl, rfl, trivial⟩ ?_
          exact ih26 _ (by omega) (n + 0) (k + 1) rfl (by omega) (by omega) (by omega) (by omega) (by omega)
        · refine z_iconst (pc := 45) (v := iz (1)) O dX9_lawOn_45 (by decide) ?_
          refine z_goto (pc := 46) (tgt := 50) O dX9_lawOn_46 (by decide) ?_
          refine zi_iadd (pc := 50) O dX9_lawOn_50 ?_
          refine z_istore (pc := 51) [(0, .ref 33), (1, .int (iz folk)), (2, .int (iz day)), (3, .int (iz best)), (4, .int (iz (n + 1))), (5, .int (iz k))] O dX9_lawOn_51 (by decide) rfl ?_
          refine zi_iinc (pc := 53) (k + 1) [(0, .ref 33), (1, .int (iz folk)), (2, .int (iz day)), (3, .int (iz best)), (4, .int (iz (n + 1))), (5, .int (iz (k + 1)))] O dX9_lawOn_53 rfl (by omega) (by decide) rfl ?_
          refine z_goto (pc := 56) (tgt := 26) O dX9_lawOn_56 (by decide) ?_
          refine z_lk [(0, .ref 33), (1, .int (iz folk)), (2, .int (iz day)), (3, .int (iz best)), (4, .int (iz (n + 1))), (5, .int (iz (k + 1)))] ⟨rfl, rfl, rfl, rfl, rfl, rfl, trivial⟩ ?_
          exact ih26 _ (by omega) (n + 1) (k + 1) rfl (by omega) (by omega) (by omega) (by omega) (by omega)
    refine z_lk [(0, .ref 33), (1, .int (iz folk)), (2, .int (iz day)), (3, .int (iz best)), (4, .int (iz (-1))), (5, .int (iz 0))] ⟨rfl, rfl, rfl, rfl, rfl, rfl, trivial⟩ ?_
    exact cut26 _ (-1) 0 rfl (by omega) (by omega) (by omega) (by omega) (by omega)
  refine z_iload_n (pc := 0) O dX9_lawOn_0 rfl ?_
  refine zi_if_lt (pc := 1) (tgt := 9) O dX9_lawOn_1 (by decide) (by omega) (fun h1 => ?_) (fun h1 => ?_)
  · refine z_iconst (pc := 9) (v := iz (-1)) O dX9_lawOn_9 (by decide) ?_
    refine z_goto (pc := 10) (tgt := 19) O dX9_lawOn_10 (by decide) ?_
    refine z_lk [(0, .ref 33), (1, .int (iz folk)), (2, .int (iz day))] ⟨rfl, rfl, rfl, trivial⟩ ?_
    exact cut19 (-1) (by omega) (by omega)
  · refine z_iload_n (pc := 4) O dX9_lawOn_4 rfl ?_
    refine z_iconst (pc := 5) (v := iz (4)) O dX9_lawOn_5 (by decide) ?_
    refine zi_icmp_lt (pc := 6) (tgt := 13) O dX9_lawOn_6 (by decide) (by omega) (by decide) (fun h6 => ?_) (fun h6 => ?_)
    · refine z_aload_n (pc := 13) O dX9_lawOn_13 rfl ?_
      refine z_iload_n (pc := 14) O dX9_lawOn_14 rfl ?_
      refine z_iload_n (pc := 15) O dX9_lawOn_15 rfl ?_
      refine z_callV (pc := 16) O cl_X9_350 (k9_lawFor _ _ folk (by omega) day (by omega) I.1 (by omega)) (by decide) (jo_33 I.1) kc_9 rfl rfl (Nat.le_of_ble_eq_true rfl) ⟨Nat.zero_le _, Nat.zero_le _⟩ dX9_lawOn_16 (fun r τ1 hp => ?_)
      obtain ⟨z2, rfl, fτ1_0, fτ1_1, fτ1_2, rfl⟩ := hp
      refine z_lk [(0, .ref 33), (1, .int (iz folk)), (2, .int (iz day))] ⟨rfl, rfl, rfl, trivial⟩ ?_
      exact cut19 z2 (by omega) (by omega)
    · refine z_iconst (pc := 9) (v := iz (-1)) O dX9_lawOn_9 (by decide) ?_
      refine z_goto (pc := 10) (tgt := 19) O dX9_lawOn_10 (by decide) ?_
      refine z_lk [(0, .ref 33), (1, .int (iz folk)), (2, .int (iz day))] ⟨rfl, rfl, rfl, trivial⟩ ?_
      exact cut19 (-1) (by omega) (by omega)
