set_option maxHeartbeats 4000000 in
set_option maxRecDepth 20000 in
theorem k8_placeIn (l : Launch) (σ : VH) (q : Nat) (v : Int64) (len : Nat) (hq : ArL σ q len) (hl : len < 2147483648) : Ct l yX8_placeIn cX8_placeIn 4 (some .int) 0 0 0 [.ref q, .long v] σ (fun r τ => ∃ z : Int, r = some (.int (iz z)) ∧ (-2147483648 ≤ z ∧ z < 2147483648) ∧ (-1 ≤ z ∧ z < (len : Int)) ∧ (σ = τ)) := by
  refine Ct.enter rfl (Nat.le_of_ble_eq_true rfl) ?_
  intro κ γ hκ O hrc hrs
  subst hκ
  refine z_iconst (pc := 0) (v := iz (0)) O dX8_placeIn_0 (by decide) ?_
  refine z_istore_n (pc := 1) [(0, .ref q), (1, .long v), (3, .int (iz 0))] O dX8_placeIn_1 (by decide) rfl ?_
  have cut2 : ∀ (mu2 : Nat) (k : Int), (mu2 = ((len : Int) - k).toNat) → (-2147483648 ≤ k ∧ k < 2147483648) → (0 ≤ k ∧ k ≤ (len : Int)) → Z κ γ 4 σ 0 0 (QM κ γ (fun r τ => ∃ z : Int, r = some (.int (iz z)) ∧ (-2147483648 ≤ z ∧ z < 2147483648) ∧ (-1 ≤ z ∧ z < (len : Int)) ∧ (σ = τ)) 0 0) 2 [(0, .ref q), (1, .long v), (3, .int (iz k))] [] := by
    intro mu2
    induction mu2 using Nat.strongRecOn with
    | ind mu2 ih2 =>
    intro k hmu2 rr2_0 ff2_0
    refine z_iload_n (pc := 2) O dX8_placeIn_2 rfl ?_
    refine z_aload_n (pc := 3) O dX8_placeIn_3 rfl ?_
    refine z_alenL (pc := 4) (n := iz (len : Int)) O hq (iz_nI rfl).symm dX8_placeIn_4 ?_
    refine zi_icmp_ge (pc := 5) (tgt := 24) O dX8_placeIn_5 (by decide) (by omega) (by omega) (fun h5 => ?_) (fun h5 => ?_)
    · refine z_iconst (pc := 24) (v := iz (-1)) O dX8_placeIn_24 (by decide) ?_
      refine z_iret (pc := 25) O dX8_placeIn_25 ?_
      exact ⟨(-1), rfl, (by decide), (by omega), rfl⟩
    · refine z_aload_n (pc := 8) O dX8_placeIn_8 rfl ?_
      refine z_iload_n (pc := 9) O dX8_placeIn_9 rfl ?_
      refine zi_lald (pc := 10) (k.toNat) O hq (by omega) (by omega) (by omega) dX8_placeIn_10 ?_
      refine z_lload_n (pc := 11) O dX8_placeIn_11 rfl ?_
      refine z_lcmp (pc := 12) O dX8_placeIn_12 ?_
      refine zi_lc_ne (pc := 13) (tgt := 18) O dX8_placeIn_13 (by decide) (fun h13 => ?_) (fun h13 => ?_)
      · refine zi_iinc (pc := 18) (k + 1) [(0, .ref q), (1, .long v), (3, .int (iz (k + 1)))] O dX8_placeIn_18 rfl (by omega) (by decide) rfl ?_
        refine z_goto (pc := 21) (tgt := 2) O dX8_placeIn_21 (by decide) ?_
        refine z_lk [(0, .ref q), (1, .long v), (3, .int (iz (k + 1)))] ⟨rfl, rfl, rfl, trivial⟩ ?_
        exact ih2 _ (by omega) (k + 1) rfl (by omega) (by omega)
      · refine z_iload_n (pc := 16) O dX8_placeIn_16 rfl ?_
        refine z_iret (pc := 17) O dX8_placeIn_17 ?_
        exact ⟨k, rfl, (by omega), (by omega), rfl⟩
  refine z_lk [(0, .ref q), (1, .long v), (3, .int (iz 0))] ⟨rfl, rfl, rfl, trivial⟩ ?_
  exact cut2 _ 0 rfl (by omega) (by omega)
set_option maxHeartbeats 4000000 in
set_option maxRecDepth 20000 in
theorem k8_isName (l : Launch) (σ : VH) (v : Int64) : Ct l yX8_isName cX8_isName 5 (some .boolean) 1 0 0 [.long v] σ (fun r τ => ∃ z : Int, r = some (.int (iz z)) ∧ (z = 0 ∨ z = 1) ∧ (σ = τ)) := by
  refine Ct.enter rfl (Nat.le_of_ble_eq_true rfl) ?_
  intro κ γ hκ O hrc hrs
  subst hκ
  refine z_iconst (pc := 0) (v := iz (0)) O dX8_isName_0 (by decide) ?_
  refine z_istore_n (pc := 1) [(0, .long v), (2, .int (iz 0))] O dX8_isName_1 (by decide) rfl ?_
  refine z_bipush (pc := 2) (v := iz (56)) O dX8_isName_2 (by decide) ?_
  refine z_istore_n (pc := 4) [(0, .long v), (2, .int (iz 0)), (3, .int (iz 56))] O dX8_isName_4 (by decide) rfl ?_
  have cut5 : ∀ (mu5 : Nat) (n : Int) (k : Int), (mu5 = (k + 8).toNat) → (-2147483648 ≤ n ∧ n < 2147483648) → (-2147483648 ≤ k ∧ k < 2147483648) → (0 ≤ n ∧ 8 * n ≤ 56 - k) → (-8 ≤ k ∧ k ≤ 56) → Z κ γ 5 σ 0 0 (QM κ γ (fun r τ => ∃ z : Int, r = some (.int (iz z)) ∧ (z = 0 ∨ z = 1) ∧ (σ = τ)) 0 0) 5 [(0, .long v), (2, .int (iz n)), (3, .int (iz k))] [] := by
    intro mu5
    induction mu5 using Nat.strongRecOn with
    | ind mu5 ih5 =>
    intro n k hmu5 rr5_0 rr5_1 ff5_0 ff5_1
    refine z_iload_n (pc := 5) O dX8_isName_5 rfl ?_
    refine zi_if_lt (pc := 6) (tgt := 50) O dX8_isName_6 (by decide) (by omega) (fun h6 => ?_) (fun h6 => ?_)
    · refine z_iload_n (pc := 50) O dX8_isName_50 rfl ?_
      refine zi_if_le (pc := 51) (tgt := 69) O dX8_isName_51 (by decide) (by omega) (fun h51 => ?_) (fun h51 => ?_)
      · refine z_iconst (pc := 69) (v := iz (0)) O dX8_isName_69 (by decide) ?_
        refine z_zret (pc := 70) O dX8_isName_70 rfl ?_
        exact ⟨0, rfl, (by decide), rfl⟩
      · refine z_getsN (pc := 54) O tw_388 dX8_isName_54 ?_
        refine z_lload_n (pc := 57) O dX8_isName_57 rfl ?_
        refine z_callS (pc := 58) O cl_X8_233 (k8_placeIn _ _ 0 v 21 (Or.inr (Or.inl ⟨rfl, rfl⟩)) (by decide)) (by decide) rfl rfl (Nat.le_of_ble_eq_true rfl) ⟨Nat.zero_le _, Nat.zero_le _⟩ dX8_isName_58 (fun r τ1 hp => ?_)
        obtain ⟨z2, rfl, fτ1_0, fτ1_1, rfl⟩ := hp
        refine z_iconst (pc := 61) (v := iz (-1)) O dX8_isName_61 (by decide) ?_
        refine zi_icmp_ne (pc := 62) (tgt := 69) O dX8_isName_62 (by decide) (by omega) (by decide) (fun h62 => ?_) (fun h62 => ?_)
        · refine z_iconst (pc := 69) (v := iz (0)) O dX8_isName_69 (by decide) ?_
          refine z_zret (pc := 70) O dX8_isName_70 rfl ?_
          exact ⟨0, rfl, (by decide), rfl⟩
        · refine z_iconst (pc := 65) (v := iz (1)) O dX8_isName_65 (by decide) ?_
          refine z_goto (pc := 66) (tgt := 70) O dX8_isName_66 (by decide) ?_
          refine z_zret (pc := 70) O dX8_isName_70 rfl ?_
          exact ⟨1, rfl, (by decide), rfl⟩
    · refine z_lload_n (pc := 9) O dX8_isName_9 rfl ?_
      refine z_iload_n (pc := 10) O dX8_isName_10 rfl ?_
      refine z_lushr (pc := 11) O dX8_isName_11 ?_
      refine z_topl (pc := 12) (fun w3 ew3 => ?_)
      refine z_ldc2 (pc := 12) O tw_386 dX8_isName_12 ?_
      refine z_land (pc := 15) O dX8_isName_15 ?_
      refine z_topl (pc := 16) (fun w4 ew4 => ?_)
      refine z_l2i (pc := 16) O dX8_isName_16 ?_
      refine zi_any (fun z5 rz5 ez5 => ?_)
      refine z_istore (pc := 17) [(0, .long v), (2, .int (iz n)), (3, .int (iz k)), (4, .int (iz z5))] O dX8_isName_17 (by decide) rfl ?_
      refine z_iload (pc := 19) O dX8_isName_19 rfl ?_
      refine z_callS (pc := 21) O cl_X8_226 (k8_isLetter _ _ z5 (by omega)) (by decide) rfl rfl (Nat.le_of_ble_eq_true rfl) ⟨Nat.zero_le _, Nat.zero_le _⟩ dX8_isName_21 (fun r τ6 hp => ?_)
      obtain ⟨z7, rfl, fτ6_0, fτ6_1, rfl⟩ := hp
      refine zi_if_eq (pc := 24) (tgt := 33) O dX8_isName_24 (by decide) (by omega) (fun h24 => ?_) (fun h24 => ?_)
      · refine z_iload (pc := 33) O dX8_isName_33 rfl ?_
        refine zi_if_ne (pc := 35) (tgt := 42) O dX8_isName_35 (by decide) (by omega) (fun h35 => ?_) (fun h35 => ?_)
        · refine z_iconst (pc := 42) (v := iz (0)) O dX8_isName_42 (by decide) ?_
          refine z_zret (pc := 43) O dX8_isName_43 rfl ?_
          exact ⟨0, rfl, (by decide), rfl⟩
        · refine z_iload_n (pc := 38) O dX8_isName_38 rfl ?_
          refine zi_if_le (pc := 39) (tgt := 44) O dX8_isName_39 (by decide) (by omega) (fun h39 => ?_) (fun h39 => ?_)
          · refine zi_iinc (pc := 44) (k - 8) [(0, .long v), (2, .int (iz n)), (3, .int (iz (k - 8))), (4, .int (iz z5))] O dX8_isName_44 rfl (by omega) (by decide) rfl ?_
            refine z_goto (pc := 47) (tgt := 5) O dX8_isName_47 (by decide) ?_
            refine z_lk [(0, .long v), (2, .int (iz n)), (3, .int (iz (k - 8)))] ⟨rfl, rfl, rfl, trivial⟩ ?_
            exact ih5 _ (by omega) n (k - 8) rfl (by omega) (by omega) (by omega) (by omega)
          · refine z_iconst (pc := 42) (v := iz (0)) O dX8_isName_42 (by decide) ?_
            refine z_zret (pc := 43) O dX8_isName_43 rfl ?_
            exact ⟨0, rfl, (by decide), rfl⟩
      · refine zi_iinc (pc := 27) (n + 1) [(0, .long v), (2, .int (iz (n + 1))), (3, .int (iz k)), (4, .int (iz z5))] O dX8_isName_27 rfl (by omega) (by decide) rfl ?_
        refine z_goto (pc := 30) (tgt := 44) O dX8_isName_30 (by decide) ?_
        refine zi_iinc (pc := 44) (k - 8) [(0, .long v), (2, .int (iz (n + 1))), (3, .int (iz (k - 8))), (4, .int (iz z5))] O dX8_isName_44 rfl (by omega) (by decide) rfl ?_
        refine z_goto (pc := 47) (tgt := 5) O dX8_isName_47 (by decide) ?_
        refine z_lk [(0, .long v), (2, .int (iz (n + 1))), (3, .int (iz (k - 8)))] ⟨rfl, rfl, rfl, trivial⟩ ?_
        exact ih5 _ (by omega) (n + 1) (k - 8) rfl (by omega) (by omega) (by omega) (by omega)
  refine z_lk [(0, .long v), (2, .int (iz 0)), (3, .int (iz 56))] ⟨rfl, rfl, rfl, trivial⟩ ?_
  exact cut5 _ 0 56 rfl (by omega) (by omega) (by omega) (by omega)
set_option maxHeartbeats 4000000 in
set_option maxRecDepth 20000 in
theorem k8_sumAsKnown (l : Launch) (σ : VH) (a : Nat) (y : Int) (ry : (-2147483648 ≤ y ∧ y < 2147483648)) (I : InvX σ) (ha : CaseOK σ a) : Ct l yX8_sumAsKnown cX8_sumAsKnown 5 (some .int) 5 0 0 [.ref 2, .ref a, .int (iz y)] σ (fun r τ => ∃ z : Int, r = some (.int (iz z)) ∧ (-2147483648 ≤ z ∧ z < 2147483648) ∧ (Fr [(14, 99999), (32, 99999)] σ τ)) := by
  refine Ct.enter rfl (Nat.le_of_ble_eq_true rfl) ?_
  intro κ γ hκ O hrc hrs
  subst hκ
  have i1 := I.2.1
  unfold InvX1 at i1
  refine z_aload_n (pc := 0) O dX8_sumAsKnown_0 rfl ?_
  refine z_aload_n (pc := 1) O dX8_sumAsKnown_1 rfl ?_
  refine z_callV (pc := 2) O cl_X8_172 (k8_lawOfCase _ _ a I ha) (by decide) (jo_2 I.1) kc_8 rfl rfl (Nat.le_of_ble_eq_true rfl) ⟨Nat.zero_le _, Nat.zero_le _⟩ dX8_sumAsKnown_2 (fun r τ1 hp => ?_)
  obtain ⟨rfl, hq⟩ := hp
  rcases hq with rfl | ⟨o2, rfl, ho2⟩
  · refine z_astore_nN (pc := 5) [(0, .ref 2), (1, .ref a), (2, .int (iz y)), (3, .null)] O dX8_sumAsKnown_5 (by decide) rfl ?_
    refine z_aload_nN (pc := 6) O dX8_sumAsKnown_6 rfl ?_
    refine z_ifnonnullN (pc := 7) O dX8_sumAsKnown_7 ?_
    refine z_iconst (pc := 10) (v := iz (-1)) O dX8_sumAsKnown_10 (by decide) ?_
    refine z_iret (pc := 11) O dX8_sumAsKnown_11 ?_
    exact ⟨(-1), rfl, (by decide), (Fr.rf [(14, 99999), (32, 99999)] σ)⟩
  · have := ho2.1
    refine z_astore_n (pc := 5) [(0, .ref 2), (1, .ref a), (2, .int (iz y)), (3, .ref o2)] O dX8_sumAsKnown_5 (by decide) rfl ?_
    refine z_aload_n (pc := 6) O dX8_sumAsKnown_6 rfl ?_
    refine z_ifnonnull (pc := 7) (tgt := 12) O dX8_sumAsKnown_7 (by decide) ?_
    refine z_aload_n (pc := 12) O dX8_sumAsKnown_12 rfl ?_
    refine z_getR (pc := 13) (o2 + 1) O fl_X8_248 rfl (ho2).is (ho2).2.2.1.1 dX8_sumAsKnown_13 ?_
    refine z_aload_n (pc := 16) O dX8_sumAsKnown_16 rfl ?_
    refine zi_getLv (pc := 17) (hL σ a 2) O fl_X8_251 rfl (ha).is rfl dX8_sumAsKnown_17 ?_
    refine z_callS (pc := 20) O cl_X8_233 (k8_placeIn _ _ (o2 + 1) (hL σ a 2) 12 (Or.inl (ho2).2.2.2.1.1) (by decide)) (by decide) rfl rfl (Nat.le_of_ble_eq_true rfl) ⟨Nat.zero_le _, Nat.zero_le _⟩ dX8_sumAsKnown_20 (fun r τ3 hp => ?_)
    obtain ⟨z4, rfl, fτ3_0, fτ3_1, rfl⟩ := hp
    refine z_istore (pc := 23) [(0, .ref 2), (1, .ref a), (2, .int (iz y)), (3, .ref o2), (4, .int (iz z4))] O dX8_sumAsKnown_23 (by decide) rfl ?_
    refine z_iload (pc := 25) O dX8_sumAsKnown_25 rfl ?_
    refine z_iconst (pc := 27) (v := iz (-1)) O dX8_sumAsKnown_27 (by decide) ?_
    refine zi_icmp_ne (pc := 28) (tgt := 33) O dX8_sumAsKnown_28 (by decide) (by omega) (by decide) (fun h28 => ?_) (fun h28 => ?_)
    · refine z_aload_n (pc := 33) O dX8_sumAsKnown_33 rfl ?_
      refine zi_getv (pc := 34) (gI σ a 6) O fl_X8_166 rfl (ha).is (izg _ a 6) dX8_sumAsKnown_34 ?_
      have := rgI σ a 6
      refine z_iconst (pc := 37) (v := iz (-1)) O dX8_sumAsKnown_37 (by decide) ?_
      refine zi_icmp_eq (pc := 38) (tgt := 51) O dX8_sumAsKnown_38 (by decide) (by omega) (by decide) (fun h38 => ?_) (fun h38 => ?_)
      · refine z_aload_n (pc := 51) O dX8_sumAsKnown_51 rfl ?_
        refine z_aload_n (pc := 52) O dX8_sumAsKnown_52 rfl ?_
        refine z_iload_n (pc := 53) O dX8_sumAsKnown_53 rfl ?_
        refine z_callV (pc := 54) O cl_X8_255 (k8_gatherFacts _ _ a y (by omega) I.1 (by omega) (by omega) (by omega) ha) (by decide) (jo_2 I.1) kc_8 rfl rfl (Nat.le_of_ble_eq_true rfl) ⟨Nat.zero_le _, Nat.zero_le _⟩ dX8_sumAsKnown_54 (fun r τ5 hp => ?_)
        obtain ⟨rfl, frτ5⟩ := hp
        refine z_aload_n (pc := 57) O dX8_sumAsKnown_57 rfl ?_
        refine z_iload (pc := 58) O dX8_sumAsKnown_58 rfl ?_
        refine z_aload_n (pc := 60) O dX8_sumAsKnown_60 rfl ?_
        refine z_getR (pc := 61) 32 O fl_X8_71 rfl (jo_2 (frτ5.lay I.1)) (jr_2_16 (frτ5.lay I.1)) dX8_sumAsKnown_61 ?_
        refine z_callV (pc := 64) O cl_X8_259 (k1_priceOf _ _ o2 z4 (by omega) (frτ5.lay I.1) (LawOK.fr frτ5 ho2)) (by decide) ((LawOK.fr frτ5 ho2)).is kc_1 rfl rfl (Nat.le_of_ble_eq_true rfl) ⟨Nat.zero_le _, Nat.zero_le _⟩ dX8_sumAsKnown_64 (fun r τ7 hp => ?_)
        obtain ⟨z8, rfl, fτ7_0, frτ7⟩ := hp
        refine z_iret (pc := 67) O dX8_sumAsKnown_67 ?_
        exact ⟨z8, rfl, (by omega), (frτ5.tr (frτ7.mono (V := [(14, 99999), (32, 99999)]) rfl))⟩
      · refine z_iload_n (pc := 41) O dX8_sumAsKnown_41 rfl ?_
        refine z_aload_n (pc := 42) O dX8_sumAsKnown_42 rfl ?_
        refine zi_getv (pc := 43) (gI σ a 6) O fl_X8_166 rfl (ha).is (izg _ a 6) dX8_sumAsKnown_43 ?_
        refine zi_icmp_lt (pc := 46) (tgt := 51) O dX8_sumAsKnown_46 (by decide) (by omega) (by omega) (fun h46 => ?_) (fun h46 => ?_)
        · refine z_aload_n (pc := 51) O dX8_sumAsKnown_51 rfl ?_
          refine z_aload_n (pc := 52) O dX8_sumAsKnown_52 rfl ?_
          refine z_iload_n (pc := 53) O dX8_sumAsKnown_53 rfl ?_
          refine z_callV (pc := 54) O cl_X8_255 (k8_gatherFacts _ _ a y (by omega) I.1 (by omega) (by omega) (by omega) ha) (by decide) (jo_2 I.1) kc_8 rfl rfl (Nat.le_of_ble_eq_true rfl) ⟨Nat.zero_le _, Nat.zero_le _⟩ dX8_sumAsKnown_54 (fun r τ9 hp => ?_)
          obtain ⟨rfl, frτ9⟩ := hp
          refine z_aload_n (pc := 57) O dX8_sumAsKnown_57 rfl ?_
          refine z_iload (pc := 58) O dX8_sumAsKnown_58 rfl ?_
          refine z_aload_n (pc := 60) O dX8_sumAsKnown_60 rfl ?_
          refine z_getR (pc := 61) 32 O fl_X8_71 rfl (jo_2 (frτ9.lay I.1)) (jr_2_16 (frτ9.lay I.1)) dX8_sumAsKnown_61 ?_
          refine z_callV (pc := 64) O cl_X8_259 (k1_priceOf _ _ o2 z4 (by omega) (frτ9.lay I.1) (LawOK.fr frτ9 ho2)) (by decide) ((LawOK.fr frτ9 ho2)).is kc_1 rfl rfl (Nat.le_of_ble_eq_true rfl) ⟨Nat.zero_le _, Nat.zero_le _⟩ dX8_sumAsKnown_64 (fun r τ11 hp => ?_)
          obtain ⟨z12, rfl, fτ11_0, frτ11⟩ := hp
          refine z_iret (pc := 67) O dX8_sumAsKnown_67 ?_
          exact ⟨z12, rfl, (by omega), (frτ9.tr (frτ11.mono (V := [(14, 99999), (32, 99999)]) rfl))⟩
        · refine z_iconst (pc := 49) (v := iz (0)) O dX8_sumAsKnown_49 (by decide) ?_
          refine z_iret (pc := 50) O dX8_sumAsKnown_50 ?_
          exact ⟨0, rfl, (by decide), (Fr.rf [(14, 99999), (32, 99999)] σ)⟩
    · refine z_iconst (pc := 31) (v := iz (-1)) O dX8_sumAsKnown_31 (by decide) ?_
      refine z_iret (pc := 32) O dX8_sumAsKnown_32 ?_
      exact ⟨(-1), rfl, (by decide), (Fr.rf [(14, 99999), (32, 99999)] σ)⟩
set_option maxHeartbeats 4000000 in
set_option maxRecDepth 20000 in
theorem k8_maySwear (l : Launch) (σ : VH) (a : Nat) (h : Nat) (p : Int) (rp : (-2147483648 ≤ p ∧ p < 2147483648)) (J : Lay σ) (hpe : 0 ≤ gI σ 9 7 ∧ gI σ 9 7 ≤ 20) (hto : 0 ≤ gI σ 16 4 ∧ gI σ 16 4 ≤ 60) (ha : CaseOK σ a) (hh : LawOK σ h) : Ct l yX8_maySwear cX8_maySwear 4 (some .boolean) 2 0 0 [.ref 2, .ref a, .ref h, .int (iz p)] σ (fun r τ => ∃ z : Int, r = some (.int (iz z)) ∧ (z = 0 ∨ z = 1) ∧ (σ = τ)) := by
  refine Ct.enter rfl (Nat.le_of_ble_eq_true rfl) ?_
  intro κ γ hκ O hrc hrs
  subst hκ
  refine z_aload_n (pc := 0) O dX8_maySwear_0 rfl ?_
  refine z_getR (pc := 1) 9 O fl_X8_37 rfl (jo_2 J) (jr_2_8 J) dX8_maySwear_1 ?_
  refine z_iload_n (pc := 4) O dX8_maySwear_4 rfl ?_
  refine z_callV (pc := 5) O cl_X8_130 (k3_isThere _ _ p (by omega) J) (by decide) (jo_9 J) kc_3 rfl rfl (Nat.le_of_ble_eq_true rfl) ⟨Nat.zero_le _, Nat.zero_le _⟩ dX8_maySwear_5 (fun r τ1 hp => ?_)
  obtain ⟨z2, rfl, fτ1_0, fτ1_1, rfl⟩ := hp
  refine zi_if_eq (pc := 8) (tgt := 82) O dX8_maySwear_8 (by decide) (by omega) (fun h8 => ?_) (fun h8 => ?_)
  · refine z_iconst (pc := 82) (v := iz (0)) O dX8_maySwear_82 (by decide) ?_
    refine z_zret (pc := 83) O dX8_maySwear_83 rfl ?_
    exact ⟨0, rfl, (by decide), rfl⟩
  · refine z_iload_n (pc := 11) O dX8_maySwear_11 rfl ?_
    refine z_aload_n (pc := 12) O dX8_maySwear_12 rfl ?_
    refine zi_getv (pc := 13) (gI σ a 0) O fl_X8_180 rfl (ha).is (izg _ a 0) dX8_maySwear_13 ?_
    have := rgI σ a 0
    refine zi_icmp_eq (pc := 16) (tgt := 82) O dX8_maySwear_16 (by decide) (by omega) (by omega) (fun h16 => ?_) (fun h16 => ?_)
    · refine z_iconst (pc := 82) (v := iz (0)) O dX8_maySwear_82 (by decide) ?_
      refine z_zret (pc := 83) O dX8_maySwear_83 rfl ?_
      exact ⟨0, rfl, (by decide), rfl⟩
    · refine z_iload_n (pc := 19) O dX8_maySwear_19 rfl ?_
      refine z_aload_n (pc := 20) O dX8_maySwear_20 rfl ?_
      refine zi_getv (pc := 21) (gI σ a 1) O fl_X8_183 rfl (ha).is (izg _ a 1) dX8_maySwear_21 ?_
      have := rgI σ a 1
      refine zi_icmp_eq (pc := 24) (tgt := 82) O dX8_maySwear_24 (by decide) (by omega) (by omega) (fun h24 => ?_) (fun h24 => ?_)
      · refine z_iconst (pc := 82) (v := iz (0)) O dX8_maySwear_82 (by decide) ?_
        refine z_zret (pc := 83) O dX8_maySwear_83 rfl ?_
        exact ⟨0, rfl, (by decide), rfl⟩
      · refine z_aload_n (pc := 27) O dX8_maySwear_27 rfl ?_
        refine z_getR (pc := 28) 9 O fl_X8_37 rfl (jo_2 J) (jr_2_8 J) dX8_maySwear_28 ?_
        refine z_iload_n (pc := 31) O dX8_maySwear_31 rfl ?_
        refine z_aload_n (pc := 32) O dX8_maySwear_32 rfl ?_
        refine zi_getv (pc := 33) (gI σ 2 7) O fl_X8_133 rfl (jo_2 J) (izg σ 2 7) dX8_maySwear_33 ?_
        have := rgI σ 2 7
        refine z_callV (pc := 36) O cl_X8_284 (k3_deadOn _ _ p (by omega) (gI σ 2 7) (by omega) J (by omega)) (by decide) (jo_9 J) kc_3 rfl rfl (Nat.le_of_ble_eq_true rfl) ⟨Nat.zero_le _, Nat.zero_le _⟩ dX8_maySwear_36 (fun r τ3 hp => ?_)
        obtain ⟨z4, rfl, fτ3_0, rfl⟩ := hp
        refine zi_if_ne (pc := 39) (tgt := 82) O dX8_maySwear_39 (by decide) (by omega) (fun h39 => ?_) (fun h39 => ?_)
        · refine z_iconst (pc := 82) (v := iz (0)) O dX8_maySwear_82 (by decide) ?_
          refine z_zret (pc := 83) O dX8_maySwear_83 rfl ?_
          exact ⟨0, rfl, (by decide), rfl⟩
        · refine z_aload_n (pc := 42) O dX8_maySwear_42 rfl ?_
          refine z_getR (pc := 43) 9 O fl_X8_37 rfl (jo_2 J) (jr_2_8 J) dX8_maySwear_43 ?_
          refine z_getR (pc := 46) 14 O fl_X8_287 rfl (jo_9 J) (jr_9_4 J) dX8_maySwear_46 ?_
          refine z_iload_n (pc := 49) O dX8_maySwear_49 rfl ?_
          refine zi_ialdv (pc := 50) (p.toNat) (gI σ 14 (p.toNat)) O (ja_14 J) (by omega) (by omega) (by omega) (izg σ 14 (p.toNat)) dX8_maySwear_50 ?_
          have := rgI σ 14 (p.toNat)
          refine z_iconst (pc := 51) (v := iz (1)) O dX8_maySwear_51 (by decide) ?_
          refine zi_icmp_eq (pc := 52) (tgt := 82) O dX8_maySwear_52 (by decide) (by omega) (by decide) (fun h52 => ?_) (fun h52 => ?_)
          · refine z_iconst (pc := 82) (v := iz (0)) O dX8_maySwear_82 (by decide) ?_
            refine z_zret (pc := 83) O dX8_maySwear_83 rfl ?_
            exact ⟨0, rfl, (by decide), rfl⟩
          · refine z_aload_n (pc := 55) O dX8_maySwear_55 rfl ?_
            refine z_getR (pc := 56) 16 O fl_X8_44 rfl (jo_2 J) (jr_2_9 J) dX8_maySwear_56 ?_
            refine z_iload_n (pc := 59) O dX8_maySwear_59 rfl ?_
            refine z_aload_n (pc := 60) O dX8_maySwear_60 rfl ?_
            refine zi_getv (pc := 61) (gI σ 2 7) O fl_X8_133 rfl (jo_2 J) (izg σ 2 7) dX8_maySwear_61 ?_
            refine z_aload_n (pc := 64) O dX8_maySwear_64 rfl ?_
            refine zi_getv (pc := 65) (gI σ 2 7) O fl_X8_133 rfl (jo_2 J) (izg σ 2 7) dX8_maySwear_65 ?_
            refine z_callV (pc := 68) O cl_X8_139 (k6_rankAsKnown _ _ p (by omega) (gI σ 2 7) (by omega) (gI σ 2 7) (by omega) J (by omega)) (by decide) (jo_16 J) kc_6 rfl rfl (Nat.le_of_ble_eq_true rfl) ⟨Nat.zero_le _, Nat.zero_le _⟩ dX8_maySwear_68 (fun r τ5 hp => ?_)
            obtain ⟨z6, rfl, fτ5_0, rfl⟩ := hp
            refine z_aload_n (pc := 71) O dX8_maySwear_71 rfl ?_
            refine zi_getv (pc := 72) (gI σ h 6) O fl_X8_290 rfl (hh).is (izg _ h 6) dX8_maySwear_72 ?_
            have := rgI σ h 6
            refine zi_icmp_lt (pc := 75) (tgt := 82) O dX8_maySwear_75 (by decide) (by omega) (by omega) (fun h75 => ?_) (fun h75 => ?_)
            · refine z_iconst (pc := 82) (v := iz (0)) O dX8_maySwear_82 (by decide) ?_
              refine z_zret (pc := 83) O dX8_maySwear_83 rfl ?_
              exact ⟨0, rfl, (by decide), rfl⟩
            · refine z_iconst (pc := 78) (v := iz (1)) O dX8_maySwear_78 (by decide) ?_
              refine z_goto (pc := 79) (tgt := 83) O dX8_maySwear_79 (by decide) ?_
              refine z_zret (pc := 83) O dX8_maySwear_83 rfl ?_
              exact ⟨1, rfl, (by decide), rfl⟩
set_option maxHeartbeats 4000000 in
set_option maxRecDepth 20000 in
theorem k8_oathStands (l : Launch) (σ : VH) (a : Nat) (h : Nat) (e : Int) (re : (-2147483648 ≤ e ∧ e < 2147483648)) (J : Lay σ) (hpe : 0 ≤ gI σ 9 7 ∧ gI σ 9 7 ≤ 20) (hto : 0 ≤ gI σ 16 4 ∧ gI σ 16 4 ≤ 60) (ha : CaseOK σ a) (hh : LawOK σ h) : Ct l yX8_oathStands cX8_oathStands 5 (some .boolean) 3 0 0 [.ref 2, .ref a, .ref h, .int (iz e)] σ (fun r τ => ∃ z : Int, r = some (.int (iz z)) ∧ (z = 0 ∨ z = 1) ∧ (Fr [(14, 99999)] σ τ)) := by
  refine Ct.enter rfl (Nat.le_of_ble_eq_true rfl) ?_
  intro κ γ hκ O hrc hrs
  subst hκ
  refine z_iload_n (pc := 0) O dX8_oathStands_0 rfl ?_
  refine z_callS (pc := 1) O cl_X8_270 (kJ_bitCount _ _ e (by omega)) (by decide) rfl rfl (Nat.le_of_ble_eq_true rfl) ⟨Nat.zero_le _, Nat.zero_le _⟩ dX8_oathStands_1 (fun r τ1 hp => ?_)
  obtain ⟨z2, rfl, fτ1_0, rfl⟩ := hp
  refine z_aload_n (pc := 4) O dX8_oathStands_4 rfl ?_
  refine zi_getv (pc := 5) (gI σ h 5) O fl_X8_275 rfl (hh).is (izg _ h 5) dX8_oathStands_5 ?_
  have := rgI σ h 5
  refine zi_icmp_ge (pc := 8) (tgt := 13) O dX8_oathStands_8 (by decide) (by omega) (by omega) (fun h8 => ?_) (fun h8 => ?_)
  · refine z_aload_n (pc := 13) O dX8_oathStands_13 rfl ?_
    refine z_getR (pc := 14) 9 O fl_X8_37 rfl (jo_2 J) (jr_2_8 J) dX8_oathStands_14 ?_
    refine z_aload_n (pc := 17) O dX8_oathStands_17 rfl ?_
    refine zi_getv (pc := 18) (gI σ a 0) O fl_X8_180 rfl (ha).is (izg _ a 0) dX8_oathStands_18 ?_
    have := rgI σ a 0
    refine z_callV (pc := 21) O cl_X8_278 (k3_measureFrom _ _ (gI σ a 0) (by omega) J (by omega)) (by decide) (jo_9 J) kc_3 rfl rfl (Nat.le_of_ble_eq_true rfl) ⟨Nat.zero_le _, Nat.zero_le _⟩ dX8_oathStands_21 (fun r τ3 hp => ?_)
    obtain ⟨rfl, frτ3⟩ := hp
    refine z_iconst (pc := 24) (v := iz (0)) O dX8_oathStands_24 (by decide) ?_
    refine z_istore (pc := 25) [(0, .ref 2), (1, .ref a), (2, .ref h), (3, .int (iz e)), (4, .int (iz 0))] O dX8_oathStands_25 (by decide) rfl ?_
    have cut27 : ∀ (mu27 : Nat) (k : Int), (mu27 = (32 - k).toNat) → (-2147483648 ≤ k ∧ k < 2147483648) → (0 ≤ k ∧ k ≤ 32) → Z κ γ 5 τ3 0 0 (QM κ γ (fun r τ => ∃ z : Int, r = some (.int (iz z)) ∧ (z = 0 ∨ z = 1) ∧ (Fr [(14, 99999)] σ τ)) 0 0) 27 [(0, .ref 2), (1, .ref a), (2, .ref h), (3, .int (iz e)), (4, .int (iz k))] [] := by
      intro mu27
      induction mu27 using Nat.strongRecOn with
      | ind mu27 ih27 =>
      intro k hmu27 rr27_0 ff27_0
      refine z_iload (pc := 27) O dX8_oathStands_27 rfl ?_
      refine z_bipush (pc := 29) (v := iz (32)) O dX8_oathStands_29 (by decide) ?_
      refine zi_icmp_ge (pc := 31) (tgt := 62) O dX8_oathStands_31 (by decide) (by omega) (by decide) (fun h31 => ?_) (fun h31 => ?_)
      · refine z_iconst (pc := 62) (v := iz (1)) O dX8_oathStands_62 (by decide) ?_
        refine z_zret (pc := 63) O dX8_oathStands_63 rfl ?_
        exact ⟨1, rfl, (by decide), frτ3⟩
      · refine z_iload_n (pc := 34) O dX8_oathStands_34 rfl ?_
        refine z_iload (pc := 35) O dX8_oathStands_35 rfl ?_
        refine z_iushr (pc := 37) O dX8_oathStands_37 ?_
        refine zi_any (fun z5 rz5 ez5 => ?_)
        refine z_iconst (pc := 38) (v := iz (1)) O dX8_oathStands_38 (by decide) ?_
        refine z_iand (pc := 39) O dX8_oathStands_39 ?_
        refine zi_any (fun z6 rz6 ez6 => ?_)
        refine zi_if_eq (pc := 40) (tgt := 56) O dX8_oathStands_40 (by decide) (by omega) (fun h40 => ?_) (fun h40 => ?_)
        · refine zi_iinc (pc := 56) (k + 1) [(0, .ref 2), (1, .ref a), (2, .ref h), (3, .int (iz e)), (4, .int (iz (k + 1)))] O dX8_oathStands_56 rfl (by omega) (by decide) rfl ?_
          refine z_goto (pc := 59) (tgt := 27) O dX8_oathStands_59 (by decide) ?_
          refine z_lk [(0, .ref 2), (1, .ref a), (2, .ref h), (3, .int (iz e)), (4, .int (iz (k + 1)))] ⟨rfl, rfl, rfl, rfl, rfl, trivial⟩ ?_
          exact ih27 _ (by omega) (k + 1) rfl (by omega) (by omega)
        · refine z_aload_n (pc := 43) O dX8_oathStands_43 rfl ?_
          refine z_aload_n (pc := 44) O dX8_oathStands_44 rfl ?_
          refine z_aload_n (pc := 45) O dX8_oathStands_45 rfl ?_
          refine z_iload (pc := 46) O dX8_oathStands_46 rfl ?_
          refine z_callV (pc := 48) O cl_X8_281 (k8_maySwear _ _ a h k (by omega) (frτ3.lay J) (by have : gI τ3 9 7 = gI σ 9 7 := gI_iz (Fr.it frτ3 rfl (izg σ 9 7)) (rgI _ _ _); omega) (by have : gI τ3 16 4 = gI σ 16 4 := gI_iz (Fr.it frτ3 rfl (izg σ 16 4)) (rgI _ _ _); omega) (CaseOK.fr frτ3 ha) (LawOK.fr frτ3 hh)) (by decide) (jo_2 (frτ3.lay J)) kc_8 rfl rfl (Nat.le_of_ble_eq_true rfl) ⟨Nat.zero_le _, Nat.zero_le _⟩ dX8_oathStands_48 (fun r τ7 hp => ?_)
          obtain ⟨z8, rfl, fτ7_0, rfl⟩ := hp
          refine zi_if_ne (pc := 51) (tgt := 56) O dX8_oathStands_51 (by decide) (by omega) (fun h51 => ?_) (fun h51 => ?_)
          · refine zi_iinc (pc := 56) (k + 1) [(0, .ref 2), (1, .ref a), (2, .ref h), (3, .int (iz e)), (4, .int (iz (k + 1)))] O dX8_oathStands_56 rfl (by omega) (by decide) rfl ?_
            refine z_goto (pc := 59) (tgt := 27) O dX8_oathStands_59 (by decide) ?_
            refine z_lk [(0, .ref 2), (1, .ref a), (2, .ref h), (3, .int (iz e)), (4, .int (iz (k + 1)))] ⟨rfl, rfl, rfl, rfl, rfl, trivial⟩ ?_
            exact ih27 _ (by omega) (k + 1) rfl (by omega) (by omega)
          · refine z_iconst (pc := 54) (v := iz (0)) O dX8_oathStands_54 (by decide) ?_
            refine z_zret (pc := 55) O dX8_oathStands_55 rfl ?_
            exact ⟨0, rfl, (by decide), frτ3⟩
    refine z_lk [(0, .ref 2), (1, .ref a), (2, .ref h), (3, .int (iz e)), (4, .int (iz 0))] ⟨rfl, rfl, rfl, rfl, rfl, trivial⟩ ?_
    exact cut27 _ 0 rfl (by omega) (by omega)
  · refine z_iconst (pc := 11) (v := iz (0)) O dX8_oathStands_11 (by decide) ?_
    refine z_zret (pc := 12) O dX8_oathStands_12 rfl ?_
    exact ⟨0, rfl, (by decide), (Fr.rf [(14, 99999)] σ)⟩
set_option maxHeartbeats 4000000 in
set_option maxRecDepth 20000 in
theorem k8_partOf (l : Launch) (σ : VH) (a : Nat) (p : Int) (rp : (-2147483648 ≤ p ∧ p < 2147483648)) (y : Int) (ry : (-2147483648 ≤ y ∧ y < 2147483648)) (m : Int) (rm : (-2147483648 ≤ m ∧ m < 2147483648)) (b : Int) (rb : (-2147483648 ≤ b ∧ b < 2147483648)) (I : InvX σ) (ha : CaseOK σ a) : Ct l yX8_partOf cX8_partOf 12 (some .int) 6 0 0 [.ref 2, .ref a, .int (iz p), .int (iz y), .int (iz m), .int (iz b)] σ (fun r τ => ∃ z : Int, r = some (.int (iz z)) ∧ (-2147483648 ≤ z ∧ z < 2147483648) ∧ (Fr [(14, 99999), (15, 99999), (9, 6), (32, 99999)] σ τ)) := by
  refine Ct.enter rfl (Nat.le_of_ble_eq_true rfl) ?_
  intro κ γ hκ O hrc hrs
  subst hκ
  have i1 := I.2.1
  unfold InvX1 at i1
  refine z_aload_n (pc := 0) O dX8_partOf_0 rfl ?_
  refine z_aload_n (pc := 1) O dX8_partOf_1 rfl ?_
  refine z_callV (pc := 2) O cl_X8_172 (k8_lawOfCase _ _ a I ha) (by decide) (jo_2 I.1) kc_8 rfl rfl (Nat.le_of_ble_eq_true rfl) ⟨Nat.zero_le _, Nat.zero_le _⟩ dX8_partOf_2 (fun r τ1 hp => ?_)
  obtain ⟨rfl, hq⟩ := hp
  rcases hq with rfl | ⟨o2, rfl, ho2⟩
  · refine z_astoreN (pc := 5) [(0, .ref 2), (1, .ref a), (2, .int (iz p)), (3, .int (iz y)), (4, .int (iz m)), (5, .int (iz b)), (6, .null)] O dX8_partOf_5 (by decide) rfl ?_
    refine z_aload_n (pc := 7) O dX8_partOf_7 rfl ?_
    refine z_aload_n (pc := 8) O dX8_partOf_8 rfl ?_
    refine z_iload_n (pc := 9) O dX8_partOf_9 rfl ?_
    refine z_callV (pc := 10) O cl_X8_162 (k8_sumAsKnown _ _ a y (by omega) I ha) (by decide) (jo_2 I.1) kc_8 rfl rfl (Nat.le_of_ble_eq_true rfl) ⟨Nat.zero_le _, Nat.zero_le _⟩ dX8_partOf_10 (fun r τ3 hp => ?_)
    obtain ⟨z4, rfl, fτ3_0, frτ3⟩ := hp
    refine z_istore (pc := 13) [(0, .ref 2), (1, .ref a), (2, .int (iz p)), (3, .int (iz y)), (4, .int (iz m)), (5, .int (iz b)), (6, .null), (7, .int (iz z4))] O dX8_partOf_13 (by decide) rfl ?_
    refine z_aloadN (pc := 15) O dX8_partOf_15 rfl ?_
    refine z_ifnullN (pc := 17) (tgt := 37) O dX8_partOf_17 (by decide) ?_
    refine z_iconst (pc := 37) (v := iz (-1)) O dX8_partOf_37 (by decide) ?_
    refine z_iret (pc := 38) O dX8_partOf_38 ?_
    exact ⟨(-1), rfl, (by decide), (frτ3.mono (V := [(14, 99999), (15, 99999), (9, 6), (32, 99999)]) rfl)⟩
  · have := ho2.1
    refine z_astore (pc := 5) [(0, .ref 2), (1, .ref a), (2, .int (iz p)), (3, .int (iz y)), (4, .int (iz m)), (5, .int (iz b)), (6, .ref o2)] O dX8_partOf_5 (by decide) rfl ?_
    refine z_aload_n (pc := 7) O dX8_partOf_7 rfl ?_
    refine z_aload_n (pc := 8) O dX8_partOf_8 rfl ?_
    refine z_iload_n (pc := 9) O dX8_partOf_9 rfl ?_
    refine z_callV (pc := 10) O cl_X8_162 (k8_sumAsKnown _ _ a y (by omega) I ha) (by decide) (jo_2 I.1) kc_8 rfl rfl (Nat.le_of_ble_eq_true rfl) ⟨Nat.zero_le _, Nat.zero_le _⟩ dX8_partOf_10 (fun r τ5 hp => ?_)
    obtain ⟨z6, rfl, fτ5_0, frτ5⟩ := hp
    refine z_istore (pc := 13) [(0, .ref 2), (1, .ref a), (2, .int (iz p)), (3, .int (iz y)), (4, .int (iz m)), (5, .int (iz b)), (6, .ref o2), (7, .int (iz z6))] O dX8_partOf_13 (by decide) rfl ?_
    refine z_aload (pc := 15) O dX8_partOf_15 rfl ?_
    refine z_ifnull (pc := 17) O dX8_partOf_17 ?_
    refine z_iload (pc := 20) O dX8_partOf_20 rfl ?_
    refine z_iconst (pc := 22) (v := iz (-1)) O dX8_partOf_22 (by decide) ?_
    refine zi_icmp_eq (pc := 23) (tgt := 37) O dX8_partOf_23 (by decide) (by omega) (by decide) (fun h23 => ?_) (fun h23 => ?_)
    · refine z_iconst (pc := 37) (v := iz (-1)) O dX8_partOf_37 (by decide) ?_
      refine z_iret (pc := 38) O dX8_partOf_38 ?_
      exact ⟨(-1), rfl, (by decide), (frτ5.mono (V := [(14, 99999), (15, 99999), (9, 6), (32, 99999)]) rfl)⟩
    · refine z_aload_n (pc := 26) O dX8_partOf_26 rfl ?_
      refine z_getR (pc := 27) 9 O fl_X8_37 rfl (jo_2 (frτ5.lay I.1)) (jr_2_8 (frτ5.lay I.1)) dX8_partOf_27 ?_
      refine z_iload_n (pc := 30) O dX8_partOf_30 rfl ?_
      refine z_callV (pc := 31) O cl_X8_130 (k3_isThere _ _ p (by omega) (frτ5.lay I.1)) (by decide) (jo_9 (frτ5.lay I.1)) kc_3 rfl rfl (Nat.le_of_ble_eq_true rfl) ⟨Nat.zero_le _, Nat.zero_le _⟩ dX8_partOf_31 (fun r τ7 hp => ?_)
      obtain ⟨z8, rfl, fτ7_0, fτ7_1, rfl⟩ := hp
      have : gI τ5 9 7 = gI σ 9 7 := gI_iz (Fr.it frτ5 rfl (izg σ 9 7)) (rgI _ _ _)
      refine zi_if_ne (pc := 34) (tgt := 39) O dX8_partOf_34 (by decide) (by omega) (fun h34 => ?_) (fun h34 => ?_)
      · refine z_aload_n (pc := 39) O dX8_partOf_39 rfl ?_
        refine z_getR (pc := 40) 9 O fl_X8_37 rfl (jo_2 (frτ5.lay I.1)) (jr_2_8 (frτ5.lay I.1)) dX8_partOf_40 ?_
        refine z_iload (pc := 43) O dX8_partOf_43 rfl ?_
        refine z_callV (pc := 45) O cl_X8_278 (k3_measureFrom _ _ m (by omega) (frτ5.lay I.1) (by have : gI τ5 9 7 = gI σ 9 7 := gI_iz (Fr.it frτ5 rfl (izg σ 9 7)) (rgI _ _ _); omega)) (by decide) (jo_9 (frτ5.lay I.1)) kc_3 rfl rfl (Nat.le_of_ble_eq_true rfl) ⟨Nat.zero_le _, Nat.zero_le _⟩ dX8_partOf_45 (fun r τ9 hp => ?_)
        obtain ⟨rfl, frτ9⟩ := hp
        refine z_iload (pc := 48) O dX8_partOf_48 rfl ?_
        refine z_istore (pc := 50) [(0, .ref 2), (1, .ref a), (2, .int (iz p)), (3, .int (iz y)), (4, .int (iz m)), (5, .int (iz b)), (6, .ref o2), (7, .int (iz z6)), (8, .int (iz z6))] O dX8_partOf_50 (by decide) rfl ?_
        refine z_iconst (pc := 52) (v := iz (0)) O dX8_partOf_52 (by decide) ?_
        refine z_istore (pc := 53) [(0, .ref 2), (1, .ref a), (2, .int (iz p)), (3, .int (iz y)), (4, .int (iz m)), (5, .int (iz b)), (6, .ref o2), (7, .int (iz z6)), (8, .int (iz z6)), (9, .int (iz 0))] O dX8_partOf_53 (by decide) rfl ?_
        refine z_iconst (pc := 55) (v := iz (1)) O dX8_partOf_55 (by decide) ?_
        refine z_istore (pc := 56) [(0, .ref 2), (1, .ref a), (2, .int (iz p)), (3, .int (iz y)), (4, .int (iz m)), (5, .int (iz b)), (6, .ref o2), (7, .int (iz z6)), (8, .int (iz z6)), (9, .int (iz 0)), (10, .int (iz 1))] O dX8_partOf_56 (by decide) rfl ?_
        have cut58 : ∀ (mu58 : Nat) (hp : Int) (kp : Int) (d : Int) (ρ58 : VH), (mu58 = (4 - d).toNat) → (-2147483648 ≤ hp ∧ hp < 2147483648) → (-2147483648 ≤ kp ∧ kp < 2147483648) → (-2147483648 ≤ d ∧ d < 2147483648) → (1 ≤ d ∧ d ≤ 4) → (Fr [(14, 99999), (15, 99999), (9, 6), (32, 99999)] τ9 ρ58) → Z κ γ 12 ρ58 0 0 (QM κ γ (fun r τ => ∃ z : Int, r = some (.int (iz z)) ∧ (-2147483648 ≤ z ∧ z < 2147483648) ∧ (Fr [(14, 99999), (15, 99999), (9, 6), (32, 99999)] σ τ)) 0 0) 58 [(0, .ref 2), (1, .ref a), (2, .int (iz p)), (3, .int (iz y)), (4, .int (iz m)), (5, .int (iz b)), (6, .ref o2), (7, .int (iz z6)), (8, .int (iz hp)), (9, .int (iz kp)), (10, .int (iz d))] [] := by
          intro mu58
          induction mu58 using Nat.strongRecOn with
          | ind mu58 ih58 =>
          intro hp kp d ρ58 hmu58 rr58_0 rr58_1 rr58_2 ff58_0 frρ58
          refine z_iload (pc := 58) O dX8_partOf_58 rfl ?_
          refine z_iconst (pc := 60) (v := iz (3)) O dX8_partOf_60 (by decide) ?_
          refine zi_icmp_gt (pc := 61) (tgt := 154) O dX8_partOf_61 (by decide) (by omega) (by decide) (fun h61 => ?_) (fun h61 => ?_)
          · refine z_iload_n (pc := 154) O dX8_partOf_154 rfl ?_
            refine z_iload (pc := 155) O dX8_partOf_155 rfl ?_
            refine zi_icmp_ne (pc := 157) (tgt := 165) O dX8_partOf_157 (by decide) (by omega) (by omega) (fun h157 => ?_) (fun h157 => ?_)
            · refine z_iload (pc := 165) O dX8_partOf_165 rfl ?_
              refine z_iret (pc := 167) O dX8_partOf_167 ?_
              exact ⟨kp, rfl, (by omega), (((frτ5.mono (V := [(14, 99999), (15, 99999), (9, 6), (32, 99999)]) rfl).tr (frτ9.mono (V := [(14, 99999), (15, 99999), (9, 6), (32, 99999)]) rfl)).tr frρ58)⟩
            · refine z_iload (pc := 160) O dX8_partOf_160 rfl ?_
              refine z_goto (pc := 162) (tgt := 167) O dX8_partOf_162 (by decide) ?_
              refine z_iret (pc := 167) O dX8_partOf_167 ?_
              exact ⟨hp, rfl, (by omega), (((frτ5.mono (V := [(14, 99999), (15, 99999), (9, 6), (32, 99999)]) rfl).tr (frτ9.mono (V := [(14, 99999), (15, 99999), (9, 6), (32, 99999)]) rfl)).tr frρ58)⟩
          · refine z_aload_n (pc := 64) O dX8_partOf_64 rfl ?_
            refine z_getR (pc := 65) 9 O fl_X8_37 rfl (jo_2 (frρ58.lay (frτ9.lay (frτ5.lay I.1)))) (jr_2_8 (frρ58.lay (frτ9.lay (frτ5.lay I.1)))) dX8_partOf_65 ?_
            refine z_iload (pc := 68) O dX8_partOf_68 rfl ?_
            refine z_iload (pc := 70) O dX8_partOf_70 rfl ?_
            refine z_iload (pc := 72) O dX8_partOf_72 rfl ?_
            refine z_aload_n (pc := 74) O dX8_partOf_74 rfl ?_
            refine zi_getv (pc := 75) (gI ρ58 a 3) O fl_X8_186 rfl ((CaseOK.fr frρ58 (CaseOK.fr frτ9 (CaseOK.fr frτ5 ha)))).is (izg _ a 3) dX8_partOf_75 ?_
            have := rgI ρ58 a 3
            refine z_callV (pc := 78) O cl_X8_293 (k3_pickSharers _ _ m (by omega) b (by omega) d (by omega) (gI ρ58 a 3) (by omega) (frρ58.lay (frτ9.lay (frτ5.lay I.1))) (by have : gI ρ58 9 7 = gI σ 9 7 := gI_iz (Fr.it frρ58 rfl (Fr.it frτ9 rfl (Fr.it frτ5 rfl (izg σ 9 7)))) (rgI _ _ _); omega)) (by decide) (jo_9 (frρ58.lay (frτ9.lay (frτ5.lay I.1)))) kc_3 rfl rfl (Nat.le_of_ble_eq_true rfl) ⟨Nat.zero_le _, Nat.zero_le _⟩ dX8_partOf_78 (fun r τ11 hp => ?_)
            obtain ⟨rfl, frτ11, eτ11_0⟩ := hp
            refine z_aload_n (pc := 81) O dX8_partOf_81 rfl ?_
            refine z_getR (pc := 82) 9 O fl_X8_37 rfl (jo_2 (frτ11.lay (frρ58.lay (frτ9.lay (frτ5.lay I.1))))) (jr_2_8 (frτ11.lay (frρ58.lay (frτ9.lay (frτ5.lay I.1))))) dX8_partOf_82 ?_
            refine zi_getv (pc := 85) (gI τ11 9 6) O fl_X8_297 rfl (jo_9 (frτ11.lay (frρ58.lay (frτ9.lay (frτ5.lay I.1))))) (izg τ11 9 6) dX8_partOf_85 ?_
            have := rgI τ11 9 6
            refine zi_if_le (pc := 88) (tgt := 148) O dX8_partOf_88 (by decide) (by omega) (fun h88 => ?_) (fun h88 => ?_)
            · refine zi_iinc (pc := 148) (d + 1) [(0, .ref 2), (1, .ref a), (2, .int (iz p)), (3, .int (iz y)), (4, .int (iz m)), (5, .int (iz b)), (6, .ref o2), (7, .int (iz z6)), (8, .int (iz hp)), (9, .int (iz kp)), (10, .int (iz (d + 1)))] O dX8_partOf_148 rfl (by omega) (by decide) rfl ?_
              refine z_goto (pc := 151) (tgt := 58) O dX8_partOf_151 (by decide) ?_
              refine z_lk [(0, .ref 2), (1, .ref a), (2, .int (iz p)), (3, .int (iz y)), (4, .int (iz m)), (5, .int (iz b)), (6, .ref o2), (7, .int (iz z6)), (8, .int (iz hp)), (9, .int (iz kp)), (10, .int (iz (d + 1)))] ⟨rfl, rfl, rfl, rfl, rfl, rfl, rfl, rfl, rfl, rfl, rfl, trivial⟩ ?_
              exact ih58 _ (by omega) hp kp (d + 1) τ11 rfl (by omega) (by omega) (by omega) (by omega) (frρ58.tr (frτ11.mono (V := [(14, 99999), (15, 99999), (9, 6), (32, 99999)]) rfl))
            · have cut148 : ∀ (hp1 : Int) (kp1 : Int), (-2147483648 ≤ hp1 ∧ hp1 < 2147483648) → (-2147483648 ≤ kp1 ∧ kp1 < 2147483648) → Z κ γ 12 τ11 0 0 (QM κ γ (fun r τ => ∃ z : Int, r = some (.int (iz z)) ∧ (-2147483648 ≤ z ∧ z < 2147483648) ∧ (Fr [(14, 99999), (15, 99999), (9, 6), (32, 99999)] σ τ)) 0 0) 148 [(0, .ref 2), (1, .ref a), (2, .int (iz p)), (3, .int (iz y)), (4, .int (iz m)), (5, .int (iz b)), (6, .ref o2), (7, .int (iz z6)), (8, .int (iz hp1)), (9, .int (iz kp1)), (10, .int (iz d))] [] := by
                intro hp1 kp1 rr148_0 rr148_1
                refine zi_iinc (pc := 148) (d + 1) [(0, .ref 2), (1, .ref a), (2, .int (iz p)), (3, .int (iz y)), (4, .int (iz m)), (5, .int (iz b)), (6, .ref o2), (7, .int (iz z6)), (8, .int (iz hp1)), (9, .int (iz kp1)), (10, .int (iz (d + 1)))] O dX8_partOf_148 rfl (by omega) (by decide) rfl ?_
                refine z_goto (pc := 151) (tgt := 58) O dX8_partOf_151 (by decide) ?_
                refine z_lk [(0, .ref 2), (1, .ref a), (2, .int (iz p)), (3, .int (iz y)), (4, .int (iz m)), (5, .int (iz b)), (6, .ref o2), (7, .int (iz z6)), (8, .int (iz hp1)), (9, .int (iz kp1)), (10, .int (iz (d + 1)))] ⟨rfl, rfl, rfl, rfl, rfl, rfl, rfl, rfl, rfl, rfl, rfl, trivial⟩ ?_
                exact ih58 _ (by omega) hp1 kp1 (d + 1) τ11 rfl (by omega) (by omega) (by omega) (by omega) (frρ58.tr (frτ11.mono (V := [(14, 99999), (15, 99999), (9, 6), (32, 99999)]) rfl))
              refine z_aload (pc := 91) O dX8_partOf_91 rfl ?_
              refine z_iload (pc := 93) O dX8_partOf_93 rfl ?_
              refine z_iload (pc := 95) O dX8_partOf_95 rfl ?_
              refine z_callV (pc := 97) O cl_X8_300 (k1_partOfDegree _ _ o2 z6 (by omega) d (by omega) (LawOK.fr frτ11 (LawOK.fr frρ58 (LawOK.fr frτ9 (LawOK.fr frτ5 ho2))))) (by decide) ((LawOK.fr frτ11 (LawOK.fr frρ58 (LawOK.fr frτ9 (LawOK.fr frτ5 ho2))))).is kc_1 rfl rfl (Nat.le_of_ble_eq_true rfl) ⟨Nat.zero_le _, Nat.zero_le _⟩ dX8_partOf_97 (fun r τ13 hp => ?_)
              obtain ⟨z14, rfl, fτ13_0, rfl⟩ := hp
              refine z_aload_n (pc := 100) O dX8_partOf_100 rfl ?_
              refine z_getR (pc := 101) 9 O fl_X8_37 rfl (jo_2 (frτ11.lay (frρ58.lay (frτ9.lay (frτ5.lay I.1))))) (jr_2_8 (frτ11.lay (frρ58.lay (frτ9.lay (frτ5.lay I.1))))) dX8_partOf_101 ?_
              refine zi_getv (pc := 104) (gI τ11 9 6) O fl_X8_297 rfl (jo_9 (frτ11.lay (frρ58.lay (frτ9.lay (frτ5.lay I.1))))) (izg τ11 9 6) dX8_partOf_104 ?_
              refine z_idiv (pc := 107) O dX8_partOf_107 (fun h0 => by have h1 := (iz_eq (a := gI τ11 9 6) (b := 0) (by omega) (by omega)).mp h0; omega) ?_
              refine zi_any (fun z15 rz15 ez15 => ?_)
              refine z_istore (pc := 108) [(0, .ref 2), (1, .ref a), (2, .int (iz p)), (3, .int (iz y)), (4, .int (iz m)), (5, .int (iz b)), (6, .ref o2), (7, .int (iz z6)), (8, .int (iz hp)), (9, .int (iz kp)), (10, .int (iz d)), (11, .int (iz z15))] O dX8_partOf_108 (by decide) rfl ?_
              refine z_iload (pc := 110) O dX8_partOf_110 rfl ?_
              refine z_iload (pc := 112) O dX8_partOf_112 rfl ?_
              refine z_aload_n (pc := 114) O dX8_partOf_114 rfl ?_
              refine z_getR (pc := 115) 9 O fl_X8_37 rfl (jo_2 (frτ11.lay (frρ58.lay (frτ9.lay (frτ5.lay I.1))))) (jr_2_8 (frτ11.lay (frρ58.lay (frτ9.lay (frτ5.lay I.1))))) dX8_partOf_115 ?_
              refine zi_getv (pc := 118) (gI τ11 9 6) O fl_X8_297 rfl (jo_9 (frτ11.lay (frρ58.lay (frτ9.lay (frτ5.lay I.1))))) (izg τ11 9 6) dX8_partOf_118 ?_
              refine zi_imul (pc := 121) O dX8_partOf_121 ?_
              refine zi_any (fun z16 rz16 ez16 => ?_)
              refine zi_isub (pc := 122) O dX8_partOf_122 ?_
              refine zi_any (fun z17 rz17 ez17 => ?_)
              refine z_istore (pc := 123) [(0, .ref 2), (1, .ref a), (2, .int (iz p)), (3, .int (iz y)), (4, .int (iz m)), (5, .int (iz b)), (6, .ref o2), (7, .int (iz z6)), (8, .int (iz z17)), (9, .int (iz kp)), (10, .int (iz d)), (11, .int (iz z15))] O dX8_partOf_123 (by decide) rfl ?_
              refine z_iload (pc := 125) O dX8_partOf_125 rfl ?_
              refine z_aload_n (pc := 127) O dX8_partOf_127 rfl ?_
              refine z_getR (pc := 128) 9 O fl_X8_37 rfl (jo_2 (frτ11.lay (frρ58.lay (frτ9.lay (frτ5.lay I.1))))) (jr_2_8 (frτ11.lay (frρ58.lay (frτ9.lay (frτ5.lay I.1))))) dX8_partOf_128 ?_
              refine z_getR (pc := 131) 15 O fl_X8_303 rfl (jo_9 (frτ11.lay (frρ58.lay (frτ9.lay (frτ5.lay I.1))))) (jr_9_5 (frτ11.lay (frρ58.lay (frτ9.lay (frτ5.lay I.1))))) dX8_partOf_131 ?_
              refine z_iload_n (pc := 134) O dX8_partOf_134 rfl ?_
              refine zi_zaldv (pc := 135) (p.toNat) (gI τ11 15 (p.toNat)) O (ja_15 (frτ11.lay (frρ58.lay (frτ9.lay (frτ5.lay I.1))))) (by omega) (by omega) (by omega) (izg τ11 15 (p.toNat)) dX8_partOf_135 ?_
              have := rgI τ11 15 (p.toNat)
              refine zi_if_eq (pc := 136) (tgt := 144) O dX8_partOf_136 (by decide) (by omega) (fun h136 => ?_) (fun h136 => ?_)
              · refine z_iconst (pc := 144) (v := iz (0)) O dX8_partOf_144 (by decide) ?_
                refine zi_iadd (pc := 145) O dX8_partOf_145 ?_
                refine zi_any (fun z18 rz18 ez18 => ?_)
                refine z_istore (pc := 146) [(0, .ref 2), (1, .ref a), (2, .int (iz p)), (3, .int (iz y)), (4, .int (iz m)), (5, .int (iz b)), (6, .ref o2), (7, .int (iz z6)), (8, .int (iz z17)), (9, .int (iz z18)), (10, .int (iz d)), (11, .int (iz z15))] O dX8_partOf_146 (by decide) rfl ?_
                refine z_lk [(0, .ref 2), (1, .ref a), (2, .int (iz p)), (3, .int (iz y)), (4, .int (iz m)), (5, .int (iz b)), (6, .ref o2), (7, .int (iz z6)), (8, .int (iz z17)), (9, .int (iz z18)), (10, .int (iz d))] ⟨rfl, rfl, rfl, rfl, rfl, rfl, rfl, rfl, rfl, rfl, rfl, trivial⟩ ?_
                exact cut148 z17 z18 (by omega) (by omega)
              · refine z_iload (pc := 139) O dX8_partOf_139 rfl ?_
                refine z_goto (pc := 141) (tgt := 145) O dX8_partOf_141 (by decide) ?_
                refine zi_iadd (pc := 145) O dX8_partOf_145 ?_
                refine zi_any (fun z19 rz19 ez19 => ?_)
                refine z_istore (pc := 146) [(0, .ref 2), (1, .ref a), (2, .int (iz p)), (3, .int (iz y)), (4, .int (iz m)), (5, .int (iz b)), (6, .ref o2), (7, .int (iz z6)), (8, .int (iz z17)), (9, .int (iz z19)), (10, .int (iz d)), (11, .int (iz z15))] O dX8_partOf_146 (by decide) rfl ?_
                refine z_lk [(0, .ref 2), (1, .ref a), (2, .int (iz p)), (3, .int (iz y)), (4, .int (iz m)), (5, .int (iz b)), (6, .ref o2), (7, .int (iz z6)), (8, .int (iz z17)), (9, .int (iz z19)), (10, .int (iz d))] ⟨rfl, rfl, rfl, rfl, rfl, rfl, rfl, rfl, rfl, rfl, rfl, trivial⟩ ?_
                exact cut148 z17 z19 (by omega) (by omega)
        refine z_lk [(0, .ref 2), (1, .ref a), (2, .int (iz p)), (3, .int (iz y)), (4, .int (iz m)), (5, .int (iz b)), (6, .ref o2), (7, .int (iz z6)), (8, .int (iz z6)), (9, .int (iz 0)), (10, .int (iz 1))] ⟨rfl, rfl, rfl, rfl, rfl, rfl, rfl, rfl, rfl, rfl, rfl, trivial⟩ ?_
        exact cut58 _ z6 0 1 τ9 rfl (by omega) (by omega) (by omega) (by omega) (Fr.rf [(14, 99999), (15, 99999), (9, 6), (32, 99999)] τ9)
      · refine z_iconst (pc := 37) (v := iz (-1)) O dX8_partOf_37 (by decide) ?_
        refine z_iret (pc := 38) O dX8_partOf_38 ?_
        exact ⟨(-1), rfl, (by decide), (frτ5.mono (V := [(14, 99999), (15, 99999), (9, 6), (32, 99999)]) rfl)⟩
set_option maxHeartbeats 4000000 in
set_option maxRecDepth 20000 in
theorem k0_dueIn (l : Launch) (σ : VH) (a : Nat) (j : Int) (rj : (-2147483648 ≤ j ∧ j < 2147483648)) (ha : CaseOK σ a) : Ct l yX0_dueIn cX0_dueIn 2 (some .int) 0 0 0 [.ref a, .int (iz j)] σ (fun r τ => ∃ z : Int, r = some (.int (iz z)) ∧ (-2147483648 ≤ z ∧ z < 2147483648) ∧ (σ = τ)) := by
  refine Ct.enter rfl (Nat.le_of_ble_eq_true rfl) ?_
  intro κ γ hκ O hrc hrs
  subst hκ
  refine z_aload_n (pc := 0) O dX0_dueIn_0 rfl ?_
  refine zi_getv (pc := 1) (gI σ a 9) O fl_X0_38 rfl (ha).is (izg _ a 9) dX0_dueIn_1 ?_
  have := rgI σ a 9
  refine zi_if_gt (pc := 4) (tgt := 9) O dX0_dueIn_4 (by decide) (by omega) (fun h4 => ?_) (fun h4 => ?_)
  · refine z_iload_n (pc := 9) O dX0_dueIn_9 rfl ?_
    refine zi_if_ne (pc := 10) (tgt := 35) O dX0_dueIn_10 (by decide) (by omega) (fun h10 => ?_) (fun h10 => ?_)
    · refine z_aload_n (pc := 35) O dX0_dueIn_35 rfl ?_
      refine zi_getv (pc := 36) (gI σ a 8) O fl_X0_41 rfl (ha).is (izg _ a 8) dX0_dueIn_36 ?_
      have := rgI σ a 8
      refine z_aload_n (pc := 39) O dX0_dueIn_39 rfl ?_
      refine zi_getv (pc := 40) (gI σ a 9) O fl_X0_38 rfl (ha).is (izg _ a 9) dX0_dueIn_40 ?_
      refine z_idiv (pc := 43) O dX0_dueIn_43 (fun h0 => by have h1 := (iz_eq (a := gI σ a 9) (b := 0) (by omega) (by omega)).mp h0; omega) ?_
      refine zi_any (fun z1 rz1 ez1 => ?_)
      refine z_iret (pc := 44) O dX0_dueIn_44 ?_
      exact ⟨z1, rfl, (by omega), rfl⟩
    · refine z_aload_n (pc := 13) O dX0_dueIn_13 rfl ?_
      refine zi_getv (pc := 14) (gI σ a 8) O fl_X0_41 rfl (ha).is (izg _ a 8) dX0_dueIn_14 ?_
      have := rgI σ a 8
      refine z_aload_n (pc := 17) O dX0_dueIn_17 rfl ?_
      refine zi_getv (pc := 18) (gI σ a 9) O fl_X0_38 rfl (ha).is (izg _ a 9) dX0_dueIn_18 ?_
      refine z_idiv (pc := 21) O dX0_dueIn_21 (fun h0 => by have h1 := (iz_eq (a := gI σ a 9) (b := 0) (by omega) (by omega)).mp h0; omega) ?_
      refine zi_any (fun z2 rz2 ez2 => ?_)
      refine z_aload_n (pc := 22) O dX0_dueIn_22 rfl ?_
      refine zi_getv (pc := 23) (gI σ a 8) O fl_X0_41 rfl (ha).is (izg _ a 8) dX0_dueIn_23 ?_
      refine z_aload_n (pc := 26) O dX0_dueIn_26 rfl ?_
      refine zi_getv (pc := 27) (gI σ a 9) O fl_X0_38 rfl (ha).is (izg _ a 9) dX0_dueIn_27 ?_
      refine z_irem (pc := 30) O dX0_dueIn_30 (fun h0 => by have h1 := (iz_eq (a := gI σ a 9) (b := 0) (by omega) (by omega)).mp h0; omega) ?_
      refine zi_any (fun z3 rz3 ez3 => ?_)
      refine zi_iadd (pc := 31) O dX0_dueIn_31 ?_
      refine zi_any (fun z4 rz4 ez4 => ?_)
      refine z_goto (pc := 32) (tgt := 44) O dX0_dueIn_32 (by decide) ?_
      refine z_iret (pc := 44) O dX0_dueIn_44 ?_
      exact ⟨z4, rfl, (by omega), rfl⟩
  · refine z_iconst (pc := 7) (v := iz (0)) O dX0_dueIn_7 (by decide) ?_
    refine z_iret (pc := 8) O dX0_dueIn_8 ?_
    exact ⟨0, rfl, (by decide), rfl⟩
set_option maxHeartbeats 4000000 in
set_option maxRecDepth 20000 in
theorem k8_owedOn (l : Launch) (σ : VH) (a : Nat) (w : Int) (rw : (-2147483648 ≤ w ∧ w < 2147483648)) (d : Int) (rd : (-2147483648 ≤ d ∧ d < 2147483648)) (J : Lay σ) (hpa : 0 ≤ gI σ 27 3 ∧ gI σ 27 3 ≤ 60) (ha : CaseOK σ a) : Ct l yX8_owedOn cX8_owedOn 8 (some .int) 1 0 0 [.ref 2, .ref a, .int (iz w), .int (iz d)] σ (fun r τ => ∃ z : Int, r = some (.int (iz z)) ∧ (-2147483648 ≤ z ∧ z < 2147483648) ∧ (σ = τ)) := by
  refine Ct.enter rfl (Nat.le_of_ble_eq_true rfl) ?_
  intro κ γ hκ O hrc hrs
  subst hκ
  refine z_iconst (pc := 0) (v := iz (0)) O dX8_owedOn_0 (by decide) ?_
  refine z_istore (pc := 1) [(0, .ref 2), (1, .ref a), (2, .int (iz w)), (3, .int (iz d)), (4, .int (iz 0))] O dX8_owedOn_1 (by decide) rfl ?_
  refine z_aload_n (pc := 3) O dX8_owedOn_3 rfl ?_
  refine zi_getv (pc := 4) (gI σ a 7) O fl_X8_169 rfl (ha).is (izg _ a 7) dX8_owedOn_4 ?_
  have := rgI σ a 7
  refine z_iconst (pc := 7) (v := iz (1)) O dX8_owedOn_7 (by decide) ?_
  refine zi_isub (pc := 8) O dX8_owedOn_8 ?_
  refine zi_any (fun z1 rz1 ez1 => ?_)
  refine z_istore (pc := 9) [(0, .ref 2), (1, .ref a), (2, .int (iz w)), (3, .int (iz d)), (4, .int (iz 0)), (5, .int (iz z1))] O dX8_owedOn_9 (by decide) rfl ?_
  refine z_iconst (pc := 11) (v := iz (0)) O dX8_owedOn_11 (by decide) ?_
  refine z_istore (pc := 12) [(0, .ref 2), (1, .ref a), (2, .int (iz w)), (3, .int (iz d)), (4, .int (iz 0)), (5, .int (iz z1)), (6, .int (iz 0))] O dX8_owedOn_12 (by decide) rfl ?_
  have cut14 : ∀ (mu14 : Nat) (o : Int) (st : Int) (j : Int), (mu14 = (gI σ a 9 - j).toNat) → (-2147483648 ≤ o ∧ o < 2147483648) → (-2147483648 ≤ st ∧ st < 2147483648) → (-2147483648 ≤ j ∧ j < 2147483648) → (0 ≤ j) → Z κ γ 8 σ 0 0 (QM κ γ (fun r τ => ∃ z : Int, r = some (.int (iz z)) ∧ (-2147483648 ≤ z ∧ z < 2147483648) ∧ (σ = τ)) 0 0) 14 [(0, .ref 2), (1, .ref a), (2, .int (iz w)), (3, .int (iz d)), (4, .int (iz o)), (5, .int (iz st)), (6, .int (iz j))] [] := by
    intro mu14
    induction mu14 using Nat.strongRecOn with
    | ind mu14 ih14 =>
    intro o st j hmu14 rr14_0 rr14_1 rr14_2 ff14_0
    refine z_iload (pc := 14) O dX8_owedOn_14 rfl ?_
    refine z_aload_n (pc := 16) O dX8_owedOn_16 rfl ?_
    refine zi_getv (pc := 17) (gI σ a 9) O fl_X8_203 rfl (ha).is (izg _ a 9) dX8_owedOn_17 ?_
    have := rgI σ a 9
    refine zi_icmp_ge (pc := 20) (tgt := 99) O dX8_owedOn_20 (by decide) (by omega) (by omega) (fun h20 => ?_) (fun h20 => ?_)
    · refine z_iload (pc := 99) O dX8_owedOn_99 rfl ?_
      refine z_aload_n (pc := 101) O dX8_owedOn_101 rfl ?_
      refine z_getR (pc := 102) 27 O fl_X8_64 rfl (jo_2 J) (jr_2_13 J) dX8_owedOn_102 ?_
      refine z_iload_n (pc := 105) O dX8_owedOn_105 rfl ?_
      refine z_iload (pc := 106) O dX8_owedOn_106 rfl ?_
      refine z_iload_n (pc := 108) O dX8_owedOn_108 rfl ?_
      refine z_callV (pc := 109) O cl_X8_310 (k2_paid _ _ w (by omega) st (by omega) d (by omega) J (by omega)) (by decide) (jo_27 J) kc_2 rfl rfl (Nat.le_of_ble_eq_true rfl) ⟨Nat.zero_le _, Nat.zero_le _⟩ dX8_owedOn_109 (fun r τ2 hp => ?_)
      obtain ⟨z3, rfl, fτ2_0, rfl⟩ := hp
      refine zi_isub (pc := 112) O dX8_owedOn_112 ?_
      refine zi_any (fun z4 rz4 ez4 => ?_)
      refine z_iret (pc := 113) O dX8_owedOn_113 ?_
      exact ⟨z4, rfl, (by omega), rfl⟩
    · refine z_aload_n (pc := 23) O dX8_owedOn_23 rfl ?_
      refine zi_getv (pc := 24) (gI σ a 7) O fl_X8_169 rfl (ha).is (izg _ a 7) dX8_owedOn_24 ?_
      refine z_iload (pc := 27) O dX8_owedOn_27 rfl ?_
      refine z_iconst (pc := 29) (v := iz (1)) O dX8_owedOn_29 (by decide) ?_
      refine zi_iadd (pc := 30) O dX8_owedOn_30 ?_
      refine z_aload_n (pc := 31) O dX8_owedOn_31 rfl ?_
      refine zi_getv (pc := 32) (gI σ a 10) O fl_X8_207 rfl (ha).is (izg _ a 10) dX8_owedOn_32 ?_
      have := rgI σ a 10
      refine zi_imul (pc := 35) O dX8_owedOn_35 ?_
      refine zi_any (fun z5 rz5 ez5 => ?_)
      refine zi_iadd (pc := 36) O dX8_owedOn_36 ?_
      refine zi_any (fun z6 rz6 ez6 => ?_)
      refine z_istore (pc := 37) [(0, .ref 2), (1, .ref a), (2, .int (iz w)), (3, .int (iz d)), (4, .int (iz o)), (5, .int (iz st)), (6, .int (iz j)), (7, .int (iz z6))] O dX8_owedOn_37 (by decide) rfl ?_
      refine z_iload (pc := 39) O dX8_owedOn_39 rfl ?_
      refine z_aload_n (pc := 41) O dX8_owedOn_41 rfl ?_
      refine z_iload (pc := 42) O dX8_owedOn_42 rfl ?_
      refine z_callV (pc := 44) O cl_X8_307 (k0_dueIn _ _ a j (by omega) ha) (by decide) (ha).is kc_0 rfl rfl (Nat.le_of_ble_eq_true rfl) ⟨Nat.zero_le _, Nat.zero_le _⟩ dX8_owedOn_44 (fun r τ7 hp => ?_)
      obtain ⟨z8, rfl, fτ7_0, rfl⟩ := hp
      refine zi_iadd (pc := 47) O dX8_owedOn_47 ?_
      refine zi_any (fun z9 rz9 ez9 => ?_)
      refine z_istore (pc := 48) [(0, .ref 2), (1, .ref a), (2, .int (iz w)), (3, .int (iz d)), (4, .int (iz z9)), (5, .int (iz st)), (6, .int (iz j)), (7, .int (iz z6))] O dX8_owedOn_48 (by decide) rfl ?_
      refine z_iload (pc := 50) O dX8_owedOn_50 rfl ?_
      refine z_iload_n (pc := 52) O dX8_owedOn_52 rfl ?_
      refine zi_icmp_ge (pc := 53) (tgt := 93) O dX8_owedOn_53 (by decide) (by omega) (by omega) (fun h53 => ?_) (fun h53 => ?_)
      · refine zi_iinc (pc := 93) (j + 1) [(0, .ref 2), (1, .ref a), (2, .int (iz w)), (3, .int (iz d)), (4, .int (iz z9)), (5, .int (iz st)), (6, .int (iz (j + 1))), (7, .int (iz z6))] O dX8_owedOn_93 rfl (by omega) (by decide) rfl ?_
        refine z_goto (pc := 96) (tgt := 14) O dX8_owedOn_96 (by decide) ?_
        refine z_lk [(0, .ref 2), (1, .ref a), (2, .int (iz w)), (3, .int (iz d)), (4, .int (iz z9)), (5, .int (iz st)), (6, .int (iz (j + 1)))] ⟨rfl, rfl, rfl, rfl, rfl, rfl, rfl, trivial⟩ ?_
        exact ih14 _ (by omega) z9 st (j + 1) rfl (by omega) (by omega) (by omega) (by omega)
      · refine z_iload (pc := 56) O dX8_owedOn_56 rfl ?_
        refine z_aload_n (pc := 58) O dX8_owedOn_58 rfl ?_
        refine z_getR (pc := 59) 27 O fl_X8_64 rfl (jo_2 J) (jr_2_13 J) dX8_owedOn_59 ?_
        refine z_iload_n (pc := 62) O dX8_owedOn_62 rfl ?_
        refine z_iload (pc := 63) O dX8_owedOn_63 rfl ?_
        refine z_iload (pc := 65) O dX8_owedOn_65 rfl ?_
        refine z_callV (pc := 67) O cl_X8_310 (k2_paid _ _ w (by omega) st (by omega) z6 (by omega) J (by omega)) (by decide) (jo_27 J) kc_2 rfl rfl (Nat.le_of_ble_eq_true rfl) ⟨Nat.zero_le _, Nat.zero_le _⟩ dX8_owedOn_67 (fun r τ10 hp => ?_)
        obtain ⟨z11, rfl, fτ10_0, rfl⟩ := hp
        refine zi_isub (pc := 70) O dX8_owedOn_70 ?_
        refine zi_any (fun z12 rz12 ez12 => ?_)
        refine z_istore (pc := 71) [(0, .ref 2), (1, .ref a), (2, .int (iz w)), (3, .int (iz d)), (4, .int (iz z12)), (5, .int (iz st)), (6, .int (iz j)), (7, .int (iz z6))] O dX8_owedOn_71 (by decide) rfl ?_
        have cut87 : ∀ (o1 : Int), (-2147483648 ≤ o1 ∧ o1 < 2147483648) → Z κ γ 8 σ 0 0 (QM κ γ (fun r τ => ∃ z : Int, r = some (.int (iz z)) ∧ (-2147483648 ≤ z ∧ z < 2147483648) ∧ (σ = τ)) 0 0) 87 [(0, .ref 2), (1, .ref a), (2, .int (iz w)), (3, .int (iz d)), (4, .int (iz z12)), (5, .int (iz st)), (6, .int (iz j)), (7, .int (iz z6))] [.int (iz o1)] := by
          intro o1 rr87_0
          refine z_istore (pc := 87) [(0, .ref 2), (1, .ref a), (2, .int (iz w)), (3, .int (iz d)), (4, .int (iz o1)), (5, .int (iz st)), (6, .int (iz j)), (7, .int (iz z6))] O dX8_owedOn_87 (by decide) rfl ?_
          refine z_iload (pc := 89) O dX8_owedOn_89 rfl ?_
          refine z_istore (pc := 91) [(0, .ref 2), (1, .ref a), (2, .int (iz w)), (3, .int (iz d)), (4, .int (iz o1)), (5, .int (iz z6)), (6, .int (iz j)), (7, .int (iz z6))] O dX8_owedOn_91 (by decide) rfl ?_
          refine zi_iinc (pc := 93) (j + 1) [(0, .ref 2), (1, .ref a), (2, .int (iz w)), (3, .int (iz d)), (4, .int (iz o1)), (5, .int (iz z6)), (6, .int (iz (j + 1))), (7, .int (iz z6))] O dX8_owedOn_93 rfl (by omega) (by decide) rfl ?_
          refine z_goto (pc := 96) (tgt := 14) O dX8_owedOn_96 (by decide) ?_
          refine z_lk [(0, .ref 2), (1, .ref a), (2, .int (iz w)), (3, .int (iz d)), (4, .int (iz o1)), (5, .int (iz z6)), (6, .int (iz (j + 1)))] ⟨rfl, rfl, rfl, rfl, rfl, rfl, rfl, trivial⟩ ?_
          exact ih14 _ (by omega) o1 z6 (j + 1) rfl (by omega) (by omega) (by omega) (by omega)
        refine z_iload (pc := 73) O dX8_owedOn_73 rfl ?_
        refine zi_if_le (pc := 75) (tgt := 85) O dX8_owedOn_75 (by decide) (by omega) (fun h75 => ?_) (fun h75 => ?_)
        · refine z_iload (pc := 85) O dX8_owedOn_85 rfl ?_
          refine z_lk [(0, .ref 2), (1, .ref a), (2, .int (iz w)), (3, .int (iz d)), (4, .int (iz z12)), (5, .int (iz st)), (6, .int (iz j)), (7, .int (iz z6))] ⟨rfl, rfl, rfl, rfl, rfl, rfl, rfl, rfl, trivial⟩ ?_
          exact cut87 z12 (by omega)
        · refine z_iload (pc := 78) O dX8_owedOn_78 rfl ?_
          refine z_iconst (pc := 80) (v := iz (2)) O dX8_owedOn_80 (by decide) ?_
          refine zi_imul (pc := 81) O dX8_owedOn_81 ?_
          refine zi_any (fun z13 rz13 ez13 => ?_)
          refine z_goto (pc := 82) (tgt := 87) O dX8_owedOn_82 (by decide) ?_
          refine z_lk [(0, .ref 2), (1, .ref a), (2, .int (iz w)), (3, .int (iz d)), (4, .int (iz z12)), (5, .int (iz st)), (6, .int (iz j)), (7, .int (iz z6))] ⟨rfl, rfl, rfl, rfl, rfl, rfl, rfl, rfl, trivial⟩ ?_
          exact cut87 z13 (by omega)
  refine z_lk [(0, .ref 2), (1, .ref a), (2, .int (iz w)), (3, .int (iz d)), (4, .int (iz 0)), (5, .int (iz z1)), (6, .int (iz 0))] ⟨rfl, rfl, rfl, rfl, rfl, rfl, rfl, trivial⟩ ?_
  exact cut14 _ 0 z1 0 rfl (by omega) (by omega) (by omega) (by omega)
