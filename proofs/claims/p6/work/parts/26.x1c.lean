set_option maxHeartbeats 4000000 in
set_option maxRecDepth 20000 in
theorem k8_caseAt (l : Launch) (σ : VH) (w : Int) (rw : (-2147483648 ≤ w ∧ w < 2147483648)) (I : InvX σ) : Ct l yX8_caseAt cX8_caseAt 2 (some (.object "BloodPrice$Case")) 0 0 0 [.ref 2, .int (iz w)] σ (fun r τ => σ = τ ∧ (r = some .null ∨ ∃ a, r = some (.ref a) ∧ CaseOK σ a)) := by
  refine Ct.enter rfl (Nat.le_of_ble_eq_true rfl) ?_
  intro κ γ hκ O hrc hrs
  subst hκ
  have i1 := I.2.1
  unfold InvX1 at i1
  refine z_iload_n (pc := 0) O dX8_caseAt_0 rfl ?_
  refine zi_if_lt (pc := 1) (tgt := 21) O dX8_caseAt_1 (by decide) (by omega) (fun h1 => ?_) (fun h1 => ?_)
  · refine z_null (pc := 21) O dX8_caseAt_21 ?_
    refine z_aret (pc := 22) (x := none) O dX8_caseAt_22 ?_
    exact ⟨rfl, Or.inl rfl⟩
  · refine z_iload_n (pc := 4) O dX8_caseAt_4 rfl ?_
    refine z_aload_n (pc := 5) O dX8_caseAt_5 rfl ?_
    refine zi_getv (pc := 6) (gI σ 2 12) O fl_X8_152 rfl (jo_2 I.1) (izg σ 2 12) dX8_caseAt_6 ?_
    have := rgI σ 2 12
    refine zi_icmp_ge (pc := 9) (tgt := 21) O dX8_caseAt_9 (by decide) (by omega) (by omega) (fun h9 => ?_) (fun h9 => ?_)
    · refine z_null (pc := 21) O dX8_caseAt_21 ?_
      refine z_aret (pc := 22) (x := none) O dX8_caseAt_22 ?_
      exact ⟨rfl, Or.inl rfl⟩
    · refine z_aload_n (pc := 12) O dX8_caseAt_12 rfl ?_
      refine z_getR (pc := 13) 26 O fl_X8_57 rfl (jo_2 I.1) (jr_2_11 I.1) dX8_caseAt_13 ?_
      refine z_iload_n (pc := 16) O dX8_caseAt_16 rfl ?_
      refine zi_aald (pc := 17) (t0 := 5) (w.toNat) O (ja_26 I.1) (by decide) rfl (by omega) (by omega) (by omega) dX8_caseAt_17 ?_
      have hq : hR σ 26 (w.toNat) = none ∨ ∃ b, hR σ 26 (w.toNat) = some b ∧ CaseOK σ b := I.2.2.2.2 (w.toNat) (by omega)
      rcases hq with hq | ⟨o1, hq, ho1⟩
      · rw [hq]
        refine z_top (st' := .null :: _) rfl ?_
        refine z_goto (pc := 18) (tgt := 22) O dX8_caseAt_18 (by decide) ?_
        refine z_aret (pc := 22) (x := none) O dX8_caseAt_22 ?_
        exact ⟨rfl, Or.inl rfl⟩
      · rw [hq]
        refine z_top (st' := .ref o1 :: _) rfl ?_
        have := ho1.1
        refine z_goto (pc := 18) (tgt := 22) O dX8_caseAt_18 (by decide) ?_
        refine z_aret (pc := 22) (x := some o1) O dX8_caseAt_22 ?_
        exact ⟨rfl, Or.inr ⟨_, rfl, ho1⟩⟩
set_option maxHeartbeats 4000000 in
set_option maxRecDepth 20000 in
theorem k8_lawOn (l : Launch) (σ : VH) (f : Int) (rf : (-2147483648 ≤ f ∧ f < 2147483648)) (d : Int) (rd : (-2147483648 ≤ d ∧ d < 2147483648)) (I : InvX σ) : Ct l yX8_lawOn cX8_lawOn 7 (some .int) 1 0 0 [.ref 2, .int (iz f), .int (iz d)] σ (fun r τ => ∃ z : Int, r = some (.int (iz z)) ∧ (-2147483648 ≤ z ∧ z < 2147483648) ∧ (z = -1 ∨ ((0 ≤ f ∧ f < 4) ∧ (0 ≤ z ∧ z < 4))) ∧ (σ = τ)) := by
  refine Ct.enter rfl (Nat.le_of_ble_eq_true rfl) ?_
  intro κ γ hκ O hrc hrs
  subst hκ
  have i1 := I.2.1
  unfold InvX1 at i1
  refine z_iload_n (pc := 0) O dX8_lawOn_0 rfl ?_
  refine z_callS (pc := 1) O cl_X8_81 (k8_isFolk _ _ f (by omega)) (by decide) rfl rfl (Nat.le_of_ble_eq_true rfl) ⟨Nat.zero_le _, Nat.zero_le _⟩ dX8_lawOn_1 (fun r τ1 hp => ?_)
  obtain ⟨z2, rfl, fτ1_0, fτ1_1, rfl⟩ := hp
  refine zi_if_ne (pc := 4) (tgt := 9) O dX8_lawOn_4 (by decide) (by omega) (fun h4 => ?_) (fun h4 => ?_)
  · have lo := I.2.2.1 f.toNat (by omega)
    refine z_iconst (pc := 9) (v := iz (-1)) O dX8_lawOn_9 (by decide) ?_
    refine z_istore_n (pc := 10) [(0, .ref 2), (1, .int (iz f)), (2, .int (iz d)), (3, .int (iz (-1)))] O dX8_lawOn_10 (by decide) rfl ?_
    refine z_iconst (pc := 11) (v := iz (-1)) O dX8_lawOn_11 (by decide) ?_
    refine z_istore (pc := 12) [(0, .ref 2), (1, .int (iz f)), (2, .int (iz d)), (3, .int (iz (-1))), (4, .int (iz (-1)))] O dX8_lawOn_12 (by decide) rfl ?_
    refine z_iconst (pc := 14) (v := iz (0)) O dX8_lawOn_14 (by decide) ?_
    refine z_istore (pc := 15) [(0, .ref 2), (1, .int (iz f)), (2, .int (iz d)), (3, .int (iz (-1))), (4, .int (iz (-1))), (5, .int (iz 0))] O dX8_lawOn_15 (by decide) rfl ?_
    have cut17 : ∀ (mu17 : Nat) (best : Int) (bf : Int) (k : Int), (mu17 = (4 - k).toNat) → (-2147483648 ≤ best ∧ best < 2147483648) → (-2147483648 ≤ bf ∧ bf < 2147483648) → (-2147483648 ≤ k ∧ k < 2147483648) → (-1 ≤ best ∧ best < 4) → (0 ≤ k ∧ k ≤ 4) → Z κ γ 7 σ 0 0 (QM κ γ (fun r τ => ∃ z : Int, r = some (.int (iz z)) ∧ (-2147483648 ≤ z ∧ z < 2147483648) ∧ (z = -1 ∨ ((0 ≤ f ∧ f < 4) ∧ (0 ≤ z ∧ z < 4))) ∧ (σ = τ)) 0 0) 17 [(0, .ref 2), (1, .int (iz f)), (2, .int (iz d)), (3, .int (iz best)), (4, .int (iz bf)), (5, .int (iz k))] [] := by
      intro mu17
      induction mu17 using Nat.strongRecOn with
      | ind mu17 ih17 =>
      intro best bf k hmu17 rr17_0 rr17_1 rr17_2 ff17_0 ff17_1
      refine z_iload (pc := 17) O dX8_lawOn_17 rfl ?_
      refine z_aload_n (pc := 19) O dX8_lawOn_19 rfl ?_
      refine z_getR (pc := 20) 8 O fl_X8_26 rfl (jo_2 I.1) (jr_2_4 I.1) dX8_lawOn_20 ?_
      refine z_iload_n (pc := 23) O dX8_lawOn_23 rfl ?_
      refine zi_ialdv (pc := 24) (f.toNat) (gI σ 8 (f.toNat)) O (ja_8 I.1) (by omega) (by omega) (by omega) (izg σ 8 (f.toNat)) dX8_lawOn_24 ?_
      have := rgI σ 8 (f.toNat)
      refine zi_icmp_ge (pc := 25) (tgt := 81) O dX8_lawOn_25 (by decide) (by omega) (by omega) (fun h25 => ?_) (fun h25 => ?_)
      · refine z_iload_n (pc := 81) O dX8_lawOn_81 rfl ?_
        refine z_iret (pc := 82) O dX8_lawOn_82 ?_
        exact ⟨best, rfl, (by omega), (by omega), rfl⟩
      · have cut75 : ∀ (best1 : Int) (bf1 : Int), (-2147483648 ≤ best1 ∧ best1 < 2147483648) → (-2147483648 ≤ bf1 ∧ bf1 < 2147483648) → (-1 ≤ best1 ∧ best1 < 4) → Z κ γ 7 σ 0 0 (QM κ γ (fun r τ => ∃ z : Int, r = some (.int (iz z)) ∧ (-2147483648 ≤ z ∧ z < 2147483648) ∧ (z = -1 ∨ ((0 ≤ f ∧ f < 4) ∧ (0 ≤ z ∧ z < 4))) ∧ (σ = τ)) 0 0) 75 [(0, .ref 2), (1, .int (iz f)), (2, .int (iz d)), (3, .int (iz best1)), (4, .int (iz bf1)), (5, .int (iz k))] [] := by
          intro best1 bf1 rr75_0 rr75_1 ff75_0
          refine zi_iinc (pc := 75) (k + 1) [(0, .ref 2), (1, .int (iz f)), (2, .int (iz d)), (3, .int (iz best1)), (4, .int (iz bf1)), (5, .int (iz (k + 1)))] O dX8_lawOn_75 rfl (by omega) (by decide) rfl ?_
          refine z_goto (pc := 78) (tgt := 17) O dX8_lawOn_78 (by decide) ?_
          refine z_lk [(0, .ref 2), (1, .int (iz f)), (2, .int (iz d)), (3, .int (iz best1)), (4, .int (iz bf1)), (5, .int (iz (k + 1)))] ⟨rfl, rfl, rfl, rfl, rfl, rfl, trivial⟩ ?_
          exact ih17 _ (by omega) best1 bf1 (k + 1) rfl (by omega) (by omega) (by omega) (by omega) (by omega)
        refine z_aload_n (pc := 28) O dX8_lawOn_28 rfl ?_
        refine z_getR (pc := 29) 7 O fl_X8_22 rfl (jo_2 I.1) (jr_2_3 I.1) dX8_lawOn_29 ?_
        refine z_iload_n (pc := 32) O dX8_lawOn_32 rfl ?_
        refine z_iconst (pc := 33) (v := iz (4)) O dX8_lawOn_33 (by decide) ?_
        refine zi_imul (pc := 34) O dX8_lawOn_34 ?_
        refine z_iload (pc := 35) O dX8_lawOn_35 rfl ?_
        refine zi_iadd (pc := 37) O dX8_lawOn_37 ?_
        refine zi_aald (pc := 38) (t0 := 4) (((f * 4) + k).toNat) O (ja_7 I.1) (by decide) rfl (by omega) (by omega) (by omega) dX8_lawOn_38 ?_
        have hq : hR σ 7 (((f * 4) + k).toNat) = none ∨ ∃ b, hR σ 7 (((f * 4) + k).toNat) = some b ∧ LawOK σ b := I.2.2.2.1 (((f * 4) + k).toNat) (by omega)
        rcases hq with hq | ⟨o3, hq, ho3⟩
        · rw [hq]
          refine z_top (st' := .null :: _) rfl ?_
          refine z_astoreN (pc := 39) [(0, .ref 2), (1, .int (iz f)), (2, .int (iz d)), (3, .int (iz best)), (4, .int (iz bf)), (5, .int (iz k)), (6, .null)] O dX8_lawOn_39 (by decide) rfl ?_
          refine z_aloadN (pc := 41) O dX8_lawOn_41 rfl ?_
          refine z_ifnullN (pc := 43) (tgt := 75) O dX8_lawOn_43 (by decide) ?_
          refine z_lk [(0, .ref 2), (1, .int (iz f)), (2, .int (iz d)), (3, .int (iz best)), (4, .int (iz bf)), (5, .int (iz k))] ⟨rfl, rfl, rfl, rfl, rfl, rfl, trivial⟩ ?_
          exact cut75 best bf (by omega) (by omega) (by omega)
        · rw [hq]
          refine z_top (st' := .ref o3 :: _) rfl ?_
          have := ho3.1
          refine z_astore (pc := 39) [(0, .ref 2), (1, .int (iz f)), (2, .int (iz d)), (3, .int (iz best)), (4, .int (iz bf)), (5, .int (iz k)), (6, .ref o3)] O dX8_lawOn_39 (by decide) rfl ?_
          refine z_aload (pc := 41) O dX8_lawOn_41 rfl ?_
          refine z_ifnull (pc := 43) O dX8_lawOn_43 ?_
          refine z_aload (pc := 46) O dX8_lawOn_46 rfl ?_
          refine zi_getv (pc := 48) (gI σ o3 0) O fl_X8_116 rfl (ho3).is (izg _ o3 0) dX8_lawOn_48 ?_
          have := rgI σ o3 0
          refine z_iload_n (pc := 51) O dX8_lawOn_51 rfl ?_
          refine zi_icmp_gt (pc := 52) (tgt := 75) O dX8_lawOn_52 (by decide) (by omega) (by omega) (fun h52 => ?_) (fun h52 => ?_)
          · refine z_lk [(0, .ref 2), (1, .int (iz f)), (2, .int (iz d)), (3, .int (iz best)), (4, .int (iz bf)), (5, .int (iz k))] ⟨rfl, rfl, rfl, rfl, rfl, rfl, trivial⟩ ?_
            exact cut75 best bf (by omega) (by omega) (by omega)
          · refine z_aload (pc := 55) O dX8_lawOn_55 rfl ?_
            refine zi_getv (pc := 57) (gI σ o3 0) O fl_X8_116 rfl (ho3).is (izg _ o3 0) dX8_lawOn_57 ?_
            refine z_iload (pc := 60) O dX8_lawOn_60 rfl ?_
            refine zi_icmp_lt (pc := 62) (tgt := 75) O dX8_lawOn_62 (by decide) (by omega) (by omega) (fun h62 => ?_) (fun h62 => ?_)
            · refine z_lk [(0, .ref 2), (1, .int (iz f)), (2, .int (iz d)), (3, .int (iz best)), (4, .int (iz bf)), (5, .int (iz k))] ⟨rfl, rfl, rfl, rfl, rfl, rfl, trivial⟩ ?_
              exact cut75 best bf (by omega) (by omega) (by omega)
            · refine z_iload (pc := 65) O dX8_lawOn_65 rfl ?_
              refine z_istore_n (pc := 67) [(0, .ref 2), (1, .int (iz f)), (2, .int (iz d)), (3, .int (iz k)), (4, .int (iz bf)), (5, .int (iz k)), (6, .ref o3)] O dX8_lawOn_67 (by decide) rfl ?_
              refine z_aload (pc := 68) O dX8_lawOn_68 rfl ?_
              refine zi_getv (pc := 70) (gI σ o3 0) O fl_X8_116 rfl (ho3).is (izg _ o3 0) dX8_lawOn_70 ?_
              refine z_istore (pc := 73) [(0, .ref 2), (1, .int (iz f)), (2, .int (iz d)), (3, .int (iz k)), (4, .int (iz (gI σ o3 0))), (5, .int (iz k)), (6, .ref o3)] O dX8_lawOn_73 (by decide) rfl ?_
              refine z_lk [(0, .ref 2), (1, .int (iz f)), (2, .int (iz d)), (3, .int (iz k)), (4, .int (iz (gI σ o3 0))), (5, .int (iz k))] ⟨rfl, rfl, rfl, rfl, rfl, rfl, trivial⟩ ?_
              exact cut75 k (gI σ o3 0) (by omega) (by omega) (by omega)
    refine z_lk [(0, .ref 2), (1, .int (iz f)), (2, .int (iz d)), (3, .int (iz (-1))), (4, .int (iz (-1))), (5, .int (iz 0))] ⟨rfl, rfl, rfl, rfl, rfl, rfl, trivial⟩ ?_
    exact cut17 _ (-1) (-1) 0 rfl (by omega) (by omega) (by omega) (by omega) (by omega)
  · refine z_iconst (pc := 7) (v := iz (-1)) O dX8_lawOn_7 (by decide) ?_
    refine z_iret (pc := 8) O dX8_lawOn_8 ?_
    exact ⟨(-1), rfl, (by decide), (by omega), rfl⟩
set_option maxHeartbeats 4000000 in
set_option maxRecDepth 20000 in
theorem k8_lawOfCase (l : Launch) (σ : VH) (a : Nat) (I : InvX σ) (ha : CaseOK σ a) : Ct l yX8_lawOfCase cX8_lawOfCase 4 (some (.object "BloodPrice$Law")) 2 0 0 [.ref 2, .ref a] σ (fun r τ => σ = τ ∧ (r = some .null ∨ ∃ h, r = some (.ref h) ∧ LawOK σ h)) := by
  refine Ct.enter rfl (Nat.le_of_ble_eq_true rfl) ?_
  intro κ γ hκ O hrc hrs
  subst hκ
  have i1 := I.2.1
  unfold InvX1 at i1
  refine z_aload_n (pc := 0) O dX8_lawOfCase_0 rfl ?_
  refine z_getR (pc := 1) 9 O fl_X8_37 rfl (jo_2 I.1) (jr_2_8 I.1) dX8_lawOfCase_1 ?_
  refine z_aload_n (pc := 4) O dX8_lawOfCase_4 rfl ?_
  refine zi_getv (pc := 5) (gI σ a 1) O fl_X8_183 rfl (ha).is (izg _ a 1) dX8_lawOfCase_5 ?_
  have := rgI σ a 1
  refine z_callV (pc := 8) O cl_X8_237 (k3_folkOf _ _ (gI σ a 1) (by omega) I.1 (by omega)) (by decide) (jo_9 I.1) kc_3 rfl rfl (Nat.le_of_ble_eq_true rfl) ⟨Nat.zero_le _, Nat.zero_le _⟩ dX8_lawOfCase_8 (fun r τ1 hp => ?_)
  obtain ⟨z2, rfl, fτ1_0, rfl⟩ := hp
  refine z_istore_n (pc := 11) [(0, .ref 2), (1, .ref a), (2, .int (iz z2))] O dX8_lawOfCase_11 (by decide) rfl ?_
  refine z_aload_n (pc := 12) O dX8_lawOfCase_12 rfl ?_
  refine z_iload_n (pc := 13) O dX8_lawOfCase_13 rfl ?_
  refine z_aload_n (pc := 14) O dX8_lawOfCase_14 rfl ?_
  refine zi_getv (pc := 15) (gI σ a 3) O fl_X8_186 rfl (ha).is (izg _ a 3) dX8_lawOfCase_15 ?_
  have := rgI σ a 3
  refine z_callV (pc := 18) O cl_X8_241 (k8_lawOn _ _ z2 (by omega) (gI σ a 3) (by omega) I) (by decide) (jo_2 I.1) kc_8 rfl rfl (Nat.le_of_ble_eq_true rfl) ⟨Nat.zero_le _, Nat.zero_le _⟩ dX8_lawOfCase_18 (fun r τ3 hp => ?_)
  obtain ⟨z4, rfl, fτ3_0, fτ3_1, rfl⟩ := hp
  refine z_istore_n (pc := 21) [(0, .ref 2), (1, .ref a), (2, .int (iz z2)), (3, .int (iz z4))] O dX8_lawOfCase_21 (by decide) rfl ?_
  refine z_iload_n (pc := 22) O dX8_lawOfCase_22 rfl ?_
  refine z_iconst (pc := 23) (v := iz (-1)) O dX8_lawOfCase_23 (by decide) ?_
  refine zi_icmp_ne (pc := 24) (tgt := 31) O dX8_lawOfCase_24 (by decide) (by omega) (by decide) (fun h24 => ?_) (fun h24 => ?_)
  · refine z_aload_n (pc := 31) O dX8_lawOfCase_31 rfl ?_
    refine z_getR (pc := 32) 7 O fl_X8_22 rfl (jo_2 I.1) (jr_2_3 I.1) dX8_lawOfCase_32 ?_
    refine z_iload_n (pc := 35) O dX8_lawOfCase_35 rfl ?_
    refine z_iconst (pc := 36) (v := iz (4)) O dX8_lawOfCase_36 (by decide) ?_
    refine zi_imul (pc := 37) O dX8_lawOfCase_37 ?_
    refine z_iload_n (pc := 38) O dX8_lawOfCase_38 rfl ?_
    refine zi_iadd (pc := 39) O dX8_lawOfCase_39 ?_
    refine zi_aald (pc := 40) (t0 := 4) (((z2 * 4) + z4).toNat) O (ja_7 I.1) (by decide) rfl (by omega) (by omega) (by omega) dX8_lawOfCase_40 ?_
    have hq : hR σ 7 (((z2 * 4) + z4).toNat) = none ∨ ∃ b, hR σ 7 (((z2 * 4) + z4).toNat) = some b ∧ LawOK σ b := I.2.2.2.1 (((z2 * 4) + z4).toNat) (by omega)
    rcases hq with hq | ⟨o5, hq, ho5⟩
    · rw [hq]
      refine z_top (st' := .null :: _) rfl ?_
      refine z_aret (pc := 41) (x := none) O dX8_lawOfCase_41 ?_
      exact ⟨rfl, Or.inl rfl⟩
    · rw [hq]
      refine z_top (st' := .ref o5 :: _) rfl ?_
      have := ho5.1
      refine z_aret (pc := 41) (x := some o5) O dX8_lawOfCase_41 ?_
      exact ⟨rfl, Or.inr ⟨_, rfl, ho5⟩⟩
  · refine z_null (pc := 27) O dX8_lawOfCase_27 ?_
    refine z_goto (pc := 28) (tgt := 41) O dX8_lawOfCase_28 (by decide) ?_
    refine z_aret (pc := 41) (x := none) O dX8_lawOfCase_41 ?_
    exact ⟨rfl, Or.inl rfl⟩
set_option maxHeartbeats 4000000 in
set_option maxRecDepth 20000 in
theorem k8_truceBroken (l : Launch) (σ : VH) (a : Nat) (J : Lay σ) (hpe : 0 ≤ gI σ 9 7 ∧ gI σ 9 7 ≤ 20) (htr : 0 ≤ gI σ 21 4 ∧ gI σ 21 4 ≤ 10) (ha : CaseOK σ a) : Ct l yX8_truceBroken cX8_truceBroken 2 (some .boolean) 2 0 0 [.ref 2, .ref a] σ (fun r τ => ∃ z : Int, r = some (.int (iz z)) ∧ (z = 0 ∨ z = 1) ∧ (σ = τ)) := by
  refine Ct.enter rfl (Nat.le_of_ble_eq_true rfl) ?_
  intro κ γ hκ O hrc hrs
  subst hκ
  refine z_aload_n (pc := 0) O dX8_truceBroken_0 rfl ?_
  refine z_getR (pc := 1) 21 O fl_X8_51 rfl (jo_2 J) (jr_2_10 J) dX8_truceBroken_1 ?_
  refine z_aload_n (pc := 4) O dX8_truceBroken_4 rfl ?_
  refine z_getR (pc := 5) 9 O fl_X8_37 rfl (jo_2 J) (jr_2_8 J) dX8_truceBroken_5 ?_
  refine z_aload_n (pc := 8) O dX8_truceBroken_8 rfl ?_
  refine zi_getv (pc := 9) (gI σ a 0) O fl_X8_180 rfl (ha).is (izg _ a 0) dX8_truceBroken_9 ?_
  have := rgI σ a 0
  refine z_callV (pc := 12) O cl_X8_237 (k3_folkOf _ _ (gI σ a 0) (by omega) J (by omega)) (by decide) (jo_9 J) kc_3 rfl rfl (Nat.le_of_ble_eq_true rfl) ⟨Nat.zero_le _, Nat.zero_le _⟩ dX8_truceBroken_12 (fun r τ1 hp => ?_)
  obtain ⟨z2, rfl, fτ1_0, rfl⟩ := hp
  refine z_aload_n (pc := 15) O dX8_truceBroken_15 rfl ?_
  refine z_getR (pc := 16) 9 O fl_X8_37 rfl (jo_2 J) (jr_2_8 J) dX8_truceBroken_16 ?_
  refine z_aload_n (pc := 19) O dX8_truceBroken_19 rfl ?_
  refine zi_getv (pc := 20) (gI σ a 1) O fl_X8_183 rfl (ha).is (izg _ a 1) dX8_truceBroken_20 ?_
  have := rgI σ a 1
  refine z_callV (pc := 23) O cl_X8_237 (k3_folkOf _ _ (gI σ a 1) (by omega) J (by omega)) (by decide) (jo_9 J) kc_3 rfl rfl (Nat.le_of_ble_eq_true rfl) ⟨Nat.zero_le _, Nat.zero_le _⟩ dX8_truceBroken_23 (fun r τ3 hp => ?_)
  obtain ⟨z4, rfl, fτ3_0, rfl⟩ := hp
  refine z_aload_n (pc := 26) O dX8_truceBroken_26 rfl ?_
  refine zi_getv (pc := 27) (gI σ a 3) O fl_X8_186 rfl (ha).is (izg _ a 3) dX8_truceBroken_27 ?_
  have := rgI σ a 3
  refine z_callV (pc := 30) O cl_X8_244 (k7_held _ _ z2 (by omega) z4 (by omega) (gI σ a 3) (by omega) J (by omega)) (by decide) (jo_21 J) kc_7 rfl rfl (Nat.le_of_ble_eq_true rfl) ⟨Nat.zero_le _, Nat.zero_le _⟩ dX8_truceBroken_30 (fun r τ5 hp => ?_)
  obtain ⟨z6, rfl, fτ5_0, rfl⟩ := hp
  refine z_zret (pc := 33) O dX8_truceBroken_33 (nar_z (by omega)) ?_
  exact ⟨z6, rfl, (by omega), rfl⟩
set_option maxHeartbeats 4000000 in
set_option maxRecDepth 20000 in
theorem k8_gatherFacts (l : Launch) (σ : VH) (a : Nat) (y : Int) (ry : (-2147483648 ≤ y ∧ y < 2147483648)) (J : Lay σ) (hpe : 0 ≤ gI σ 9 7 ∧ gI σ 9 7 ≤ 20) (htr : 0 ≤ gI σ 21 4 ∧ gI σ 21 4 ≤ 10) (hto : 0 ≤ gI σ 16 4 ∧ gI σ 16 4 ≤ 60) (ha : CaseOK σ a) : Ct l yX8_gatherFacts cX8_gatherFacts 4 none 4 0 0 [.ref 2, .ref a, .int (iz y)] σ (fun r τ => r = none ∧ (Fr [(14, 99999), (32, 99999)] σ τ)) := by
  refine Ct.enter rfl (Nat.le_of_ble_eq_true rfl) ?_
  intro κ γ hκ O hrc hrs
  subst hκ
  refine z_aload_n (pc := 0) O dX8_gatherFacts_0 rfl ?_
  refine z_getR (pc := 1) 9 O fl_X8_37 rfl (jo_2 J) (jr_2_8 J) dX8_gatherFacts_1 ?_
  refine z_aload_n (pc := 4) O dX8_gatherFacts_4 rfl ?_
  refine zi_getv (pc := 5) (gI σ a 0) O fl_X8_180 rfl (ha).is (izg _ a 0) dX8_gatherFacts_5 ?_
  have := rgI σ a 0
  refine z_aload_n (pc := 8) O dX8_gatherFacts_8 rfl ?_
  refine zi_getv (pc := 9) (gI σ a 1) O fl_X8_183 rfl (ha).is (izg _ a 1) dX8_gatherFacts_9 ?_
  have := rgI σ a 1
  refine z_callV (pc := 12) O cl_X8_126 (k3_stepsBetween _ _ (gI σ a 0) (by omega) (gI σ a 1) (by omega) J (by omega)) (by decide) (jo_9 J) kc_3 rfl rfl (Nat.le_of_ble_eq_true rfl) ⟨Nat.zero_le _, Nat.zero_le _⟩ dX8_gatherFacts_12 (fun r τ1 hp => ?_)
  obtain ⟨z2, rfl, fτ1_0, frτ1⟩ := hp
  refine z_istore_n (pc := 15) [(0, .ref 2), (1, .ref a), (2, .int (iz y)), (3, .int (iz z2))] O dX8_gatherFacts_15 (by decide) rfl ?_
  refine z_aload_n (pc := 16) O dX8_gatherFacts_16 rfl ?_
  refine z_getR (pc := 17) 32 O fl_X8_71 rfl (jo_2 (frτ1.lay J)) (jr_2_16 (frτ1.lay J)) dX8_gatherFacts_17 ?_
  refine z_iconst (pc := 20) (v := iz (0)) O dX8_gatherFacts_20 (by decide) ?_
  refine z_aload_n (pc := 21) O dX8_gatherFacts_21 rfl ?_
  refine z_getR (pc := 22) 16 O fl_X8_44 rfl (jo_2 (frτ1.lay J)) (jr_2_9 (frτ1.lay J)) dX8_gatherFacts_22 ?_
  refine z_aload_n (pc := 25) O dX8_gatherFacts_25 rfl ?_
  refine zi_getv (pc := 26) (gI τ1 a 1) O fl_X8_183 rfl ((CaseOK.fr frτ1 ha)).is (izg _ a 1) dX8_gatherFacts_26 ?_
  have := rgI τ1 a 1
  refine z_aload_n (pc := 29) O dX8_gatherFacts_29 rfl ?_
  refine zi_getv (pc := 30) (gI τ1 a 3) O fl_X8_186 rfl ((CaseOK.fr frτ1 ha)).is (izg _ a 3) dX8_gatherFacts_30 ?_
  have := rgI τ1 a 3
  refine z_iload_n (pc := 33) O dX8_gatherFacts_33 rfl ?_
  refine z_callV (pc := 34) O cl_X8_139 (k6_rankAsKnown _ _ (gI τ1 a 1) (by omega) (gI τ1 a 3) (by omega) y (by omega) (frτ1.lay J) (by have : gI τ1 16 4 = gI σ 16 4 := gI_iz (Fr.it frτ1 rfl (izg σ 16 4)) (rgI _ _ _); omega)) (by decide) (jo_16 (frτ1.lay J)) kc_6 rfl rfl (Nat.le_of_ble_eq_true rfl) ⟨Nat.zero_le _, Nat.zero_le _⟩ dX8_gatherFacts_34 (fun r τ3 hp => ?_)
  obtain ⟨z4, rfl, fτ3_0, rfl⟩ := hp
  refine zi_iast (pc := 37) 0 O (ja_32 (frτ1.lay J)) rfl (by decide) (by omega) dX8_gatherFacts_37 ?_
  refine z_aload_n (pc := 38) O dX8_gatherFacts_38 rfl ?_
  refine z_getR (pc := 39) 32 O fl_X8_71 rfl (jo_2 (frτ1.lay J)) (jr_2_16 (frτ1.lay J)) dX8_gatherFacts_39 ?_
  refine z_iconst (pc := 42) (v := iz (1)) O dX8_gatherFacts_42 (by decide) ?_
  refine z_aload_n (pc := 43) O dX8_gatherFacts_43 rfl ?_
  refine z_getR (pc := 44) 16 O fl_X8_44 rfl (jo_2 (frτ1.lay J)) (jr_2_9 (frτ1.lay J)) dX8_gatherFacts_44 ?_
  refine z_aload_n (pc := 47) O dX8_gatherFacts_47 rfl ?_
  refine zi_getv (pc := 48) (gI (sI τ1 32 0 (iz z4)) a 0) O fl_X8_180 rfl ((show CaseOK (sI τ1 32 0 (iz z4)) a from CaseOK.fr ((Fr.rf [(32, 99999)] τ1).pI rfl) (CaseOK.fr frτ1 ha))).is (izg _ a 0) dX8_gatherFacts_48 ?_
  have := rgI (sI τ1 32 0 (iz z4)) a 0
  refine z_aload_n (pc := 51) O dX8_gatherFacts_51 rfl ?_
  refine zi_getv (pc := 52) (gI (sI τ1 32 0 (iz z4)) a 3) O fl_X8_186 rfl ((show CaseOK (sI τ1 32 0 (iz z4)) a from CaseOK.fr ((Fr.rf [(32, 99999)] τ1).pI rfl) (CaseOK.fr frτ1 ha))).is (izg _ a 3) dX8_gatherFacts_52 ?_
  have := rgI (sI τ1 32 0 (iz z4)) a 3
  refine z_iload_n (pc := 55) O dX8_gatherFacts_55 rfl ?_
  refine z_callV (pc := 56) O cl_X8_139 (k6_rankAsKnown _ _ (gI (sI τ1 32 0 (iz z4)) a 0) (by omega) (gI (sI τ1 32 0 (iz z4)) a 3) (by omega) y (by omega) (frτ1.lay J) (by have : gI (sI τ1 32 0 (iz z4)) 16 4 = gI σ 16 4 := gI_iz (sk1t (by decide) (Fr.it frτ1 rfl (izg σ 16 4))) (rgI _ _ _); omega)) (by decide) (jo_16 (frτ1.lay J)) kc_6 rfl rfl (Nat.le_of_ble_eq_true rfl) ⟨Nat.zero_le _, Nat.zero_le _⟩ dX8_gatherFacts_56 (fun r τ5 hp => ?_)
  obtain ⟨z6, rfl, fτ5_0, rfl⟩ := hp
  refine zi_iast (pc := 59) 1 O (ja_32 (frτ1.lay J)) rfl (by decide) (by omega) dX8_gatherFacts_59 ?_
  refine z_aload_n (pc := 60) O dX8_gatherFacts_60 rfl ?_
  refine z_getR (pc := 61) 32 O fl_X8_71 rfl (jo_2 (frτ1.lay J)) (jr_2_16 (frτ1.lay J)) dX8_gatherFacts_61 ?_
  refine z_iconst (pc := 64) (v := iz (2)) O dX8_gatherFacts_64 (by decide) ?_
  refine z_aload_n (pc := 65) O dX8_gatherFacts_65 rfl ?_
  refine zi_getv (pc := 66) (gI (sI (sI τ1 32 0 (iz z4)) 32 1 (iz z6)) a 4) O fl_X8_263 rfl ((show CaseOK (sI (sI τ1 32 0 (iz z4)) 32 1 (iz z6)) a from CaseOK.fr (((Fr.rf [(32, 99999)] τ1).pI rfl).pI rfl) (CaseOK.fr frτ1 ha))).is (izg _ a 4) dX8_gatherFacts_66 ?_
  have := rgI (sI (sI τ1 32 0 (iz z4)) 32 1 (iz z6)) a 4
  refine zi_iast (pc := 69) 2 O (ja_32 (frτ1.lay J)) rfl (by decide) (by omega) dX8_gatherFacts_69 ?_
  refine z_aload_n (pc := 70) O dX8_gatherFacts_70 rfl ?_
  refine z_getR (pc := 71) 32 O fl_X8_71 rfl (jo_2 (frτ1.lay J)) (jr_2_16 (frτ1.lay J)) dX8_gatherFacts_71 ?_
  refine z_iconst (pc := 74) (v := iz (3)) O dX8_gatherFacts_74 (by decide) ?_
  have cut87 : ∀ (x3 : Int), (-2147483648 ≤ x3 ∧ x3 < 2147483648) → Z κ γ 4 (sI (sI (sI τ1 32 0 (iz z4)) 32 1 (iz z6)) 32 2 (iz (gI (sI (sI τ1 32 0 (iz z4)) 32 1 (iz z6)) a 4))) 0 0 (QM κ γ (fun r τ => r = none ∧ (Fr [(14, 99999), (32, 99999)] σ τ)) 0 0) 87 [(0, .ref 2), (1, .ref a), (2, .int (iz y)), (3, .int (iz z2))] [.int (iz x3), .int (iz 3), .ref 32] := by
    intro x3 rr87_0
    refine zi_iast (pc := 87) 3 O (ja_32 (frτ1.lay J)) rfl (by decide) (by omega) dX8_gatherFacts_87 ?_
    refine z_aload_n (pc := 88) O dX8_gatherFacts_88 rfl ?_
    refine z_getR (pc := 89) 32 O fl_X8_71 rfl (jo_2 (frτ1.lay J)) (jr_2_16 (frτ1.lay J)) dX8_gatherFacts_89 ?_
    refine z_iconst (pc := 92) (v := iz (4)) O dX8_gatherFacts_92 (by decide) ?_
    have cut108 : ∀ (x4 : Int), (-2147483648 ≤ x4 ∧ x4 < 2147483648) → Z κ γ 4 (sI (sI (sI (sI τ1 32 0 (iz z4)) 32 1 (iz z6)) 32 2 (iz (gI (sI (sI τ1 32 0 (iz z4)) 32 1 (iz z6)) a 4))) 32 3 (iz x3)) 0 0 (QM κ γ (fun r τ => r = none ∧ (Fr [(14, 99999), (32, 99999)] σ τ)) 0 0) 108 [(0, .ref 2), (1, .ref a), (2, .int (iz y)), (3, .int (iz z2))] [.int (iz x4), .int (iz 4), .ref 32] := by
      intro x4 rr108_0
      refine zi_iast (pc := 108) 4 O (ja_32 (frτ1.lay J)) rfl (by decide) (by omega) dX8_gatherFacts_108 ?_
      refine z_aload_n (pc := 109) O dX8_gatherFacts_109 rfl ?_
      refine z_getR (pc := 110) 32 O fl_X8_71 rfl (jo_2 (frτ1.lay J)) (jr_2_16 (frτ1.lay J)) dX8_gatherFacts_110 ?_
      refine z_iconst (pc := 113) (v := iz (5)) O dX8_gatherFacts_113 (by decide) ?_
      have cut127 : ∀ (x5 : Int), (-2147483648 ≤ x5 ∧ x5 < 2147483648) → Z κ γ 4 (sI (sI (sI (sI (sI τ1 32 0 (iz z4)) 32 1 (iz z6)) 32 2 (iz (gI (sI (sI τ1 32 0 (iz z4)) 32 1 (iz z6)) a 4))) 32 3 (iz x3)) 32 4 (iz x4)) 0 0 (QM κ γ (fun r τ => r = none ∧ (Fr [(14, 99999), (32, 99999)] σ τ)) 0 0) 127 [(0, .ref 2), (1, .ref a), (2, .int (iz y)), (3, .int (iz z2))] [.int (iz x5), .int (iz 5), .ref 32] := by
        intro x5 rr127_0
        refine zi_iast (pc := 127) 5 O (ja_32 (frτ1.lay J)) rfl (by decide) (by omega) dX8_gatherFacts_127 ?_
        refine z_vret (pc := 128) O dX8_gatherFacts_128 ?_
        exact ⟨rfl, (((((((frτ1.mono (V := [(14, 99999), (32, 99999)]) rfl).pI rfl).pI rfl).pI rfl).pI rfl).pI rfl).pI rfl)⟩
      refine z_aload_n (pc := 114) O dX8_gatherFacts_114 rfl ?_
      refine z_aload_n (pc := 115) O dX8_gatherFacts_115 rfl ?_
      refine z_callV (pc := 116) O cl_X8_189 (k8_truceBroken _ _ a (frτ1.lay J) (by have : gI (sI (sI (sI (sI (sI τ1 32 0 (iz z4)) 32 1 (iz z6)) 32 2 (iz (gI (sI (sI τ1 32 0 (iz z4)) 32 1 (iz z6)) a 4))) 32 3 (iz x3)) 32 4 (iz x4)) 9 7 = gI σ 9 7 := gI_iz (sk1t (by decide) (sk1t (by decide) (sk1t (by decide) (sk1t (by decide) (sk1t (by decide) (Fr.it frτ1 rfl (izg σ 9 7))))))) (rgI _ _ _); omega) (by have : gI (sI (sI (sI (sI (sI τ1 32 0 (iz z4)) 32 1 (iz z6)) 32 2 (iz (gI (sI (sI τ1 32 0 (iz z4)) 32 1 (iz z6)) a 4))) 32 3 (iz x3)) 32 4 (iz x4)) 21 4 = gI σ 21 4 := gI_iz (sk1t (by decide) (sk1t (by decide) (sk1t (by decide) (sk1t (by decide) (sk1t (by decide) (Fr.it frτ1 rfl (izg σ 21 4))))))) (rgI _ _ _); omega) (show CaseOK (sI (sI (sI (sI (sI τ1 32 0 (iz z4)) 32 1 (iz z6)) 32 2 (iz (gI (sI (sI τ1 32 0 (iz z4)) 32 1 (iz z6)) a 4))) 32 3 (iz x3)) 32 4 (iz x4)) a from CaseOK.fr ((((((Fr.rf [(32, 99999)] τ1).pI rfl).pI rfl).pI rfl).pI rfl).pI rfl) (CaseOK.fr frτ1 ha))) (by decide) (jo_2 (frτ1.lay J)) kc_8 rfl rfl (Nat.le_of_ble_eq_true rfl) ⟨Nat.zero_le _, Nat.zero_le _⟩ dX8_gatherFacts_116 (fun r τ7 hp => ?_)
      obtain ⟨z8, rfl, fτ7_0, rfl⟩ := hp
      refine zi_if_eq (pc := 119) (tgt := 126) O dX8_gatherFacts_119 (by decide) (by omega) (fun h119 => ?_) (fun h119 => ?_)
      · refine z_iconst (pc := 126) (v := iz (0)) O dX8_gatherFacts_126 (by decide) ?_
        refine z_lk [(0, .ref 2), (1, .ref a), (2, .int (iz y)), (3, .int (iz z2))] ⟨rfl, rfl, rfl, rfl, trivial⟩ ?_
        exact cut127 0 (by omega)
      · refine z_iconst (pc := 122) (v := iz (1)) O dX8_gatherFacts_122 (by decide) ?_
        refine z_goto (pc := 123) (tgt := 127) O dX8_gatherFacts_123 (by decide) ?_
        refine z_lk [(0, .ref 2), (1, .ref a), (2, .int (iz y)), (3, .int (iz z2))] ⟨rfl, rfl, rfl, rfl, trivial⟩ ?_
        exact cut127 1 (by omega)
    refine z_iload_n (pc := 93) O dX8_gatherFacts_93 rfl ?_
    refine z_iconst (pc := 94) (v := iz (-1)) O dX8_gatherFacts_94 (by decide) ?_
    refine zi_icmp_eq (pc := 95) (tgt := 107) O dX8_gatherFacts_95 (by decide) (by omega) (by decide) (fun h95 => ?_) (fun h95 => ?_)
    · refine z_iconst (pc := 107) (v := iz (0)) O dX8_gatherFacts_107 (by decide) ?_
      refine z_lk [(0, .ref 2), (1, .ref a), (2, .int (iz y)), (3, .int (iz z2))] ⟨rfl, rfl, rfl, rfl, trivial⟩ ?_
      exact cut108 0 (by omega)
    · refine z_iload_n (pc := 98) O dX8_gatherFacts_98 rfl ?_
      refine z_iconst (pc := 99) (v := iz (3)) O dX8_gatherFacts_99 (by decide) ?_
      refine zi_icmp_gt (pc := 100) (tgt := 107) O dX8_gatherFacts_100 (by decide) (by omega) (by decide) (fun h100 => ?_) (fun h100 => ?_)
      · refine z_iconst (pc := 107) (v := iz (0)) O dX8_gatherFacts_107 (by decide) ?_
        refine z_lk [(0, .ref 2), (1, .ref a), (2, .int (iz y)), (3, .int (iz z2))] ⟨rfl, rfl, rfl, rfl, trivial⟩ ?_
        exact cut108 0 (by omega)
      · refine z_iconst (pc := 103) (v := iz (1)) O dX8_gatherFacts_103 (by decide) ?_
        refine z_goto (pc := 104) (tgt := 108) O dX8_gatherFacts_104 (by decide) ?_
        refine z_lk [(0, .ref 2), (1, .ref a), (2, .int (iz y)), (3, .int (iz z2))] ⟨rfl, rfl, rfl, rfl, trivial⟩ ?_
        exact cut108 1 (by omega)
  refine z_aload_n (pc := 75) O dX8_gatherFacts_75 rfl ?_
  refine zi_getv (pc := 76) (gI (sI (sI (sI τ1 32 0 (iz z4)) 32 1 (iz z6)) 32 2 (iz (gI (sI (sI τ1 32 0 (iz z4)) 32 1 (iz z6)) a 4))) a 5) O fl_X8_266 rfl ((show CaseOK (sI (sI (sI τ1 32 0 (iz z4)) 32 1 (iz z6)) 32 2 (iz (gI (sI (sI τ1 32 0 (iz z4)) 32 1 (iz z6)) a 4))) a from CaseOK.fr ((((Fr.rf [(32, 99999)] τ1).pI rfl).pI rfl).pI rfl) (CaseOK.fr frτ1 ha))).is (izg _ a 5) dX8_gatherFacts_76 ?_
  have := rgI (sI (sI (sI τ1 32 0 (iz z4)) 32 1 (iz z6)) 32 2 (iz (gI (sI (sI τ1 32 0 (iz z4)) 32 1 (iz z6)) a 4))) a 5
  refine zi_if_eq (pc := 79) (tgt := 86) O dX8_gatherFacts_79 (by decide) (by omega) (fun h79 => ?_) (fun h79 => ?_)
  · refine z_iconst (pc := 86) (v := iz (0)) O dX8_gatherFacts_86 (by decide) ?_
    refine z_lk [(0, .ref 2), (1, .ref a), (2, .int (iz y)), (3, .int (iz z2))] ⟨rfl, rfl, rfl, rfl, trivial⟩ ?_
    exact cut87 0 (by omega)
  · refine z_iconst (pc := 82) (v := iz (1)) O dX8_gatherFacts_82 (by decide) ?_
    refine z_goto (pc := 83) (tgt := 87) O dX8_gatherFacts_83 (by decide) ?_
    refine z_lk [(0, .ref 2), (1, .ref a), (2, .int (iz y)), (3, .int (iz z2))] ⟨rfl, rfl, rfl, rfl, trivial⟩ ?_
    exact cut87 1 (by omega)
