set_option maxHeartbeats 4000000 in
set_option maxRecDepth 20000 in
theorem k9_ranked (l : Launch) (σ : VH) (p : Int) (rp : (-2147483648 ≤ p ∧ p < 2147483648)) (d : Int) (rd : (-2147483648 ≤ d ∧ d < 2147483648)) (y : Int) (ry : (-2147483648 ≤ y ∧ y < 2147483648)) (J : Lay σ) (hto : 0 ≤ gI σ 33 53 ∧ gI σ 33 53 ≤ 60) : Ct l yX9_ranked cX9_ranked 6 (some .int) 1 0 0 [.ref 33, .int (iz p), .int (iz d), .int (iz y)] σ (fun r τ => ∃ z : Int, r = some (.int (iz z)) ∧ (-2147483648 ≤ z ∧ z < 2147483648) ∧ (σ = τ)) := by
  refine Ct.enter rfl (Nat.le_of_ble_eq_true rfl) ?_
  intro κ γ hκ O hrc hrs
  subst hκ
  refine z_aload_n (pc := 0) O dX9_ranked_0 rfl ?_
  refine z_iload_n (pc := 1) O dX9_ranked_1 rfl ?_
  refine z_callV (pc := 2) O cl_X9_356 (k9_isPerson _ _ p (by omega) J) (by decide) (jo_33 J) kc_9 rfl rfl (Nat.le_of_ble_eq_true rfl) ⟨Nat.zero_le _, Nat.zero_le _⟩ dX9_ranked_2 (fun r τ1 hp => ?_)
  obtain ⟨z2, rfl, fτ1_0, fτ1_1, rfl⟩ := hp
  refine zi_if_ne (pc := 5) (tgt := 10) O dX9_ranked_5 (by decide) (by omega) (fun h5 => ?_) (fun h5 => ?_)
  · refine z_iconst (pc := 10) (v := iz (-1)) O dX9_ranked_10 (by decide) ?_
    refine z_istore (pc := 11) [(0, .ref 33), (1, .int (iz p)), (2, .int (iz d)), (3, .int (iz y)), (4, .int (iz (-1)))] O dX9_ranked_11 (by decide) rfl ?_
    refine z_iconst (pc := 13) (v := iz (0)) O dX9_ranked_13 (by decide) ?_
    refine z_istore (pc := 14) [(0, .ref 33), (1, .int (iz p)), (2, .int (iz d)), (3, .int (iz y)), (4, .int (iz (-1))), (5, .int (iz 0))] O dX9_ranked_14 (by decide) rfl ?_
    have cut16 : ∀ (mu16 : Nat) (best : Int) (k : Int), (mu16 = (gI σ 33 53 - k).toNat) → (-2147483648 ≤ best ∧ best < 2147483648) → (-2147483648 ≤ k ∧ k < 2147483648) → (-1 ≤ best ∧ best < k) → (0 ≤ k ∧ k ≤ gI σ 33 53) → Z κ γ 6 σ 0 0 (QM κ γ (fun r τ => ∃ z : Int, r = some (.int (iz z)) ∧ (-2147483648 ≤ z ∧ z < 2147483648) ∧ (σ = τ)) 0 0) 16 [(0, .ref 33), (1, .int (iz p)), (2, .int (iz d)), (3, .int (iz y)), (4, .int (iz best)), (5, .int (iz k))] [] := by
      intro mu16
      induction mu16 using Nat.strongRecOn with
      | ind mu16 ih16 =>
      intro best k hmu16 rr16_0 rr16_1 ff16_0 ff16_1
      refine z_iload (pc := 16) O dX9_ranked_16 rfl ?_
      refine z_aload_n (pc := 18) O dX9_ranked_18 rfl ?_
      refine zi_getv (pc := 19) (gI σ 33 53) O fl_X9_362 rfl (jo_33 J) (izg σ 33 53) dX9_ranked_19 ?_
      have := rgI σ 33 53
      refine zi_icmp_ge (pc := 22) (tgt := 90) O dX9_ranked_22 (by decide) (by omega) (by omega) (fun h22 => ?_) (fun h22 => ?_)
      · refine z_iload (pc := 90) O dX9_ranked_90 rfl ?_
        refine zi_if_ge (pc := 92) (tgt := 99) O dX9_ranked_92 (by decide) (by omega) (fun h92 => ?_) (fun h92 => ?_)
        · refine z_aload_n (pc := 99) O dX9_ranked_99 rfl ?_
          refine z_getR (pc := 100) 63 O fl_X9_104 rfl (jo_33 J) (jr_33_45 J) dX9_ranked_100 ?_
          refine z_iload (pc := 103) O dX9_ranked_103 rfl ?_
          refine zi_ialdv (pc := 105) (best.toNat) (gI σ 63 (best.toNat)) O (ja_63 J) (by omega) (by omega) (by omega) (izg σ 63 (best.toNat)) dX9_ranked_105 ?_
          have := rgI σ 63 (best.toNat)
          refine z_iret (pc := 106) O dX9_ranked_106 ?_
          exact ⟨(gI σ 63 (best.toNat)), rfl, (by omega), rfl⟩
        · refine z_iconst (pc := 95) (v := iz (0)) O dX9_ranked_95 (by decide) ?_
          refine z_goto (pc := 96) (tgt := 106) O dX9_ranked_96 (by decide) ?_
          refine z_iret (pc := 106) O dX9_ranked_106 ?_
          exact ⟨0, rfl, (by decide), rfl⟩
      · refine z_aload_n (pc := 25) O dX9_ranked_25 rfl ?_
        refine z_getR (pc := 26) 62 O fl_X9_101 rfl (jo_33 J) (jr_33_44 J) dX9_ranked_26 ?_
        refine z_iload (pc := 29) O dX9_ranked_29 rfl ?_
        refine zi_ialdv (pc := 31) (k.toNat) (gI σ 62 (k.toNat)) O (ja_62 J) (by omega) (by omega) (by omega) (izg σ 62 (k.toNat)) dX9_ranked_31 ?_
        have := rgI σ 62 (k.toNat)
        refine z_iload_n (pc := 32) O dX9_ranked_32 rfl ?_
        refine zi_icmp_ne (pc := 33) (tgt := 84) O dX9_ranked_33 (by decide) (by omega) (by omega) (fun h33 => ?_) (fun h33 => ?_)
        · refine zi_iinc (pc := 84) (k + 1) [(0, .ref 33), (1, .int (iz p)), (2, .int (iz d)), (3, .int (iz y)), (4, .int (iz best)), (5, .int (iz (k + 1)))] O dX9_ranked_84 rfl (by omega) (by decide) rfl ?_
          refine z_goto (pc := 87) (tgt := 16) O dX9_ranked_87 (by decide) ?_
          refine z_lk [(0, .ref 33), (1, .int (iz p)), (2, .int (iz d)), (3, .int (iz y)), (4, .int (iz best)), (5, .int (iz (k + 1)))] ⟨rfl, rfl, rfl, rfl, rfl, rfl, trivial⟩ ?_
          exact ih16 _ (by omega) best (k + 1) rfl (by omega) (by omega) (by omega) (by omega)
        · refine z_aload_n (pc := 36) O dX9_ranked_36 rfl ?_
          refine z_getR (pc := 37) 64 O fl_X9_107 rfl (jo_33 J) (jr_33_46 J) dX9_ranked_37 ?_
          refine z_iload (pc := 40) O dX9_ranked_40 rfl ?_
          refine zi_ialdv (pc := 42) (k.toNat) (gI σ 64 (k.toNat)) O (ja_64 J) (by omega) (by omega) (by omega) (izg σ 64 (k.toNat)) dX9_ranked_42 ?_
          have := rgI σ 64 (k.toNat)
          refine z_iload_n (pc := 43) O dX9_ranked_43 rfl ?_
          refine zi_icmp_gt (pc := 44) (tgt := 84) O dX9_ranked_44 (by decide) (by omega) (by omega) (fun h44 => ?_) (fun h44 => ?_)
          · refine zi_iinc (pc := 84) (k + 1) [(0, .ref 33), (1, .int (iz p)), (2, .int (iz d)), (3, .int (iz y)), (4, .int (iz best)), (5, .int (iz (k + 1)))] O dX9_ranked_84 rfl (by omega) (by decide) rfl ?_
            refine z_goto (pc := 87) (tgt := 16) O dX9_ranked_87 (by decide) ?_
            refine z_lk [(0, .ref 33), (1, .int (iz p)), (2, .int (iz d)), (3, .int (iz y)), (4, .int (iz best)), (5, .int (iz (k + 1)))] ⟨rfl, rfl, rfl, rfl, rfl, rfl, trivial⟩ ?_
            exact ih16 _ (by omega) best (k + 1) rfl (by omega) (by omega) (by omega) (by omega)
          · refine z_aload_n (pc := 47) O dX9_ranked_47 rfl ?_
            refine z_getR (pc := 48) 65 O fl_X9_110 rfl (jo_33 J) (jr_33_47 J) dX9_ranked_48 ?_
            refine z_iload (pc := 51) O dX9_ranked_51 rfl ?_
            refine zi_ialdv (pc := 53) (k.toNat) (gI σ 65 (k.toNat)) O (ja_65 J) (by omega) (by omega) (by omega) (izg σ 65 (k.toNat)) dX9_ranked_53 ?_
            have := rgI σ 65 (k.toNat)
            refine z_iload_n (pc := 54) O dX9_ranked_54 rfl ?_
            refine zi_icmp_gt (pc := 55) (tgt := 84) O dX9_ranked_55 (by decide) (by omega) (by omega) (fun h55 => ?_) (fun h55 => ?_)
            · refine zi_iinc (pc := 84) (k + 1) [(0, .ref 33), (1, .int (iz p)), (2, .int (iz d)), (3, .int (iz y)), (4, .int (iz best)), (5, .int (iz (k + 1)))] O dX9_ranked_84 rfl (by omega) (by decide) rfl ?_
              refine z_goto (pc := 87) (tgt := 16) O dX9_ranked_87 (by decide) ?_
              refine z_lk [(0, .ref 33), (1, .int (iz p)), (2, .int (iz d)), (3, .int (iz y)), (4, .int (iz best)), (5, .int (iz (k + 1)))] ⟨rfl, rfl, rfl, rfl, rfl, rfl, trivial⟩ ?_
              exact ih16 _ (by omega) best (k + 1) rfl (by omega) (by omega) (by omega) (by omega)
            · refine z_iload (pc := 58) O dX9_ranked_58 rfl ?_
              refine zi_if_lt (pc := 60) (tgt := 80) O dX9_ranked_60 (by decide) (by omega) (fun h60 => ?_) (fun h60 => ?_)
              · refine z_iload (pc := 80) O dX9_ranked_80 rfl ?_
                refine z_istore (pc := 82) [(0, .ref 33), (1, .int (iz p)), (2, .int (iz d)), (3, .int (iz y)), (4, .int (iz k)), (5, .int (iz k))] O dX9_ranked_82 (by decide) rfl ?_
                refine zi_iinc (pc := 84) (k + 1) [(0, .ref 33), (1, .int (iz p)), (2, .int (iz d)), (3, .int (iz y)), (4, .int (iz k)), (5, .int (iz (k + 1)))] O dX9_ranked_84 rfl (by omega) (by decide) rfl ?_
                refine z_goto (pc := 87) (tgt := 16) O dX9_ranked_87 (by decide) ?_
                refine z_lk [(0, .ref 33), (1, .int (iz p)), (2, .int (iz d)), (3, .int (iz y)), (4, .int (iz k)), (5, .int (iz (k + 1)))] ⟨rfl, rfl, rfl, rfl, rfl, rfl, trivial⟩ ?_
                exact ih16 _ (by omega) k (k + 1) rfl (by omega) (by omega) (by omega) (by omega)
              · refine z_aload_n (pc := 63) O dX9_ranked_63 rfl ?_
                refine z_getR (pc := 64) 64 O fl_X9_107 rfl (jo_33 J) (jr_33_46 J) dX9_ranked_64 ?_
                refine z_iload (pc := 67) O dX9_ranked_67 rfl ?_
                refine zi_ialdv (pc := 69) (k.toNat) (gI σ 64 (k.toNat)) O (ja_64 J) (by omega) (by omega) (by omega) (izg σ 64 (k.toNat)) dX9_ranked_69 ?_
                refine z_aload_n (pc := 70) O dX9_ranked_70 rfl ?_
                refine z_getR (pc := 71) 64 O fl_X9_107 rfl (jo_33 J) (jr_33_46 J) dX9_ranked_71 ?_
                refine z_iload (pc := 74) O dX9_ranked_74 rfl ?_
                refine zi_ialdv (pc := 76) (best.toNat) (gI σ 64 (best.toNat)) O (ja_64 J) (by omega) (by omega) (by omega) (izg σ 64 (best.toNat)) dX9_ranked_76 ?_
                have := rgI σ 64 (best.toNat)
                refine zi_icmp_lt (pc := 77) (tgt := 84) O dX9_ranked_77 (by decide) (by omega) (by omega) (fun h77 => ?_) (fun h77 => ?_)
                · refine zi_iinc (pc := 84) (k + 1) [(0, .ref 33), (1, .int (iz p)), (2, .int (iz d)), (3, .int (iz y)), (4, .int (iz best)), (5, .int (iz (k + 1)))] O dX9_ranked_84 rfl (by omega) (by decide) rfl ?_
                  refine z_goto (pc := 87) (tgt := 16) O dX9_ranked_87 (by decide) ?_
                  refine z_lk [(0, .ref 33), (1, .int (iz p)), (2, .int (iz d)), (3, .int (iz y)), (4, .int (iz best)), (5, .int (iz (k + 1)))] ⟨rfl, rfl, rfl, rfl, rfl, rfl, trivial⟩ ?_
                  exact ih16 _ (by omega) best (k + 1) rfl (by omega) (by omega) (by omega) (by omega)
                · refine z_iload (pc := 80) O dX9_ranked_80 rfl ?_
                  refine z_istore (pc := 82) [(0, .ref 33), (1, .int (iz p)), (2, .int (iz d)), (3, .int (iz y)), (4, .int (iz k)), (5, .int (iz k))] O dX9_ranked_82 (by decide) rfl ?_
                  refine zi_iinc (pc := 84) (k + 1) [(0, .ref 33), (1, .int (iz p)), (2, .int (iz d)), (3, .int (iz y)), (4, .int (iz k)), (5, .int (iz (k + 1)))] O dX9_ranked_84 rfl (by omega) (by decide) rfl ?_
                  refine z_goto (pc := 87) (tgt := 16) O dX9_ranked_87 (by decide) ?_
                  refine z_lk [(0, .ref 33), (1, .int (iz p)), (2, .int (iz d)), (3, .int (iz y)), (4, .int (iz k)), (5, .int (iz (k + 1)))] ⟨rfl, rfl, rfl, rfl, rfl, rfl, trivial⟩ ?_
                  exact ih16 _ (by omega) k (k + 1) rfl (by omega) (by omega) (by omega) (by omega)
    refine z_lk [(0, .ref 33), (1, .int (iz p)), (2, .int (iz d)), (3, .int (iz y)), (4, .int (iz (-1))), (5, .int (iz 0))] ⟨rfl, rfl, rfl, rfl, rfl, rfl, trivial⟩ ?_
    exact cut16 _ (-1) 0 rfl (by omega) (by omega) (by omega) (by omega)
  · refine z_iconst (pc := 8) (v := iz (-1)) O dX9_ranked_8 (by decide) ?_
    refine z_iret (pc := 9) O dX9_ranked_9 ?_
    exact ⟨(-1), rfl, (by decide), rfl⟩
set_option maxHeartbeats 4000000 in
set_option maxRecDepth 20000 in
theorem k9_isTruce (l : Launch) (σ : VH) (a : Int) (ra : (-2147483648 ≤ a ∧ a < 2147483648)) (b : Int) (rb : (-2147483648 ≤ b ∧ b < 2147483648)) (d : Int) (rd : (-2147483648 ≤ d ∧ d < 2147483648)) (J : Lay σ) (htr : 0 ≤ gI σ 33 54 ∧ gI σ 33 54 ≤ 10) : Ct l yX9_isTruce cX9_isTruce 5 (some .boolean) 0 0 0 [.ref 33, .int (iz a), .int (iz b), .int (iz d)] σ (fun r τ => ∃ z : Int, r = some (.int (iz z)) ∧ (z = 0 ∨ z = 1) ∧ (σ = τ)) := by
  refine Ct.enter rfl (Nat.le_of_ble_eq_true rfl) ?_
  intro κ γ hκ O hrc hrs
  subst hκ
  refine z_iconst (pc := 0) (v := iz (0)) O dX9_isTruce_0 (by decide) ?_
  refine z_istore (pc := 1) [(0, .ref 33), (1, .int (iz a)), (2, .int (iz b)), (3, .int (iz d)), (4, .int (iz 0))] O dX9_isTruce_1 (by decide) rfl ?_
  have cut3 : ∀ (mu3 : Nat) (k : Int), (mu3 = (gI σ 33 54 - k).toNat) → (-2147483648 ≤ k ∧ k < 2147483648) → (0 ≤ k ∧ k ≤ gI σ 33 54) → Z κ γ 5 σ 0 0 (QM κ γ (fun r τ => ∃ z : Int, r = some (.int (iz z)) ∧ (z = 0 ∨ z = 1) ∧ (σ = τ)) 0 0) 3 [(0, .ref 33), (1, .int (iz a)), (2, .int (iz b)), (3, .int (iz d)), (4, .int (iz k))] [] := by
    intro mu3
    induction mu3 using Nat.strongRecOn with
    | ind mu3 ih3 =>
    intro k hmu3 rr3_0 ff3_0
    refine z_iload (pc := 3) O dX9_isTruce_3 rfl ?_
    refine z_aload_n (pc := 5) O dX9_isTruce_5 rfl ?_
    refine zi_getv (pc := 6) (gI σ 33 54) O fl_X9_368 rfl (jo_33 J) (izg σ 33 54) dX9_isTruce_6 ?_
    have := rgI σ 33 54
    refine zi_icmp_ge (pc := 9) (tgt := 86) O dX9_isTruce_9 (by decide) (by omega) (by omega) (fun h9 => ?_) (fun h9 => ?_)
    · refine z_iconst (pc := 86) (v := iz (0)) O dX9_isTruce_86 (by decide) ?_
      refine z_zret (pc := 87) O dX9_isTruce_87 rfl ?_
      exact ⟨0, rfl, (by decide), rfl⟩
    · refine z_iload_n (pc := 12) O dX9_isTruce_12 rfl ?_
      refine z_aload_n (pc := 13) O dX9_isTruce_13 rfl ?_
      refine z_getR (pc := 14) 68 O fl_X9_119 rfl (jo_33 J) (jr_33_50 J) dX9_isTruce_14 ?_
      refine z_iload (pc := 17) O dX9_isTruce_17 rfl ?_
      refine zi_ialdv (pc := 19) (k.toNat) (gI σ 68 (k.toNat)) O (ja_68 J) (by omega) (by omega) (by omega) (izg σ 68 (k.toNat)) dX9_isTruce_19 ?_
      have := rgI σ 68 (k.toNat)
      refine zi_icmp_lt (pc := 20) (tgt := 80) O dX9_isTruce_20 (by decide) (by omega) (by omega) (fun h20 => ?_) (fun h20 => ?_)
      · refine zi_iinc (pc := 80) (k + 1) [(0, .ref 33), (1, .int (iz a)), (2, .int (iz b)), (3, .int (iz d)), (4, .int (iz (k + 1)))] O dX9_isTruce_80 rfl (by omega) (by decide) rfl ?_
        refine z_goto (pc := 83) (tgt := 3) O dX9_isTruce_83 (by decide) ?_
        refine z_lk [(0, .ref 33), (1, .int (iz a)), (2, .int (iz b)), (3, .int (iz d)), (4, .int (iz (k + 1)))] ⟨rfl, rfl, rfl, rfl, rfl, trivial⟩ ?_
        exact ih3 _ (by omega) (k + 1) rfl (by omega) (by omega)
      · refine z_iload_n (pc := 23) O dX9_isTruce_23 rfl ?_
        refine z_aload_n (pc := 24) O dX9_isTruce_24 rfl ?_
        refine z_getR (pc := 25) 69 O fl_X9_122 rfl (jo_33 J) (jr_33_51 J) dX9_isTruce_25 ?_
        refine z_iload (pc := 28) O dX9_isTruce_28 rfl ?_
        refine zi_ialdv (pc := 30) (k.toNat) (gI σ 69 (k.toNat)) O (ja_69 J) (by omega) (by omega) (by omega) (izg σ 69 (k.toNat)) dX9_isTruce_30 ?_
        have := rgI σ 69 (k.toNat)
        refine zi_icmp_gt (pc := 31) (tgt := 80) O dX9_isTruce_31 (by decide) (by omega) (by omega) (fun h31 => ?_) (fun h31 => ?_)
        · refine zi_iinc (pc := 80) (k + 1) [(0, .ref 33), (1, .int (iz a)), (2, .int (iz b)), (3, .int (iz d)), (4, .int (iz (k + 1)))] O dX9_isTruce_80 rfl (by omega) (by decide) rfl ?_
          refine z_goto (pc := 83) (tgt := 3) O dX9_isTruce_83 (by decide) ?_
          refine z_lk [(0, .ref 33), (1, .int (iz a)), (2, .int (iz b)), (3, .int (iz d)), (4, .int (iz (k + 1)))] ⟨rfl, rfl, rfl, rfl, rfl, trivial⟩ ?_
          exact ih3 _ (by omega) (k + 1) rfl (by omega) (by omega)
        · refine z_aload_n (pc := 34) O dX9_isTruce_34 rfl ?_
          refine z_getR (pc := 35) 66 O fl_X9_113 rfl (jo_33 J) (jr_33_48 J) dX9_isTruce_35 ?_
          refine z_iload (pc := 38) O dX9_isTruce_38 rfl ?_
          refine zi_ialdv (pc := 40) (k.toNat) (gI σ 66 (k.toNat)) O (ja_66 J) (by omega) (by omega) (by omega) (izg σ 66 (k.toNat)) dX9_isTruce_40 ?_
          have := rgI σ 66 (k.toNat)
          refine z_iload_n (pc := 41) O dX9_isTruce_41 rfl ?_
          refine zi_icmp_ne (pc := 42) (tgt := 56) O dX9_isTruce_42 (by decide) (by omega) (by omega) (fun h42 => ?_) (fun h42 => ?_)
          · refine z_aload_n (pc := 56) O dX9_isTruce_56 rfl ?_
            refine z_getR (pc := 57) 66 O fl_X9_113 rfl (jo_33 J) (jr_33_48 J) dX9_isTruce_57 ?_
            refine z_iload (pc := 60) O dX9_isTruce_60 rfl ?_
            refine zi_ialdv (pc := 62) (k.toNat) (gI σ 66 (k.toNat)) O (ja_66 J) (by omega) (by omega) (by omega) (izg σ 66 (k.toNat)) dX9_isTruce_62 ?_
            refine z_iload_n (pc := 63) O dX9_isTruce_63 rfl ?_
            refine zi_icmp_ne (pc := 64) (tgt := 80) O dX9_isTruce_64 (by decide) (by omega) (by omega) (fun h64 => ?_) (fun h64 => ?_)
            · refine zi_iinc (pc := 80) (k + 1) [(0, .ref 33), (1, .int (iz a)), (2, .int (iz b)), (3, .int (iz d)), (4, .int (iz (k + 1)))] O dX9_isTruce_80 rfl (by omega) (by decide) rfl ?_
              refine z_goto (pc := 83) (tgt := 3) O dX9_isTruce_83 (by decide) ?_
              refine z_lk [(0, .ref 33), (1, .int (iz a)), (2, .int (iz b)), (3, .int (iz d)), (4, .int (iz (k + 1)))] ⟨rfl, rfl, rfl, rfl, rfl, trivial⟩ ?_
              exact ih3 _ (by omega) (k + 1) rfl (by omega) (by omega)
            · refine z_aload_n (pc := 67) O dX9_isTruce_67 rfl ?_
              refine z_getR (pc := 68) 67 O fl_X9_116 rfl (jo_33 J) (jr_33_49 J) dX9_isTruce_68 ?_
              refine z_iload (pc := 71) O dX9_isTruce_71 rfl ?_
              refine zi_ialdv (pc := 73) (k.toNat) (gI σ 67 (k.toNat)) O (ja_67 J) (by omega) (by omega) (by omega) (izg σ 67 (k.toNat)) dX9_isTruce_73 ?_
              have := rgI σ 67 (k.toNat)
              refine z_iload_n (pc := 74) O dX9_isTruce_74 rfl ?_
              refine zi_icmp_ne (pc := 75) (tgt := 80) O dX9_isTruce_75 (by decide) (by omega) (by omega) (fun h75 => ?_) (fun h75 => ?_)
              · refine zi_iinc (pc := 80) (k + 1) [(0, .ref 33), (1, .int (iz a)), (2, .int (iz b)), (3, .int (iz d)), (4, .int (iz (k + 1)))] O dX9_isTruce_80 rfl (by omega) (by decide) rfl ?_
                refine z_goto (pc := 83) (tgt := 3) O dX9_isTruce_83 (by decide) ?_
                refine z_lk [(0, .ref 33), (1, .int (iz a)), (2, .int (iz b)), (3, .int (iz d)), (4, .int (iz (k + 1)))] ⟨rfl, rfl, rfl, rfl, rfl, trivial⟩ ?_
                exact ih3 _ (by omega) (k + 1) rfl (by omega) (by omega)
              · refine z_iconst (pc := 78) (v := iz (1)) O dX9_isTruce_78 (by decide) ?_
                refine z_zret (pc := 79) O dX9_isTruce_79 rfl ?_
                exact ⟨1, rfl, (by decide), rfl⟩
          · refine z_aload_n (pc := 45) O dX9_isTruce_45 rfl ?_
            refine z_getR (pc := 46) 67 O fl_X9_116 rfl (jo_33 J) (jr_33_49 J) dX9_isTruce_46 ?_
            refine z_iload (pc := 49) O dX9_isTruce_49 rfl ?_
            refine zi_ialdv (pc := 51) (k.toNat) (gI σ 67 (k.toNat)) O (ja_67 J) (by omega) (by omega) (by omega) (izg σ 67 (k.toNat)) dX9_isTruce_51 ?_
            have := rgI σ 67 (k.toNat)
            refine z_iload_n (pc := 52) O dX9_isTruce_52 rfl ?_
            refine zi_icmp_eq (pc := 53) (tgt := 78) O dX9_isTruce_53 (by decide) (by omega) (by omega) (fun h53 => ?_) (fun h53 => ?_)
            · refine z_iconst (pc := 78) (v := iz (1)) O dX9_isTruce_78 (by decide) ?_
              refine z_zret (pc := 79) O dX9_isTruce_79 rfl ?_
              exact ⟨1, rfl, (by decide), rfl⟩
            · refine z_aload_n (pc := 56) O dX9_isTruce_56 rfl ?_
              refine z_getR (pc := 57) 66 O fl_X9_113 rfl (jo_33 J) (jr_33_48 J) dX9_isTruce_57 ?_
              refine z_iload (pc := 60) O dX9_isTruce_60 rfl ?_
              refine zi_ialdv (pc := 62) (k.toNat) (gI σ 66 (k.toNat)) O (ja_66 J) (by omega) (by omega) (by omega) (izg σ 66 (k.toNat)) dX9_isTruce_62 ?_
              refine z_iload_n (pc := 63) O dX9_isTruce_63 rfl ?_
              refine zi_icmp_ne (pc := 64) (tgt := 80) O dX9_isTruce_64 (by decide) (by omega) (by omega) (fun h64 => ?_) (fun h64 => ?_)
              · refine zi_iinc (pc := 80) (k + 1) [(0, .ref 33), (1, .int (iz a)), (2, .int (iz b)), (3, .int (iz d)), (4, .int (iz (k + 1)))] O dX9_isTruce_80 rfl (by omega) (by decide) rfl ?_
                refine z_goto (pc := 83) (tgt := 3) O dX9_isTruce_83 (by decide) ?_
                refine z_lk [(0, .ref 33), (1, .int (iz a)), (2, .int (iz b)), (3, .int (iz d)), (4, .int (iz (k + 1)))] ⟨rfl, rfl, rfl, rfl, rfl, trivial⟩ ?_
                exact ih3 _ (by omega) (k + 1) rfl (by omega) (by omega)
              · refine z_aload_n (pc := 67) O dX9_isTruce_67 rfl ?_
                refine z_getR (pc := 68) 67 O fl_X9_116 rfl (jo_33 J) (jr_33_49 J) dX9_isTruce_68 ?_
                refine z_iload (pc := 71) O dX9_isTruce_71 rfl ?_
                refine zi_ialdv (pc := 73) (k.toNat) (gI σ 67 (k.toNat)) O (ja_67 J) (by omega) (by omega) (by omega) (izg σ 67 (k.toNat)) dX9_isTruce_73 ?_
                refine z_iload_n (pc := 74) O dX9_isTruce_74 rfl ?_
                refine zi_icmp_ne (pc := 75) (tgt := 80) O dX9_isTruce_75 (by decide) (by omega) (by omega) (fun h75 => ?_) (fun h75 => ?_)
                · refine zi_iinc (pc := 80) (k + 1) [(0, .ref 33), (1, .int (iz a)), (2, .int (iz b)), (3, .int (iz d)), (4, .int (iz (k + 1)))] O dX9_isTruce_80 rfl (by omega) (by decide) rfl ?_
                  refine z_goto (pc := 83) (tgt := 3) O dX9_isTruce_83 (by decide) ?_
                  refine z_lk [(0, .ref 33), (1, .int (iz a)), (2, .int (iz b)), (3, .int (iz d)), (4, .int (iz (k + 1)))] ⟨rfl, rfl, rfl, rfl, rfl, trivial⟩ ?_
                  exact ih3 _ (by omega) (k + 1) rfl (by omega) (by omega)
                · refine z_iconst (pc := 78) (v := iz (1)) O dX9_isTruce_78 (by decide) ?_
                  refine z_zret (pc := 79) O dX9_isTruce_79 rfl ?_
                  exact ⟨1, rfl, (by decide), rfl⟩
  refine z_lk [(0, .ref 33), (1, .int (iz a)), (2, .int (iz b)), (3, .int (iz d)), (4, .int (iz 0))] ⟨rfl, rfl, rfl, rfl, rfl, trivial⟩ ?_
  exact cut3 _ 0 rfl (by omega) (by omega)
set_option maxHeartbeats 4000000 in
set_option maxRecDepth 20000 in
theorem k9_isDead (l : Launch) (σ : VH) (p : Int) (rp : (-2147483648 ≤ p ∧ p < 2147483648)) (d : Int) (rd : (-2147483648 ≤ d ∧ d < 2147483648)) (J : Lay σ) (hp : 0 ≤ p ∧ p < 20) : Ct l yX9_isDead cX9_isDead 3 (some .boolean) 0 0 0 [.ref 33, .int (iz p), .int (iz d)] σ (fun r τ => ∃ z : Int, r = some (.int (iz z)) ∧ (z = 0 ∨ z = 1) ∧ (σ = τ)) := by
  refine Ct.enter rfl (Nat.le_of_ble_eq_true rfl) ?_
  intro κ γ hκ O hrc hrs
  subst hκ
  refine z_aload_n (pc := 0) O dX9_isDead_0 rfl ?_
  refine z_getR (pc := 1) 61 O fl_X9_98 rfl (jo_33 J) (jr_33_43 J) dX9_isDead_1 ?_
  refine z_iload_n (pc := 4) O dX9_isDead_4 rfl ?_
  refine zi_ialdv (pc := 5) (p.toNat) (gI σ 61 (p.toNat)) O (ja_61 J) (by omega) (by omega) (by omega) (izg σ 61 (p.toNat)) dX9_isDead_5 ?_
  have := rgI σ 61 (p.toNat)
  refine zi_if_lt (pc := 6) (tgt := 23) O dX9_isDead_6 (by decide) (by omega) (fun h6 => ?_) (fun h6 => ?_)
  · refine z_iconst (pc := 23) (v := iz (0)) O dX9_isDead_23 (by decide) ?_
    refine z_zret (pc := 24) O dX9_isDead_24 rfl ?_
    exact ⟨0, rfl, (by decide), rfl⟩
  · refine z_aload_n (pc := 9) O dX9_isDead_9 rfl ?_
    refine z_getR (pc := 10) 61 O fl_X9_98 rfl (jo_33 J) (jr_33_43 J) dX9_isDead_10 ?_
    refine z_iload_n (pc := 13) O dX9_isDead_13 rfl ?_
    refine zi_ialdv (pc := 14) (p.toNat) (gI σ 61 (p.toNat)) O (ja_61 J) (by omega) (by omega) (by omega) (izg σ 61 (p.toNat)) dX9_isDead_14 ?_
    refine z_iload_n (pc := 15) O dX9_isDead_15 rfl ?_
    refine zi_icmp_gt (pc := 16) (tgt := 23) O dX9_isDead_16 (by decide) (by omega) (by omega) (fun h16 => ?_) (fun h16 => ?_)
    · refine z_iconst (pc := 23) (v := iz (0)) O dX9_isDead_23 (by decide) ?_
      refine z_zret (pc := 24) O dX9_isDead_24 rfl ?_
      exact ⟨0, rfl, (by decide), rfl⟩
    · refine z_iconst (pc := 19) (v := iz (1)) O dX9_isDead_19 (by decide) ?_
      refine z_goto (pc := 20) (tgt := 24) O dX9_isDead_20 (by decide) ?_
      refine z_zret (pc := 24) O dX9_isDead_24 rfl ?_
      exact ⟨1, rfl, (by decide), rfl⟩
set_option maxHeartbeats 4000000 in
set_option maxRecDepth 20000 in
theorem k9_two (l : Launch) (σ : VH) (c : Int) (rc : (-2147483648 ≤ c ∧ c < 2147483648)) (a : Int) (ra : (-2147483648 ≤ a ∧ a < 2147483648)) (b : Int) (rb : (-2147483648 ≤ b ∧ b < 2147483648)) : Ct l yX9_two cX9_two 3 (some .boolean) 0 0 0 [.int (iz c), .int (iz a), .int (iz b)] σ (fun r τ => ∃ z : Int, r = some (.int (iz z)) ∧ (z = 0 ∨ z = 1) ∧ (σ = τ)) := by
  refine Ct.enter rfl (Nat.le_of_ble_eq_true rfl) ?_
  intro κ γ hκ O hrc hrs
  subst hκ
  refine z_iload_n (pc := 0) O dX9_two_0 rfl ?_
  refine z_bipush (pc := 1) (v := iz (60)) O dX9_two_1 (by decide) ?_
  refine zi_icmp_ne (pc := 3) (tgt := 19) O dX9_two_3 (by decide) (by omega) (by decide) (fun h3 => ?_) (fun h3 => ?_)
  · refine z_iload_n (pc := 19) O dX9_two_19 rfl ?_
    refine z_bipush (pc := 20) (v := iz (62)) O dX9_two_20 (by decide) ?_
    refine zi_icmp_ne (pc := 22) (tgt := 38) O dX9_two_22 (by decide) (by omega) (by decide) (fun h22 => ?_) (fun h22 => ?_)
    · refine z_iload_n (pc := 38) O dX9_two_38 rfl ?_
      refine z_bipush (pc := 39) (v := iz (61)) O dX9_two_39 (by decide) ?_
      refine zi_icmp_ne (pc := 41) (tgt := 57) O dX9_two_41 (by decide) (by omega) (by decide) (fun h41 => ?_) (fun h41 => ?_)
      · refine z_iload_n (pc := 57) O dX9_two_57 rfl ?_
        refine z_bipush (pc := 58) (v := iz (38)) O dX9_two_58 (by decide) ?_
        refine zi_icmp_ne (pc := 60) (tgt := 79) O dX9_two_60 (by decide) (by omega) (by decide) (fun h60 => ?_) (fun h60 => ?_)
        · refine z_iload_n (pc := 79) O dX9_two_79 rfl ?_
          refine zi_if_ne (pc := 80) (tgt := 87) O dX9_two_80 (by decide) (by omega) (fun h80 => ?_) (fun h80 => ?_)
          · refine z_iconst (pc := 87) (v := iz (1)) O dX9_two_87 (by decide) ?_
            refine z_goto (pc := 88) (tgt := 92) O dX9_two_88 (by decide) ?_
            refine z_zret (pc := 92) O dX9_two_92 rfl ?_
            exact ⟨1, rfl, (by decide), rfl⟩
          · refine z_iload_n (pc := 83) O dX9_two_83 rfl ?_
            refine zi_if_eq (pc := 84) (tgt := 91) O dX9_two_84 (by decide) (by omega) (fun h84 => ?_) (fun h84 => ?_)
            · refine z_iconst (pc := 91) (v := iz (0)) O dX9_two_91 (by decide) ?_
              refine z_zret (pc := 92) O dX9_two_92 rfl ?_
              exact ⟨0, rfl, (by decide), rfl⟩
            · refine z_iconst (pc := 87) (v := iz (1)) O dX9_two_87 (by decide) ?_
              refine z_goto (pc := 88) (tgt := 92) O dX9_two_88 (by decide) ?_
              refine z_zret (pc := 92) O dX9_two_92 rfl ?_
              exact ⟨1, rfl, (by decide), rfl⟩
        · refine z_iload_n (pc := 63) O dX9_two_63 rfl ?_
          refine zi_if_eq (pc := 64) (tgt := 75) O dX9_two_64 (by decide) (by omega) (fun h64 => ?_) (fun h64 => ?_)
          · refine z_iconst (pc := 75) (v := iz (0)) O dX9_two_75 (by decide) ?_
            refine z_goto (pc := 76) (tgt := 92) O dX9_two_76 (by decide) ?_
            refine z_zret (pc := 92) O dX9_two_92 rfl ?_
            exact ⟨0, rfl, (by decide), rfl⟩
          · refine z_iload_n (pc := 67) O dX9_two_67 rfl ?_
            refine zi_if_eq (pc := 68) (tgt := 75) O dX9_two_68 (by decide) (by omega) (fun h68 => ?_) (fun h68 => ?_)
            · refine z_iconst (pc := 75) (v := iz (0)) O dX9_two_75 (by decide) ?_
              refine z_goto (pc := 76) (tgt := 92) O dX9_two_76 (by decide) ?_
              refine z_zret (pc := 92) O dX9_two_92 rfl ?_
              exact ⟨0, rfl, (by decide), rfl⟩
            · refine z_iconst (pc := 71) (v := iz (1)) O dX9_two_71 (by decide) ?_
              refine z_goto (pc := 72) (tgt := 92) O dX9_two_72 (by decide) ?_
              refine z_zret (pc := 92) O dX9_two_92 rfl ?_
              exact ⟨1, rfl, (by decide), rfl⟩
      · refine z_iload_n (pc := 44) O dX9_two_44 rfl ?_
        refine z_iload_n (pc := 45) O dX9_two_45 rfl ?_
        refine zi_icmp_ne (pc := 46) (tgt := 53) O dX9_two_46 (by decide) (by omega) (by omega) (fun h46 => ?_) (fun h46 => ?_)
        · refine z_iconst (pc := 53) (v := iz (0)) O dX9_two_53 (by decide) ?_
          refine z_goto (pc := 54) (tgt := 92) O dX9_two_54 (by decide) ?_
          refine z_zret (pc := 92) O dX9_two_92 rfl ?_
          exact ⟨0, rfl, (by decide), rfl⟩
        · refine z_iconst (pc := 49) (v := iz (1)) O dX9_two_49 (by decide) ?_
          refine z_goto (pc := 50) (tgt := 92) O dX9_two_50 (by decide) ?_
          refine z_zret (pc := 92) O dX9_two_92 rfl ?_
          exact ⟨1, rfl, (by decide), rfl⟩
    · refine z_iload_n (pc := 25) O dX9_two_25 rfl ?_
      refine z_iload_n (pc := 26) O dX9_two_26 rfl ?_
      refine zi_icmp_le (pc := 27) (tgt := 34) O dX9_two_27 (by decide) (by omega) (by omega) (fun h27 => ?_) (fun h27 => ?_)
      · refine z_iconst (pc := 34) (v := iz (0)) O dX9_two_34 (by decide) ?_
        refine z_goto (pc := 35) (tgt := 92) O dX9_two_35 (by decide) ?_
        refine z_zret (pc := 92) O dX9_two_92 rfl ?_
        exact ⟨0, rfl, (by decide), rfl⟩
      · refine z_iconst (pc := 30) (v := iz (1)) O dX9_two_30 (by decide) ?_
        refine z_goto (pc := 31) (tgt := 92) O dX9_two_31 (by decide) ?_
        refine z_zret (pc := 92) O dX9_two_92 rfl ?_
        exact ⟨1, rfl, (by decide), rfl⟩
  · refine z_iload_n (pc := 6) O dX9_two_6 rfl ?_
    refine z_iload_n (pc := 7) O dX9_two_7 rfl ?_
    refine zi_icmp_ge (pc := 8) (tgt := 15) O dX9_two_8 (by decide) (by omega) (by omega) (fun h8 => ?_) (fun h8 => ?_)
    · refine z_iconst (pc := 15) (v := iz (0)) O dX9_two_15 (by decide) ?_
      refine z_goto (pc := 16) (tgt := 92) O dX9_two_16 (by decide) ?_
      refine z_zret (pc := 92) O dX9_two_92 rfl ?_
      exact ⟨0, rfl, (by decide), rfl⟩
    · refine z_iconst (pc := 11) (v := iz (1)) O dX9_two_11 (by decide) ?_
      refine z_goto (pc := 12) (tgt := 92) O dX9_two_12 (by decide) ?_
      refine z_zret (pc := 92) O dX9_two_92 rfl ?_
      exact ⟨1, rfl, (by decide), rfl⟩
set_option maxHeartbeats 4000000 in
set_option maxRecDepth 20000 in
theorem k9_bounded (l : Launch) (σ : VH) (v : Int64) : Ct l yX9_bounded cX9_bounded 2 (some .int) 0 0 0 [.long v] σ (fun r τ => ∃ z : Int, r = some (.int (iz z)) ∧ (-2147483648 ≤ z ∧ z < 2147483648) ∧ (σ = τ)) := by
  refine Ct.enter rfl (Nat.le_of_ble_eq_true rfl) ?_
  intro κ γ hκ O hrc hrs
  subst hκ
  refine z_lload_n (pc := 0) O dX9_bounded_0 rfl ?_
  refine z_lconst (pc := 1) (v := 0) O dX9_bounded_1 (by decide) ?_
  refine z_lcmp (pc := 2) O dX9_bounded_2 ?_
  refine zi_lc_ge (pc := 3) (tgt := 10) O dX9_bounded_3 (by decide) (fun h3 => ?_) (fun h3 => ?_)
  · refine z_lload_n (pc := 10) O dX9_bounded_10 rfl ?_
    refine z_ldc2 (pc := 11) O tw_1204 dX9_bounded_11 ?_
    refine z_lcmp (pc := 14) O dX9_bounded_14 ?_
    refine zi_lc_le (pc := 15) (tgt := 24) O dX9_bounded_15 (by decide) (fun h15 => ?_) (fun h15 => ?_)
    · refine z_lload_n (pc := 24) O dX9_bounded_24 rfl ?_
      refine z_l2i (pc := 25) O dX9_bounded_25 ?_
      refine zi_any (fun z1 rz1 ez1 => ?_)
      refine z_iret (pc := 26) O dX9_bounded_26 ?_
      exact ⟨z1, rfl, (by omega), rfl⟩
    · refine z_ldcw (pc := 18) O tw_1205 dX9_bounded_18 ?_
      refine zi_val (10000000) (by decide) ?_
      refine z_goto (pc := 21) (tgt := 26) O dX9_bounded_21 (by decide) ?_
      refine z_iret (pc := 26) O dX9_bounded_26 ?_
      exact ⟨10000000, rfl, (by decide), rfl⟩
  · refine z_iconst (pc := 6) (v := iz (0)) O dX9_bounded_6 (by decide) ?_
    refine z_goto (pc := 7) (tgt := 26) O dX9_bounded_7 (by decide) ?_
    refine z_iret (pc := 26) O dX9_bounded_26 ?_
    exact ⟨0, rfl, (by decide), rfl⟩
set_option maxHeartbeats 4000000 in
set_option maxRecDepth 20000 in
theorem k9_work (l : Launch) (σ : VH) (b : Int) (rb : (-2147483648 ≤ b ∧ b < 2147483648)) (w : Int) (rw : (-2147483648 ≤ w ∧ w < 2147483648)) (J : Lay σ) (hb : 0 ≤ b ∧ b < 16) (hw : 0 ≤ w ∧ w < 272) (hs : SegOK σ b w.toNat) : Ct l yX9_work cX9_work 6 (some .int) 1 0 0 [.ref 33, .int (iz b), .int (iz w)] σ (fun r τ => ∃ z : Int, r = some (.int (iz z)) ∧ (-2147483648 ≤ z ∧ z < 2147483648) ∧ (Fr [(82, 99999)] σ τ)) := by
  refine Ct.enter rfl (Nat.le_of_ble_eq_true rfl) ?_
  intro κ γ hκ O hrc hrs
  subst hκ
  obtain ⟨hw0, dp, hd0, hd⟩ := hs
  refine z_iconst (pc := 0) (v := iz (0)) O dX9_work_0 (by decide) ?_
  refine z_istore_n (pc := 1) [(0, .ref 33), (1, .int (iz b)), (2, .int (iz w)), (3, .int (iz 0))] O dX9_work_1 (by decide) rfl ?_
  refine z_sipush (pc := 2) (v := iz (700)) O dX9_work_2 (by decide) ?_
  refine z_iload_n (pc := 5) O dX9_work_5 rfl ?_
  refine zi_imul (pc := 6) O dX9_work_6 ?_
  refine z_aload_n (pc := 7) O dX9_work_7 rfl ?_
  refine z_getR (pc := 8) 42 O fl_X9_39 rfl (jo_33 J) (jr_33_18 J) dX9_work_8 ?_
  refine z_iload_n (pc := 11) O dX9_work_11 rfl ?_
  refine zi_ialdv (pc := 12) (w.toNat) (gI σ 42 (w.toNat)) O (ja_42 J) (by omega) (by omega) (by omega) (izg σ 42 (w.toNat)) dX9_work_12 ?_
  have := rgI σ 42 (w.toNat)
  refine zi_iadd (pc := 13) O dX9_work_13 ?_
  refine z_istore (pc := 14) [(0, .ref 33), (1, .int (iz b)), (2, .int (iz w)), (3, .int (iz 0)), (4, .int (iz ((700 * b) + (gI σ 42 (w.toNat)))))] O dX9_work_14 (by decide) rfl ?_
  have cut16 : ∀ (mu16 : Nat) (n : Int) (k : Int) (ρ16 : VH), (mu16 = (700 * b + gI σ 43 w.toNat - k).toNat) → (-2147483648 ≤ n ∧ n < 2147483648) → (-2147483648 ≤ k ∧ k < 2147483648) → (n = dp k) → (700 * b + gI σ 42 w.toNat ≤ k ∧ k ≤ 700 * b + gI σ 43 w.toNat) → (0 ≤ n ∧ n ≤ 61) → (Fr [(82, 99999)] σ ρ16) → Z κ γ 6 ρ16 0 0 (QM κ γ (fun r τ => ∃ z : Int, r = some (.int (iz z)) ∧ (-2147483648 ≤ z ∧ z < 2147483648) ∧ (Fr [(82, 99999)] σ τ)) 0 0) 16 [(0, .ref 33), (1, .int (iz b)), (2, .int (iz w)), (3, .int (iz n)), (4, .int (iz k))] [] := by
    intro mu16
    induction mu16 using Nat.strongRecOn with
    | ind mu16 ih16 =>
    intro n k ρ16 hmu16 rr16_0 rr16_1 ff16_0 ff16_1 ff16_2 frρ16
    refine z_iload (pc := 16) O dX9_work_16 rfl ?_
    refine z_sipush (pc := 18) (v := iz (700)) O dX9_work_18 (by decide) ?_
    refine z_iload_n (pc := 21) O dX9_work_21 rfl ?_
    refine zi_imul (pc := 22) O dX9_work_22 ?_
    refine z_aload_n (pc := 23) O dX9_work_23 rfl ?_
    refine z_getR (pc := 24) 43 O fl_X9_42 rfl (jo_33 (frρ16.lay J)) (jr_33_19 (frρ16.lay J)) dX9_work_24 ?_
    refine z_iload_n (pc := 27) O dX9_work_27 rfl ?_
    refine zi_ialdv (pc := 28) (w.toNat) (gI σ 43 (w.toNat)) O (ja_43 (frρ16.lay J)) (by omega) (by omega) (by omega) (Fr.it frρ16 rfl (izg σ 43 (w.toNat))) dX9_work_28 ?_
    have := rgI σ 43 (w.toNat)
    refine zi_iadd (pc := 29) O dX9_work_29 ?_
    refine zi_icmp_ge (pc := 30) (tgt := 175) O dX9_work_30 (by decide) (by omega) (by omega) (fun h30 => ?_) (fun h30 => ?_)
    · refine z_aload_n (pc := 175) O dX9_work_175 rfl ?_
      refine z_getR (pc := 176) 82 O fl_X9_161 rfl (jo_33 (frρ16.lay J)) (jr_33_68 (frρ16.lay J)) dX9_work_176 ?_
      refine z_iconst (pc := 179) (v := iz (0)) O dX9_work_179 (by decide) ?_
      refine zi_ialdv (pc := 180) 0 (gI ρ16 82 0) O (ja_82 (frρ16.lay J)) rfl (by decide) (by omega) (izg ρ16 82 0) dX9_work_180 ?_
      have := rgI ρ16 82 0
      refine z_iret (pc := 181) O dX9_work_181 ?_
      exact ⟨(gI ρ16 82 0), rfl, (by omega), frρ16⟩
    · have cd := hd k (by omega) (by omega)
      unfold Cd at cd
      refine z_aload_n (pc := 33) O dX9_work_33 rfl ?_
      refine z_getR (pc := 34) 51 O fl_X9_66 rfl (jo_33 (frρ16.lay J)) (jr_33_27 (frρ16.lay J)) dX9_work_34 ?_
      refine z_iload (pc := 37) O dX9_work_37 rfl ?_
      refine zi_ialdv (pc := 39) (k.toNat) (gI σ 51 (k.toNat)) O (ja_51 (frρ16.lay J)) (by omega) (by omega) (by omega) (Fr.it frρ16 rfl (izg σ 51 (k.toNat))) dX9_work_39 ?_
      have := rgI σ 51 (k.toNat)
      refine z_istore (pc := 40) [(0, .ref 33), (1, .int (iz b)), (2, .int (iz w)), (3, .int (iz n)), (4, .int (iz k)), (5, .int (iz (gI σ 51 (k.toNat))))] O dX9_work_40 (by decide) rfl ?_
      refine z_iload (pc := 42) O dX9_work_42 rfl ?_
      refine z_bipush (pc := 44) (v := iz (110)) O dX9_work_44 (by decide) ?_
      refine zi_icmp_eq (pc := 46) (tgt := 56) O dX9_work_46 (by decide) (by omega) (by decide) (fun h46 => ?_) (fun h46 => ?_)
      · refine z_aload_n (pc := 56) O dX9_work_56 rfl ?_
        refine z_getR (pc := 57) 82 O fl_X9_161 rfl (jo_33 (frρ16.lay J)) (jr_33_68 (frρ16.lay J)) dX9_work_57 ?_
        refine z_iload_n (pc := 60) O dX9_work_60 rfl ?_
        refine z_iload (pc := 61) O dX9_work_61 rfl ?_
        refine z_bipush (pc := 63) (v := iz (110)) O dX9_work_63 (by decide) ?_
        refine zi_icmp_ne (pc := 65) (tgt := 78) O dX9_work_65 (by decide) (by omega) (by decide) (fun h65 => ?_) (fun h65 => ?_)
        · refine z_aload_n (pc := 78) O dX9_work_78 rfl ?_
          refine z_getR (pc := 79) 81 O fl_X9_158 rfl (jo_33 (frρ16.lay J)) (jr_33_67 (frρ16.lay J)) dX9_work_79 ?_
          refine z_aload_n (pc := 82) O dX9_work_82 rfl ?_
          refine z_getR (pc := 83) 52 O fl_X9_69 rfl (jo_33 (frρ16.lay J)) (jr_33_28 (frρ16.lay J)) dX9_work_83 ?_
          refine z_iload (pc := 86) O dX9_work_86 rfl ?_
          refine zi_ialdv (pc := 88) (k.toNat) (gI σ 52 (k.toNat)) O (ja_52 (frρ16.lay J)) (by omega) (by omega) (by omega) (Fr.it frρ16 rfl (izg σ 52 (k.toNat))) dX9_work_88 ?_
          have := rgI σ 52 (k.toNat)
          refine zi_ialdv (pc := 89) ((gI σ 52 (k.toNat)).toNat) (gI σ 81 ((gI σ 52 (k.toNat)).toNat)) O (ja_81 (frρ16.lay J)) (by omega) (by omega) (by omega) (Fr.it frρ16 rfl (izg σ 81 ((gI σ 52 (k.toNat)).toNat))) dX9_work_89 ?_
          have := rgI σ 81 ((gI σ 52 (k.toNat)).toNat)
          refine zi_iast (pc := 90) (n.toNat) O (ja_82 (frρ16.lay J)) (by omega) (by omega) (by omega) dX9_work_90 ?_
          refine zi_iinc (pc := 91) (n + 1) [(0, .ref 33), (1, .int (iz b)), (2, .int (iz w)), (3, .int (iz (n + 1))), (4, .int (iz k)), (5, .int (iz (gI σ 51 (k.toNat))))] O dX9_work_91 rfl (by omega) (by decide) rfl ?_
          refine z_goto (pc := 94) (tgt := 169) O dX9_work_94 (by decide) ?_
          refine zi_iinc (pc := 169) (k + 1) [(0, .ref 33), (1, .int (iz b)), (2, .int (iz w)), (3, .int (iz (n + 1))), (4, .int (iz (k + 1))), (5, .int (iz (gI σ 51 (k.toNat))))] O dX9_work_169 rfl (by omega) (by decide) rfl ?_
          refine z_goto (pc := 172) (tgt := 16) O dX9_work_172 (by decide) ?_
          refine z_lk [(0, .ref 33), (1, .int (iz b)), (2, .int (iz w)), (3, .int (iz (n + 1))), (4, .int (iz (k + 1)))] ⟨rfl, rfl, rfl, rfl, rfl, trivial⟩ ?_
          exact ih16 _ (by omega) (n + 1) (k + 1) (sI ρ16 82 (n.toNat) (iz (gI σ 81 ((gI σ 52 (k.toNat)).toNat)))) rfl (by omega) (by omega) (by omega) (by omega) (by omega) (frρ16.pI rfl)
        · refine z_aload_n (pc := 68) O dX9_work_68 rfl ?_
          refine z_getR (pc := 69) 52 O fl_X9_69 rfl (jo_33 (frρ16.lay J)) (jr_33_28 (frρ16.lay J)) dX9_work_69 ?_
          refine z_iload (pc := 72) O dX9_work_72 rfl ?_
          refine zi_ialdv (pc := 74) (k.toNat) (gI σ 52 (k.toNat)) O (ja_52 (frρ16.lay J)) (by omega) (by omega) (by omega) (Fr.it frρ16 rfl (izg σ 52 (k.toNat))) dX9_work_74 ?_
          have := rgI σ 52 (k.toNat)
          refine z_goto (pc := 75) (tgt := 90) O dX9_work_75 (by decide) ?_
          refine zi_iast (pc := 90) (n.toNat) O (ja_82 (frρ16.lay J)) (by omega) (by omega) (by omega) dX9_work_90 ?_
          refine zi_iinc (pc := 91) (n + 1) [(0, .ref 33), (1, .int (iz b)), (2, .int (iz w)), (3, .int (iz (n + 1))), (4, .int (iz k)), (5, .int (iz (gI σ 51 (k.toNat))))] O dX9_work_91 rfl (by omega) (by decide) rfl ?_
          refine z_goto (pc := 94) (tgt := 169) O dX9_work_94 (by decide) ?_
          refine zi_iinc (pc := 169) (k + 1) [(0, .ref 33), (1, .int (iz b)), (2, .int (iz w)), (3, .int (iz (n + 1))), (4, .int (iz (k + 1))), (5, .int (iz (gI σ 51 (k.toNat))))] O dX9_work_169 rfl (by omega) (by decide) rfl ?_
          refine z_goto (pc := 172) (tgt := 16) O dX9_work_172 (by decide) ?_
          refine z_lk [(0, .ref 33), (1, .int (iz b)), (2, .int (iz w)), (3, .int (iz (n + 1))), (4, .int (iz (k + 1)))] ⟨rfl, rfl, rfl, rfl, rfl, trivial⟩ ?_
          exact ih16 _ (by omega) (n + 1) (k + 1) (sI ρ16 82 (n.toNat) (iz (gI σ 52 (k.toNat)))) rfl (by omega) (by omega) (by omega) (by omega) (by omega) (frρ16.pI rfl)
      · refine z_iload (pc := 49) O dX9_work_49 rfl ?_
        refine z_bipush (pc := 51) (v := iz (119)) O dX9_work_51 (by decide) ?_
        refine zi_icmp_ne (pc := 53) (tgt := 97) O dX9_work_53 (by decide) (by omega) (by decide) (fun h53 => ?_) (fun h53 => ?_)
        · refine z_iload (pc := 97) O dX9_work_97 rfl ?_
          refine z_bipush (pc := 99) (v := iz (126)) O dX9_work_99 (by decide) ?_
          refine zi_icmp_ne (pc := 101) (tgt := 131) O dX9_work_101 (by decide) (by omega) (by decide) (fun h101 => ?_) (fun h101 => ?_)
          · refine zi_iinc (pc := 131) (n - 1) [(0, .ref 33), (1, .int (iz b)), (2, .int (iz w)), (3, .int (iz (n - 1))), (4, .int (iz k)), (5, .int (iz (gI σ 51 (k.toNat))))] O dX9_work_131 rfl (by omega) (by decide) rfl ?_
            refine z_aload_n (pc := 134) O dX9_work_134 rfl ?_
            refine z_getR (pc := 135) 82 O fl_X9_161 rfl (jo_33 (frρ16.lay J)) (jr_33_68 (frρ16.lay J)) dX9_work_135 ?_
            refine z_iload_n (pc := 138) O dX9_work_138 rfl ?_
            refine z_iconst (pc := 139) (v := iz (1)) O dX9_work_139 (by decide) ?_
            refine zi_isub (pc := 140) O dX9_work_140 ?_
            refine z_iload (pc := 141) O dX9_work_141 rfl ?_
            refine z_aload_n (pc := 143) O dX9_work_143 rfl ?_
            refine z_getR (pc := 144) 82 O fl_X9_161 rfl (jo_33 (frρ16.lay J)) (jr_33_68 (frρ16.lay J)) dX9_work_144 ?_
            refine z_iload_n (pc := 147) O dX9_work_147 rfl ?_
            refine z_iconst (pc := 148) (v := iz (1)) O dX9_work_148 (by decide) ?_
            refine zi_isub (pc := 149) O dX9_work_149 ?_
            refine zi_ialdv (pc := 150) (((n - 1) - 1).toNat) (gI ρ16 82 (((n - 1) - 1).toNat)) O (ja_82 (frρ16.lay J)) (by omega) (by omega) (by omega) (izg ρ16 82 (((n - 1) - 1).toNat)) dX9_work_150 ?_
            have := rgI ρ16 82 (((n - 1) - 1).toNat)
            refine z_aload_n (pc := 151) O dX9_work_151 rfl ?_
            refine z_getR (pc := 152) 82 O fl_X9_161 rfl (jo_33 (frρ16.lay J)) (jr_33_68 (frρ16.lay J)) dX9_work_152 ?_
            refine z_iload_n (pc := 155) O dX9_work_155 rfl ?_
            refine zi_ialdv (pc := 156) ((n - 1).toNat) (gI ρ16 82 ((n - 1).toNat)) O (ja_82 (frρ16.lay J)) (by omega) (by omega) (by omega) (izg ρ16 82 ((n - 1).toNat)) dX9_work_156 ?_
            have := rgI ρ16 82 ((n - 1).toNat)
            refine z_callS (pc := 157) O cl_X9_379 (k9_two _ _ (gI σ 51 (k.toNat)) (by omega) (gI ρ16 82 (((n - 1) - 1).toNat)) (by omega) (gI ρ16 82 ((n - 1).toNat)) (by omega)) (by decide) rfl rfl (Nat.le_of_ble_eq_true rfl) ⟨Nat.zero_le _, Nat.zero_le _⟩ dX9_work_157 (fun r τ1 hp => ?_)
            obtain ⟨z2, rfl, fτ1_0, rfl⟩ := hp
            refine zi_if_eq (pc := 160) (tgt := 167) O dX9_work_160 (by decide) (by omega) (fun h160 => ?_) (fun h160 => ?_)
            · refine z_iconst (pc := 167) (v := iz (0)) O dX9_work_167 (by decide) ?_
              refine zi_iast (pc := 168) (((n - 1) - 1).toNat) O (ja_82 (frρ16.lay J)) (by omega) (by omega) (by omega) dX9_work_168 ?_
              refine zi_iinc (pc := 169) (k + 1) [(0, .ref 33), (1, .int (iz b)), (2, .int (iz w)), (3, .int (iz (n - 1))), (4, .int (iz (k + 1))), (5, .int (iz (gI σ 51 (k.toNat))))] O dX9_work_169 rfl (by omega) (by decide) rfl ?_
              refine z_goto (pc := 172) (tgt := 16) O dX9_work_172 (by decide) ?_
              refine z_lk [(0, .ref 33), (1, .int (iz b)), (2, .int (iz w)), (3, .int (iz (n - 1))), (4, .int (iz (k + 1)))] ⟨rfl, rfl, rfl, rfl, rfl, trivial⟩ ?_
              exact ih16 _ (by omega) (n - 1) (k + 1) (sI ρ16 82 (((n - 1) - 1).toNat) (iz 0)) rfl (by omega) (by omega) (by omega) (by omega) (by omega) (frρ16.pI rfl)
            · refine z_iconst (pc := 163) (v := iz (1)) O dX9_work_163 (by decide) ?_
              refine z_goto (pc := 164) (tgt := 168) O dX9_work_164 (by decide) ?_
              refine zi_iast (pc := 168) (((n - 1) - 1).toNat) O (ja_82 (frρ16.lay J)) (by omega) (by omega) (by omega) dX9_work_168 ?_
              refine zi_iinc (pc := 169) (k + 1) [(0, .ref 33), (1, .int (iz b)), (2, .int (iz w)), (3, .int (iz (n - 1))), (4, .int (iz (k + 1))), (5, .int (iz (gI σ 51 (k.toNat))))] O dX9_work_169 rfl (by omega) (by decide) rfl ?_
              refine z_goto (pc := 172) (tgt := 16) O dX9_work_172 (by decide) ?_
              refine z_lk [(0, .ref 33), (1, .int (iz b)), (2, .int (iz w)), (3, .int (iz (n - 1))), (4, .int (iz (k + 1)))] ⟨rfl, rfl, rfl, rfl, rfl, trivial⟩ ?_
              exact ih16 _ (by omega) (n - 1) (k + 1) (sI ρ16 82 (((n - 1) - 1).toNat) (iz 1)) rfl (by omega) (by omega) (by omega) (by omega) (by omega) (frρ16.pI rfl)
          · refine z_aload_n (pc := 104) O dX9_work_104 rfl ?_
            refine z_getR (pc := 105) 82 O fl_X9_161 rfl (jo_33 (frρ16.lay J)) (jr_33_68 (frρ16.lay J)) dX9_work_105 ?_
            refine z_iload_n (pc := 108) O dX9_work_108 rfl ?_
            refine z_iconst (pc := 109) (v := iz (1)) O dX9_work_109 (by decide) ?_
            refine zi_isub (pc := 110) O dX9_work_110 ?_
            refine z_aload_n (pc := 111) O dX9_work_111 rfl ?_
            refine z_getR (pc := 112) 82 O fl_X9_161 rfl (jo_33 (frρ16.lay J)) (jr_33_68 (frρ16.lay J)) dX9_work_112 ?_
            refine z_iload_n (pc := 115) O dX9_work_115 rfl ?_
            refine z_iconst (pc := 116) (v := iz (1)) O dX9_work_116 (by decide) ?_
            refine zi_isub (pc := 117) O dX9_work_117 ?_
            refine zi_ialdv (pc := 118) ((n - 1).toNat) (gI ρ16 82 ((n - 1).toNat)) O (ja_82 (frρ16.lay J)) (by omega) (by omega) (by omega) (izg ρ16 82 ((n - 1).toNat)) dX9_work_118 ?_
            have := rgI ρ16 82 ((n - 1).toNat)
            refine zi_if_ne (pc := 119) (tgt := 126) O dX9_work_119 (by decide) (by omega) (fun h119 => ?_) (fun h119 => ?_)
            · refine z_iconst (pc := 126) (v := iz (0)) O dX9_work_126 (by decide) ?_
              refine zi_iast (pc := 127) ((n - 1).toNat) O (ja_82 (frρ16.lay J)) (by omega) (by omega) (by omega) dX9_work_127 ?_
              refine z_goto (pc := 128) (tgt := 169) O dX9_work_128 (by decide) ?_
              refine zi_iinc (pc := 169) (k + 1) [(0, .ref 33), (1, .int (iz b)), (2, .int (iz w)), (3, .int (iz n)), (4, .int (iz (k + 1))), (5, .int (iz (gI σ 51 (k.toNat))))] O dX9_work_169 rfl (by omega) (by decide) rfl ?_
              refine z_goto (pc := 172) (tgt := 16) O dX9_work_172 (by decide) ?_
              refine z_lk [(0, .ref 33), (1, .int (iz b)), (2, .int (iz w)), (3, .int (iz n)), (4, .int (iz (k + 1)))] ⟨rfl, rfl, rfl, rfl, rfl, trivial⟩ ?_
              exact ih16 _ (by omega) n (k + 1) (sI ρ16 82 ((n - 1).toNat) (iz 0)) rfl (by omega) (by omega) (by omega) (by omega) (by omega) (frρ16.pI rfl)
            · refine z_iconst (pc := 122) (v := iz (1)) O dX9_work_122 (by decide) ?_
              refine z_goto (pc := 123) (tgt := 127) O dX9_work_123 (by decide) ?_
              refine zi_iast (pc := 127) ((n - 1).toNat) O (ja_82 (frρ16.lay J)) (by omega) (by omega) (by omega) dX9_work_127 ?_
              refine z_goto (pc := 128) (tgt := 169) O dX9_work_128 (by decide) ?_
              refine zi_iinc (pc := 169) (k + 1) [(0, .ref 33), (1, .int (iz b)), (2, .int (iz w)), (3, .int (iz n)), (4, .int (iz (k + 1))), (5, .int (iz (gI σ 51 (k.toNat))))] O dX9_work_169 rfl (by omega) (by decide) rfl ?_
              refine z_goto (pc := 172) (tgt := 16) O dX9_work_172 (by decide) ?_
              refine z_lk [(0, .ref 33), (1, .int (iz b)), (2, .int (iz w)), (3, .int (iz n)), (4, .int (iz (k + 1)))] ⟨rfl, rfl, rfl, rfl, rfl, trivial⟩ ?_
              exact ih16 _ (by omega) n (k + 1) (sI ρ16 82 ((n - 1).toNat) (iz 1)) rfl (by omega) (by omega) (by omega) (by omega) (by omega) (frρ16.pI rfl)
        · refine z_aload_n (pc := 56) O dX9_work_56 rfl ?_
          refine z_getR (pc := 57) 82 O fl_X9_161 rfl (jo_33 (frρ16.lay J)) (jr_33_68 (frρ16.lay J)) dX9_work_57 ?_
          refine z_iload_n (pc := 60) O dX9_work_60 rfl ?_
          refine z_iload (pc := 61) O dX9_work_61 rfl ?_
          refine z_bipush (pc := 63) (v := iz (110)) O dX9_work_63 (by decide) ?_
          refine zi_icmp_ne (pc := 65) (tgt := 78) O dX9_work_65 (by decide) (by omega) (by decide) (fun h65 => ?_) (fun h65 => ?_)
          · refine z_aload_n (pc := 78) O dX9_work_78 rfl ?_
            refine z_getR (pc := 79) 81 O fl_X9_158 rfl (jo_33 (frρ16.lay J)) (jr_33_67 (frρ16.lay J)) dX9_work_79 ?_
            refine z_aload_n (pc := 82) O dX9_work_82 rfl ?_
            refine z_getR (pc := 83) 52 O fl_X9_69 rfl (jo_33 (frρ16.lay J)) (jr_33_28 (frρ16.lay J)) dX9_work_83 ?_
            refine z_iload (pc := 86) O dX9_work_86 rfl ?_
            refine zi_ialdv (pc := 88) (k.toNat) (gI σ 52 (k.toNat)) O (ja_52 (frρ16.lay J)) (by omega) (by omega) (by omega) (Fr.it frρ16 rfl (izg σ 52 (k.toNat))) dX9_work_88 ?_
            have := rgI σ 52 (k.toNat)
            refine zi_ialdv (pc := 89) ((gI σ 52 (k.toNat)).toNat) (gI σ 81 ((gI σ 52 (k.toNat)).toNat)) O (ja_81 (frρ16.lay J)) (by omega) (by omega) (by omega) (Fr.it frρ16 rfl (izg σ 81 ((gI σ 52 (k.toNat)).toNat))) dX9_work_89 ?_
            have := rgI σ 81 ((gI σ 52 (k.toNat)).toNat)
            refine zi_iast (pc := 90) (n.toNat) O (ja_82 (frρ16.lay J)) (by omega) (by omega) (by omega) dX9_work_90 ?_
            refine zi_iinc (pc := 91) (n + 1) [(0, .ref 33), (1, .int (iz b)), (2, .int (iz w)), (3, .int (iz (n + 1))), (4, .int (iz k)), (5, .int (iz (gI σ 51 (k.toNat))))] O dX9_work_91 rfl (by omega) (by decide) rfl ?_
            refine z_goto (pc := 94) (tgt := 169) O dX9_work_94 (by decide) ?_
            refine zi_iinc (pc := 169) (k + 1) [(0, .ref 33), (1, .int (iz b)), (2, .int (iz w)), (3, .int (iz (n + 1))), (4, .int (iz (k + 1))), (5, .int (iz (gI σ 51 (k.toNat))))] O dX9_work_169 rfl (by omega) (by decide) rfl ?_
            refine z_goto (pc := 172) (tgt := 16) O dX9_work_172 (by decide) ?_
            refine z_lk [(0, .ref 33), (1, .int (iz b)), (2, .int (iz w)), (3, .int (iz (n + 1))), (4, .int (iz (k + 1)))] ⟨rfl, rfl, rfl, rfl, rfl, trivial⟩ ?_
            exact ih16 _ (by omega) (n + 1) (k + 1) (sI ρ16 82 (n.toNat) (iz (gI σ 81 ((gI σ 52 (k.toNat)).toNat)))) rfl (by omega) (by omega) (by omega) (by omega) (by omega) (frρ16.pI rfl)
          · refine z_aload_n (pc := 68) O dX9_work_68 rfl ?_
            refine z_getR (pc := 69) 52 O fl_X9_69 rfl (jo_33 (frρ16.lay J)) (jr_33_28 (frρ16.lay J)) dX9_work_69 ?_
            refine z_iload (pc := 72) O dX9_work_72 rfl ?_
            refine zi_ialdv (pc := 74) (k.toNat) (gI σ 52 (k.toNat)) O (ja_52 (frρ16.lay J)) (by omega) (by omega) (by omega) (Fr.it frρ16 rfl (izg σ 52 (k.toNat))) dX9_work_74 ?_
            have := rgI σ 52 (k.toNat)
            refine z_goto (pc := 75) (tgt := 90) O dX9_work_75 (by decide) ?_
            refine zi_iast (pc := 90) (n.toNat) O (ja_82 (frρ16.lay J)) (by omega) (by omega) (by omega) dX9_work_90 ?_
            refine zi_iinc (pc := 91) (n + 1) [(0, .ref 33), (1, .int (iz b)), (2, .int (iz w)), (3, .int (iz (n + 1))), (4, .int (iz k)), (5, .int (iz (gI σ 51 (k.toNat))))] O dX9_work_91 rfl (by omega) (by decide) rfl ?_
            refine z_goto (pc := 94) (tgt := 169) O dX9_work_94 (by decide) ?_
            refine zi_iinc (pc := 169) (k + 1) [(0, .ref 33), (1, .int (iz b)), (2, .int (iz w)), (3, .int (iz (n + 1))), (4, .int (iz (k + 1))), (5, .int (iz (gI σ 51 (k.toNat))))] O dX9_work_169 rfl (by omega) (by decide) rfl ?_
            refine z_goto (pc := 172) (tgt := 16) O dX9_work_172 (by decide) ?_
            refine z_lk [(0, .ref 33), (1, .int (iz b)), (2, .int (iz w)), (3, .int (iz (n + 1))), (4, .int (iz (k + 1)))] ⟨rfl, rfl, rfl, rfl, rfl, trivial⟩ ?_
            exact ih16 _ (by omega) (n + 1) (k + 1) (sI ρ16 82 (n.toNat) (iz (gI σ 52 (k.toNat)))) rfl (by omega) (by omega) (by omega) (by omega) (by omega) (frρ16.pI rfl)
  refine z_lk [(0, .ref 33), (1, .int (iz b)), (2, .int (iz w)), (3, .int (iz 0)), (4, .int (iz ((700 * b) + (gI σ 42 (w.toNat)))))] ⟨rfl, rfl, rfl, rfl, rfl, trivial⟩ ?_
  exact cut16 _ 0 ((700 * b) + (gI σ 42 (w.toNat))) σ rfl (by omega) (by omega) (by omega) (by omega) (by omega) (Fr.rf [(82, 99999)] σ)
