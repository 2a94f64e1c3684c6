set_option maxHeartbeats 4000000 in
set_option maxRecDepth 20000 in
theorem k9_ranked2 (l : Launch) (σ : VH) (p : Int) (rp : (-2147483648 ≤ p ∧ p < 2147483648)) (d : Int) (rd : (-2147483648 ≤ d ∧ d < 2147483648)) (y : Int) (ry : (-2147483648 ≤ y ∧ y < 2147483648)) (J : Lay σ) (hto : 0 ≤ gI σ 33 53 ∧ gI σ 33 53 ≤ 60) : Ct l yX9_ranked cX9_ranked 6 (some .int) 1 0 0 [.ref 33, .int (iz p), .int (iz d), .int (iz y)] σ (fun r τ => ∃ z : Int, r = some (.int (iz z)) ∧ (-2147483648 ≤ z ∧ z < 2147483648) ∧ ((z = -1 ∧ ¬ (0 ≤ p ∧ p < gI σ 33 52)) ∨ ((0 ≤ p ∧ p < gI σ 33 52) ∧ z = rkv (gI σ 62) (gI σ 63) (gI σ 64) (gI σ 65) p d y (gI σ 33 53).toNat)) ∧ (σ = τ)) := by
  refine Ct.enter rfl (Nat.le_of_ble_eq_true rfl) ?_
  intro κ γ hκ O hrc hrs
  subst hκ
  refine z_aload_n (pc := 0) O dX9_ranked_0 rfl ?_
  refine z_iload_n (pc := 1) O dX9_ranked_1 rfl ?_
  refine z_callV (pc := 2) O cl_X9_356 (k9_isPerson _ _ p (by omega) J) (by decide) (jo_33 J) kc_9 rfl rfl (Nat.le_of_ble_eq_true rfl) ⟨Nat.zero_le _, Nat.zero_le _⟩ dX9_ranked_2 (fun r τ1 hp => ?_)
  obtain ⟨z2, rfl, fτ1_0, fτ1_1, rfl⟩ := hp
  refine zi_if_ne (pc := 5) (tgt := 10) O dX9_ranked_5 (by decide) (by omega) (fun h5 => ?_) (fun h5 => ?_)
  · refine z_iconst (pc := 10) (v := iz (-1)) O dX9_ranked_10 (by decide) ?_
    refine z_istore (pc := 11) [(0, .ref 33), (1, .int (iz p)), (2, .int (iz d)), (3, .int (iz y)), (4, .int (iz (-1)))] O dX9_ranked_11 (by decide) rfl ?_
    refine z_iconst (pc := 13) (v := iz (0)) O dX9_ranked_13 (by decide) ?_
    refine z_istore (pc := 14) [(0, .ref 33), (1, .int (iz p)), (2, .int (iz d)), (3, .int (iz y)), (4, .int (iz (-1))), (5, .int (iz 0))] O dX9_ranked_14 (by decide) rfl ?_
    have cut16 : ∀ (mu16 : Nat) (best : Int) (k : Int), (mu16 = (gI σ 33 53 - k).toNat) → (-2147483648 ≤ best ∧ best < 2147483648) → (-2147483648 ≤ k ∧ k < 2147483648) → (-1 ≤ best ∧ best < k) → (0 ≤ k ∧ k ≤ gI σ 33 53) → (best = rix (gI σ 62) (gI σ 64) (gI σ 65) p d y k.toNat) → Z κ γ 6 σ 0 0 (QM κ γ (fun r τ => ∃ z : Int, r = some (.int (iz z)) ∧ (-2147483648 ≤ z ∧ z < 2147483648) ∧ ((z = -1 ∧ ¬ (0 ≤ p ∧ p < gI σ 33 52)) ∨ ((0 ≤ p ∧ p < gI σ 33 52) ∧ z = rkv (gI σ 62) (gI σ 63) (gI σ 64) (gI σ 65) p d y (gI σ 33 53).toNat)) ∧ (σ = τ)) 0 0) 16 [(0, .ref 33), (1, .int (iz p)), (2, .int (iz d)), (3, .int (iz y)), (4, .int (iz best)), (5, .int (iz k))] [] := by
      intro mu16
      induction mu16 using Nat.strongRecOn with
      | ind mu16 ih16 =>
      intro best k hmu16 rr16_0 rr16_1 ff16_0 ff16_1 ff16_2
      refine z_iload (pc := 16) O dX9_ranked_16 rfl ?_
      refine z_aload_n (pc := 18) O dX9_ranked_18 rfl ?_
      refine zi_getv (pc := 19) (gI σ 33 53) O fl_X9_362 rfl (jo_33 J) (izg σ 33 53) dX9_ranked_19 ?_
      have := rgI σ 33 53
      refine zi_icmp_ge (pc := 22) (tgt := 90) O dX9_ranked_22 (by decide) (by omega) (by omega) (fun h22 => ?_) (fun h22 => ?_)
      · refine z_iload (pc := 90) O dX9_ranked_90 rfl ?_
        refine zi_if_ge (pc := 92) (tgt := 99) O dX9_ranked_92 (by decide) (by omega) (fun h92 => ?_) (fun h92 => ?_)
        · refine z_aload_n (pc := 99) O dX9_ranked_99 rfl ?_
          refine z_getR (pc := 100) 63 O fl_X9_104 rfl (jo_33 J) (jr_33_45 J) dX9_ranked_100 ?_
          refine z_iload (pc := 103) O dX9_ranked_103 rfl ?_
          refine zi_ialdv (pc := 105) (best.toNat) (gI σ 63 (best.toNat)) O (ja_63 J) (by omega) (by omega) (by omega) (izg σ 63 (best.toNat)) dX9_ranked_105 ?_
          have := rgI σ 63 (best.toNat)
          refine z_iret (pc := 106) O dX9_ranked_106 ?_
          exact ⟨(gI σ 63 (best.toNat)), rfl, (by omega), (Or.inr ⟨by omega, by unfold rkv; rw [show (gI σ 33 53).toNat = k.toNat by omega, ← ff16_2, if_neg (by omega)]⟩), rfl⟩
        · refine z_iconst (pc := 95) (v := iz (0)) O dX9_ranked_95 (by decide) ?_
          refine z_goto (pc := 96) (tgt := 106) O dX9_ranked_96 (by decide) ?_
          refine z_iret (pc := 106) O dX9_ranked_106 ?_
          exact ⟨0, rfl, (by decide), (Or.inr ⟨by omega, by unfold rkv; rw [show (gI σ 33 53).toNat = k.toNat by omega, ← ff16_2, if_pos (by omega)]⟩), rfl⟩
      · refine z_aload_n (pc := 25) O dX9_ranked_25 rfl ?_
        refine z_getR (pc := 26) 62 O fl_X9_101 rfl (jo_33 J) (jr_33_44 J) dX9_ranked_26 ?_
        refine z_iload (pc := 29) O dX9_ranked_29 rfl ?_
        refine zi_ialdv (pc := 31) (k.toNat) (gI σ 62 (k.toNat)) O (ja_62 J) (by omega) (by omega) (by omega) (izg σ 62 (k.toNat)) dX9_ranked_31 ?_
        have := rgI σ 62 (k.toNat)
        refine z_iload_n (pc := 32) O dX9_ranked_32 rfl ?_
        refine zi_icmp_ne (pc := 33) (tgt := 84) O dX9_ranked_33 (by decide) (by omega) (by omega) (fun h33 => ?_) (fun h33 => ?_)
        · refine zi_iinc (pc := 84) (k + 1) [(0, .ref 33), (1, .int (iz p)), (2, .int (iz d)), (3, .int (iz y)), (4, .int (iz best)), (5, .int (iz (k + 1)))] O dX9_ranked_84 rfl (by omega) (by decide) rfl ?_
          refine z_goto (pc := 87) (tgt := 16) O dX9_ranked_87 (by decide) ?_
          refine z_lk [(0, .ref 33), (1, .int (iz p)), (2, .int (iz d)), (3, .int (iz y)), (4, .int (iz best)), (5, .int (iz (k + 1)))] ⟨rfl, rfl, rfl, rfl, rfl, rfl, trivial⟩ ?_
          exact ih16 _ (by omega) best (k + 1) rfl (by omega) (by omega) (by omega) (by omega) (by rw [rix_step (by omega), ← ff16_2]; split <;> omega)
        · refine z_aload_n (pc := 36) O dX9_ranked_36 rfl ?_
          refine z_getR (pc := 37) 64 O fl_X9_107 rfl (jo_33 J) (jr_33_46 J) dX9_ranked_37 ?_
          refine z_iload (pc := 40) O dX9_ranked_40 rfl ?_
          refine zi_ialdv (pc := 42) (k.toNat) (gI σ 64 (k.toNat)) O (ja_64 J) (by omega) (by omega) (by omega) (izg σ 64 (k.toNat)) dX9_ranked_42 ?_
          have := rgI σ 64 (k.toNat)
          refine z_iload_n (pc := 43) O dX9_ranked_43 rfl ?_
          refine zi_icmp_gt (pc := 44) (tgt := 84) O dX9_ranked_44 (by decide) (by omega) (by omega) (fun h44 => ?_) (fun h44 => ?_)
          · refine zi_iinc (pc := 84) (k + 1) [(0, .ref 33), (1, .int (iz p)), (2, .int (iz d)), (3, .int (iz y)), (4, .int (iz best)), (5, .int (iz (k + 1)))] O dX9_ranked_84 rfl (by omega) (by decide) rfl ?_
            refine z_goto (pc := 87) (tgt := 16) O dX9_ranked_87 (by decide) ?_
            refine z_lk [(0, .ref 33), (1, .int (iz p)), (2, .int (iz d)), (3, .int (iz y)), (4, .int (iz best)), (5, .int (iz (k + 1)))] ⟨rfl, rfl, rfl, rfl, rfl, rfl, trivial⟩ ?_
            exact ih16 _ (by omega) best (k + 1) rfl (by omega) (by omega) (by omega) (by omega) (by rw [rix_step (by omega), ← ff16_2]; split <;> omega)
          · refine z_aload_n (pc := 47) O dX9_ranked_47 rfl ?_
            refine z_getR (pc := 48) 65 O fl_X9_110 rfl (jo_33 J) (jr_33_47 J) dX9_ranked_48 ?_
            refine z_iload (pc := 51) O dX9_ranked_51 rfl ?_
            refine zi_ialdv (pc := 53) (k.toNat) (gI σ 65 (k.toNat)) O (ja_65 J) (by omega) (by omega) (by omega) (izg σ 65 (k.toNat)) dX9_ranked_53 ?_
            have := rgI σ 65 (k.toNat)
            refine z_iload_n (pc := 54) O dX9_ranked_54 rfl ?_
            refine zi_icmp_gt (pc := 55) (tgt := 84) O dX9_ranked_55 (by decide) (by omega) (by omega) (fun h55 => ?_) (fun h55 => ?_)
            · refine zi_iinc (pc := 84) (k + 1) [(0, .ref 33), (1, .int (iz p)), (2, .int (iz d)), (3, .int (iz y)), (4, .int (iz best)), (5, .int (iz (k + 1)))] O dX9_ranked_84 rfl (by omega) (by decide) rfl ?_
              refine z_goto (pc := 87) (tgt := 16) O dX9_ranked_87 (by decide) ?_
              refine z_lk [(0, .ref 33), (1, .int (iz p)), (2, .int (iz d)), (3, .int (iz y)), (4, .int (iz best)), (5, .int (iz (k + 1)))] ⟨rfl, rfl, rfl, rfl, rfl, rfl, trivial⟩ ?_
              exact ih16 _ (by omega) best (k + 1) rfl (by omega) (by omega) (by omega) (by omega) (by rw [rix_step (by omega), ← ff16_2]; split <;> omega)
            · refine z_iload (pc := 58) O dX9_ranked_58 rfl ?_
              refine zi_if_lt (pc := 60) (tgt := 80) O dX9_ranked_60 (by decide) (by omega) (fun h60 => ?_) (fun h60 => ?_)
              · refine z_iload (pc := 80) O dX9_ranked_80 rfl ?_
                refine z_istore (pc := 82) [(0, .ref 33), (1, .int (iz p)), (2, .int (iz d)), (3, .int (iz y)), (4, .int (iz k)), (5, .int (iz k))] O dX9_ranked_82 (by decide) rfl ?_
                refine zi_iinc (pc := 84) (k + 1) [(0, .ref 33), (1, .int (iz p)), (2, .int (iz d)), (3, .int (iz y)), (4, .int (iz k)), (5, .int (iz (k + 1)))] O dX9_ranked_84 rfl (by omega) (by decide) rfl ?_
                refine z_goto (pc := 87) (tgt := 16) O dX9_ranked_87 (by decide) ?_
                refine z_lk [(0, .ref 33), (1, .int (iz p)), (2, .int (iz d)), (3, .int (iz y)), (4, .int (iz k)), (5, .int (iz (k + 1)))] ⟨rfl, rfl, rfl, rfl, rfl, rfl, trivial⟩ ?_
                exact ih16 _ (by omega) k (k + 1) rfl (by omega) (by omega) (by omega) (by omega) (by rw [rix_step (by omega), ← ff16_2]; split <;> omega)
              · refine z_aload_n (pc := 63) O dX9_ranked_63 rfl ?_
                refine z_getR (pc := 64) 64 O fl_X9_107 rfl (jo_33 J) (jr_33_46 J) dX9_ranked_64 ?_
                refine z_iload (pc := 67) O dX9_ranked_67 rfl ?_
                refine zi_ialdv (pc := 69) (k.toNat) (gI σ 64 (k.toNat)) O (ja_64 J) (by omega) (by omega) (by omega) (izg σ 64 (k.toNat)) dX9_ranked_69 ?_
                refine z_aload_n (pc := 70) O dX9_ranked_70 rfl ?_
                refine z_getR (pc := 71) 64 O fl_X9_107 rfl (jo_33 J) (jr_33_46 J) dX9_ranked_71 ?_
                refine z_iload (pc := 74) O dX9_ranked_74 rfl ?_
                refine zi_ialdv (pc := 76) (best.toNat) (gI σ 64 (best.toNat)) O (ja_64 J) (by omega) (by omega) (by omega) (izg σ 64 (best.toNat)) dX9_ranked_76 ?_
                have := rgI σ 64 (best.toNat)
                refine zi_icmp_lt (pc := 77) (tgt := 84) O dX9_ranked_77 (by decide) (by omega) (by omega) (fun h77 => ?_) (fun h77 => ?_)
                · refine zi_iinc (pc := 84) (k + 1) [(0, .ref 33), (1, .int (iz p)), (2, .int (iz d)), (3, .int (iz y)), (4, .int (iz best)), (5, .int (iz (k + 1)))] O dX9_ranked_84 rfl (by omega) (by decide) rfl ?_
                  refine z_goto (pc := 87) (tgt := 16) O dX9_ranked_87 (by decide) ?_
                  refine z_lk [(0, .ref 33), (1, .int (iz p)), (2, .int (iz d)), (3, .int (iz y)), (4, .int (iz best)), (5, .int (iz (k + 1)))] ⟨rfl, rfl, rfl, rfl, rfl, rfl, trivial⟩ ?_
                  exact ih16 _ (by omega) best (k + 1) rfl (by omega) (by omega) (by omega) (by omega) (by rw [rix_step (by omega), ← ff16_2]; split <;> omega)
                · refine z_iload (pc := 80) O dX9_ranked_80 rfl ?_
                  refine z_istore (pc := 82) [(0, .ref 33), (1, .int (iz p)), (2, .int (iz d)), (3, .int (iz y)), (4, .int (iz k)), (5, .int (iz k))] O dX9_ranked_82 (by decide) rfl ?_
                  refine zi_iinc (pc := 84) (k + 1) [(0, .ref 33), (1, .int (iz p)), (2, .int (iz d)), (3, .int (iz y)), (4, .int (iz k)), (5, .int (iz (k + 1)))] O dX9_ranked_84 rfl (by omega) (by decide) rfl ?_
                  refine z_goto (pc := 87) (tgt := 16) O dX9_ranked_87 (by decide) ?_
                  refine z_lk [(0, .ref 33), (1, .int (iz p)), (2, .int (iz d)), (3, .int (iz y)), (4, .int (iz k)), (5, .int (iz (k + 1)))] ⟨rfl, rfl, rfl, rfl, rfl, rfl, trivial⟩ ?_
                  exact ih16 _ (by omega) k (k + 1) rfl (by omega) (by omega) (by omega) (by omega) (by rw [rix_step (by omega), ← ff16_2]; split <;> omega)
    refine z_lk [(0, .ref 33), (1, .int (iz p)), (2, .int (iz d)), (3, .int (iz y)), (4, .int (iz (-1))), (5, .int (iz 0))] ⟨rfl, rfl, rfl, rfl, rfl, rfl, trivial⟩ ?_
    exact cut16 _ (-1) 0 rfl (by omega) (by omega) (by omega) (by omega) (by rfl)
  · refine z_iconst (pc := 8) (v := iz (-1)) O dX9_ranked_8 (by decide) ?_
    refine z_iret (pc := 9) O dX9_ranked_9 ?_
    exact ⟨(-1), rfl, (by decide), (Or.inl (by omega)), rfl⟩
set_option maxHeartbeats 4000000 in
set_option maxRecDepth 20000 in
theorem k6_rankAsKnown2 (l : Launch) (σ : VH) (p : Int) (rp : (-2147483648 ≤ p ∧ p < 2147483648)) (d : Int) (rd : (-2147483648 ≤ d ∧ d < 2147483648)) (y : Int) (ry : (-2147483648 ≤ y ∧ y < 2147483648)) (J : Lay σ) (hto : 0 ≤ gI σ 16 4 ∧ gI σ 16 4 ≤ 60) (hd : ∀ k : Nat, 0 ≤ gI σ 19 k) : Ct l yX6_rankAsKnown cX6_rankAsKnown 8 (some .int) 0 0 0 [.ref 16, .int (iz p), .int (iz d), .int (iz y)] σ (fun r τ => ∃ z : Int, r = some (.int (iz z)) ∧ (-2147483648 ≤ z ∧ z < 2147483648) ∧ (z = rkv (gI σ 17) (gI σ 18) (gI σ 19) (gI σ 20) p d y (gI σ 16 4).toNat) ∧ (σ = τ)) := by
  refine Ct.enter rfl (Nat.le_of_ble_eq_true rfl) ?_
  intro κ γ hκ O hrc hrs
  subst hκ
  refine z_iconst (pc := 0) (v := iz (0)) O dX6_rankAsKnown_0 (by decide) ?_
  refine z_istore (pc := 1) [(0, .ref 16), (1, .int (iz p)), (2, .int (iz d)), (3, .int (iz y)), (4, .int (iz 0))] O dX6_rankAsKnown_1 (by decide) rfl ?_
  refine z_iconst (pc := 3) (v := iz (-1)) O dX6_rankAsKnown_3 (by decide) ?_
  refine z_istore (pc := 4) [(0, .ref 16), (1, .int (iz p)), (2, .int (iz d)), (3, .int (iz y)), (4, .int (iz 0)), (5, .int (iz (-1)))] O dX6_rankAsKnown_4 (by decide) rfl ?_
  refine z_iconst (pc := 6) (v := iz (0)) O dX6_rankAsKnown_6 (by decide) ?_
  refine z_istore (pc := 7) [(0, .ref 16), (1, .int (iz p)), (2, .int (iz d)), (3, .int (iz y)), (4, .int (iz 0)), (5, .int (iz (-1))), (6, .int (iz 0))] O dX6_rankAsKnown_7 (by decide) rfl ?_
  have cut9 : ∀ (mu9 : Nat) (best : Int) (bf : Int) (k : Int), (mu9 = (gI σ 16 4 - k).toNat) → (-2147483648 ≤ best ∧ best < 2147483648) → (-2147483648 ≤ bf ∧ bf < 2147483648) → (-2147483648 ≤ k ∧ k < 2147483648) → (0 ≤ k ∧ k ≤ gI σ 16 4) → (best = rkv (gI σ 17) (gI σ 18) (gI σ 19) (gI σ 20) p d y k.toNat) → (bf = rkf (gI σ 17) (gI σ 19) (gI σ 20) p d y k.toNat) → Z κ γ 8 σ 0 0 (QM κ γ (fun r τ => ∃ z : Int, r = some (.int (iz z)) ∧ (-2147483648 ≤ z ∧ z < 2147483648) ∧ (z = rkv (gI σ 17) (gI σ 18) (gI σ 19) (gI σ 20) p d y (gI σ 16 4).toNat) ∧ (σ = τ)) 0 0) 9 [(0, .ref 16), (1, .int (iz p)), (2, .int (iz d)), (3, .int (iz y)), (4, .int (iz best)), (5, .int (iz bf)), (6, .int (iz k))] [] := by
    intro mu9
    induction mu9 using Nat.strongRecOn with
    | ind mu9 ih9 =>
    intro best bf k hmu9 rr9_0 rr9_1 rr9_2 ff9_0 ff9_1 ff9_2
    refine z_iload (pc := 9) O dX6_rankAsKnown_9 rfl ?_
    refine z_aload_n (pc := 11) O dX6_rankAsKnown_11 rfl ?_
    refine zi_getv (pc := 12) (gI σ 16 4) O fl_X6_24 rfl (jo_16 J) (izg σ 16 4) dX6_rankAsKnown_12 ?_
    have := rgI σ 16 4
    refine zi_icmp_ge (pc := 15) (tgt := 99) O dX6_rankAsKnown_15 (by decide) (by omega) (by omega) (fun h15 => ?_) (fun h15 => ?_)
    · refine z_iload (pc := 99) O dX6_rankAsKnown_99 rfl ?_
      refine z_iret (pc := 101) O dX6_rankAsKnown_101 ?_
      exact ⟨best, rfl, (by omega), (by rw [show (gI σ 16 4).toNat = k.toNat by omega]; exact ff9_1), rfl⟩
    · have cut56 : ∀ (q : Int), (-2147483648 ≤ q ∧ q < 2147483648) → (q = 0 ∨ q = 1) → (q = 1 ↔ (gI σ 17 (k.toNat) = p ∧ gI σ 20 (k.toNat) ≤ y ∧ gI σ 19 (k.toNat) ≤ d)) → Z κ γ 8 σ 0 0 (QM κ γ (fun r τ => ∃ z : Int, r = some (.int (iz z)) ∧ (-2147483648 ≤ z ∧ z < 2147483648) ∧ (z = rkv (gI σ 17) (gI σ 18) (gI σ 19) (gI σ 20) p d y (gI σ 16 4).toNat) ∧ (σ = τ)) 0 0) 56 [(0, .ref 16), (1, .int (iz p)), (2, .int (iz d)), (3, .int (iz y)), (4, .int (iz best)), (5, .int (iz bf)), (6, .int (iz k))] [.int (iz q)] := by
        intro q rr56_0 ff56_0 ff56_1
        refine z_istore (pc := 56) [(0, .ref 16), (1, .int (iz p)), (2, .int (iz d)), (3, .int (iz y)), (4, .int (iz best)), (5, .int (iz bf)), (6, .int (iz k)), (7, .int (iz q))] O dX6_rankAsKnown_56 (by decide) rfl ?_
        refine z_iload (pc := 58) O dX6_rankAsKnown_58 rfl ?_
        refine zi_if_eq (pc := 60) (tgt := 93) O dX6_rankAsKnown_60 (by decide) (by omega) (fun h60 => ?_) (fun h60 => ?_)
        · refine zi_iinc (pc := 93) (k + 1) [(0, .ref 16), (1, .int (iz p)), (2, .int (iz d)), (3, .int (iz y)), (4, .int (iz best)), (5, .int (iz bf)), (6, .int (iz (k + 1))), (7, .int (iz q))] O dX6_rankAsKnown_93 rfl (by omega) (by decide) rfl ?_
          refine z_goto (pc := 96) (tgt := 9) O dX6_rankAsKnown_96 (by decide) ?_
          refine z_lk [(0, .ref 16), (1, .int (iz p)), (2, .int (iz d)), (3, .int (iz y)), (4, .int (iz best)), (5, .int (iz bf)), (6, .int (iz (k + 1)))] ⟨rfl, rfl, rfl, rfl, rfl, rfl, rfl, trivial⟩ ?_
          exact ih9 _ (by omega) best bf (k + 1) rfl (by omega) (by omega) (by omega) (by omega) (by rw [rkv_step (by omega) (hd _), ← ff9_1, ← ff9_2]; split <;> omega) (by rw [rkf_step (by omega) (hd _), ← ff9_2]; split <;> omega)
        · refine z_aload_n (pc := 63) O dX6_rankAsKnown_63 rfl ?_
          refine z_getR (pc := 64) 19 O fl_X6_18 rfl (jo_16 J) (jr_16_2 J) dX6_rankAsKnown_64 ?_
          refine z_iload (pc := 67) O dX6_rankAsKnown_67 rfl ?_
          refine zi_ialdv (pc := 69) (k.toNat) (gI σ 19 (k.toNat)) O (ja_19 J) (by omega) (by omega) (by omega) (izg σ 19 (k.toNat)) dX6_rankAsKnown_69 ?_
          have := rgI σ 19 (k.toNat)
          refine z_iload (pc := 70) O dX6_rankAsKnown_70 rfl ?_
          refine zi_icmp_lt (pc := 72) (tgt := 93) O dX6_rankAsKnown_72 (by decide) (by omega) (by omega) (fun h72 => ?_) (fun h72 => ?_)
          · refine zi_iinc (pc := 93) (k + 1) [(0, .ref 16), (1, .int (iz p)), (2, .int (iz d)), (3, .int (iz y)), (4, .int (iz best)), (5, .int (iz bf)), (6, .int (iz (k + 1))), (7, .int (iz q))] O dX6_rankAsKnown_93 rfl (by omega) (by decide) rfl ?_
            refine z_goto (pc := 96) (tgt := 9) O dX6_rankAsKnown_96 (by decide) ?_
            refine z_lk [(0, .ref 16), (1, .int (iz p)), (2, .int (iz d)), (3, .int (iz y)), (4, .int (iz best)), (5, .int (iz bf)), (6, .int (iz (k + 1)))] ⟨rfl, rfl, rfl, rfl, rfl, rfl, rfl, trivial⟩ ?_
            exact ih9 _ (by omega) best bf (k + 1) rfl (by omega) (by omega) (by omega) (by omega) (by rw [rkv_step (by omega) (hd _), ← ff9_1, ← ff9_2]; split <;> omega) (by rw [rkf_step (by omega) (hd _), ← ff9_2]; split <;> omega)
          · refine z_aload_n (pc := 75) O dX6_rankAsKnown_75 rfl ?_
            refine z_getR (pc := 76) 18 O fl_X6_15 rfl (jo_16 J) (jr_16_1 J) dX6_rankAsKnown_76 ?_
            refine z_iload (pc := 79) O dX6_rankAsKnown_79 rfl ?_
            refine zi_ialdv (pc := 81) (k.toNat) (gI σ 18 (k.toNat)) O (ja_18 J) (by omega) (by omega) (by omega) (izg σ 18 (k.toNat)) dX6_rankAsKnown_81 ?_
            have := rgI σ 18 (k.toNat)
            refine z_istore (pc := 82) [(0, .ref 16), (1, .int (iz p)), (2, .int (iz d)), (3, .int (iz y)), (4, .int (iz (gI σ 18 (k.toNat)))), (5, .int (iz bf)), (6, .int (iz k)), (7, .int (iz q))] O dX6_rankAsKnown_82 (by decide) rfl ?_
            refine z_aload_n (pc := 84) O dX6_rankAsKnown_84 rfl ?_
            refine z_getR (pc := 85) 19 O fl_X6_18 rfl (jo_16 J) (jr_16_2 J) dX6_rankAsKnown_85 ?_
            refine z_iload (pc := 88) O dX6_rankAsKnown_88 rfl ?_
            refine zi_ialdv (pc := 90) (k.toNat) (gI σ 19 (k.toNat)) O (ja_19 J) (by omega) (by omega) (by omega) (izg σ 19 (k.toNat)) dX6_rankAsKnown_90 ?_
            refine z_istore (pc := 91) [(0, .ref 16), (1, .int (iz p)), (2, .int (iz d)), (3, .int (iz y)), (4, .int (iz (gI σ 18 (k.toNat)))), (5, .int (iz (gI σ 19 (k.toNat)))), (6, .int (iz k)), (7, .int (iz q))] O dX6_rankAsKnown_91 (by decide) rfl ?_
            refine zi_iinc (pc := 93) (k + 1) [(0, .ref 16), (1, .int (iz p)), (2, .int (iz d)), (3, .int (iz y)), (4, .int (iz (gI σ 18 (k.toNat)))), (5, .int (iz (gI σ 19 (k.toNat)))), (6, .int (iz (k + 1))), (7, .int (iz q))] O dX6_rankAsKnown_93 rfl (by omega) (by decide) rfl ?_
            refine z_goto (pc := 96) (tgt := 9) O dX6_rankAsKnown_96 (by decide) ?_
            refine z_lk [(0, .ref 16), (1, .int (iz p)), (2, .int (iz d)), (3, .int (iz y)), (4, .int (iz (gI σ 18 (k.toNat)))), (5, .int (iz (gI σ 19 (k.toNat)))), (6, .int (iz (k + 1)))] ⟨rfl, rfl, rfl, rfl, rfl, rfl, rfl, trivial⟩ ?_
            exact ih9 _ (by omega) (gI σ 18 (k.toNat)) (gI σ 19 (k.toNat)) (k + 1) rfl (by omega) (by omega) (by omega) (by omega) (by rw [rkv_step (by omega) (hd _), ← ff9_1, ← ff9_2]; split <;> omega) (by rw [rkf_step (by omega) (hd _), ← ff9_2]; split <;> omega)
      refine z_aload_n (pc := 18) O dX6_rankAsKnown_18 rfl ?_
      refine z_getR (pc := 19) 17 O fl_X6_9 rfl (jo_16 J) (jr_16_0 J) dX6_rankAsKnown_19 ?_
      refine z_iload (pc := 22) O dX6_rankAsKnown_22 rfl ?_
      refine zi_ialdv (pc := 24) (k.toNat) (gI σ 17 (k.toNat)) O (ja_17 J) (by omega) (by omega) (by omega) (izg σ 17 (k.toNat)) dX6_rankAsKnown_24 ?_
      have := rgI σ 17 (k.toNat)
      refine z_iload_n (pc := 25) O dX6_rankAsKnown_25 rfl ?_
      refine zi_icmp_ne (pc := 26) (tgt := 55) O dX6_rankAsKnown_26 (by decide) (by omega) (by omega) (fun h26 => ?_) (fun h26 => ?_)
      · refine z_iconst (pc := 55) (v := iz (0)) O dX6_rankAsKnown_55 (by decide) ?_
        refine z_lk [(0, .ref 16), (1, .int (iz p)), (2, .int (iz d)), (3, .int (iz y)), (4, .int (iz best)), (5, .int (iz bf)), (6, .int (iz k))] ⟨rfl, rfl, rfl, rfl, rfl, rfl, rfl, trivial⟩ ?_
        exact cut56 0 (by omega) (by omega) (by omega)
      · refine z_aload_n (pc := 29) O dX6_rankAsKnown_29 rfl ?_
        refine z_getR (pc := 30) 20 O fl_X6_21 rfl (jo_16 J) (jr_16_3 J) dX6_rankAsKnown_30 ?_
        refine z_iload (pc := 33) O dX6_rankAsKnown_33 rfl ?_
        refine zi_ialdv (pc := 35) (k.toNat) (gI σ 20 (k.toNat)) O (ja_20 J) (by omega) (by omega) (by omega) (izg σ 20 (k.toNat)) dX6_rankAsKnown_35 ?_
        have := rgI σ 20 (k.toNat)
        refine z_iload_n (pc := 36) O dX6_rankAsKnown_36 rfl ?_
        refine zi_icmp_gt (pc := 37) (tgt := 55) O dX6_rankAsKnown_37 (by decide) (by omega) (by omega) (fun h37 => ?_) (fun h37 => ?_)
        · refine z_iconst (pc := 55) (v := iz (0)) O dX6_rankAsKnown_55 (by decide) ?_
          refine z_lk [(0, .ref 16), (1, .int (iz p)), (2, .int (iz d)), (3, .int (iz y)), (4, .int (iz best)), (5, .int (iz bf)), (6, .int (iz k))] ⟨rfl, rfl, rfl, rfl, rfl, rfl, rfl, trivial⟩ ?_
          exact cut56 0 (by omega) (by omega) (by omega)
        · refine z_aload_n (pc := 40) O dX6_rankAsKnown_40 rfl ?_
          refine z_getR (pc := 41) 19 O fl_X6_18 rfl (jo_16 J) (jr_16_2 J) dX6_rankAsKnown_41 ?_
          refine z_iload (pc := 44) O dX6_rankAsKnown_44 rfl ?_
          refine zi_ialdv (pc := 46) (k.toNat) (gI σ 19 (k.toNat)) O (ja_19 J) (by omega) (by omega) (by omega) (izg σ 19 (k.toNat)) dX6_rankAsKnown_46 ?_
          have := rgI σ 19 (k.toNat)
          refine z_iload_n (pc := 47) O dX6_rankAsKnown_47 rfl ?_
          refine zi_icmp_gt (pc := 48) (tgt := 55) O dX6_rankAsKnown_48 (by decide) (by omega) (by omega) (fun h48 => ?_) (fun h48 => ?_)
          · refine z_iconst (pc := 55) (v := iz (0)) O dX6_rankAsKnown_55 (by decide) ?_
            refine z_lk [(0, .ref 16), (1, .int (iz p)), (2, .int (iz d)), (3, .int (iz y)), (4, .int (iz best)), (5, .int (iz bf)), (6, .int (iz k))] ⟨rfl, rfl, rfl, rfl, rfl, rfl, rfl, trivial⟩ ?_
            exact cut56 0 (by omega) (by omega) (by omega)
          · refine z_iconst (pc := 51) (v := iz (1)) O dX6_rankAsKnown_51 (by decide) ?_
            refine z_goto (pc := 52) (tgt := 56) O dX6_rankAsKnown_52 (by decide) ?_
            refine z_lk [(0, .ref 16), (1, .int (iz p)), (2, .int (iz d)), (3, .int (iz y)), (4, .int (iz best)), (5, .int (iz bf)), (6, .int (iz k))] ⟨rfl, rfl, rfl, rfl, rfl, rfl, rfl, trivial⟩ ?_
            exact cut56 1 (by omega) (by omega) (by omega)
  refine z_lk [(0, .ref 16), (1, .int (iz p)), (2, .int (iz d)), (3, .int (iz y)), (4, .int (iz 0)), (5, .int (iz (-1))), (6, .int (iz 0))] ⟨rfl, rfl, rfl, rfl, rfl, rfl, rfl, trivial⟩ ?_
  exact cut9 _ 0 (-1) 0 rfl (by omega) (by omega) (by omega) (by omega) (by simp [rkv, rix]) (by simp [rkf, rix])
set_option maxHeartbeats 4000000 in
set_option maxRecDepth 20000 in
theorem k8_ranked2 (l : Launch) (σ : VH) (p : Int) (rp : (-2147483648 ≤ p ∧ p < 2147483648)) (d : Int) (rd : (-2147483648 ≤ d ∧ d < 2147483648)) (y : Int) (ry : (-2147483648 ≤ y ∧ y < 2147483648)) (I : InvX σ) (hd : ∀ k : Nat, 0 ≤ gI σ 19 k) : Ct l yX8_ranked cX8_ranked 4 (some .int) 1 0 0 [.ref 2, .int (iz p), .int (iz d), .int (iz y)] σ (fun r τ => ∃ z : Int, r = some (.int (iz z)) ∧ (-2147483648 ≤ z ∧ z < 2147483648) ∧ ((z = -1 ∧ ¬ (0 ≤ p ∧ p < gI σ 9 7)) ∨ ((0 ≤ p ∧ p < gI σ 9 7) ∧ z = rkv (gI σ 17) (gI σ 18) (gI σ 19) (gI σ 20) p d y (gI σ 16 4).toNat)) ∧ (Fr [] σ τ) ∧ (InvX τ)) := by
  refine Ct.enter rfl (Nat.le_of_ble_eq_true rfl) ?_
  intro κ γ hκ O hrc hrs
  subst hκ
  have i1 := I.2.1
  unfold InvX1 at i1
  refine z_aload_n (pc := 0) O dX8_ranked_0 rfl ?_
  refine z_getR (pc := 1) 9 O fl_X8_37 rfl (jo_2 I.1) (jr_2_8 I.1) dX8_ranked_1 ?_
  refine z_iload_n (pc := 4) O dX8_ranked_4 rfl ?_
  refine z_callV (pc := 5) O cl_X8_130 (k3_isThere _ _ p (by omega) I.1) (by decide) (jo_9 I.1) kc_3 rfl rfl (Nat.le_of_ble_eq_true rfl) ⟨Nat.zero_le _, Nat.zero_le _⟩ dX8_ranked_5 (fun r τ1 hp => ?_)
  obtain ⟨z2, rfl, fτ1_0, fτ1_1, rfl⟩ := hp
  refine zi_if_eq (pc := 8) (tgt := 24) O dX8_ranked_8 (by decide) (by omega) (fun h8 => ?_) (fun h8 => ?_)
  · refine z_iconst (pc := 24) (v := iz (-1)) O dX8_ranked_24 (by decide) ?_
    refine z_iret (pc := 25) O dX8_ranked_25 ?_
    exact ⟨(-1), rfl, (by decide), (by omega), (Fr.rf [] σ), I⟩
  · refine z_aload_n (pc := 11) O dX8_ranked_11 rfl ?_
    refine z_getR (pc := 12) 16 O fl_X8_44 rfl (jo_2 I.1) (jr_2_9 I.1) dX8_ranked_12 ?_
    refine z_iload_n (pc := 15) O dX8_ranked_15 rfl ?_
    refine z_iload_n (pc := 16) O dX8_ranked_16 rfl ?_
    refine z_iload_n (pc := 17) O dX8_ranked_17 rfl ?_
    refine z_callV (pc := 18) O cl_X8_139 (k6_rankAsKnown2 _ _ p (by omega) d (by omega) y (by omega) I.1 (by omega) hd) (by decide) (jo_16 I.1) kc_6 rfl rfl (Nat.le_of_ble_eq_true rfl) ⟨Nat.zero_le _, Nat.zero_le _⟩ dX8_ranked_18 (fun r τ3 hp => ?_)
    obtain ⟨z4, rfl, fτ3_0, fτ3_1, rfl⟩ := hp
    refine z_goto (pc := 21) (tgt := 25) O dX8_ranked_21 (by decide) ?_
    refine z_iret (pc := 25) O dX8_ranked_25 ?_
    exact ⟨z4, rfl, (by omega), (by omega), (Fr.rf [] σ), I⟩
