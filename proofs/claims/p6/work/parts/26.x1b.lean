set_option maxHeartbeats 4000000 in
set_option maxRecDepth 20000 in
theorem k6_add (l : Launch) (σ : VH) (p : Int) (rp : (-2147483648 ≤ p ∧ p < 2147483648)) (e : Int) (re : (-2147483648 ≤ e ∧ e < 2147483648)) (f : Int) (rf : (-2147483648 ≤ f ∧ f < 2147483648)) (t : Int) (rt : (-2147483648 ≤ t ∧ t < 2147483648)) (J : Lay σ) (hto : 0 ≤ gI σ 16 4 ∧ gI σ 16 4 ≤ 60) : Ct l yX6_add cX6_add 5 (some .int) 0 0 0 [.ref 16, .int (iz p), .int (iz e), .int (iz f), .int (iz t)] σ (fun r τ => ∃ z : Int, r = some (.int (iz z)) ∧ (-2147483648 ≤ z ∧ z < 2147483648) ∧ ((z = -1 ∧ gI σ 16 4 = 60) ∨ (z = gI σ 16 4 + 1 ∧ gI σ 16 4 < 60)) ∧ (Fr [(17, 99999), (18, 99999), (19, 99999), (20, 99999), (16, 4)] σ τ) ∧ ((z = -1 ∧ gI τ 16 4 = gI σ 16 4) ∨ (0 ≤ z ∧ gI τ 16 4 = z))) := by
  refine Ct.enter rfl (Nat.le_of_ble_eq_true rfl) ?_
  intro κ γ hκ O hrc hrs
  subst hκ
  refine z_aload_n (pc := 0) O dX6_add_0 rfl ?_
  refine zi_getv (pc := 1) (gI σ 16 4) O fl_X6_24 rfl (jo_16 J) (izg σ 16 4) dX6_add_1 ?_
  have := rgI σ 16 4
  refine z_bipush (pc := 4) (v := iz (60)) O dX6_add_4 (by decide) ?_
  refine zi_icmp_lt (pc := 6) (tgt := 11) O dX6_add_6 (by decide) (by omega) (by decide) (fun h6 => ?_) (fun h6 => ?_)
  · refine z_aload_n (pc := 11) O dX6_add_11 rfl ?_
    refine z_getR (pc := 12) 17 O fl_X6_9 rfl (jo_16 J) (jr_16_0 J) dX6_add_12 ?_
    refine z_aload_n (pc := 15) O dX6_add_15 rfl ?_
    refine zi_getv (pc := 16) (gI σ 16 4) O fl_X6_24 rfl (jo_16 J) (izg σ 16 4) dX6_add_16 ?_
    refine z_iload_n (pc := 19) O dX6_add_19 rfl ?_
    refine zi_iast (pc := 20) ((gI σ 16 4).toNat) O (ja_17 J) (by omega) (by omega) (by omega) dX6_add_20 ?_
    refine z_aload_n (pc := 21) O dX6_add_21 rfl ?_
    refine z_getR (pc := 22) 18 O fl_X6_15 rfl (jo_16 J) (jr_16_1 J) dX6_add_22 ?_
    refine z_aload_n (pc := 25) O dX6_add_25 rfl ?_
    refine zi_getv (pc := 26) (gI σ 16 4) O fl_X6_24 rfl (jo_16 J) (sk1t (by decide) (izg σ 16 4)) dX6_add_26 ?_
    refine z_iload_n (pc := 29) O dX6_add_29 rfl ?_
    refine zi_iast (pc := 30) ((gI σ 16 4).toNat) O (ja_18 J) (by omega) (by omega) (by omega) dX6_add_30 ?_
    refine z_aload_n (pc := 31) O dX6_add_31 rfl ?_
    refine z_getR (pc := 32) 19 O fl_X6_18 rfl (jo_16 J) (jr_16_2 J) dX6_add_32 ?_
    refine z_aload_n (pc := 35) O dX6_add_35 rfl ?_
    refine zi_getv (pc := 36) (gI σ 16 4) O fl_X6_24 rfl (jo_16 J) (sk1t (by decide) (sk1t (by decide) (izg σ 16 4))) dX6_add_36 ?_
    refine z_iload_n (pc := 39) O dX6_add_39 rfl ?_
    refine zi_iast (pc := 40) ((gI σ 16 4).toNat) O (ja_19 J) (by omega) (by omega) (by omega) dX6_add_40 ?_
    refine z_aload_n (pc := 41) O dX6_add_41 rfl ?_
    refine z_getR (pc := 42) 20 O fl_X6_21 rfl (jo_16 J) (jr_16_3 J) dX6_add_42 ?_
    refine z_aload_n (pc := 45) O dX6_add_45 rfl ?_
    refine zi_getv (pc := 46) (gI σ 16 4) O fl_X6_24 rfl (jo_16 J) (sk1t (by decide) (sk1t (by decide) (sk1t (by decide) (izg σ 16 4)))) dX6_add_46 ?_
    refine z_iload (pc := 49) O dX6_add_49 rfl ?_
    refine zi_iast (pc := 51) ((gI σ 16 4).toNat) O (ja_20 J) (by omega) (by omega) (by omega) dX6_add_51 ?_
    refine z_aload_n (pc := 52) O dX6_add_52 rfl ?_
    refine z_dup (pc := 53) O dX6_add_53 rfl ?_
    refine zi_getv (pc := 54) (gI σ 16 4) O fl_X6_24 rfl (jo_16 J) (sk1t (by decide) (sk1t (by decide) (sk1t (by decide) (sk1t (by decide) (izg σ 16 4))))) dX6_add_54 ?_
    refine z_iconst (pc := 57) (v := iz (1)) O dX6_add_57 (by decide) ?_
    refine zi_iadd (pc := 58) O dX6_add_58 ?_
    refine z_putI (pc := 59) O fl_X6_24 rfl ⟨rfl, rfl⟩ (jo_16 J) dX6_add_59 ?_
    refine z_aload_n (pc := 62) O dX6_add_62 rfl ?_
    refine zi_getv (pc := 63) ((gI σ 16 4) + 1) O fl_X6_24 rfl (jo_16 J) (hI_at _ _ _ _) dX6_add_63 ?_
    refine z_iret (pc := 66) O dX6_add_66 ?_
    exact ⟨((gI σ 16 4) + 1), rfl, (by omega), (by omega), ((((((Fr.rf [(17, 99999), (18, 99999), (19, 99999), (20, 99999), (16, 4)] σ).pI rfl).pI rfl).pI rfl).pI rfl).pI rfl), (by have : gI (sI (sI (sI (sI (sI σ 17 ((gI σ 16 4).toNat) (iz p)) 18 ((gI σ 16 4).toNat) (iz e)) 19 ((gI σ 16 4).toNat) (iz f)) 20 ((gI σ 16 4).toNat) (iz t)) 16 4 (iz ((gI σ 16 4) + 1))) 16 4 = (gI σ 16 4) + 1 := gI_iz (hI_at _ _ _ _) (by omega); omega)⟩
  · refine z_iconst (pc := 9) (v := iz (-1)) O dX6_add_9 (by decide) ?_
    refine z_iret (pc := 10) O dX6_add_10 ?_
    exact ⟨(-1), rfl, (by decide), (by omega), (Fr.rf [(17, 99999), (18, 99999), (19, 99999), (20, 99999), (16, 4)] σ), (by omega)⟩
set_option maxHeartbeats 4000000 in
set_option maxRecDepth 20000 in
theorem k6_rankAsKnown (l : Launch) (σ : VH) (p : Int) (rp : (-2147483648 ≤ p ∧ p < 2147483648)) (d : Int) (rd : (-2147483648 ≤ d ∧ d < 2147483648)) (y : Int) (ry : (-2147483648 ≤ y ∧ y < 2147483648)) (J : Lay σ) (hto : 0 ≤ gI σ 16 4 ∧ gI σ 16 4 ≤ 60) : Ct l yX6_rankAsKnown cX6_rankAsKnown 8 (some .int) 0 0 0 [.ref 16, .int (iz p), .int (iz d), .int (iz y)] σ (fun r τ => ∃ z : Int, r = some (.int (iz z)) ∧ (-2147483648 ≤ z ∧ z < 2147483648) ∧ (σ = τ)) := by
  refine Ct.enter rfl (Nat.le_of_ble_eq_true rfl) ?_
  intro κ γ hκ O hrc hrs
  subst hκ
  refine z_iconst (pc := 0) (v := iz (0)) O dX6_rankAsKnown_0 (by decide) ?_
  refine z_istore (pc := 1) [(0, .ref 16), (1, .int (iz p)), (2, .int (iz d)), (3, .int (iz y)), (4, .int (iz 0))] O dX6_rankAsKnown_1 (by decide) rfl ?_
  refine z_iconst (pc := 3) (v := iz (-1)) O dX6_rankAsKnown_3 (by decide) ?_
  refine z_istore (pc := 4) [(0, .ref 16), (1, .int (iz p)), (2, .int (iz d)), (3, .int (iz y)), (4, .int (iz 0)), (5, .int (iz (-1)))] O dX6_rankAsKnown_4 (by decide) rfl ?_
  refine z_iconst (pc := 6) (v := iz (0)) O dX6_rankAsKnown_6 (by decide) ?_
  refine z_istore (pc := 7) [(0, .ref 16), (1, .int (iz p)), (2, .int (iz d)), (3, .int (iz y)), (4, .int (iz 0)), (5, .int (iz (-1))), (6, .int (iz 0))] O dX6_rankAsKnown_7 (by decide) rfl ?_
  have cut9 : ∀ (mu9 : Nat) (best : Int) (bf : Int) (k : Int), (mu9 = (gI σ 16 4 - k).toNat) → (-2147483648 ≤ best ∧ best < 2147483648) → (-2147483648 ≤ bf ∧ bf < 2147483648) → (-2147483648 ≤ k ∧ k < 2147483648) → (0 ≤ k ∧ k ≤ gI σ 16 4) → Z κ γ 8 σ 0 0 (QM κ γ (fun r τ => ∃ z : Int, r = some (.int (iz z)) ∧ (-2147483648 ≤ z ∧ z < 2147483648) ∧ (σ = τ)) 0 0) 9 [(0, .ref 16), (1, .int (iz p)), (2, .int (iz d)), (3, .int (iz y)), (4, .int (iz best)), (5, .int (iz bf)), (6, .int (iz k))] [] := by
    intro mu9
    induction mu9 using Nat.strongRecOn with
    | ind mu9 ih9 =>
    intro best bf k hmu9 rr9_0 rr9_1 rr9_2 ff9_0
    refine z_iload (pc := 9) O dX6_rankAsKnown_9 rfl ?_
    refine z_aload_n (pc := 11) O dX6_rankAsKnown_11 rfl ?_
    refine zi_getv (pc := 12) (gI σ 16 4) O fl_X6_24 rfl (jo_16 J) (izg σ 16 4) dX6_rankAsKnown_12 ?_
    have := rgI σ 16 4
    refine zi_icmp_ge (pc := 15) (tgt := 99) O dX6_rankAsKnown_15 (by decide) (by omega) (by omega) (fun h15 => ?_) (fun h15 => ?_)
    · refine z_iload (pc := 99) O dX6_rankAsKnown_99 rfl ?_
      refine z_iret (pc := 101) O dX6_rankAsKnown_101 ?_
      exact ⟨best, rfl, (by omega), rfl⟩
    · have cut56 : ∀ (q : Int), (-2147483648 ≤ q ∧ q < 2147483648) → (q = 0 ∨ q = 1) → Z κ γ 8 σ 0 0 (QM κ γ (fun r τ => ∃ z : Int, r = some (.int (iz z)) ∧ (-2147483648 ≤ z ∧ z < 2147483648) ∧ (σ = τ)) 0 0) 56 [(0, .ref 16), (1, .int (iz p)), (2, .int (iz d)), (3, .int (iz y)), (4, .int (iz best)), (5, .int (iz bf)), (6, .int (iz k))] [.int (iz q)] := by
        intro q rr56_0 ff56_0
        refine z_istore (pc := 56) [(0, .ref 16), (1, .int (iz p)), (2, .int (iz d)), (3, .int (iz y)), (4, .int (iz best)), (5, .int (iz bf)), (6, .int (iz k)), (7, .int (iz q))] O dX6_rankAsKnown_56 (by decide) rfl ?_
        refine z_iload (pc := 58) O dX6_rankAsKnown_58 rfl ?_
        refine zi_if_eq (pc := 60) (tgt := 93) O dX6_rankAsKnown_60 (by decide) (by omega) (fun h60 => ?_) (fun h60 => ?_)
        · refine zi_iinc (pc := 93) (k + 1) [(0, .ref 16), (1, .int (iz p)), (2, .int (iz d)), (3, .int (iz y)), (4, .int (iz best)), (5, .int (iz bf)), (6, .int (iz (k + 1))), (7, .int (iz q))] O dX6_rankAsKnown_93 rfl (by omega) (by decide) rfl ?_
          refine z_goto (pc := 96) (tgt := 9) O dX6_rankAsKnown_96 (by decide) ?_
          refine z_lk [(0, .ref 16), (1, .int (iz p)), (2, .int (iz d)), (3, .int (iz y)), (4, .int (iz best)), (5, .int (iz bf)), (6, .int (iz (k + 1)))] ⟨rfl, rfl, rfl, rfl, rfl, rfl, rfl, trivial⟩ ?_
          exact ih9 _ (by omega) best bf (k + 1) rfl (by omega) (by omega) (by omega) (by omega)
        · refine z_aload_n (pc := 63) O dX6_rankAsKnown_63 rfl ?_
          refine z_getR (pc := 64) 19 O fl_X6_18 rfl (jo_16 J) (jr_16_2 J) dX6_rankAsKnown_64 ?_
          refine z_iload (pc := 67) O dX6_rankAsKnown_67 rfl ?_
          refine zi_ialdv (pc := 69) (k.toNat) (gI σ 19 (k.toNat)) O (ja_19 J) (by omega) (by omega) (by omega) (izg σ 19 (k.toNat)) dX6_rankAsKnown_69 ?_
          have := rgI σ 19 (k.toNat)
          refine z_iload (pc := 70) O dX6_rankAsKnown_70 rfl ?_
          refine zi_icmp_lt (pc := 72) (tgt := 93) O dX6_rankAsKnown_72 (by decide) (by omega) (by omega) (fun h72 => ?_) (fun h72 => ?_)
          · refine zi_iinc (pc := 93) (k + 1) [(0, .ref 16), (1, .int (iz p)), (2, .int (iz d)), (3, .int (iz y)), (4, .int (iz best)), (5, .int (iz bf)), (6, .int (iz (k + 1))), (7, .int (iz q))] O dX6_rankAsKnown_93 rfl (by omega) (by decide) rfl ?_
            refine z_goto (pc := 96) (tgt := 9) O dX6_rankAsKnown_96 (by decide) ?_
            refine z_lk [(0, .ref 16), (1, .int (iz p)), (2, .int (iz d)), (3, .int (iz y)), (4, .int (iz best)), (5, .int (iz bf)), (6, .int (iz (k + 1)))] ⟨rfl, rfl, rfl, rfl, rfl, rfl, rfl, trivial⟩ ?_
            exact ih9 _ (by omega) best bf (k + 1) rfl (by omega) (by omega) (by omega) (by omega)
          · refine z_aload_n (pc := 75) O dX6_rankAsKnown_75 rfl ?_
            refine z_getR (pc := 76) 18 O fl_X6_15 rfl (jo_16 J) (jr_16_1 J) dX6_rankAsKnown_76 ?_
            refine z_iload (pc := 79) O dX6_rankAsKnown_79 rfl ?_
            refine zi_ialdv (pc := 81) (k.toNat) (gI σ 18 (k.toNat)) O (ja_18 J) (by omega) (by omega) (by omega) (izg σ 18 (k.toNat)) dX6_rankAsKnown_81 ?_
            have := rgI σ 18 (k.toNat)
            refine z_istore (pc := 82) [(0, .ref 16), (1, .int (iz p)), (2, .int (iz d)), (3, .int (iz y)), (4, .int (iz (gI σ 18 (k.toNat)))), (5, .int (iz bf)), (6, .int (iz k)), (7, .int (iz q))] O dX6_rankAsKnown_82 (by decide) rfl ?_
            refine z_aload_n (pc := 84) O dX6_rankAsKnown_84 rfl ?_
            refine z_getR (pc := 85) 19 O fl_X6_18 rfl (jo_16 J) (jr_16_2 J) dX6_rankAsKnown_85 ?_
            refine z_iload (pc := 88) O dX6_rankAsKnown_88 rfl ?_
            refine zi_ialdv (pc := 90) (k.toNat) (gI σ 19 (k.toNat)) O (ja_19 J) (by omega) (by omega) (by omega) (izg σ 19 (k.toNat)) dX6_rankAsKnown_90 ?_
            refine z_istore (pc := 91) [(0, .ref 16), (1, .int (iz p)), (2, .int (iz d)), (3, .int (iz y)), (4, .int (iz (gI σ 18 (k.toNat)))), (5, .int (iz (gI σ 19 (k.toNat)))), (6, .int (iz k)), (7, .int (iz q))] O dX6_rankAsKnown_91 (by decide) rfl ?_
            refine zi_iinc (pc := 93) (k + 1) [(0, .ref 16), (1, .int (iz p)), (2, .int (iz d)), (3, .int (iz y)), (4, .int (iz (gI σ 18 (k.toNat)))), (5, .int (iz (gI σ 19 (k.toNat)))), (6, .int (iz (k + 1))), (7, .int (iz q))] O dX6_rankAsKnown_93 rfl (by omega) (by decide) rfl ?_
            refine z_goto (pc := 96) (tgt := 9) O dX6_rankAsKnown_96 (by decide) ?_
            refine z_lk [(0, .ref 16), (1, .int (iz p)), (2, .int (iz d)), (3, .int (iz y)), (4, .int (iz (gI σ 18 (k.toNat)))), (5, .int (iz (gI σ 19 (k.toNat)))), (6, .int (iz (k + 1)))] ⟨rfl, rfl, rfl, rfl, rfl, rfl, rfl, trivial⟩ ?_
            exact ih9 _ (by omega) (gI σ 18 (k.toNat)) (gI σ 19 (k.toNat)) (k + 1) rfl (by omega) (by omega) (by omega) (by omega)
      refine z_aload_n (pc := 18) O dX6_rankAsKnown_18 rfl ?_
      refine z_getR (pc := 19) 17 O fl_X6_9 rfl (jo_16 J) (jr_16_0 J) dX6_rankAsKnown_19 ?_
      refine z_iload (pc := 22) O dX6_rankAsKnown_22 rfl ?_
      refine zi_ialdv (pc := 24) (k.toNat) (gI σ 17 (k.toNat)) O (ja_17 J) (by omega) (by omega) (by omega) (izg σ 17 (k.toNat)) dX6_rankAsKnown_24 ?_
      have := rgI σ 17 (k.toNat)
      refine z_iload_n (pc := 25) O dX6_rankAsKnown_25 rfl ?_
      refine zi_icmp_ne (pc := 26) (tgt := 55) O dX6_rankAsKnown_26 (by decide) (by omega) (by omega) (fun h26 => ?_) (fun h26 => ?_)
      · refine z_iconst (pc := 55) (v := iz (0)) O dX6_rankAsKnown_55 (by decide) ?_
        refine z_lk [(0, .ref 16), (1, .int (iz p)), (2, .int (iz d)), (3, .int (iz y)), (4, .int (iz best)), (5, .int (iz bf)), (6, .int (iz k))] ⟨rfl, rfl, rfl, rfl, rfl, rfl, rfl, trivial⟩ ?_
        exact cut56 0 (by omega) (by omega)
      · refine z_aload_n (pc := 29) O dX6_rankAsKnown_29 rfl ?_
        refine z_getR (pc := 30) 20 O fl_X6_21 rfl (jo_16 J) (jr_16_3 J) dX6_rankAsKnown_30 ?_
        refine z_iload (pc := 33) O dX6_rankAsKnown_33 rfl ?_
        refine zi_ialdv (pc := 35) (k.toNat) (gI σ 20 (k.toNat)) O (ja_20 J) (by omega) (by omega) (by omega) (izg σ 20 (k.toNat)) dX6_rankAsKnown_35 ?_
        have := rgI σ 20 (k.toNat)
        refine z_iload_n (pc := 36) O dX6_rankAsKnown_36 rfl ?_
        refine zi_icmp_gt (pc := 37) (tgt := 55) O dX6_rankAsKnown_37 (by decide) (by omega) (by omega) (fun h37 => ?_) (fun h37 => ?_)
        · refine z_iconst (pc := 55) (v := iz (0)) O dX6_rankAsKnown_55 (by decide) ?_
          refine z_lk [(0, .ref 16), (1, .int (iz p)), (2, .int (iz d)), (3, .int (iz y)), (4, .int (iz best)), (5, .int (iz bf)), (6, .int (iz k))] ⟨rfl, rfl, rfl, rfl, rfl, rfl, rfl, trivial⟩ ?_
          exact cut56 0 (by omega) (by omega)
        · refine z_aload_n (pc := 40) O dX6_rankAsKnown_40 rfl ?_
          refine z_getR (pc := 41) 19 O fl_X6_18 rfl (jo_16 J) (jr_16_2 J) dX6_rankAsKnown_41 ?_
          refine z_iload (pc := 44) O dX6_rankAsKnown_44 rfl ?_
          refine zi_ialdv (pc := 46) (k.toNat) (gI σ 19 (k.toNat)) O (ja_19 J) (by omega) (by omega) (by omega) (izg σ 19 (k.toNat)) dX6_rankAsKnown_46 ?_
          have := rgI σ 19 (k.toNat)
          refine z_iload_n (pc := 47) O dX6_rankAsKnown_47 rfl ?_
          refine zi_icmp_gt (pc := 48) (tgt := 55) O dX6_rankAsKnown_48 (by decide) (by omega) (by omega) (fun h48 => ?_) (fun h48 => ?_)
          · refine z_iconst (pc := 55) (v := iz (0)) O dX6_rankAsKnown_55 (by decide) ?_
            refine z_lk [(0, .ref 16), (1, .int (iz p)), (2, .int (iz d)), (3, .int (iz y)), (4, .int (iz best)), (5, .int (iz bf)), (6, .int (iz k))] ⟨rfl, rfl, rfl, rfl, rfl, rfl, rfl, trivial⟩ ?_
            exact cut56 0 (by omega) (by omega)
          · refine z_iconst (pc := 51) (v := iz (1)) O dX6_rankAsKnown_51 (by decide) ?_
            refine z_goto (pc := 52) (tgt := 56) O dX6_rankAsKnown_52 (by decide) ?_
            refine z_lk [(0, .ref 16), (1, .int (iz p)), (2, .int (iz d)), (3, .int (iz y)), (4, .int (iz best)), (5, .int (iz bf)), (6, .int (iz k))] ⟨rfl, rfl, rfl, rfl, rfl, rfl, rfl, trivial⟩ ?_
            exact cut56 1 (by omega) (by omega)
  refine z_lk [(0, .ref 16), (1, .int (iz p)), (2, .int (iz d)), (3, .int (iz y)), (4, .int (iz 0)), (5, .int (iz (-1))), (6, .int (iz 0))] ⟨rfl, rfl, rfl, rfl, rfl, rfl, rfl, trivial⟩ ?_
  exact cut9 _ 0 (-1) 0 rfl (by omega) (by omega) (by omega) (by omega)
set_option maxHeartbeats 4000000 in
set_option maxRecDepth 20000 in
theorem k7_add (l : Launch) (σ : VH) (a : Int) (ra : (-2147483648 ≤ a ∧ a < 2147483648)) (b : Int) (rb : (-2147483648 ≤ b ∧ b < 2147483648)) (f : Int) (rf : (-2147483648 ≤ f ∧ f < 2147483648)) (t : Int) (rt : (-2147483648 ≤ t ∧ t < 2147483648)) (J : Lay σ) (htr : 0 ≤ gI σ 21 4 ∧ gI σ 21 4 ≤ 10) : Ct l yX7_add cX7_add 5 (some .int) 0 0 0 [.ref 21, .int (iz a), .int (iz b), .int (iz f), .int (iz t)] σ (fun r τ => ∃ z : Int, r = some (.int (iz z)) ∧ (-2147483648 ≤ z ∧ z < 2147483648) ∧ ((z = -1 ∧ gI σ 21 4 = 10) ∨ (z = gI σ 21 4 + 1 ∧ gI σ 21 4 < 10)) ∧ (Fr [(22, 99999), (23, 99999), (24, 99999), (25, 99999), (21, 4)] σ τ) ∧ ((z = -1 ∧ gI τ 21 4 = gI σ 21 4) ∨ (0 ≤ z ∧ gI τ 21 4 = z))) := by
  refine Ct.enter rfl (Nat.le_of_ble_eq_true rfl) ?_
  intro κ γ hκ O hrc hrs
  subst hκ
  refine z_aload_n (pc := 0) O dX7_add_0 rfl ?_
  refine zi_getv (pc := 1) (gI σ 21 4) O fl_X7_24 rfl (jo_21 J) (izg σ 21 4) dX7_add_1 ?_
  have := rgI σ 21 4
  refine z_bipush (pc := 4) (v := iz (10)) O dX7_add_4 (by decide) ?_
  refine zi_icmp_lt (pc := 6) (tgt := 11) O dX7_add_6 (by decide) (by omega) (by decide) (fun h6 => ?_) (fun h6 => ?_)
  · refine z_aload_n (pc := 11) O dX7_add_11 rfl ?_
    refine z_getR (pc := 12) 22 O fl_X7_9 rfl (jo_21 J) (jr_21_0 J) dX7_add_12 ?_
    refine z_aload_n (pc := 15) O dX7_add_15 rfl ?_
    refine zi_getv (pc := 16) (gI σ 21 4) O fl_X7_24 rfl (jo_21 J) (izg σ 21 4) dX7_add_16 ?_
    refine z_iload_n (pc := 19) O dX7_add_19 rfl ?_
    refine zi_iast (pc := 20) ((gI σ 21 4).toNat) O (ja_22 J) (by omega) (by omega) (by omega) dX7_add_20 ?_
    refine z_aload_n (pc := 21) O dX7_add_21 rfl ?_
    refine z_getR (pc := 22) 23 O fl_X7_15 rfl (jo_21 J) (jr_21_1 J) dX7_add_22 ?_
    refine z_aload_n (pc := 25) O dX7_add_25 rfl ?_
    refine zi_getv (pc := 26) (gI σ 21 4) O fl_X7_24 rfl (jo_21 J) (sk1t (by decide) (izg σ 21 4)) dX7_add_26 ?_
    refine z_iload_n (pc := 29) O dX7_add_29 rfl ?_
    refine zi_iast (pc := 30) ((gI σ 21 4).toNat) O (ja_23 J) (by omega) (by omega) (by omega) dX7_add_30 ?_
    refine z_aload_n (pc := 31) O dX7_add_31 rfl ?_
    refine z_getR (pc := 32) 24 O fl_X7_18 rfl (jo_21 J) (jr_21_2 J) dX7_add_32 ?_
    refine z_aload_n (pc := 35) O dX7_add_35 rfl ?_
    refine zi_getv (pc := 36) (gI σ 21 4) O fl_X7_24 rfl (jo_21 J) (sk1t (by decide) (sk1t (by decide) (izg σ 21 4))) dX7_add_36 ?_
    refine z_iload_n (pc := 39) O dX7_add_39 rfl ?_
    refine zi_iast (pc := 40) ((gI σ 21 4).toNat) O (ja_24 J) (by omega) (by omega) (by omega) dX7_add_40 ?_
    refine z_aload_n (pc := 41) O dX7_add_41 rfl ?_
    refine z_getR (pc := 42) 25 O fl_X7_21 rfl (jo_21 J) (jr_21_3 J) dX7_add_42 ?_
    refine z_aload_n (pc := 45) O dX7_add_45 rfl ?_
    refine zi_getv (pc := 46) (gI σ 21 4) O fl_X7_24 rfl (jo_21 J) (sk1t (by decide) (sk1t (by decide) (sk1t (by decide) (izg σ 21 4)))) dX7_add_46 ?_
    refine z_iload (pc := 49) O dX7_add_49 rfl ?_
    refine zi_iast (pc := 51) ((gI σ 21 4).toNat) O (ja_25 J) (by omega) (by omega) (by omega) dX7_add_51 ?_
    refine z_aload_n (pc := 52) O dX7_add_52 rfl ?_
    refine z_dup (pc := 53) O dX7_add_53 rfl ?_
    refine zi_getv (pc := 54) (gI σ 21 4) O fl_X7_24 rfl (jo_21 J) (sk1t (by decide) (sk1t (by decide) (sk1t (by decide) (sk1t (by decide) (izg σ 21 4))))) dX7_add_54 ?_
    refine z_iconst (pc := 57) (v := iz (1)) O dX7_add_57 (by decide) ?_
    refine zi_iadd (pc := 58) O dX7_add_58 ?_
    refine z_putI (pc := 59) O fl_X7_24 rfl ⟨rfl, rfl⟩ (jo_21 J) dX7_add_59 ?_
    refine z_aload_n (pc := 62) O dX7_add_62 rfl ?_
    refine zi_getv (pc := 63) ((gI σ 21 4) + 1) O fl_X7_24 rfl (jo_21 J) (hI_at _ _ _ _) dX7_add_63 ?_
    refine z_iret (pc := 66) O dX7_add_66 ?_
    exact ⟨((gI σ 21 4) + 1), rfl, (by omega), (by omega), ((((((Fr.rf [(22, 99999), (23, 99999), (24, 99999), (25, 99999), (21, 4)] σ).pI rfl).pI rfl).pI rfl).pI rfl).pI rfl), (by have : gI (sI (sI (sI (sI (sI σ 22 ((gI σ 21 4).toNat) (iz a)) 23 ((gI σ 21 4).toNat) (iz b)) 24 ((gI σ 21 4).toNat) (iz f)) 25 ((gI σ 21 4).toNat) (iz t)) 21 4 (iz ((gI σ 21 4) + 1))) 21 4 = (gI σ 21 4) + 1 := gI_iz (hI_at _ _ _ _) (by omega); omega)⟩
  · refine z_iconst (pc := 9) (v := iz (-1)) O dX7_add_9 (by decide) ?_
    refine z_iret (pc := 10) O dX7_add_10 ?_
    exact ⟨(-1), rfl, (by decide), (by omega), (Fr.rf [(22, 99999), (23, 99999), (24, 99999), (25, 99999), (21, 4)] σ), (by omega)⟩
set_option maxHeartbeats 4000000 in
set_option maxRecDepth 20000 in
theorem k7_held (l : Launch) (σ : VH) (a : Int) (ra : (-2147483648 ≤ a ∧ a < 2147483648)) (b : Int) (rb : (-2147483648 ≤ b ∧ b < 2147483648)) (d : Int) (rd : (-2147483648 ≤ d ∧ d < 2147483648)) (J : Lay σ) (htr : 0 ≤ gI σ 21 4 ∧ gI σ 21 4 ≤ 10) : Ct l yX7_held cX7_held 6 (some .boolean) 0 0 0 [.ref 21, .int (iz a), .int (iz b), .int (iz d)] σ (fun r τ => ∃ z : Int, r = some (.int (iz z)) ∧ (z = 0 ∨ z = 1) ∧ (σ = τ)) := by
  refine Ct.enter rfl (Nat.le_of_ble_eq_true rfl) ?_
  intro κ γ hκ O hrc hrs
  subst hκ
  refine z_iconst (pc := 0) (v := iz (0)) O dX7_held_0 (by decide) ?_
  refine z_istore (pc := 1) [(0, .ref 21), (1, .int (iz a)), (2, .int (iz b)), (3, .int (iz d)), (4, .int (iz 0))] O dX7_held_1 (by decide) rfl ?_
  have cut3 : ∀ (mu3 : Nat) (k : Int), (mu3 = (gI σ 21 4 - k).toNat) → (-2147483648 ≤ k ∧ k < 2147483648) → (0 ≤ k ∧ k ≤ gI σ 21 4) → Z κ γ 6 σ 0 0 (QM κ γ (fun r τ => ∃ z : Int, r = some (.int (iz z)) ∧ (z = 0 ∨ z = 1) ∧ (σ = τ)) 0 0) 3 [(0, .ref 21), (1, .int (iz a)), (2, .int (iz b)), (3, .int (iz d)), (4, .int (iz k))] [] := by
    intro mu3
    induction mu3 using Nat.strongRecOn with
    | ind mu3 ih3 =>
    intro k hmu3 rr3_0 ff3_0
    refine z_iload (pc := 3) O dX7_held_3 rfl ?_
    refine z_aload_n (pc := 5) O dX7_held_5 rfl ?_
    refine zi_getv (pc := 6) (gI σ 21 4) O fl_X7_24 rfl (jo_21 J) (izg σ 21 4) dX7_held_6 ?_
    have := rgI σ 21 4
    refine zi_icmp_ge (pc := 9) (tgt := 98) O dX7_held_9 (by decide) (by omega) (by omega) (fun h9 => ?_) (fun h9 => ?_)
    · refine z_iconst (pc := 98) (v := iz (0)) O dX7_held_98 (by decide) ?_
      refine z_zret (pc := 99) O dX7_held_99 rfl ?_
      exact ⟨0, rfl, (by decide), rfl⟩
    · have cut61 : ∀ (q : Int), (-2147483648 ≤ q ∧ q < 2147483648) → (q = 0 ∨ q = 1) → Z κ γ 6 σ 0 0 (QM κ γ (fun r τ => ∃ z : Int, r = some (.int (iz z)) ∧ (z = 0 ∨ z = 1) ∧ (σ = τ)) 0 0) 61 [(0, .ref 21), (1, .int (iz a)), (2, .int (iz b)), (3, .int (iz d)), (4, .int (iz k))] [.int (iz q)] := by
        intro q rr61_0 ff61_0
        refine z_istore (pc := 61) [(0, .ref 21), (1, .int (iz a)), (2, .int (iz b)), (3, .int (iz d)), (4, .int (iz k)), (5, .int (iz q))] O dX7_held_61 (by decide) rfl ?_
        refine z_iload (pc := 63) O dX7_held_63 rfl ?_
        refine zi_if_eq (pc := 65) (tgt := 92) O dX7_held_65 (by decide) (by omega) (fun h65 => ?_) (fun h65 => ?_)
        · refine zi_iinc (pc := 92) (k + 1) [(0, .ref 21), (1, .int (iz a)), (2, .int (iz b)), (3, .int (iz d)), (4, .int (iz (k + 1))), (5, .int (iz q))] O dX7_held_92 rfl (by omega) (by decide) rfl ?_
          refine z_goto (pc := 95) (tgt := 3) O dX7_held_95 (by decide) ?_
          refine z_lk [(0, .ref 21), (1, .int (iz a)), (2, .int (iz b)), (3, .int (iz d)), (4, .int (iz (k + 1)))] ⟨rfl, rfl, rfl, rfl, rfl, trivial⟩ ?_
          exact ih3 _ (by omega) (k + 1) rfl (by omega) (by omega)
        · refine z_aload_n (pc := 68) O dX7_held_68 rfl ?_
          refine z_getR (pc := 69) 24 O fl_X7_18 rfl (jo_21 J) (jr_21_2 J) dX7_held_69 ?_
          refine z_iload (pc := 72) O dX7_held_72 rfl ?_
          refine zi_ialdv (pc := 74) (k.toNat) (gI σ 24 (k.toNat)) O (ja_24 J) (by omega) (by omega) (by omega) (izg σ 24 (k.toNat)) dX7_held_74 ?_
          have := rgI σ 24 (k.toNat)
          refine z_iload_n (pc := 75) O dX7_held_75 rfl ?_
          refine zi_icmp_gt (pc := 76) (tgt := 92) O dX7_held_76 (by decide) (by omega) (by omega) (fun h76 => ?_) (fun h76 => ?_)
          · refine zi_iinc (pc := 92) (k + 1) [(0, .ref 21), (1, .int (iz a)), (2, .int (iz b)), (3, .int (iz d)), (4, .int (iz (k + 1))), (5, .int (iz q))] O dX7_held_92 rfl (by omega) (by decide) rfl ?_
            refine z_goto (pc := 95) (tgt := 3) O dX7_held_95 (by decide) ?_
            refine z_lk [(0, .ref 21), (1, .int (iz a)), (2, .int (iz b)), (3, .int (iz d)), (4, .int (iz (k + 1)))] ⟨rfl, rfl, rfl, rfl, rfl, trivial⟩ ?_
            exact ih3 _ (by omega) (k + 1) rfl (by omega) (by omega)
          · refine z_iload_n (pc := 79) O dX7_held_79 rfl ?_
            refine z_aload_n (pc := 80) O dX7_held_80 rfl ?_
            refine z_getR (pc := 81) 25 O fl_X7_21 rfl (jo_21 J) (jr_21_3 J) dX7_held_81 ?_
            refine z_iload (pc := 84) O dX7_held_84 rfl ?_
            refine zi_ialdv (pc := 86) (k.toNat) (gI σ 25 (k.toNat)) O (ja_25 J) (by omega) (by omega) (by omega) (izg σ 25 (k.toNat)) dX7_held_86 ?_
            have := rgI σ 25 (k.toNat)
            refine zi_icmp_gt (pc := 87) (tgt := 92) O dX7_held_87 (by decide) (by omega) (by omega) (fun h87 => ?_) (fun h87 => ?_)
            · refine zi_iinc (pc := 92) (k + 1) [(0, .ref 21), (1, .int (iz a)), (2, .int (iz b)), (3, .int (iz d)), (4, .int (iz (k + 1))), (5, .int (iz q))] O dX7_held_92 rfl (by omega) (by decide) rfl ?_
              refine z_goto (pc := 95) (tgt := 3) O dX7_held_95 (by decide) ?_
              refine z_lk [(0, .ref 21), (1, .int (iz a)), (2, .int (iz b)), (3, .int (iz d)), (4, .int (iz (k + 1)))] ⟨rfl, rfl, rfl, rfl, rfl, trivial⟩ ?_
              exact ih3 _ (by omega) (k + 1) rfl (by omega) (by omega)
            · refine z_iconst (pc := 90) (v := iz (1)) O dX7_held_90 (by decide) ?_
              refine z_zret (pc := 91) O dX7_held_91 rfl ?_
              exact ⟨1, rfl, (by decide), rfl⟩
      refine z_aload_n (pc := 12) O dX7_held_12 rfl ?_
      refine z_getR (pc := 13) 22 O fl_X7_9 rfl (jo_21 J) (jr_21_0 J) dX7_held_13 ?_
      refine z_iload (pc := 16) O dX7_held_16 rfl ?_
      refine zi_ialdv (pc := 18) (k.toNat) (gI σ 22 (k.toNat)) O (ja_22 J) (by omega) (by omega) (by omega) (izg σ 22 (k.toNat)) dX7_held_18 ?_
      have := rgI σ 22 (k.toNat)
      refine z_iload_n (pc := 19) O dX7_held_19 rfl ?_
      refine zi_icmp_ne (pc := 20) (tgt := 34) O dX7_held_20 (by decide) (by omega) (by omega) (fun h20 => ?_) (fun h20 => ?_)
      · refine z_aload_n (pc := 34) O dX7_held_34 rfl ?_
        refine z_getR (pc := 35) 22 O fl_X7_9 rfl (jo_21 J) (jr_21_0 J) dX7_held_35 ?_
        refine z_iload (pc := 38) O dX7_held_38 rfl ?_
        refine zi_ialdv (pc := 40) (k.toNat) (gI σ 22 (k.toNat)) O (ja_22 J) (by omega) (by omega) (by omega) (izg σ 22 (k.toNat)) dX7_held_40 ?_
        refine z_iload_n (pc := 41) O dX7_held_41 rfl ?_
        refine zi_icmp_ne (pc := 42) (tgt := 60) O dX7_held_42 (by decide) (by omega) (by omega) (fun h42 => ?_) (fun h42 => ?_)
        · refine z_iconst (pc := 60) (v := iz (0)) O dX7_held_60 (by decide) ?_
          refine z_lk [(0, .ref 21), (1, .int (iz a)), (2, .int (iz b)), (3, .int (iz d)), (4, .int (iz k))] ⟨rfl, rfl, rfl, rfl, rfl, trivial⟩ ?_
          exact cut61 0 (by omega) (by omega)
        · refine z_aload_n (pc := 45) O dX7_held_45 rfl ?_
          refine z_getR (pc := 46) 23 O fl_X7_15 rfl (jo_21 J) (jr_21_1 J) dX7_held_46 ?_
          refine z_iload (pc := 49) O dX7_held_49 rfl ?_
          refine zi_ialdv (pc := 51) (k.toNat) (gI σ 23 (k.toNat)) O (ja_23 J) (by omega) (by omega) (by omega) (izg σ 23 (k.toNat)) dX7_held_51 ?_
          have := rgI σ 23 (k.toNat)
          refine z_iload_n (pc := 52) O dX7_held_52 rfl ?_
          refine zi_icmp_ne (pc := 53) (tgt := 60) O dX7_held_53 (by decide) (by omega) (by omega) (fun h53 => ?_) (fun h53 => ?_)
          · refine z_iconst (pc := 60) (v := iz (0)) O dX7_held_60 (by decide) ?_
            refine z_lk [(0, .ref 21), (1, .int (iz a)), (2, .int (iz b)), (3, .int (iz d)), (4, .int (iz k))] ⟨rfl, rfl, rfl, rfl, rfl, trivial⟩ ?_
            exact cut61 0 (by omega) (by omega)
          · refine z_iconst (pc := 56) (v := iz (1)) O dX7_held_56 (by decide) ?_
            refine z_goto (pc := 57) (tgt := 61) O dX7_held_57 (by decide) ?_
            refine z_lk [(0, .ref 21), (1, .int (iz a)), (2, .int (iz b)), (3, .int (iz d)), (4, .int (iz k))] ⟨rfl, rfl, rfl, rfl, rfl, trivial⟩ ?_
            exact cut61 1 (by omega) (by omega)
      · refine z_aload_n (pc := 23) O dX7_held_23 rfl ?_
        refine z_getR (pc := 24) 23 O fl_X7_15 rfl (jo_21 J) (jr_21_1 J) dX7_held_24 ?_
        refine z_iload (pc := 27) O dX7_held_27 rfl ?_
        refine zi_ialdv (pc := 29) (k.toNat) (gI σ 23 (k.toNat)) O (ja_23 J) (by omega) (by omega) (by omega) (izg σ 23 (k.toNat)) dX7_held_29 ?_
        have := rgI σ 23 (k.toNat)
        refine z_iload_n (pc := 30) O dX7_held_30 rfl ?_
        refine zi_icmp_eq (pc := 31) (tgt := 56) O dX7_held_31 (by decide) (by omega) (by omega) (fun h31 => ?_) (fun h31 => ?_)
        · refine z_iconst (pc := 56) (v := iz (1)) O dX7_held_56 (by decide) ?_
          refine z_goto (pc := 57) (tgt := 61) O dX7_held_57 (by decide) ?_
          refine z_lk [(0, .ref 21), (1, .int (iz a)), (2, .int (iz b)), (3, .int (iz d)), (4, .int (iz k))] ⟨rfl, rfl, rfl, rfl, rfl, trivial⟩ ?_
          exact cut61 1 (by omega) (by omega)
        · refine z_aload_n (pc := 34) O dX7_held_34 rfl ?_
          refine z_getR (pc := 35) 22 O fl_X7_9 rfl (jo_21 J) (jr_21_0 J) dX7_held_35 ?_
          refine z_iload (pc := 38) O dX7_held_38 rfl ?_
          refine zi_ialdv (pc := 40) (k.toNat) (gI σ 22 (k.toNat)) O (ja_22 J) (by omega) (by omega) (by omega) (izg σ 22 (k.toNat)) dX7_held_40 ?_
          refine z_iload_n (pc := 41) O dX7_held_41 rfl ?_
          refine zi_icmp_ne (pc := 42) (tgt := 60) O dX7_held_42 (by decide) (by omega) (by omega) (fun h42 => ?_) (fun h42 => ?_)
          · refine z_iconst (pc := 60) (v := iz (0)) O dX7_held_60 (by decide) ?_
            refine z_lk [(0, .ref 21), (1, .int (iz a)), (2, .int (iz b)), (3, .int (iz d)), (4, .int (iz k))] ⟨rfl, rfl, rfl, rfl, rfl, trivial⟩ ?_
            exact cut61 0 (by omega) (by omega)
          · refine z_aload_n (pc := 45) O dX7_held_45 rfl ?_
            refine z_getR (pc := 46) 23 O fl_X7_15 rfl (jo_21 J) (jr_21_1 J) dX7_held_46 ?_
            refine z_iload (pc := 49) O dX7_held_49 rfl ?_
            refine zi_ialdv (pc := 51) (k.toNat) (gI σ 23 (k.toNat)) O (ja_23 J) (by omega) (by omega) (by omega) (izg σ 23 (k.toNat)) dX7_held_51 ?_
            refine z_iload_n (pc := 52) O dX7_held_52 rfl ?_
            refine zi_icmp_ne (pc := 53) (tgt := 60) O dX7_held_53 (by decide) (by omega) (by omega) (fun h53 => ?_) (fun h53 => ?_)
            · refine z_iconst (pc := 60) (v := iz (0)) O dX7_held_60 (by decide) ?_
              refine z_lk [(0, .ref 21), (1, .int (iz a)), (2, .int (iz b)), (3, .int (iz d)), (4, .int (iz k))] ⟨rfl, rfl, rfl, rfl, rfl, trivial⟩ ?_
              exact cut61 0 (by omega) (by omega)
            · refine z_iconst (pc := 56) (v := iz (1)) O dX7_held_56 (by decide) ?_
              refine z_goto (pc := 57) (tgt := 61) O dX7_held_57 (by decide) ?_
              refine z_lk [(0, .ref 21), (1, .int (iz a)), (2, .int (iz b)), (3, .int (iz d)), (4, .int (iz k))] ⟨rfl, rfl, rfl, rfl, rfl, trivial⟩ ?_
              exact cut61 1 (by omega) (by omega)
  refine z_lk [(0, .ref 21), (1, .int (iz a)), (2, .int (iz b)), (3, .int (iz d)), (4, .int (iz 0))] ⟨rfl, rfl, rfl, rfl, rfl, trivial⟩ ?_
  exact cut3 _ 0 rfl (by omega) (by omega)
set_option maxHeartbeats 4000000 in
set_option maxRecDepth 20000 in
theorem k2_add (l : Launch) (σ : VH) (c : Int) (rc : (-2147483648 ≤ c ∧ c < 2147483648)) (t : Int) (rt : (-2147483648 ≤ t ∧ t < 2147483648)) (w : Int) (rw : (-2147483648 ≤ w ∧ w < 2147483648)) (J : Lay σ) (hpa : 0 ≤ gI σ 27 3 ∧ gI σ 27 3 ≤ 60) : Ct l yX2_add cX2_add 4 (some .int) 0 0 0 [.ref 27, .int (iz c), .int (iz t), .int (iz w)] σ (fun r τ => ∃ z : Int, r = some (.int (iz z)) ∧ (-2147483648 ≤ z ∧ z < 2147483648) ∧ (Fr [(28, 99999), (29, 99999), (30, 99999), (27, 3)] σ τ) ∧ (0 ≤ gI τ 27 3 ∧ gI τ 27 3 ≤ 60)) := by
  refine Ct.enter rfl (Nat.le_of_ble_eq_true rfl) ?_
  intro κ γ hκ O hrc hrs
  subst hκ
  refine z_aload_n (pc := 0) O dX2_add_0 rfl ?_
  refine zi_getv (pc := 1) (gI σ 27 3) O fl_X2_21 rfl (jo_27 J) (izg σ 27 3) dX2_add_1 ?_
  have := rgI σ 27 3
  refine z_bipush (pc := 4) (v := iz (60)) O dX2_add_4 (by decide) ?_
  refine zi_icmp_lt (pc := 6) (tgt := 11) O dX2_add_6 (by decide) (by omega) (by decide) (fun h6 => ?_) (fun h6 => ?_)
  · refine z_aload_n (pc := 11) O dX2_add_11 rfl ?_
    refine z_getR (pc := 12) 28 O fl_X2_9 rfl (jo_27 J) (jr_27_0 J) dX2_add_12 ?_
    refine z_aload_n (pc := 15) O dX2_add_15 rfl ?_
    refine zi_getv (pc := 16) (gI σ 27 3) O fl_X2_21 rfl (jo_27 J) (izg σ 27 3) dX2_add_16 ?_
    refine z_iload_n (pc := 19) O dX2_add_19 rfl ?_
    refine zi_iast (pc := 20) ((gI σ 27 3).toNat) O (ja_28 J) (by omega) (by omega) (by omega) dX2_add_20 ?_
    refine z_aload_n (pc := 21) O dX2_add_21 rfl ?_
    refine z_getR (pc := 22) 29 O fl_X2_15 rfl (jo_27 J) (jr_27_1 J) dX2_add_22 ?_
    refine z_aload_n (pc := 25) O dX2_add_25 rfl ?_
    refine zi_getv (pc := 26) (gI σ 27 3) O fl_X2_21 rfl (jo_27 J) (sk1t (by decide) (izg σ 27 3)) dX2_add_26 ?_
    refine z_iload_n (pc := 29) O dX2_add_29 rfl ?_
    refine zi_iast (pc := 30) ((gI σ 27 3).toNat) O (ja_29 J) (by omega) (by omega) (by omega) dX2_add_30 ?_
    refine z_aload_n (pc := 31) O dX2_add_31 rfl ?_
    refine z_getR (pc := 32) 30 O fl_X2_18 rfl (jo_27 J) (jr_27_2 J) dX2_add_32 ?_
    refine z_aload_n (pc := 35) O dX2_add_35 rfl ?_
    refine zi_getv (pc := 36) (gI σ 27 3) O fl_X2_21 rfl (jo_27 J) (sk1t (by decide) (sk1t (by decide) (izg σ 27 3))) dX2_add_36 ?_
    refine z_iload_n (pc := 39) O dX2_add_39 rfl ?_
    refine zi_iast (pc := 40) ((gI σ 27 3).toNat) O (ja_30 J) (by omega) (by omega) (by omega) dX2_add_40 ?_
    refine z_aload_n (pc := 41) O dX2_add_41 rfl ?_
    refine z_dup (pc := 42) O dX2_add_42 rfl ?_
    refine zi_getv (pc := 43) (gI σ 27 3) O fl_X2_21 rfl (jo_27 J) (sk1t (by decide) (sk1t (by decide) (sk1t (by decide) (izg σ 27 3)))) dX2_add_43 ?_
    refine z_iconst (pc := 46) (v := iz (1)) O dX2_add_46 (by decide) ?_
    refine zi_iadd (pc := 47) O dX2_add_47 ?_
    refine z_putI (pc := 48) O fl_X2_21 rfl ⟨rfl, rfl⟩ (jo_27 J) dX2_add_48 ?_
    refine z_iload_n (pc := 51) O dX2_add_51 rfl ?_
    refine z_iret (pc := 52) O dX2_add_52 ?_
    exact ⟨w, rfl, (by omega), (((((Fr.rf [(28, 99999), (29, 99999), (30, 99999), (27, 3)] σ).pI rfl).pI rfl).pI rfl).pI rfl), (by have : gI (sI (sI (sI (sI σ 28 ((gI σ 27 3).toNat) (iz c)) 29 ((gI σ 27 3).toNat) (iz t)) 30 ((gI σ 27 3).toNat) (iz w)) 27 3 (iz ((gI σ 27 3) + 1))) 27 3 = (gI σ 27 3) + 1 := gI_iz (hI_at _ _ _ _) (by omega); omega)⟩
  · refine z_iconst (pc := 9) (v := iz (-1)) O dX2_add_9 (by decide) ?_
    refine z_iret (pc := 10) O dX2_add_10 ?_
    exact ⟨(-1), rfl, (by decide), (Fr.rf [(28, 99999), (29, 99999), (30, 99999), (27, 3)] σ), (by omega)⟩
set_option maxHeartbeats 4000000 in
set_option maxRecDepth 20000 in
theorem k2_paid (l : Launch) (σ : VH) (c : Int) (rc : (-2147483648 ≤ c ∧ c < 2147483648)) (a : Int) (ra : (-2147483648 ≤ a ∧ a < 2147483648)) (u : Int) (ru : (-2147483648 ≤ u ∧ u < 2147483648)) (J : Lay σ) (hpa : 0 ≤ gI σ 27 3 ∧ gI σ 27 3 ≤ 60) : Ct l yX2_paid cX2_paid 6 (some .int) 0 0 0 [.ref 27, .int (iz c), .int (iz a), .int (iz u)] σ (fun r τ => ∃ z : Int, r = some (.int (iz z)) ∧ (-2147483648 ≤ z ∧ z < 2147483648) ∧ (σ = τ)) := by
  refine Ct.enter rfl (Nat.le_of_ble_eq_true rfl) ?_
  intro κ γ hκ O hrc hrs
  subst hκ
  refine z_iconst (pc := 0) (v := iz (0)) O dX2_paid_0 (by decide) ?_
  refine z_istore (pc := 1) [(0, .ref 27), (1, .int (iz c)), (2, .int (iz a)), (3, .int (iz u)), (4, .int (iz 0))] O dX2_paid_1 (by decide) rfl ?_
  refine z_iconst (pc := 3) (v := iz (0)) O dX2_paid_3 (by decide) ?_
  refine z_istore (pc := 4) [(0, .ref 27), (1, .int (iz c)), (2, .int (iz a)), (3, .int (iz u)), (4, .int (iz 0)), (5, .int (iz 0))] O dX2_paid_4 (by decide) rfl ?_
  have cut6 : ∀ (mu6 : Nat) (s : Int) (k : Int), (mu6 = (gI σ 27 3 - k).toNat) → (-2147483648 ≤ s ∧ s < 2147483648) → (-2147483648 ≤ k ∧ k < 2147483648) → (0 ≤ k ∧ k ≤ gI σ 27 3) → Z κ γ 6 σ 0 0 (QM κ γ (fun r τ => ∃ z : Int, r = some (.int (iz z)) ∧ (-2147483648 ≤ z ∧ z < 2147483648) ∧ (σ = τ)) 0 0) 6 [(0, .ref 27), (1, .int (iz c)), (2, .int (iz a)), (3, .int (iz u)), (4, .int (iz s)), (5, .int (iz k))] [] := by
    intro mu6
    induction mu6 using Nat.strongRecOn with
    | ind mu6 ih6 =>
    intro s k hmu6 rr6_0 rr6_1 ff6_0
    refine z_iload (pc := 6) O dX2_paid_6 rfl ?_
    refine z_aload_n (pc := 8) O dX2_paid_8 rfl ?_
    refine zi_getv (pc := 9) (gI σ 27 3) O fl_X2_21 rfl (jo_27 J) (izg σ 27 3) dX2_paid_9 ?_
    have := rgI σ 27 3
    refine zi_icmp_ge (pc := 12) (tgt := 66) O dX2_paid_12 (by decide) (by omega) (by omega) (fun h12 => ?_) (fun h12 => ?_)
    · refine z_iload (pc := 66) O dX2_paid_66 rfl ?_
      refine z_iret (pc := 68) O dX2_paid_68 ?_
      exact ⟨s, rfl, (by omega), rfl⟩
    · refine z_aload_n (pc := 15) O dX2_paid_15 rfl ?_
      refine z_getR (pc := 16) 28 O fl_X2_9 rfl (jo_27 J) (jr_27_0 J) dX2_paid_16 ?_
      refine z_iload (pc := 19) O dX2_paid_19 rfl ?_
      refine zi_ialdv (pc := 21) (k.toNat) (gI σ 28 (k.toNat)) O (ja_28 J) (by omega) (by omega) (by omega) (izg σ 28 (k.toNat)) dX2_paid_21 ?_
      have := rgI σ 28 (k.toNat)
      refine z_iload_n (pc := 22) O dX2_paid_22 rfl ?_
      refine zi_icmp_ne (pc := 23) (tgt := 60) O dX2_paid_23 (by decide) (by omega) (by omega) (fun h23 => ?_) (fun h23 => ?_)
      · refine zi_iinc (pc := 60) (k + 1) [(0, .ref 27), (1, .int (iz c)), (2, .int (iz a)), (3, .int (iz u)), (4, .int (iz s)), (5, .int (iz (k + 1)))] O dX2_paid_60 rfl (by omega) (by decide) rfl ?_
        refine z_goto (pc := 63) (tgt := 6) O dX2_paid_63 (by decide) ?_
        refine z_lk [(0, .ref 27), (1, .int (iz c)), (2, .int (iz a)), (3, .int (iz u)), (4, .int (iz s)), (5, .int (iz (k + 1)))] ⟨rfl, rfl, rfl, rfl, rfl, rfl, trivial⟩ ?_
        exact ih6 _ (by omega) s (k + 1) rfl (by omega) (by omega) (by omega)
      · refine z_aload_n (pc := 26) O dX2_paid_26 rfl ?_
        refine z_getR (pc := 27) 29 O fl_X2_15 rfl (jo_27 J) (jr_27_1 J) dX2_paid_27 ?_
        refine z_iload (pc := 30) O dX2_paid_30 rfl ?_
        refine zi_ialdv (pc := 32) (k.toNat) (gI σ 29 (k.toNat)) O (ja_29 J) (by omega) (by omega) (by omega) (izg σ 29 (k.toNat)) dX2_paid_32 ?_
        have := rgI σ 29 (k.toNat)
        refine z_iload_n (pc := 33) O dX2_paid_33 rfl ?_
        refine zi_icmp_le (pc := 34) (tgt := 60) O dX2_paid_34 (by decide) (by omega) (by omega) (fun h34 => ?_) (fun h34 => ?_)
        · refine zi_iinc (pc := 60) (k + 1) [(0, .ref 27), (1, .int (iz c)), (2, .int (iz a)), (3, .int (iz u)), (4, .int (iz s)), (5, .int (iz (k + 1)))] O dX2_paid_60 rfl (by omega) (by decide) rfl ?_
          refine z_goto (pc := 63) (tgt := 6) O dX2_paid_63 (by decide) ?_
          refine z_lk [(0, .ref 27), (1, .int (iz c)), (2, .int (iz a)), (3, .int (iz u)), (4, .int (iz s)), (5, .int (iz (k + 1)))] ⟨rfl, rfl, rfl, rfl, rfl, rfl, trivial⟩ ?_
          exact ih6 _ (by omega) s (k + 1) rfl (by omega) (by omega) (by omega)
        · refine z_aload_n (pc := 37) O dX2_paid_37 rfl ?_
          refine z_getR (pc := 38) 29 O fl_X2_15 rfl (jo_27 J) (jr_27_1 J) dX2_paid_38 ?_
          refine z_iload (pc := 41) O dX2_paid_41 rfl ?_
          refine zi_ialdv (pc := 43) (k.toNat) (gI σ 29 (k.toNat)) O (ja_29 J) (by omega) (by omega) (by omega) (izg σ 29 (k.toNat)) dX2_paid_43 ?_
          refine z_iload_n (pc := 44) O dX2_paid_44 rfl ?_
          refine zi_icmp_gt (pc := 45) (tgt := 60) O dX2_paid_45 (by decide) (by omega) (by omega) (fun h45 => ?_) (fun h45 => ?_)
          · refine zi_iinc (pc := 60) (k + 1) [(0, .ref 27), (1, .int (iz c)), (2, .int (iz a)), (3, .int (iz u)), (4, .int (iz s)), (5, .int (iz (k + 1)))] O dX2_paid_60 rfl (by omega) (by decide) rfl ?_
            refine z_goto (pc := 63) (tgt := 6) O dX2_paid_63 (by decide) ?_
            refine z_lk [(0, .ref 27), (1, .int (iz c)), (2, .int (iz a)), (3, .int (iz u)), (4, .int (iz s)), (5, .int (iz (k + 1)))] ⟨rfl, rfl, rfl, rfl, rfl, rfl, trivial⟩ ?_
            exact ih6 _ (by omega) s (k + 1) rfl (by omega) (by omega) (by omega)
          · refine z_iload (pc := 48) O dX2_paid_48 rfl ?_
            refine z_aload_n (pc := 50) O dX2_paid_50 rfl ?_
            refine z_getR (pc := 51) 30 O fl_X2_18 rfl (jo_27 J) (jr_27_2 J) dX2_paid_51 ?_
            refine z_iload (pc := 54) O dX2_paid_54 rfl ?_
            refine zi_ialdv (pc := 56) (k.toNat) (gI σ 30 (k.toNat)) O (ja_30 J) (by omega) (by omega) (by omega) (izg σ 30 (k.toNat)) dX2_paid_56 ?_
            have := rgI σ 30 (k.toNat)
            refine zi_iadd (pc := 57) O dX2_paid_57 ?_
            refine zi_any (fun z1 rz1 ez1 => ?_)
            refine z_istore (pc := 58) [(0, .ref 27), (1, .int (iz c)), (2, .int (iz a)), (3, .int (iz u)), (4, .int (iz z1)), (5, .int (iz k))] O dX2_paid_58 (by decide) rfl ?_
            refine zi_iinc (pc := 60) (k + 1) [(0, .ref 27), (1, .int (iz c)), (2, .int (iz a)), (3, .int (iz u)), (4, .int (iz z1)), (5, .int (iz (k + 1)))] O dX2_paid_60 rfl (by omega) (by decide) rfl ?_
            refine z_goto (pc := 63) (tgt := 6) O dX2_paid_63 (by decide) ?_
            refine z_lk [(0, .ref 27), (1, .int (iz c)), (2, .int (iz a)), (3, .int (iz u)), (4, .int (iz z1)), (5, .int (iz (k + 1)))] ⟨rfl, rfl, rfl, rfl, rfl, rfl, trivial⟩ ?_
            exact ih6 _ (by omega) z1 (k + 1) rfl (by omega) (by omega) (by omega)
  refine z_lk [(0, .ref 27), (1, .int (iz c)), (2, .int (iz a)), (3, .int (iz u)), (4, .int (iz 0)), (5, .int (iz 0))] ⟨rfl, rfl, rfl, rfl, rfl, rfl, trivial⟩ ?_
  exact cut6 _ 0 0 rfl (by omega) (by omega) (by omega)
