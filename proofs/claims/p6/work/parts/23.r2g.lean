set_option maxHeartbeats 4000000 in
set_option maxRecDepth 20000 in
theorem k9_hurt (l : Launch) (σ : VH) (b : Int) (rb : (-2147483648 ≤ b ∧ b < 2147483648)) (o : Int) (ro : (-2147483648 ≤ o ∧ o < 2147483648)) (v : Int64) (d : Int) (rd : (-2147483648 ≤ d ∧ d < 2147483648)) (p : Int) (rp : (-2147483648 ≤ p ∧ p < 2147483648)) (n : Int) (rn : n = 0 ∨ n = 1) (I : InvM σ) : Ct l yX9_hurt cX9_hurt 8 (some .int) 2 0 0 [.ref 33, .int (iz b), .int (iz o), .long v, .int (iz d), .int (iz p), .int (iz n)] σ (fun r τ => ∃ z : Int, r = some (.int (iz z)) ∧ (-2147483648 ≤ z ∧ z < 2147483648) ∧ (Fr [(70, 99999), (71, 99999), (72, 99999), (73, 99999), (74, 99999), (75, 99999), (79, 99999), (80, 99999), (33, 66)] σ τ) ∧ (InvM τ)) := by
  refine Ct.enter rfl (Nat.le_of_ble_eq_true rfl) ?_
  intro κ γ hκ O hrc hrs
  subst hκ
  have i1 := I.2.1
  unfold InvM1 at i1
  have i2 := I.2.2.1.laws
  have i3 := I.2.2.2.1
  refine z_aload_n (pc := 0) O dX9_hurt_0 rfl ?_
  refine z_iload_n (pc := 1) O dX9_hurt_1 rfl ?_
  refine z_callV (pc := 2) O cl_X9_356 (k9_isPerson _ _ b (by omega) I.1) (by decide) (jo_33 I.1) kc_9 rfl rfl (Nat.le_of_ble_eq_true rfl) ⟨Nat.zero_le _, Nat.zero_le _⟩ dX9_hurt_2 (fun r τ1 hp => ?_)
  obtain ⟨z2, rfl, fτ1_0, fτ1_1, rfl⟩ := hp
  refine zi_if_eq (pc := 5) (tgt := 62) O dX9_hurt_5 (by decide) (by omega) (fun h5 => ?_) (fun h5 => ?_)
  · refine z_iconst (pc := 62) (v := iz (-1)) O dX9_hurt_62 (by decide) ?_
    refine z_iret (pc := 63) O dX9_hurt_63 ?_
    exact ⟨(-1), rfl, (by decide), (Fr.rf [(70, 99999), (71, 99999), (72, 99999), (73, 99999), (74, 99999), (75, 99999), (79, 99999), (80, 99999), (33, 66)] σ), I⟩
  · refine z_aload_n (pc := 8) O dX9_hurt_8 rfl ?_
    refine z_iload_n (pc := 9) O dX9_hurt_9 rfl ?_
    refine z_callV (pc := 10) O cl_X9_356 (k9_isPerson _ _ o (by omega) I.1) (by decide) (jo_33 I.1) kc_9 rfl rfl (Nat.le_of_ble_eq_true rfl) ⟨Nat.zero_le _, Nat.zero_le _⟩ dX9_hurt_10 (fun r τ3 hp => ?_)
    obtain ⟨z4, rfl, fτ3_0, fτ3_1, rfl⟩ := hp
    refine zi_if_eq (pc := 13) (tgt := 62) O dX9_hurt_13 (by decide) (by omega) (fun h13 => ?_) (fun h13 => ?_)
    · refine z_iconst (pc := 62) (v := iz (-1)) O dX9_hurt_62 (by decide) ?_
      refine z_iret (pc := 63) O dX9_hurt_63 ?_
      exact ⟨(-1), rfl, (by decide), (Fr.rf [(70, 99999), (71, 99999), (72, 99999), (73, 99999), (74, 99999), (75, 99999), (79, 99999), (80, 99999), (33, 66)] σ), I⟩
    · refine z_iload_n (pc := 16) O dX9_hurt_16 rfl ?_
      refine z_iload_n (pc := 17) O dX9_hurt_17 rfl ?_
      refine zi_icmp_eq (pc := 18) (tgt := 62) O dX9_hurt_18 (by decide) (by omega) (by omega) (fun h18 => ?_) (fun h18 => ?_)
      · refine z_iconst (pc := 62) (v := iz (-1)) O dX9_hurt_62 (by decide) ?_
        refine z_iret (pc := 63) O dX9_hurt_63 ?_
        exact ⟨(-1), rfl, (by decide), (Fr.rf [(70, 99999), (71, 99999), (72, 99999), (73, 99999), (74, 99999), (75, 99999), (79, 99999), (80, 99999), (33, 66)] σ), I⟩
      · refine z_lload_n (pc := 21) O dX9_hurt_21 rfl ?_
        refine z_callS (pc := 22) O cl_X9_376 (k9_isName _ _ v) (by decide) rfl rfl (Nat.le_of_ble_eq_true rfl) ⟨Nat.zero_le _, Nat.zero_le _⟩ dX9_hurt_22 (fun r τ5 hp => ?_)
        obtain ⟨z6, rfl, fτ5_0, rfl⟩ := hp
        refine zi_if_eq (pc := 25) (tgt := 62) O dX9_hurt_25 (by decide) (by omega) (fun h25 => ?_) (fun h25 => ?_)
        · refine z_iconst (pc := 62) (v := iz (-1)) O dX9_hurt_62 (by decide) ?_
          refine z_iret (pc := 63) O dX9_hurt_63 ?_
          exact ⟨(-1), rfl, (by decide), (Fr.rf [(70, 99999), (71, 99999), (72, 99999), (73, 99999), (74, 99999), (75, 99999), (79, 99999), (80, 99999), (33, 66)] σ), I⟩
        · refine z_iload (pc := 28) O dX9_hurt_28 rfl ?_
          refine zi_if_lt (pc := 30) (tgt := 62) O dX9_hurt_30 (by decide) (by omega) (fun h30 => ?_) (fun h30 => ?_)
          · refine z_iconst (pc := 62) (v := iz (-1)) O dX9_hurt_62 (by decide) ?_
            refine z_iret (pc := 63) O dX9_hurt_63 ?_
            exact ⟨(-1), rfl, (by decide), (Fr.rf [(70, 99999), (71, 99999), (72, 99999), (73, 99999), (74, 99999), (75, 99999), (79, 99999), (80, 99999), (33, 66)] σ), I⟩
          · refine z_iload (pc := 33) O dX9_hurt_33 rfl ?_
            refine z_aload_n (pc := 35) O dX9_hurt_35 rfl ?_
            refine zi_getv (pc := 36) (gI σ 33 6) O fl_X9_365 rfl (jo_33 I.1) (izg σ 33 6) dX9_hurt_36 ?_
            have := rgI σ 33 6
            refine zi_icmp_gt (pc := 39) (tgt := 62) O dX9_hurt_39 (by decide) (by omega) (by omega) (fun h39 => ?_) (fun h39 => ?_)
            · refine z_iconst (pc := 62) (v := iz (-1)) O dX9_hurt_62 (by decide) ?_
              refine z_iret (pc := 63) O dX9_hurt_63 ?_
              exact ⟨(-1), rfl, (by decide), (Fr.rf [(70, 99999), (71, 99999), (72, 99999), (73, 99999), (74, 99999), (75, 99999), (79, 99999), (80, 99999), (33, 66)] σ), I⟩
            · refine z_iload (pc := 42) O dX9_hurt_42 rfl ?_
              refine zi_if_lt (pc := 44) (tgt := 62) O dX9_hurt_44 (by decide) (by omega) (fun h44 => ?_) (fun h44 => ?_)
              · refine z_iconst (pc := 62) (v := iz (-1)) O dX9_hurt_62 (by decide) ?_
                refine z_iret (pc := 63) O dX9_hurt_63 ?_
                exact ⟨(-1), rfl, (by decide), (Fr.rf [(70, 99999), (71, 99999), (72, 99999), (73, 99999), (74, 99999), (75, 99999), (79, 99999), (80, 99999), (33, 66)] σ), I⟩
              · refine z_iload (pc := 47) O dX9_hurt_47 rfl ?_
                refine z_iconst (pc := 49) (v := iz (3)) O dX9_hurt_49 (by decide) ?_
                refine zi_icmp_gt (pc := 50) (tgt := 62) O dX9_hurt_50 (by decide) (by omega) (by decide) (fun h50 => ?_) (fun h50 => ?_)
                · refine z_iconst (pc := 62) (v := iz (-1)) O dX9_hurt_62 (by decide) ?_
                  refine z_iret (pc := 63) O dX9_hurt_63 ?_
                  exact ⟨(-1), rfl, (by decide), (Fr.rf [(70, 99999), (71, 99999), (72, 99999), (73, 99999), (74, 99999), (75, 99999), (79, 99999), (80, 99999), (33, 66)] σ), I⟩
                · refine z_aload_n (pc := 53) O dX9_hurt_53 rfl ?_
                  refine zi_getv (pc := 54) (gI σ 33 66) O fl_X9_371 rfl (jo_33 I.1) (izg σ 33 66) dX9_hurt_54 ?_
                  have := rgI σ 33 66
                  refine z_bipush (pc := 57) (v := iz (20)) O dX9_hurt_57 (by decide) ?_
                  refine zi_icmp_ne (pc := 59) (tgt := 64) O dX9_hurt_59 (by decide) (by omega) (by decide) (fun h59 => ?_) (fun h59 => ?_)
                  · refine z_aload_n (pc := 64) O dX9_hurt_64 rfl ?_
                    refine z_getR (pc := 65) 70 O fl_X9_125 rfl (jo_33 I.1) (jr_33_55 I.1) dX9_hurt_65 ?_
                    refine z_aload_n (pc := 68) O dX9_hurt_68 rfl ?_
                    refine zi_getv (pc := 69) (gI σ 33 66) O fl_X9_371 rfl (jo_33 I.1) (izg σ 33 66) dX9_hurt_69 ?_
                    refine z_iload_n (pc := 72) O dX9_hurt_72 rfl ?_
                    refine zi_iast (pc := 73) ((gI σ 33 66).toNat) O (ja_70 I.1) (by omega) (by omega) (by omega) dX9_hurt_73 ?_
                    refine z_aload_n (pc := 74) O dX9_hurt_74 rfl ?_
                    refine z_getR (pc := 75) 71 O fl_X9_128 rfl (jo_33 I.1) (jr_33_56 I.1) dX9_hurt_75 ?_
                    refine z_aload_n (pc := 78) O dX9_hurt_78 rfl ?_
                    refine zi_getv (pc := 79) (gI σ 33 66) O fl_X9_371 rfl (jo_33 I.1) (sk1t (by decide) (izg σ 33 66)) dX9_hurt_79 ?_
                    refine z_iload_n (pc := 82) O dX9_hurt_82 rfl ?_
                    refine zi_iast (pc := 83) ((gI σ 33 66).toNat) O (ja_71 I.1) (by omega) (by omega) (by omega) dX9_hurt_83 ?_
                    refine z_aload_n (pc := 84) O dX9_hurt_84 rfl ?_
                    refine z_getR (pc := 85) 79 O fl_X9_152 rfl (jo_33 I.1) (jr_33_64 I.1) dX9_hurt_85 ?_
                    refine z_aload_n (pc := 88) O dX9_hurt_88 rfl ?_
                    refine zi_getv (pc := 89) (gI σ 33 66) O fl_X9_371 rfl (jo_33 I.1) (sk1t (by decide) (sk1t (by decide) (izg σ 33 66))) dX9_hurt_89 ?_
                    refine z_lload_n (pc := 92) O dX9_hurt_92 rfl ?_
                    refine zi_last (pc := 93) ((gI σ 33 66).toNat) O (ja_79 I.1) (by omega) (by omega) (by omega) dX9_hurt_93 ?_
                    refine z_aload_n (pc := 94) O dX9_hurt_94 rfl ?_
                    refine z_getR (pc := 95) 72 O fl_X9_131 rfl (jo_33 I.1) (jr_33_57 I.1) dX9_hurt_95 ?_
                    refine z_aload_n (pc := 98) O dX9_hurt_98 rfl ?_
                    refine zi_getv (pc := 99) (gI σ 33 66) O fl_X9_371 rfl (jo_33 I.1) (skL (sk1t (by decide) (sk1t (by decide) (izg σ 33 66)))) dX9_hurt_99 ?_
                    refine z_iload (pc := 102) O dX9_hurt_102 rfl ?_
                    refine zi_iast (pc := 104) ((gI σ 33 66).toNat) O (ja_72 I.1) (by omega) (by omega) (by omega) dX9_hurt_104 ?_
                    refine z_aload_n (pc := 105) O dX9_hurt_105 rfl ?_
                    refine z_getR (pc := 106) 73 O fl_X9_134 rfl (jo_33 I.1) (jr_33_58 I.1) dX9_hurt_106 ?_
                    refine z_aload_n (pc := 109) O dX9_hurt_109 rfl ?_
                    refine zi_getv (pc := 110) (gI σ 33 66) O fl_X9_371 rfl (jo_33 I.1) (sk1t (by decide) (skL (sk1t (by decide) (sk1t (by decide) (izg σ 33 66))))) dX9_hurt_110 ?_
                    refine z_iload (pc := 113) O dX9_hurt_113 rfl ?_
                    refine zi_iast (pc := 115) ((gI σ 33 66).toNat) O (ja_73 I.1) (by omega) (by omega) (by omega) dX9_hurt_115 ?_
                    refine z_aload_n (pc := 116) O dX9_hurt_116 rfl ?_
                    refine z_getR (pc := 117) 80 O fl_X9_155 rfl (jo_33 I.1) (jr_33_65 I.1) dX9_hurt_117 ?_
                    refine z_aload_n (pc := 120) O dX9_hurt_120 rfl ?_
                    refine zi_getv (pc := 121) (gI σ 33 66) O fl_X9_371 rfl (jo_33 I.1) (sk1t (by decide) (sk1t (by decide) (skL (sk1t (by decide) (sk1t (by decide) (izg σ 33 66)))))) dX9_hurt_121 ?_
                    refine z_iload (pc := 124) O dX9_hurt_124 rfl ?_
                    refine zi_zast (pc := 126) ((gI σ 33 66).toNat) O (ja_80 I.1) (by omega) (by omega) (by omega) (by omega) dX9_hurt_126 ?_
                    refine z_aload_n (pc := 127) O dX9_hurt_127 rfl ?_
                    refine z_getR (pc := 128) 74 O fl_X9_137 rfl (jo_33 I.1) (jr_33_59 I.1) dX9_hurt_128 ?_
                    refine z_aload_n (pc := 131) O dX9_hurt_131 rfl ?_
                    refine zi_getv (pc := 132) (gI σ 33 66) O fl_X9_371 rfl (jo_33 I.1) (sk1t (by decide) (sk1t (by decide) (sk1t (by decide) (skL (sk1t (by decide) (sk1t (by decide) (izg σ 33 66))))))) dX9_hurt_132 ?_
                    refine z_iconst (pc := 135) (v := iz (-1)) O dX9_hurt_135 (by decide) ?_
                    refine zi_iast (pc := 136) ((gI σ 33 66).toNat) O (ja_74 I.1) (by omega) (by omega) (by omega) dX9_hurt_136 ?_
                    refine z_aload_n (pc := 137) O dX9_hurt_137 rfl ?_
                    refine z_getR (pc := 138) 75 O fl_X9_140 rfl (jo_33 I.1) (jr_33_60 I.1) dX9_hurt_138 ?_
                    refine z_aload_n (pc := 141) O dX9_hurt_141 rfl ?_
                    refine zi_getv (pc := 142) (gI σ 33 66) O fl_X9_371 rfl (jo_33 I.1) (sk1t (by decide) (sk1t (by decide) (sk1t (by decide) (sk1t (by decide) (skL (sk1t (by decide) (sk1t (by decide) (izg σ 33 66)))))))) dX9_hurt_142 ?_
                    refine z_iconst (pc := 145) (v := iz (-1)) O dX9_hurt_145 (by decide) ?_
                    refine zi_iast (pc := 146) ((gI σ 33 66).toNat) O (ja_75 I.1) (by omega) (by omega) (by omega) dX9_hurt_146 ?_
                    refine z_aload_n (pc := 147) O dX9_hurt_147 rfl ?_
                    refine z_dup (pc := 148) O dX9_hurt_148 rfl ?_
                    refine zi_getv (pc := 149) (gI σ 33 66) O fl_X9_371 rfl (jo_33 I.1) (sk1t (by decide) (sk1t (by decide) (sk1t (by decide) (sk1t (by decide) (sk1t (by decide) (skL (sk1t (by decide) (sk1t (by decide) (izg σ 33 66))))))))) dX9_hurt_149 ?_
                    refine z_iconst (pc := 152) (v := iz (1)) O dX9_hurt_152 (by decide) ?_
                    refine zi_iadd (pc := 153) O dX9_hurt_153 ?_
                    refine z_putI (pc := 154) O fl_X9_371 rfl ⟨rfl, rfl⟩ (jo_33 I.1) dX9_hurt_154 ?_
                    refine z_aload_n (pc := 157) O dX9_hurt_157 rfl ?_
                    refine zi_getv (pc := 158) ((gI σ 33 66) + 1) O fl_X9_371 rfl (jo_33 I.1) (hI_at _ _ _ _) dX9_hurt_158 ?_
                    refine z_iconst (pc := 161) (v := iz (1)) O dX9_hurt_161 (by decide) ?_
                    refine zi_isub (pc := 162) O dX9_hurt_162 ?_
                    refine z_iret (pc := 163) O dX9_hurt_163 ?_
                    have FR : Fr [(70, 99999), (71, 99999), (72, 99999), (73, 99999), (74, 99999), (75, 99999), (79, 99999), (80, 99999), (33, 66)] σ (sI (sI (sI (sI (sI (sI (sL (sI (sI σ 70 ((gI σ 33 66).toNat) (iz b)) 71 ((gI σ 33 66).toNat) (iz o)) 79 ((gI σ 33 66).toNat) v) 72 ((gI σ 33 66).toNat) (iz d)) 73 ((gI σ 33 66).toNat) (iz p)) 80 ((gI σ 33 66).toNat) (iz n)) 74 ((gI σ 33 66).toNat) (iz (-1))) 75 ((gI σ 33 66).toNat) (iz (-1))) 33 66 (iz ((gI σ 33 66) + 1))) := ((((((((((Fr.rf [(70, 99999), (71, 99999), (72, 99999), (73, 99999), (74, 99999), (75, 99999), (79, 99999), (80, 99999), (33, 66)] σ).pI rfl).pI rfl).pL rfl).pI rfl).pI rfl).pI rfl).pI rfl).pI rfl).pI rfl)
                    have i1' : InvM1 (sI (sI (sI (sI (sI (sI (sL (sI (sI σ 70 ((gI σ 33 66).toNat) (iz b)) 71 ((gI σ 33 66).toNat) (iz o)) 79 ((gI σ 33 66).toNat) v) 72 ((gI σ 33 66).toNat) (iz d)) 73 ((gI σ 33 66).toNat) (iz p)) 80 ((gI σ 33 66).toNat) (iz n)) 74 ((gI σ 33 66).toNat) (iz (-1))) 75 ((gI σ 33 66).toNat) (iz (-1))) 33 66 (iz ((gI σ 33 66) + 1))) := by
                      unfold InvM1
                      have : gI (sI (sI (sI (sI (sI (sI (sL (sI (sI σ 70 ((gI σ 33 66).toNat) (iz b)) 71 ((gI σ 33 66).toNat) (iz o)) 79 ((gI σ 33 66).toNat) v) 72 ((gI σ 33 66).toNat) (iz d)) 73 ((gI σ 33 66).toNat) (iz p)) 80 ((gI σ 33 66).toNat) (iz n)) 74 ((gI σ 33 66).toNat) (iz (-1))) 75 ((gI σ 33 66).toNat) (iz (-1))) 33 66 (iz ((gI σ 33 66) + 1))) 33 2 = gI σ 33 2 := gI_iz (sk2t (by decide) (sk1t (by decide) (sk1t (by decide) (sk1t (by decide) (sk1t (by decide) (sk1t (by decide) (skL (sk1t (by decide) (sk1t (by decide) (izg σ 33 2)))))))))) (rgI _ _ _); have : gI (sI (sI (sI (sI (sI (sI (sL (sI (sI σ 70 ((gI σ 33 66).toNat) (iz b)) 71 ((gI σ 33 66).toNat) (iz o)) 79 ((gI σ 33 66).toNat) v) 72 ((gI σ 33 66).toNat) (iz d)) 73 ((gI σ 33 66).toNat) (iz p)) 80 ((gI σ 33 66).toNat) (iz n)) 74 ((gI σ 33 66).toNat) (iz (-1))) 75 ((gI σ 33 66).toNat) (iz (-1))) 33 66 (iz ((gI σ 33 66) + 1))) 33 52 = gI σ 33 52 := gI_iz (sk2t (by decide) (sk1t (by decide) (sk1t (by decide) (sk1t (by decide) (sk1t (by decide) (sk1t (by decide) (skL (sk1t (by decide) (sk1t (by decide) (izg σ 33 52)))))))))) (rgI _ _ _); have : gI (sI (sI (sI (sI (sI (sI (sL (sI (sI σ 70 ((gI σ 33 66).toNat) (iz b)) 71 ((gI σ 33 66).toNat) (iz o)) 79 ((gI σ 33 66).toNat) v) 72 ((gI σ 33 66).toNat) (iz d)) 73 ((gI σ 33 66).toNat) (iz p)) 80 ((gI σ 33 66).toNat) (iz n)) 74 ((gI σ 33 66).toNat) (iz (-1))) 75 ((gI σ 33 66).toNat) (iz (-1))) 33 66 (iz ((gI σ 33 66) + 1))) 33 53 = gI σ 33 53 := gI_iz (sk2t (by decide) (sk1t (by decide) (sk1t (by decide) (sk1t (by decide) (sk1t (by decide) (sk1t (by decide) (skL (sk1t (by decide) (sk1t (by decide) (izg σ 33 53)))))))))) (rgI _ _ _); have : gI (sI (sI (sI (sI (sI (sI (sL (sI (sI σ 70 ((gI σ 33 66).toNat) (iz b)) 71 ((gI σ 33 66).toNat) (iz o)) 79 ((gI σ 33 66).toNat) v) 72 ((gI σ 33 66).toNat) (iz d)) 73 ((gI σ 33 66).toNat) (iz p)) 80 ((gI σ 33 66).toNat) (iz n)) 74 ((gI σ 33 66).toNat) (iz (-1))) 75 ((gI σ 33 66).toNat) (iz (-1))) 33 66 (iz ((gI σ 33 66) + 1))) 33 54 = gI σ 33 54 := gI_iz (sk2t (by decide) (sk1t (by decide) (sk1t (by decide) (sk1t (by decide) (sk1t (by decide) (sk1t (by decide) (skL (sk1t (by decide) (sk1t (by decide) (izg σ 33 54)))))))))) (rgI _ _ _); have : gI (sI (sI (sI (sI (sI (sI (sL (sI (sI σ 70 ((gI σ 33 66).toNat) (iz b)) 71 ((gI σ 33 66).toNat) (iz o)) 79 ((gI σ 33 66).toNat) v) 72 ((gI σ 33 66).toNat) (iz d)) 73 ((gI σ 33 66).toNat) (iz p)) 80 ((gI σ 33 66).toNat) (iz n)) 74 ((gI σ 33 66).toNat) (iz (-1))) 75 ((gI σ 33 66).toNat) (iz (-1))) 33 66 (iz ((gI σ 33 66) + 1))) 33 73 = gI σ 33 73 := gI_iz (sk2t (by decide) (sk1t (by decide) (sk1t (by decide) (sk1t (by decide) (sk1t (by decide) (sk1t (by decide) (skL (sk1t (by decide) (sk1t (by decide) (izg σ 33 73)))))))))) (rgI _ _ _); have : gI (sI (sI (sI (sI (sI (sI (sL (sI (sI σ 70 ((gI σ 33 66).toNat) (iz b)) 71 ((gI σ 33 66).toNat) (iz o)) 79 ((gI σ 33 66).toNat) v) 72 ((gI σ 33 66).toNat) (iz d)) 73 ((gI σ 33 66).toNat) (iz p)) 80 ((gI σ 33 66).toNat) (iz n)) 74 ((gI σ 33 66).toNat) (iz (-1))) 75 ((gI σ 33 66).toNat) (iz (-1))) 33 66 (iz ((gI σ 33 66) + 1))) 33 74 = gI σ 33 74 := gI_iz (sk2t (by decide) (sk1t (by decide) (sk1t (by decide) (sk1t (by decide) (sk1t (by decide) (sk1t (by decide) (skL (sk1t (by decide) (sk1t (by decide) (izg σ 33 74)))))))))) (rgI _ _ _); have : gI (sI (sI (sI (sI (sI (sI (sL (sI (sI σ 70 ((gI σ 33 66).toNat) (iz b)) 71 ((gI σ 33 66).toNat) (iz o)) 79 ((gI σ 33 66).toNat) v) 72 ((gI σ 33 66).toNat) (iz d)) 73 ((gI σ 33 66).toNat) (iz p)) 80 ((gI σ 33 66).toNat) (iz n)) 74 ((gI σ 33 66).toNat) (iz (-1))) 75 ((gI σ 33 66).toNat) (iz (-1))) 33 66 (iz ((gI σ 33 66) + 1))) 33 6 = gI σ 33 6 := gI_iz (sk2t (by decide) (sk1t (by decide) (sk1t (by decide) (sk1t (by decide) (sk1t (by decide) (sk1t (by decide) (skL (sk1t (by decide) (sk1t (by decide) (izg σ 33 6)))))))))) (rgI _ _ _); omega
                    have i2' := I.2.2.1.fr FR (fun _ => rfl) (fun _ => rfl) (fun _ => rfl) (fun _ => rfl) (fun _ => rfl) (fun _ => rfl) (fun _ => rfl) (fun _ => rfl) (fun _ => rfl) rfl
                    have q70 : gI (sI (sI (sI (sI (sI (sI (sL (sI (sI σ 70 ((gI σ 33 66).toNat) (iz b)) 71 ((gI σ 33 66).toNat) (iz o)) 79 ((gI σ 33 66).toNat) v) 72 ((gI σ 33 66).toNat) (iz d)) 73 ((gI σ 33 66).toNat) (iz p)) 80 ((gI σ 33 66).toNat) (iz n)) 74 ((gI σ 33 66).toNat) (iz (-1))) 75 ((gI σ 33 66).toNat) (iz (-1))) 33 66 (iz ((gI σ 33 66) + 1))) 70 ((gI σ 33 66).toNat) = b := gI_iz (sk1t (by decide) (sk1t (by decide) (sk1t (by decide) (sk1t (by decide) (sk1t (by decide) (sk1t (by decide) (skL (sk1t (by decide) (hI_at _ _ _ _))))))))) (by omega)
                    have q71 : gI (sI (sI (sI (sI (sI (sI (sL (sI (sI σ 70 ((gI σ 33 66).toNat) (iz b)) 71 ((gI σ 33 66).toNat) (iz o)) 79 ((gI σ 33 66).toNat) v) 72 ((gI σ 33 66).toNat) (iz d)) 73 ((gI σ 33 66).toNat) (iz p)) 80 ((gI σ 33 66).toNat) (iz n)) 74 ((gI σ 33 66).toNat) (iz (-1))) 75 ((gI σ 33 66).toNat) (iz (-1))) 33 66 (iz ((gI σ 33 66) + 1))) 71 ((gI σ 33 66).toNat) = o := gI_iz (sk1t (by decide) (sk1t (by decide) (sk1t (by decide) (sk1t (by decide) (sk1t (by decide) (sk1t (by decide) (skL (hI_at _ _ _ _)))))))) (by omega)
                    have q75 : gI (sI (sI (sI (sI (sI (sI (sL (sI (sI σ 70 ((gI σ 33 66).toNat) (iz b)) 71 ((gI σ 33 66).toNat) (iz o)) 79 ((gI σ 33 66).toNat) v) 72 ((gI σ 33 66).toNat) (iz d)) 73 ((gI σ 33 66).toNat) (iz p)) 80 ((gI σ 33 66).toNat) (iz n)) 74 ((gI σ 33 66).toNat) (iz (-1))) 75 ((gI σ 33 66).toNat) (iz (-1))) 33 66 (iz ((gI σ 33 66) + 1))) 75 ((gI σ 33 66).toNat) = -1 := gI_iz (sk1t (by decide) (hI_at _ _ _ _)) (by omega)
                    have q66 : gI (sI (sI (sI (sI (sI (sI (sL (sI (sI σ 70 ((gI σ 33 66).toNat) (iz b)) 71 ((gI σ 33 66).toNat) (iz o)) 79 ((gI σ 33 66).toNat) v) 72 ((gI σ 33 66).toNat) (iz d)) 73 ((gI σ 33 66).toNat) (iz p)) 80 ((gI σ 33 66).toNat) (iz n)) 74 ((gI σ 33 66).toNat) (iz (-1))) 75 ((gI σ 33 66).toNat) (iz (-1))) 33 66 (iz ((gI σ 33 66) + 1))) 33 66 = (gI σ 33 66) + 1 := gI_iz (hI_at _ _ _ _) (by omega)
                    have i3' : InvM3 (sI (sI (sI (sI (sI (sI (sL (sI (sI σ 70 ((gI σ 33 66).toNat) (iz b)) 71 ((gI σ 33 66).toNat) (iz o)) 79 ((gI σ 33 66).toNat) v) 72 ((gI σ 33 66).toNat) (iz d)) 73 ((gI σ 33 66).toNat) (iz p)) 80 ((gI σ 33 66).toNat) (iz n)) 74 ((gI σ 33 66).toNat) (iz (-1))) 75 ((gI σ 33 66).toNat) (iz (-1))) 33 66 (iz ((gI σ 33 66) + 1))) := I.2.2.2.new (c := ((gI σ 33 66).toNat)) (by omega) (by omega) (by omega) (fun k hk => gI_eq (sk1t (by decide) (sk1t (by decide) (sk1t (by decide) (sk1t (by decide) (sk1t (by decide) (sk1t (by decide) (skL (sk1t (by decide) (sk2t hk rfl)))))))))) (fun k hk => gI_eq (sk1t (by decide) (sk1t (by decide) (sk1t (by decide) (sk1t (by decide) (sk1t (by decide) (sk1t (by decide) (skL (sk2t hk (sk1t (by decide) rfl)))))))))) (fun k hk => gI_eq (sk1t (by decide) (sk2t hk (sk1t (by decide) (sk1t (by decide) (sk1t (by decide) (sk1t (by decide) (skL (sk1t (by decide) (sk1t (by decide) rfl)))))))))) (fun k => FR.g 77 k rfl) (by omega) (by omega) (by omega)
                    exact ⟨(((gI σ 33 66) + 1) - 1), rfl, by omega, FR, FR.lay I.1, i1', i2', i3'⟩
                  · refine z_iconst (pc := 62) (v := iz (-1)) O dX9_hurt_62 (by decide) ?_
                    refine z_iret (pc := 63) O dX9_hurt_63 ?_
                    exact ⟨(-1), rfl, (by decide), (Fr.rf [(70, 99999), (71, 99999), (72, 99999), (73, 99999), (74, 99999), (75, 99999), (79, 99999), (80, 99999), (33, 66)] σ), I⟩
