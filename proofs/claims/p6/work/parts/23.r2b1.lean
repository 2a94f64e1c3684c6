set_option maxHeartbeats 4000000 in
set_option maxRecDepth 20000 in
theorem k9_sum (l : Launch) (σ : VH) (c : Int) (rc : (-2147483648 ≤ c ∧ c < 2147483648)) (y : Int) (ry : (-2147483648 ≤ y ∧ y < 2147483648)) (I : InvM σ) : Ct l yX9_sum cX9_sum 3 (some .int) 4 0 0 [.ref 33, .int (iz c), .int (iz y)] σ (fun r τ => ∃ z : Int, r = some (.int (iz z)) ∧ (-2147483648 ≤ z ∧ z < 2147483648) ∧ (Fr [(81, 99999), (82, 99999)] σ τ) ∧ (InvM τ)) := by
  refine Ct.enter rfl (Nat.le_of_ble_eq_true rfl) ?_
  intro κ γ hκ O hrc hrs
  subst hκ
  have i1 := I.2.1
  unfold InvM1 at i1
  have i2 := I.2.2.1.laws
  have i3 := I.2.2.2.1
  refine z_aload_n (pc := 0) O dX9_sum_0 rfl ?_
  refine z_iload_n (pc := 1) O dX9_sum_1 rfl ?_
  refine z_callV (pc := 2) O cl_X9_410 (k9_isCase _ _ c (by omega) I.1) (by decide) (jo_33 I.1) kc_9 rfl rfl (Nat.le_of_ble_eq_true rfl) ⟨Nat.zero_le _, Nat.zero_le _⟩ dX9_sum_2 (fun r τ1 hp => ?_)
  obtain ⟨z2, rfl, fτ1_0, fτ1_1, rfl⟩ := hp
  refine zi_if_eq (pc := 5) (tgt := 17) O dX9_sum_5 (by decide) (by omega) (fun h5 => ?_) (fun h5 => ?_)
  · refine z_iconst (pc := 17) (v := iz (-1)) O dX9_sum_17 (by decide) ?_
    refine z_iret (pc := 18) O dX9_sum_18 ?_
    exact ⟨(-1), rfl, (by decide), (Fr.rf [(81, 99999), (82, 99999)] σ), I⟩
  · refine z_aload_n (pc := 8) O dX9_sum_8 rfl ?_
    refine z_iload_n (pc := 9) O dX9_sum_9 rfl ?_
    refine z_iload_n (pc := 10) O dX9_sum_10 rfl ?_
    refine z_callV (pc := 11) O cl_X9_413 (k9_sumOf _ _ c (by omega) y (by omega) I (by omega)) (by decide) (jo_33 I.1) kc_9 rfl rfl (Nat.le_of_ble_eq_true rfl) ⟨Nat.zero_le _, Nat.zero_le _⟩ dX9_sum_11 (fun r τ3 hp => ?_)
    obtain ⟨z4, rfl, fτ3_0, fτ3_1, frτ3⟩ := hp
    refine z_goto (pc := 14) (tgt := 18) O dX9_sum_14 (by decide) ?_
    refine z_iret (pc := 18) O dX9_sum_18 ?_
    exact ⟨z4, rfl, (by omega), frτ3, (InvM.fr frτ3 I (by unfold InvM1; have : gI τ3 33 2 = gI σ 33 2 := gI_iz (Fr.it frτ3 rfl (izg σ 33 2)) (rgI _ _ _); have : gI τ3 33 52 = gI σ 33 52 := gI_iz (Fr.it frτ3 rfl (izg σ 33 52)) (rgI _ _ _); have : gI τ3 33 53 = gI σ 33 53 := gI_iz (Fr.it frτ3 rfl (izg σ 33 53)) (rgI _ _ _); have : gI τ3 33 54 = gI σ 33 54 := gI_iz (Fr.it frτ3 rfl (izg σ 33 54)) (rgI _ _ _); have : gI τ3 33 73 = gI σ 33 73 := gI_iz (Fr.it frτ3 rfl (izg σ 33 73)) (rgI _ _ _); have : gI τ3 33 74 = gI σ 33 74 := gI_iz (Fr.it frτ3 rfl (izg σ 33 74)) (rgI _ _ _); have : gI τ3 33 6 = gI σ 33 6 := gI_iz (Fr.it frτ3 rfl (izg σ 33 6)) (rgI _ _ _); omega) rfl)⟩
set_option maxHeartbeats 4000000 in
set_option maxRecDepth 20000 in
theorem k9_oath (l : Launch) (σ : VH) (c : Int) (rc : (-2147483648 ≤ c ∧ c < 2147483648)) (e : Int) (re : (-2147483648 ≤ e ∧ e < 2147483648)) (I : InvM σ) : Ct l yX9_oath cX9_oath 7 (some .int) 2 0 0 [.ref 33, .int (iz c), .int (iz e)] σ (fun r τ => ∃ z : Int, r = some (.int (iz z)) ∧ (-2147483648 ≤ z ∧ z < 2147483648) ∧ (Fr [(74, 99999)] σ τ) ∧ (InvM τ)) := by
  refine Ct.enter rfl (Nat.le_of_ble_eq_true rfl) ?_
  intro κ γ hκ O hrc hrs
  subst hκ
  have i1 := I.2.1
  unfold InvM1 at i1
  have i2 := I.2.2.1.laws
  have i3 := I.2.2.2.1
  refine z_aload_n (pc := 0) O dX9_oath_0 rfl ?_
  refine z_iload_n (pc := 1) O dX9_oath_1 rfl ?_
  refine z_callV (pc := 2) O cl_X9_410 (k9_isCase _ _ c (by omega) I.1) (by decide) (jo_33 I.1) kc_9 rfl rfl (Nat.le_of_ble_eq_true rfl) ⟨Nat.zero_le _, Nat.zero_le _⟩ dX9_oath_2 (fun r τ1 hp => ?_)
  obtain ⟨z2, rfl, fτ1_0, fτ1_1, rfl⟩ := hp
  refine zi_if_eq (pc := 5) (tgt := 34) O dX9_oath_5 (by decide) (by omega) (fun h5 => ?_) (fun h5 => ?_)
  · refine z_iconst (pc := 34) (v := iz (-1)) O dX9_oath_34 (by decide) ?_
    refine z_iret (pc := 35) O dX9_oath_35 ?_
    exact ⟨(-1), rfl, (by decide), (Fr.rf [(74, 99999)] σ), I⟩
  · have kc := I.2.2.2.2 c.toNat (by omega)
    unfold CaseM at kc
    refine z_aload_n (pc := 8) O dX9_oath_8 rfl ?_
    refine z_getR (pc := 9) 74 O fl_X9_137 rfl (jo_33 I.1) (jr_33_59 I.1) dX9_oath_9 ?_
    refine z_iload_n (pc := 12) O dX9_oath_12 rfl ?_
    refine zi_ialdv (pc := 13) (c.toNat) (gI σ 74 (c.toNat)) O (ja_74 I.1) (by omega) (by omega) (by omega) (izg σ 74 (c.toNat)) dX9_oath_13 ?_
    have := rgI σ 74 (c.toNat)
    refine zi_if_ge (pc := 14) (tgt := 34) O dX9_oath_14 (by decide) (by omega) (fun h14 => ?_) (fun h14 => ?_)
    · refine z_iconst (pc := 34) (v := iz (-1)) O dX9_oath_34 (by decide) ?_
      refine z_iret (pc := 35) O dX9_oath_35 ?_
      exact ⟨(-1), rfl, (by decide), (Fr.rf [(74, 99999)] σ), I⟩
    · refine z_aload_n (pc := 17) O dX9_oath_17 rfl ?_
      refine z_getR (pc := 18) 75 O fl_X9_140 rfl (jo_33 I.1) (jr_33_60 I.1) dX9_oath_18 ?_
      refine z_iload_n (pc := 21) O dX9_oath_21 rfl ?_
      refine zi_ialdv (pc := 22) (c.toNat) (gI σ 75 (c.toNat)) O (ja_75 I.1) (by omega) (by omega) (by omega) (izg σ 75 (c.toNat)) dX9_oath_22 ?_
      have := rgI σ 75 (c.toNat)
      refine zi_if_ge (pc := 23) (tgt := 34) O dX9_oath_23 (by decide) (by omega) (fun h23 => ?_) (fun h23 => ?_)
      · refine z_iconst (pc := 34) (v := iz (-1)) O dX9_oath_34 (by decide) ?_
        refine z_iret (pc := 35) O dX9_oath_35 ?_
        exact ⟨(-1), rfl, (by decide), (Fr.rf [(74, 99999)] σ), I⟩
      · refine z_aload_n (pc := 26) O dX9_oath_26 rfl ?_
        refine z_iload_n (pc := 27) O dX9_oath_27 rfl ?_
        refine z_callV (pc := 28) O cl_X9_386 (k9_lawOf _ _ c (by omega) I.1 (by omega) (by omega) (by omega)) (by decide) (jo_33 I.1) kc_9 rfl rfl (Nat.le_of_ble_eq_true rfl) ⟨Nat.zero_le _, Nat.zero_le _⟩ dX9_oath_28 (fun r τ3 hp => ?_)
        obtain ⟨z4, rfl, fτ3_0, fτ3_1, fτ3_2, rfl⟩ := hp
        refine zi_if_ge (pc := 31) (tgt := 36) O dX9_oath_31 (by decide) (by omega) (fun h31 => ?_) (fun h31 => ?_)
        · refine z_iload_n (pc := 36) O dX9_oath_36 rfl ?_
          refine zi_if_lt (pc := 37) (tgt := 50) O dX9_oath_37 (by decide) (by omega) (fun h37 => ?_) (fun h37 => ?_)
          · refine z_iconst (pc := 50) (v := iz (0)) O dX9_oath_50 (by decide) ?_
            refine z_iret (pc := 51) O dX9_oath_51 ?_
            exact ⟨0, rfl, (by decide), (Fr.rf [(74, 99999)] σ), I⟩
          · refine z_iload_n (pc := 40) O dX9_oath_40 rfl ?_
            refine z_iconst (pc := 41) (v := iz (1)) O dX9_oath_41 (by decide) ?_
            refine z_aload_n (pc := 42) O dX9_oath_42 rfl ?_
            refine zi_getv (pc := 43) (gI σ 33 52) O fl_X9_353 rfl (jo_33 I.1) (izg σ 33 52) dX9_oath_43 ?_
            have := rgI σ 33 52
            refine z_ishl (pc := 46) O dX9_oath_46 ?_
            refine zi_any (fun z5 rz5 ez5 => ?_)
            refine zi_icmp_lt (pc := 47) (tgt := 52) O dX9_oath_47 (by decide) (by omega) (by omega) (fun h47 => ?_) (fun h47 => ?_)
            · refine z_aload_n (pc := 52) O dX9_oath_52 rfl ?_
              refine z_iload_n (pc := 53) O dX9_oath_53 rfl ?_
              refine z_callV (pc := 54) O cl_X9_386 (k9_lawOf _ _ c (by omega) I.1 (by omega) (by omega) (by omega)) (by decide) (jo_33 I.1) kc_9 rfl rfl (Nat.le_of_ble_eq_true rfl) ⟨Nat.zero_le _, Nat.zero_le _⟩ dX9_oath_54 (fun r τ6 hp => ?_)
              obtain ⟨z7, rfl, fτ6_0, fτ6_1, fτ6_2, rfl⟩ := hp
              refine z_istore_n (pc := 57) [(0, .ref 33), (1, .int (iz c)), (2, .int (iz e)), (3, .int (iz z7))] O dX9_oath_57 (by decide) rfl ?_
              refine z_iconst (pc := 58) (v := iz (0)) O dX9_oath_58 (by decide) ?_
              refine z_istore (pc := 59) [(0, .ref 33), (1, .int (iz c)), (2, .int (iz e)), (3, .int (iz z7)), (4, .int (iz 0))] O dX9_oath_59 (by decide) rfl ?_
              refine z_iconst (pc := 61) (v := iz (1)) O dX9_oath_61 (by decide) ?_
              refine z_istore (pc := 62) [(0, .ref 33), (1, .int (iz c)), (2, .int (iz e)), (3, .int (iz z7)), (4, .int (iz 0)), (5, .int (iz 1))] O dX9_oath_62 (by decide) rfl ?_
              refine z_iconst (pc := 64) (v := iz (0)) O dX9_oath_64 (by decide) ?_
              refine z_istore (pc := 65) [(0, .ref 33), (1, .int (iz c)), (2, .int (iz e)), (3, .int (iz z7)), (4, .int (iz 0)), (5, .int (iz 1)), (6, .int (iz 0))] O dX9_oath_65 (by decide) rfl ?_
              have cut67 : ∀ (mu67 : Nat) (n : Int) (q : Int) (p : Int), (mu67 = (gI σ 33 52 - p).toNat) → (-2147483648 ≤ n ∧ n < 2147483648) → (-2147483648 ≤ q ∧ q < 2147483648) → (-2147483648 ≤ p ∧ p < 2147483648) → (0 ≤ p ∧ p ≤ gI σ 33 52) → (q = 0 ∨ q = 1) → (0 ≤ n ∧ n ≤ p) → Z κ γ 7 σ 0 0 (QM κ γ (fun r τ => ∃ z : Int, r = some (.int (iz z)) ∧ (-2147483648 ≤ z ∧ z < 2147483648) ∧ (Fr [(74, 99999)] σ τ) ∧ (InvM τ)) 0 0) 67 [(0, .ref 33), (1, .int (iz c)), (2, .int (iz e)), (3, .int (iz z7)), (4, .int (iz n)), (5, .int (iz q)), (6, .int (iz p))] [] := by
                intro mu67
                induction mu67 using Nat.strongRecOn with
                | ind mu67 ih67 =>
                intro n q p hmu67 rr67_0 rr67_1 rr67_2 ff67_0 ff67_1 ff67_2
                refine z_iload (pc := 67) O dX9_oath_67 rfl ?_
                refine z_aload_n (pc := 69) O dX9_oath_69 rfl ?_
                refine zi_getv (pc := 70) (gI σ 33 52) O fl_X9_353 rfl (jo_33 I.1) (izg σ 33 52) dX9_oath_70 ?_
                refine zi_icmp_ge (pc := 73) (tgt := 183) O dX9_oath_73 (by decide) (by omega) (by omega) (fun h73 => ?_) (fun h73 => ?_)
                · refine z_iload (pc := 183) O dX9_oath_183 rfl ?_
                  refine zi_if_eq (pc := 185) (tgt := 199) O dX9_oath_185 (by decide) (by omega) (fun h185 => ?_) (fun h185 => ?_)
                  · refine z_iconst (pc := 199) (v := iz (0)) O dX9_oath_199 (by decide) ?_
                    refine z_iret (pc := 200) O dX9_oath_200 ?_
                    exact ⟨0, rfl, (by decide), (Fr.rf [(74, 99999)] σ), I⟩
                  · refine z_iload (pc := 188) O dX9_oath_188 rfl ?_
                    refine z_aload_n (pc := 190) O dX9_oath_190 rfl ?_
                    refine z_getR (pc := 191) 47 O fl_X9_54 rfl (jo_33 I.1) (jr_33_23 I.1) dX9_oath_191 ?_
                    refine z_iload_n (pc := 194) O dX9_oath_194 rfl ?_
                    refine zi_ialdv (pc := 195) (z7.toNat) (gI σ 47 (z7.toNat)) O (ja_47 I.1) (by omega) (by omega) (by omega) (izg σ 47 (z7.toNat)) dX9_oath_195 ?_
                    have := rgI σ 47 (z7.toNat)
                    refine zi_icmp_ge (pc := 196) (tgt := 201) O dX9_oath_196 (by decide) (by omega) (by omega) (fun h196 => ?_) (fun h196 => ?_)
                    · refine z_aload_n (pc := 201) O dX9_oath_201 rfl ?_
                      refine z_getR (pc := 202) 74 O fl_X9_137 rfl (jo_33 I.1) (jr_33_59 I.1) dX9_oath_202 ?_
                      refine z_iload_n (pc := 205) O dX9_oath_205 rfl ?_
                      refine z_aload_n (pc := 206) O dX9_oath_206 rfl ?_
                      refine zi_getv (pc := 207) (gI σ 33 6) O fl_X9_365 rfl (jo_33 I.1) (izg σ 33 6) dX9_oath_207 ?_
                      have := rgI σ 33 6
                      refine zi_iast (pc := 210) (c.toNat) O (ja_74 I.1) (by omega) (by omega) (by omega) dX9_oath_210 ?_
                      refine z_iconst (pc := 211) (v := iz (1)) O dX9_oath_211 (by decide) ?_
                      refine z_iret (pc := 212) O dX9_oath_212 ?_
                      exact ⟨1, rfl, (by decide), ((Fr.rf [(74, 99999)] σ).pI rfl), (InvM.fr ((Fr.rf [(74, 99999)] σ).pI rfl) I (by unfold InvM1; have : gI (sI σ 74 (c.toNat) (iz (gI σ 33 6))) 33 2 = gI σ 33 2 := gI_iz (sk1t (by decide) (izg σ 33 2)) (rgI _ _ _); have : gI (sI σ 74 (c.toNat) (iz (gI σ 33 6))) 33 52 = gI σ 33 52 := gI_iz (sk1t (by decide) (izg σ 33 52)) (rgI _ _ _); have : gI (sI σ 74 (c.toNat) (iz (gI σ 33 6))) 33 53 = gI σ 33 53 := gI_iz (sk1t (by decide) (izg σ 33 53)) (rgI _ _ _); have : gI (sI σ 74 (c.toNat) (iz (gI σ 33 6))) 33 54 = gI σ 33 54 := gI_iz (sk1t (by decide) (izg σ 33 54)) (rgI _ _ _); have : gI (sI σ 74 (c.toNat) (iz (gI σ 33 6))) 33 73 = gI σ 33 73 := gI_iz (sk1t (by decide) (izg σ 33 73)) (rgI _ _ _); have : gI (sI σ 74 (c.toNat) (iz (gI σ 33 6))) 33 74 = gI σ 33 74 := gI_iz (sk1t (by decide) (izg σ 33 74)) (rgI _ _ _); have : gI (sI σ 74 (c.toNat) (iz (gI σ 33 6))) 33 6 = gI σ 33 6 := gI_iz (sk1t (by decide) (izg σ 33 6)) (rgI _ _ _); omega) rfl)⟩
                    · refine z_iconst (pc := 199) (v := iz (0)) O dX9_oath_199 (by decide) ?_
                      refine z_iret (pc := 200) O dX9_oath_200 ?_
                      exact ⟨0, rfl, (by decide), (Fr.rf [(74, 99999)] σ), I⟩
                · refine z_iload_n (pc := 76) O dX9_oath_76 rfl ?_
                  refine z_iload (pc := 77) O dX9_oath_77 rfl ?_
                  refine z_ishr (pc := 79) O dX9_oath_79 ?_
                  refine zi_any (fun z8 rz8 ez8 => ?_)
                  refine z_iconst (pc := 80) (v := iz (1)) O dX9_oath_80 (by decide) ?_
                  refine z_iand (pc := 81) O dX9_oath_81 ?_
                  refine zi_any (fun z9 rz9 ez9 => ?_)
                  refine zi_if_ne (pc := 82) (tgt := 88) O dX9_oath_82 (by decide) (by omega) (fun h82 => ?_) (fun h82 => ?_)
                  · refine zi_iinc (pc := 88) (n + 1) [(0, .ref 33), (1, .int (iz c)), (2, .int (iz e)), (3, .int (iz z7)), (4, .int (iz (n + 1))), (5, .int (iz q)), (6, .int (iz p))] O dX9_oath_88 rfl (by omega) (by decide) rfl ?_
                    have cut175 : ∀ (q1 : Int), (-2147483648 ≤ q1 ∧ q1 < 2147483648) → (q1 = 0 ∨ q1 = 1) → Z κ γ 7 σ 0 0 (QM κ γ (fun r τ => ∃ z : Int, r = some (.int (iz z)) ∧ (-2147483648 ≤ z ∧ z < 2147483648) ∧ (Fr [(74, 99999)] σ τ) ∧ (InvM τ)) 0 0) 175 [(0, .ref 33), (1, .int (iz c)), (2, .int (iz e)), (3, .int (iz z7)), (4, .int (iz (n + 1))), (5, .int (iz q)), (6, .int (iz p))] [.int (iz q1)] := by
                      intro q1 rr175_0 ff175_0
                      refine z_istore (pc := 175) [(0, .ref 33), (1, .int (iz c)), (2, .int (iz e)), (3, .int (iz z7)), (4, .int (iz (n + 1))), (5, .int (iz q1)), (6, .int (iz p))] O dX9_oath_175 (by decide) rfl ?_
                      refine zi_iinc (pc := 177) (p + 1) [(0, .ref 33), (1, .int (iz c)), (2, .int (iz e)), (3, .int (iz z7)), (4, .int (iz (n + 1))), (5, .int (iz q1)), (6, .int (iz (p + 1)))] O dX9_oath_177 rfl (by omega) (by decide) rfl ?_
                      refine z_goto (pc := 180) (tgt := 67) O dX9_oath_180 (by decide) ?_
                      refine z_lk [(0, .ref 33), (1, .int (iz c)), (2, .int (iz e)), (3, .int (iz z7)), (4, .int (iz (n + 1))), (5, .int (iz q1)), (6, .int (iz (p + 1)))] ⟨rfl, rfl, rfl, rfl, rfl, rfl, rfl, trivial⟩ ?_
                      exact ih67 _ (by omega) (n + 1) q1 (p + 1) rfl (by omega) (by omega) (by omega) (by omega) (by omega) (by omega)
                    refine z_iload (pc := 91) O dX9_oath_91 rfl ?_
                    refine zi_if_eq (pc := 93) (tgt := 174) O dX9_oath_93 (by decide) (by omega) (fun h93 => ?_) (fun h93 => ?_)
                    · refine z_iconst (pc := 174) (v := iz (0)) O dX9_oath_174 (by decide) ?_
                      refine z_lk [(0, .ref 33), (1, .int (iz c)), (2, .int (iz e)), (3, .int (iz z7)), (4, .int (iz (n + 1))), (5, .int (iz q)), (6, .int (iz p))] ⟨rfl, rfl, rfl, rfl, rfl, rfl, rfl, trivial⟩ ?_
                      exact cut175 0 (by omega) (by omega)
                    · refine z_iload (pc := 96) O dX9_oath_96 rfl ?_
                      refine z_aload_n (pc := 98) O dX9_oath_98 rfl ?_
                      refine z_getR (pc := 99) 70 O fl_X9_125 rfl (jo_33 I.1) (jr_33_55 I.1) dX9_oath_99 ?_
                      refine z_iload_n (pc := 102) O dX9_oath_102 rfl ?_
                      refine zi_ialdv (pc := 103) (c.toNat) (gI σ 70 (c.toNat)) O (ja_70 I.1) (by omega) (by omega) (by omega) (izg σ 70 (c.toNat)) dX9_oath_103 ?_
                      have := rgI σ 70 (c.toNat)
                      refine zi_icmp_eq (pc := 104) (tgt := 174) O dX9_oath_104 (by decide) (by omega) (by omega) (fun h104 => ?_) (fun h104 => ?_)
                      · refine z_iconst (pc := 174) (v := iz (0)) O dX9_oath_174 (by decide) ?_
                        refine z_lk [(0, .ref 33), (1, .int (iz c)), (2, .int (iz e)), (3, .int (iz z7)), (4, .int (iz (n + 1))), (5, .int (iz q)), (6, .int (iz p))] ⟨rfl, rfl, rfl, rfl, rfl, rfl, rfl, trivial⟩ ?_
                        exact cut175 0 (by omega) (by omega)
                      · refine z_iload (pc := 107) O dX9_oath_107 rfl ?_
                        refine z_aload_n (pc := 109) O dX9_oath_109 rfl ?_
                        refine z_getR (pc := 110) 71 O fl_X9_128 rfl (jo_33 I.1) (jr_33_56 I.1) dX9_oath_110 ?_
                        refine z_iload_n (pc := 113) O dX9_oath_113 rfl ?_
                        refine zi_ialdv (pc := 114) (c.toNat) (gI σ 71 (c.toNat)) O (ja_71 I.1) (by omega) (by omega) (by omega) (izg σ 71 (c.toNat)) dX9_oath_114 ?_
                        have := rgI σ 71 (c.toNat)
                        refine zi_icmp_eq (pc := 115) (tgt := 174) O dX9_oath_115 (by decide) (by omega) (by omega) (fun h115 => ?_) (fun h115 => ?_)
                        · refine z_iconst (pc := 174) (v := iz (0)) O dX9_oath_174 (by decide) ?_
                          refine z_lk [(0, .ref 33), (1, .int (iz c)), (2, .int (iz e)), (3, .int (iz z7)), (4, .int (iz (n + 1))), (5, .int (iz q)), (6, .int (iz p))] ⟨rfl, rfl, rfl, rfl, rfl, rfl, rfl, trivial⟩ ?_
                          exact cut175 0 (by omega) (by omega)
                        · refine z_aload_n (pc := 118) O dX9_oath_118 rfl ?_
                          refine z_iload (pc := 119) O dX9_oath_119 rfl ?_
                          refine z_aload_n (pc := 121) O dX9_oath_121 rfl ?_
                          refine zi_getv (pc := 122) (gI σ 33 6) O fl_X9_365 rfl (jo_33 I.1) (izg σ 33 6) dX9_oath_122 ?_
                          have := rgI σ 33 6
                          refine z_callV (pc := 125) O cl_X9_416 (k9_isDead _ _ p (by omega) (gI σ 33 6) (by omega) I.1 (by omega)) (by decide) (jo_33 I.1) kc_9 rfl rfl (Nat.le_of_ble_eq_true rfl) ⟨Nat.zero_le _, Nat.zero_le _⟩ dX9_oath_125 (fun r τ10 hp => ?_)
                          obtain ⟨z11, rfl, fτ10_0, rfl⟩ := hp
                          refine zi_if_ne (pc := 128) (tgt := 174) O dX9_oath_128 (by decide) (by omega) (fun h128 => ?_) (fun h128 => ?_)
                          · refine z_iconst (pc := 174) (v := iz (0)) O dX9_oath_174 (by decide) ?_
                            refine z_lk [(0, .ref 33), (1, .int (iz c)), (2, .int (iz e)), (3, .int (iz z7)), (4, .int (iz (n + 1))), (5, .int (iz q)), (6, .int (iz p))] ⟨rfl, rfl, rfl, rfl, rfl, rfl, rfl, trivial⟩ ?_
                            exact cut175 0 (by omega) (by omega)
                          · refine z_aload_n (pc := 131) O dX9_oath_131 rfl ?_
                            refine z_iload (pc := 132) O dX9_oath_132 rfl ?_
                            refine z_aload_n (pc := 134) O dX9_oath_134 rfl ?_
                            refine z_getR (pc := 135) 70 O fl_X9_125 rfl (jo_33 I.1) (jr_33_55 I.1) dX9_oath_135 ?_
                            refine z_iload_n (pc := 138) O dX9_oath_138 rfl ?_
                            refine zi_ialdv (pc := 139) (c.toNat) (gI σ 70 (c.toNat)) O (ja_70 I.1) (by omega) (by omega) (by omega) (izg σ 70 (c.toNat)) dX9_oath_139 ?_
                            refine z_callV (pc := 140) O cl_X9_389 (k9_degree _ _ p (by omega) (gI σ 70 (c.toNat)) (by omega) I.1 (by omega)) (by decide) (jo_33 I.1) kc_9 rfl rfl (Nat.le_of_ble_eq_true rfl) ⟨Nat.zero_le _, Nat.zero_le _⟩ dX9_oath_140 (fun r τ12 hp => ?_)
                            obtain ⟨z13, rfl, fτ12_0, fτ12_1, rfl⟩ := hp
                            refine z_iconst (pc := 143) (v := iz (1)) O dX9_oath_143 (by decide) ?_
                            refine zi_icmp_eq (pc := 144) (tgt := 174) O dX9_oath_144 (by decide) (by omega) (by decide) (fun h144 => ?_) (fun h144 => ?_)
                            · refine z_iconst (pc := 174) (v := iz (0)) O dX9_oath_174 (by decide) ?_
                              refine z_lk [(0, .ref 33), (1, .int (iz c)), (2, .int (iz e)), (3, .int (iz z7)), (4, .int (iz (n + 1))), (5, .int (iz q)), (6, .int (iz p))] ⟨rfl, rfl, rfl, rfl, rfl, rfl, rfl, trivial⟩ ?_
                              exact cut175 0 (by omega) (by omega)
                            · refine z_aload_n (pc := 147) O dX9_oath_147 rfl ?_
                              refine z_iload (pc := 148) O dX9_oath_148 rfl ?_
                              refine z_aload_n (pc := 150) O dX9_oath_150 rfl ?_
                              refine zi_getv (pc := 151) (gI σ 33 6) O fl_X9_365 rfl (jo_33 I.1) (izg σ 33 6) dX9_oath_151 ?_
                              refine z_aload_n (pc := 154) O dX9_oath_154 rfl ?_
                              refine zi_getv (pc := 155) (gI σ 33 6) O fl_X9_365 rfl (jo_33 I.1) (izg σ 33 6) dX9_oath_155 ?_
                              refine z_callV (pc := 158) O cl_X9_392 (k9_ranked _ _ p (by omega) (gI σ 33 6) (by omega) (gI σ 33 6) (by omega) I.1 (by omega)) (by decide) (jo_33 I.1) kc_9 rfl rfl (Nat.le_of_ble_eq_true rfl) ⟨Nat.zero_le _, Nat.zero_le _⟩ dX9_oath_158 (fun r τ14 hp => ?_)
                              obtain ⟨z15, rfl, fτ14_0, rfl⟩ := hp
                              refine z_aload_n (pc := 161) O dX9_oath_161 rfl ?_
                              refine z_getR (pc := 162) 48 O fl_X9_57 rfl (jo_33 I.1) (jr_33_24 I.1) dX9_oath_162 ?_
                              refine z_iload_n (pc := 165) O dX9_oath_165 rfl ?_
                              refine zi_ialdv (pc := 166) (z7.toNat) (gI σ 48 (z7.toNat)) O (ja_48 I.1) (by omega) (by omega) (by omega) (izg σ 48 (z7.toNat)) dX9_oath_166 ?_
                              have := rgI σ 48 (z7.toNat)
                              refine zi_icmp_lt (pc := 167) (tgt := 174) O dX9_oath_167 (by decide) (by omega) (by omega) (fun h167 => ?_) (fun h167 => ?_)
                              · refine z_iconst (pc := 174) (v := iz (0)) O dX9_oath_174 (by decide) ?_
                                refine z_lk [(0, .ref 33), (1, .int (iz c)), (2, .int (iz e)), (3, .int (iz z7)), (4, .int (iz (n + 1))), (5, .int (iz q)), (6, .int (iz p))] ⟨rfl, rfl, rfl, rfl, rfl, rfl, rfl, trivial⟩ ?_
                                exact cut175 0 (by omega) (by omega)
                              · refine z_iconst (pc := 170) (v := iz (1)) O dX9_oath_170 (by decide) ?_
                                refine z_goto (pc := 171) (tgt := 175) O dX9_oath_171 (by decide) ?_
                                refine z_lk [(0, .ref 33), (1, .int (iz c)), (2, .int (iz e)), (3, .int (iz z7)), (4, .int (iz (n + 1))), (5, .int (iz q)), (6, .int (iz p))] ⟨rfl, rfl, rfl, rfl, rfl, rfl, rfl, trivial⟩ ?_
                                exact cut175 1 (by omega) (by omega)
                  · refine z_goto (pc := 85) (tgt := 177) O dX9_oath_85 (by decide) ?_
                    refine zi_iinc (pc := 177) (p + 1) [(0, .ref 33), (1, .int (iz c)), (2, .int (iz e)), (3, .int (iz z7)), (4, .int (iz n)), (5, .int (iz q)), (6, .int (iz (p + 1)))] O dX9_oath_177 rfl (by omega) (by decide) rfl ?_
                    refine z_goto (pc := 180) (tgt := 67) O dX9_oath_180 (by decide) ?_
                    refine z_lk [(0, .ref 33), (1, .int (iz c)), (2, .int (iz e)), (3, .int (iz z7)), (4, .int (iz n)), (5, .int (iz q)), (6, .int (iz (p + 1)))] ⟨rfl, rfl, rfl, rfl, rfl, rfl, rfl, trivial⟩ ?_
                    exact ih67 _ (by omega) n q (p + 1) rfl (by omega) (by omega) (by omega) (by omega) (by omega) (by omega)
              refine z_lk [(0, .ref 33), (1, .int (iz c)), (2, .int (iz e)), (3, .int (iz z7)), (4, .int (iz 0)), (5, .int (iz 1)), (6, .int (iz 0))] ⟨rfl, rfl, rfl, rfl, rfl, rfl, rfl, trivial⟩ ?_
              exact cut67 _ 0 1 0 rfl (by omega) (by omega) (by omega) (by omega) (by omega) (by omega)
            · refine z_iconst (pc := 50) (v := iz (0)) O dX9_oath_50 (by decide) ?_
              refine z_iret (pc := 51) O dX9_oath_51 ?_
              exact ⟨0, rfl, (by decide), (Fr.rf [(74, 99999)] σ), I⟩
        · refine z_iconst (pc := 34) (v := iz (-1)) O dX9_oath_34 (by decide) ?_
          refine z_iret (pc := 35) O dX9_oath_35 ?_
          exact ⟨(-1), rfl, (by decide), (Fr.rf [(74, 99999)] σ), I⟩
