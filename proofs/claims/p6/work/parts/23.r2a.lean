set_option maxHeartbeats 4000000 in
set_option maxRecDepth 20000 in
theorem k9_price (l : Launch) (σ : VH) (c : Int) (rc : (-2147483648 ≤ c ∧ c < 2147483648)) (y : Int) (ry : (-2147483648 ≤ y ∧ y < 2147483648)) (I : InvM σ) (hc : 0 ≤ c ∧ c < gI σ 33 66) : Ct l yX9_price cX9_price 8 (some .int) 2 0 0 [.ref 33, .int (iz c), .int (iz y)] σ (fun r τ => ∃ z : Int, r = some (.int (iz z)) ∧ (-2147483648 ≤ z ∧ z < 2147483648) ∧ (z < 0 ∨ 0 ≤ lffc σ c) ∧ (Fr [(81, 99999), (82, 99999)] σ τ)) := by
  refine Ct.enter rfl (Nat.le_of_ble_eq_true rfl) ?_
  intro κ γ hκ O hrc hrs
  subst hκ
  have i1 := I.2.1
  unfold InvM1 at i1
  have i2 := I.2.2.1.laws
  have i3 := I.2.2.2.1
  have kc := I.2.2.2.2 c.toNat (by omega)
  unfold CaseM at kc
  refine z_aload_n (pc := 0) O dX9_price_0 rfl ?_
  refine z_iload_n (pc := 1) O dX9_price_1 rfl ?_
  refine z_callV (pc := 2) O cl_X9_386 (k9_lawOf _ _ c (by omega) I.1 (by omega) (by omega) (by omega)) (by decide) (jo_33 I.1) kc_9 rfl rfl (Nat.le_of_ble_eq_true rfl) ⟨Nat.zero_le _, Nat.zero_le _⟩ dX9_price_2 (fun r τ1 hp => ?_)
  obtain ⟨z2, rfl, fτ1_0, fτ1_1, fτ1_2, rfl⟩ := hp
  refine z_istore_n (pc := 5) [(0, .ref 33), (1, .int (iz c)), (2, .int (iz y)), (3, .int (iz z2))] O dX9_price_5 (by decide) rfl ?_
  have cut25 : ∀ (h : Int), (-2147483648 ≤ h ∧ h < 2147483648) → (h = -1 ∨ (0 ≤ z2 ∧ 12 * z2 ≤ h ∧ h < 12 * z2 + 12)) → Z κ γ 8 σ 0 0 (QM κ γ (fun r τ => ∃ z : Int, r = some (.int (iz z)) ∧ (-2147483648 ≤ z ∧ z < 2147483648) ∧ (z < 0 ∨ 0 ≤ lffc σ c) ∧ (Fr [(81, 99999), (82, 99999)] σ τ)) 0 0) 25 [(0, .ref 33), (1, .int (iz c)), (2, .int (iz y)), (3, .int (iz z2))] [.int (iz h)] := by
    intro h rr25_0 ff25_0
    refine z_istore (pc := 25) [(0, .ref 33), (1, .int (iz c)), (2, .int (iz y)), (3, .int (iz z2)), (4, .int (iz h))] O dX9_price_25 (by decide) rfl ?_
    refine z_iload (pc := 27) O dX9_price_27 rfl ?_
    refine zi_if_ge (pc := 29) (tgt := 34) O dX9_price_29 (by decide) (by omega) (fun h29 => ?_) (fun h29 => ?_)
    · refine z_aload_n (pc := 34) O dX9_price_34 rfl ?_
      refine z_aload_n (pc := 35) O dX9_price_35 rfl ?_
      refine z_getR (pc := 36) 70 O fl_X9_125 rfl (jo_33 I.1) (jr_33_55 I.1) dX9_price_36 ?_
      refine z_iload_n (pc := 39) O dX9_price_39 rfl ?_
      refine zi_ialdv (pc := 40) (c.toNat) (gI σ 70 (c.toNat)) O (ja_70 I.1) (by omega) (by omega) (by omega) (izg σ 70 (c.toNat)) dX9_price_40 ?_
      have := rgI σ 70 (c.toNat)
      refine z_aload_n (pc := 41) O dX9_price_41 rfl ?_
      refine z_getR (pc := 42) 71 O fl_X9_128 rfl (jo_33 I.1) (jr_33_56 I.1) dX9_price_42 ?_
      refine z_iload_n (pc := 45) O dX9_price_45 rfl ?_
      refine zi_ialdv (pc := 46) (c.toNat) (gI σ 71 (c.toNat)) O (ja_71 I.1) (by omega) (by omega) (by omega) (izg σ 71 (c.toNat)) dX9_price_46 ?_
      have := rgI σ 71 (c.toNat)
      refine z_callV (pc := 47) O cl_X9_389 (k9_degree _ _ (gI σ 70 (c.toNat)) (by omega) (gI σ 71 (c.toNat)) (by omega) I.1 (by omega)) (by decide) (jo_33 I.1) kc_9 rfl rfl (Nat.le_of_ble_eq_true rfl) ⟨Nat.zero_le _, Nat.zero_le _⟩ dX9_price_47 (fun r τ3 hp => ?_)
      obtain ⟨z4, rfl, fτ3_0, fτ3_1, rfl⟩ := hp
      refine z_istore (pc := 50) [(0, .ref 33), (1, .int (iz c)), (2, .int (iz y)), (3, .int (iz z2)), (4, .int (iz h)), (5, .int (iz z4))] O dX9_price_50 (by decide) rfl ?_
      refine z_aload_n (pc := 52) O dX9_price_52 rfl ?_
      refine z_getR (pc := 53) 81 O fl_X9_158 rfl (jo_33 I.1) (jr_33_67 I.1) dX9_price_53 ?_
      refine z_iconst (pc := 56) (v := iz (0)) O dX9_price_56 (by decide) ?_
      refine z_aload_n (pc := 57) O dX9_price_57 rfl ?_
      refine z_aload_n (pc := 58) O dX9_price_58 rfl ?_
      refine z_getR (pc := 59) 71 O fl_X9_128 rfl (jo_33 I.1) (jr_33_56 I.1) dX9_price_59 ?_
      refine z_iload_n (pc := 62) O dX9_price_62 rfl ?_
      refine zi_ialdv (pc := 63) (c.toNat) (gI σ 71 (c.toNat)) O (ja_71 I.1) (by omega) (by omega) (by omega) (izg σ 71 (c.toNat)) dX9_price_63 ?_
      refine z_aload_n (pc := 64) O dX9_price_64 rfl ?_
      refine z_getR (pc := 65) 72 O fl_X9_131 rfl (jo_33 I.1) (jr_33_57 I.1) dX9_price_65 ?_
      refine z_iload_n (pc := 68) O dX9_price_68 rfl ?_
      refine zi_ialdv (pc := 69) (c.toNat) (gI σ 72 (c.toNat)) O (ja_72 I.1) (by omega) (by omega) (by omega) (izg σ 72 (c.toNat)) dX9_price_69 ?_
      have := rgI σ 72 (c.toNat)
      refine z_iload_n (pc := 70) O dX9_price_70 rfl ?_
      refine z_callV (pc := 71) O cl_X9_392 (k9_ranked _ _ (gI σ 71 (c.toNat)) (by omega) (gI σ 72 (c.toNat)) (by omega) y (by omega) I.1 (by omega)) (by decide) (jo_33 I.1) kc_9 rfl rfl (Nat.le_of_ble_eq_true rfl) ⟨Nat.zero_le _, Nat.zero_le _⟩ dX9_price_71 (fun r τ5 hp => ?_)
      obtain ⟨z6, rfl, fτ5_0, rfl⟩ := hp
      refine zi_iast (pc := 74) 0 O (ja_81 I.1) rfl (by decide) (by omega) dX9_price_74 ?_
      refine z_aload_n (pc := 75) O dX9_price_75 rfl ?_
      refine z_getR (pc := 76) 81 O fl_X9_158 rfl (jo_33 I.1) (jr_33_67 I.1) dX9_price_76 ?_
      refine z_iconst (pc := 79) (v := iz (1)) O dX9_price_79 (by decide) ?_
      refine z_aload_n (pc := 80) O dX9_price_80 rfl ?_
      refine z_aload_n (pc := 81) O dX9_price_81 rfl ?_
      refine z_getR (pc := 82) 70 O fl_X9_125 rfl (jo_33 I.1) (jr_33_55 I.1) dX9_price_82 ?_
      refine z_iload_n (pc := 85) O dX9_price_85 rfl ?_
      refine zi_ialdv (pc := 86) (c.toNat) (gI σ 70 (c.toNat)) O (ja_70 I.1) (by omega) (by omega) (by omega) (sk1t (by decide) (izg σ 70 (c.toNat))) dX9_price_86 ?_
      refine z_aload_n (pc := 87) O dX9_price_87 rfl ?_
      refine z_getR (pc := 88) 72 O fl_X9_131 rfl (jo_33 I.1) (jr_33_57 I.1) dX9_price_88 ?_
      refine z_iload_n (pc := 91) O dX9_price_91 rfl ?_
      refine zi_ialdv (pc := 92) (c.toNat) (gI σ 72 (c.toNat)) O (ja_72 I.1) (by omega) (by omega) (by omega) (sk1t (by decide) (izg σ 72 (c.toNat))) dX9_price_92 ?_
      refine z_iload_n (pc := 93) O dX9_price_93 rfl ?_
      refine z_callV (pc := 94) O cl_X9_392 (k9_ranked _ _ (gI σ 70 (c.toNat)) (by omega) (gI σ 72 (c.toNat)) (by omega) y (by omega) I.1 (by have : gI (sI σ 81 0 (iz z6)) 33 53 = gI σ 33 53 := gI_iz (sk1t (by decide) (izg σ 33 53)) (rgI _ _ _); omega)) (by decide) (jo_33 I.1) kc_9 rfl rfl (Nat.le_of_ble_eq_true rfl) ⟨Nat.zero_le _, Nat.zero_le _⟩ dX9_price_94 (fun r τ7 hp => ?_)
      obtain ⟨z8, rfl, fτ7_0, rfl⟩ := hp
      refine zi_iast (pc := 97) 1 O (ja_81 I.1) rfl (by decide) (by omega) dX9_price_97 ?_
      refine z_aload_n (pc := 98) O dX9_price_98 rfl ?_
      refine z_getR (pc := 99) 81 O fl_X9_158 rfl (jo_33 I.1) (jr_33_67 I.1) dX9_price_99 ?_
      refine z_iconst (pc := 102) (v := iz (2)) O dX9_price_102 (by decide) ?_
      refine z_aload_n (pc := 103) O dX9_price_103 rfl ?_
      refine z_getR (pc := 104) 73 O fl_X9_134 rfl (jo_33 I.1) (jr_33_58 I.1) dX9_price_104 ?_
      refine z_iload_n (pc := 107) O dX9_price_107 rfl ?_
      refine zi_ialdv (pc := 108) (c.toNat) (gI σ 73 (c.toNat)) O (ja_73 I.1) (by omega) (by omega) (by omega) (sk1t (by decide) (sk1t (by decide) (izg σ 73 (c.toNat)))) dX9_price_108 ?_
      have := rgI σ 73 (c.toNat)
      refine zi_iast (pc := 109) 2 O (ja_81 I.1) rfl (by decide) (by omega) dX9_price_109 ?_
      refine z_aload_n (pc := 110) O dX9_price_110 rfl ?_
      refine z_getR (pc := 111) 81 O fl_X9_158 rfl (jo_33 I.1) (jr_33_67 I.1) dX9_price_111 ?_
      refine z_iconst (pc := 114) (v := iz (3)) O dX9_price_114 (by decide) ?_
      have cut129 : ∀ (x3 : Int), (-2147483648 ≤ x3 ∧ x3 < 2147483648) → Z κ γ 8 (sI (sI (sI σ 81 0 (iz z6)) 81 1 (iz z8)) 81 2 (iz (gI σ 73 (c.toNat)))) 0 0 (QM κ γ (fun r τ => ∃ z : Int, r = some (.int (iz z)) ∧ (-2147483648 ≤ z ∧ z < 2147483648) ∧ (z < 0 ∨ 0 ≤ lffc σ c) ∧ (Fr [(81, 99999), (82, 99999)] σ τ)) 0 0) 129 [(0, .ref 33), (1, .int (iz c)), (2, .int (iz y)), (3, .int (iz z2)), (4, .int (iz h)), (5, .int (iz z4))] [.int (iz x3), .int (iz 3), .ref 81] := by
        intro x3 rr129_0
        refine zi_iast (pc := 129) 3 O (ja_81 I.1) rfl (by decide) (by omega) dX9_price_129 ?_
        refine z_aload_n (pc := 130) O dX9_price_130 rfl ?_
        refine z_getR (pc := 131) 81 O fl_X9_158 rfl (jo_33 I.1) (jr_33_67 I.1) dX9_price_131 ?_
        refine z_iconst (pc := 134) (v := iz (4)) O dX9_price_134 (by decide) ?_
        have cut151 : ∀ (x4 : Int), (-2147483648 ≤ x4 ∧ x4 < 2147483648) → Z κ γ 8 (sI (sI (sI (sI σ 81 0 (iz z6)) 81 1 (iz z8)) 81 2 (iz (gI σ 73 (c.toNat)))) 81 3 (iz x3)) 0 0 (QM κ γ (fun r τ => ∃ z : Int, r = some (.int (iz z)) ∧ (-2147483648 ≤ z ∧ z < 2147483648) ∧ (z < 0 ∨ 0 ≤ lffc σ c) ∧ (Fr [(81, 99999), (82, 99999)] σ τ)) 0 0) 151 [(0, .ref 33), (1, .int (iz c)), (2, .int (iz y)), (3, .int (iz z2)), (4, .int (iz h)), (5, .int (iz z4))] [.int (iz x4), .int (iz 4), .ref 81] := by
          intro x4 rr151_0
          refine zi_iast (pc := 151) 4 O (ja_81 I.1) rfl (by decide) (by omega) dX9_price_151 ?_
          refine z_aload_n (pc := 152) O dX9_price_152 rfl ?_
          refine z_getR (pc := 153) 81 O fl_X9_158 rfl (jo_33 I.1) (jr_33_67 I.1) dX9_price_153 ?_
          refine z_iconst (pc := 156) (v := iz (5)) O dX9_price_156 (by decide) ?_
          have cut197 : ∀ (x5 : Int), (-2147483648 ≤ x5 ∧ x5 < 2147483648) → Z κ γ 8 (sI (sI (sI (sI (sI σ 81 0 (iz z6)) 81 1 (iz z8)) 81 2 (iz (gI σ 73 (c.toNat)))) 81 3 (iz x3)) 81 4 (iz x4)) 0 0 (QM κ γ (fun r τ => ∃ z : Int, r = some (.int (iz z)) ∧ (-2147483648 ≤ z ∧ z < 2147483648) ∧ (z < 0 ∨ 0 ≤ lffc σ c) ∧ (Fr [(81, 99999), (82, 99999)] σ τ)) 0 0) 197 [(0, .ref 33), (1, .int (iz c)), (2, .int (iz y)), (3, .int (iz z2)), (4, .int (iz h)), (5, .int (iz z4))] [.int (iz x5), .int (iz 5), .ref 81] := by
            intro x5 rr197_0
            refine zi_iast (pc := 197) 5 O (ja_81 I.1) rfl (by decide) (by omega) dX9_price_197 ?_
            refine z_aload_n (pc := 198) O dX9_price_198 rfl ?_
            refine z_getR (pc := 199) 40 O fl_X9_33 rfl (jo_33 I.1) (jr_33_16 I.1) dX9_price_199 ?_
            refine z_iload (pc := 202) O dX9_price_202 rfl ?_
            refine zi_ialdv (pc := 204) (h.toNat) (gI σ 40 (h.toNat)) O (ja_40 I.1) (by omega) (by omega) (by omega) (sk1t (by decide) (sk1t (by decide) (sk1t (by decide) (sk1t (by decide) (sk1t (by decide) (sk1t (by decide) (izg σ 40 (h.toNat)))))))) dX9_price_204 ?_
            have := rgI σ 40 (h.toNat)
            refine z_istore (pc := 205) [(0, .ref 33), (1, .int (iz c)), (2, .int (iz y)), (3, .int (iz z2)), (4, .int (iz h)), (5, .int (iz z4)), (6, .int (iz (gI σ 40 (h.toNat))))] O dX9_price_205 (by decide) rfl ?_
            have wm := I.2.2.1.2.2.2.1 (z2.toNat) (by omega)
            refine z_bipush (pc := 207) (v := iz (16)) O dX9_price_207 (by decide) ?_
            refine z_iload_n (pc := 209) O dX9_price_209 rfl ?_
            refine zi_imul (pc := 210) O dX9_price_210 ?_
            refine z_istore (pc := 211) [(0, .ref 33), (1, .int (iz c)), (2, .int (iz y)), (3, .int (iz z2)), (4, .int (iz h)), (5, .int (iz z4)), (6, .int (iz (gI σ 40 (h.toNat)))), (7, .int (iz (16 * z2)))] O dX9_price_211 (by decide) rfl ?_
            have cut213 : ∀ (mu213 : Nat) (v : Int) (w : Int) (ρ213 : VH), (mu213 = (16 * z2 + gI σ 41 (z2.toNat) - w).toNat) → (-2147483648 ≤ v ∧ v < 2147483648) → (-2147483648 ≤ w ∧ w < 2147483648) → (16 * z2 ≤ w ∧ w ≤ 16 * z2 + gI σ 41 (z2.toNat)) → (Fr [(81, 99999), (82, 99999)] (sI (sI (sI (sI (sI (sI σ 81 0 (iz z6)) 81 1 (iz z8)) 81 2 (iz (gI σ 73 (c.toNat)))) 81 3 (iz x3)) 81 4 (iz x4)) 81 5 (iz x5)) ρ213) → Z κ γ 8 ρ213 0 0 (QM κ γ (fun r τ => ∃ z : Int, r = some (.int (iz z)) ∧ (-2147483648 ≤ z ∧ z < 2147483648) ∧ (z < 0 ∨ 0 ≤ lffc σ c) ∧ (Fr [(81, 99999), (82, 99999)] σ τ)) 0 0) 213 [(0, .ref 33), (1, .int (iz c)), (2, .int (iz y)), (3, .int (iz z2)), (4, .int (iz h)), (5, .int (iz z4)), (6, .int (iz v)), (7, .int (iz w))] [] := by
              intro mu213
              induction mu213 using Nat.strongRecOn with
              | ind mu213 ih213 =>
              intro v w ρ213 hmu213 rr213_0 rr213_1 ff213_0 frρ213
              refine z_iload (pc := 213) O dX9_price_213 rfl ?_
              refine z_bipush (pc := 215) (v := iz (16)) O dX9_price_215 (by decide) ?_
              refine z_iload_n (pc := 217) O dX9_price_217 rfl ?_
              refine zi_imul (pc := 218) O dX9_price_218 ?_
              refine z_aload_n (pc := 219) O dX9_price_219 rfl ?_
              refine z_getR (pc := 220) 41 O fl_X9_36 rfl (jo_33 (frρ213.lay I.1)) (jr_33_17 (frρ213.lay I.1)) dX9_price_220 ?_
              refine z_iload_n (pc := 223) O dX9_price_223 rfl ?_
              refine zi_ialdv (pc := 224) (z2.toNat) (gI σ 41 (z2.toNat)) O (ja_41 (frρ213.lay I.1)) (by omega) (by omega) (by omega) (Fr.it frρ213 rfl (sk1t (by decide) (sk1t (by decide) (sk1t (by decide) (sk1t (by decide) (sk1t (by decide) (sk1t (by decide) (izg σ 41 (z2.toNat))))))))) dX9_price_224 ?_
              have := rgI σ 41 (z2.toNat)
              refine zi_iadd (pc := 225) O dX9_price_225 ?_
              refine zi_icmp_ge (pc := 226) (tgt := 337) O dX9_price_226 (by decide) (by omega) (by omega) (fun h226 => ?_) (fun h226 => ?_)
              · refine z_iload (pc := 337) O dX9_price_337 rfl ?_
                refine z_iret (pc := 339) O dX9_price_339 ?_
                exact ⟨v, rfl, (by omega), (by omega), ((((((((Fr.rf [(81, 99999), (82, 99999)] σ).pI rfl).pI rfl).pI rfl).pI rfl).pI rfl).pI rfl).tr frρ213)⟩
              · refine z_aload_n (pc := 229) O dX9_price_229 rfl ?_
                refine z_getR (pc := 230) 81 O fl_X9_158 rfl (jo_33 (frρ213.lay I.1)) (jr_33_67 (frρ213.lay I.1)) dX9_price_230 ?_
                refine z_bipush (pc := 233) (v := iz (6)) O dX9_price_233 (by decide) ?_
                refine z_iload (pc := 235) O dX9_price_235 rfl ?_
                refine zi_iast (pc := 237) 6 O (ja_81 (frρ213.lay I.1)) rfl (by decide) (by omega) dX9_price_237 ?_
                refine z_aload_n (pc := 238) O dX9_price_238 rfl ?_
                refine z_iload_n (pc := 239) O dX9_price_239 rfl ?_
                refine z_iload (pc := 240) O dX9_price_240 rfl ?_
                refine z_callV (pc := 242) O cl_X9_399 (k9_work _ _ z2 (by omega) w (by omega) (frρ213.lay I.1) (by omega) (by omega) (SegOK.fr (((((((((Fr.rf [(81, 99999), (82, 99999)] σ).pI rfl).pI rfl).pI rfl).pI rfl).pI rfl).pI rfl).tr frρ213).pI rfl) (I.2.2.1.seg (by omega) (by omega) (by omega) (by omega)) (fun _ => rfl) (fun _ => rfl) (fun _ => rfl) (fun _ => rfl))) (by decide) (jo_33 (frρ213.lay I.1)) kc_9 rfl rfl (Nat.le_of_ble_eq_true rfl) ⟨Nat.zero_le _, Nat.zero_le _⟩ dX9_price_242 (fun r τ9 hp => ?_)
                obtain ⟨z10, rfl, fτ9_0, frτ9⟩ := hp
                refine zi_if_ne (pc := 245) (tgt := 251) O dX9_price_245 (by decide) (by omega) (fun h245 => ?_) (fun h245 => ?_)
                · refine z_aload_n (pc := 251) O dX9_price_251 rfl ?_
                  refine z_getR (pc := 252) 44 O fl_X9_45 rfl (jo_33 (frτ9.lay (frρ213.lay I.1))) (jr_33_20 (frτ9.lay (frρ213.lay I.1))) dX9_price_252 ?_
                  refine z_iload (pc := 255) O dX9_price_255 rfl ?_
                  refine zi_ialdv (pc := 257) (w.toNat) (gI σ 44 (w.toNat)) O (ja_44 (frτ9.lay (frρ213.lay I.1))) (by omega) (by omega) (by omega) (Fr.it frτ9 rfl (sk1t (by decide) (Fr.it frρ213 rfl (sk1t (by decide) (sk1t (by decide) (sk1t (by decide) (sk1t (by decide) (sk1t (by decide) (sk1t (by decide) (izg σ 44 (w.toNat))))))))))) dX9_price_257 ?_
                  have := rgI σ 44 (w.toNat)
                  refine zi_if_ne (pc := 258) (tgt := 274) O dX9_price_258 (by decide) (by omega) (fun h258 => ?_) (fun h258 => ?_)
                  · refine z_aload_n (pc := 274) O dX9_price_274 rfl ?_
                    refine z_getR (pc := 275) 44 O fl_X9_45 rfl (jo_33 (frτ9.lay (frρ213.lay I.1))) (jr_33_20 (frτ9.lay (frρ213.lay I.1))) dX9_price_275 ?_
                    refine z_iload (pc := 278) O dX9_price_278 rfl ?_
                    refine zi_ialdv (pc := 280) (w.toNat) (gI σ 44 (w.toNat)) O (ja_44 (frτ9.lay (frρ213.lay I.1))) (by omega) (by omega) (by omega) (Fr.it frτ9 rfl (sk1t (by decide) (Fr.it frρ213 rfl (sk1t (by decide) (sk1t (by decide) (sk1t (by decide) (sk1t (by decide) (sk1t (by decide) (sk1t (by decide) (izg σ 44 (w.toNat))))))))))) dX9_price_280 ?_
                    refine z_iconst (pc := 281) (v := iz (1)) O dX9_price_281 (by decide) ?_
                    refine zi_icmp_ne (pc := 282) (tgt := 292) O dX9_price_282 (by decide) (by omega) (by decide) (fun h282 => ?_) (fun h282 => ?_)
                    · refine z_iload (pc := 292) O dX9_price_292 rfl ?_
                      refine z_i2l (pc := 294) O dX9_price_294 ?_
                      refine z_topl (pc := 295) (fun w11 ew11 => ?_)
                      refine z_aload_n (pc := 295) O dX9_price_295 rfl ?_
                      refine z_getR (pc := 296) 44 O fl_X9_45 rfl (jo_33 (frτ9.lay (frρ213.lay I.1))) (jr_33_20 (frτ9.lay (frρ213.lay I.1))) dX9_price_296 ?_
                      refine z_iload (pc := 299) O dX9_price_299 rfl ?_
                      refine zi_ialdv (pc := 301) (w.toNat) (gI σ 44 (w.toNat)) O (ja_44 (frτ9.lay (frρ213.lay I.1))) (by omega) (by omega) (by omega) (Fr.it frτ9 rfl (sk1t (by decide) (Fr.it frρ213 rfl (sk1t (by decide) (sk1t (by decide) (sk1t (by decide) (sk1t (by decide) (sk1t (by decide) (sk1t (by decide) (izg σ 44 (w.toNat))))))))))) dX9_price_301 ?_
                      refine z_iconst (pc := 302) (v := iz (2)) O dX9_price_302 (by decide) ?_
                      refine zi_icmp_ne (pc := 303) (tgt := 316) O dX9_price_303 (by decide) (by omega) (by decide) (fun h303 => ?_) (fun h303 => ?_)
                      · refine z_aload_n (pc := 316) O dX9_price_316 rfl ?_
                        refine z_getR (pc := 317) 45 O fl_X9_48 rfl (jo_33 (frτ9.lay (frρ213.lay I.1))) (jr_33_21 (frτ9.lay (frρ213.lay I.1))) dX9_price_317 ?_
                        refine z_iload (pc := 320) O dX9_price_320 rfl ?_
                        refine zi_ialdv (pc := 322) (w.toNat) (gI σ 45 (w.toNat)) O (ja_45 (frτ9.lay (frρ213.lay I.1))) (by omega) (by omega) (by omega) (Fr.it frτ9 rfl (sk1t (by decide) (Fr.it frρ213 rfl (sk1t (by decide) (sk1t (by decide) (sk1t (by decide) (sk1t (by decide) (sk1t (by decide) (sk1t (by decide) (izg σ 45 (w.toNat))))))))))) dX9_price_322 ?_
                        have := rgI σ 45 (w.toNat)
                        refine zi_ineg (pc := 323) O dX9_price_323 ?_
                        refine z_i2l (pc := 324) O dX9_price_324 ?_
                        refine z_topl (pc := 325) (fun w12 ew12 => ?_)
                        refine z_ladd (pc := 325) O dX9_price_325 ?_
                        refine z_topl (pc := 326) (fun w13 ew13 => ?_)
                        refine z_callS (pc := 326) O cl_X9_404 (k9_bounded _ _ w13) (by decide) rfl rfl (Nat.le_of_ble_eq_true rfl) ⟨Nat.zero_le _, Nat.zero_le _⟩ dX9_price_326 (fun r τ14 hp => ?_)
                        obtain ⟨z15, rfl, fτ14_0, rfl⟩ := hp
                        refine z_istore (pc := 329) [(0, .ref 33), (1, .int (iz c)), (2, .int (iz y)), (3, .int (iz z2)), (4, .int (iz h)), (5, .int (iz z4)), (6, .int (iz z15)), (7, .int (iz w))] O dX9_price_329 (by decide) rfl ?_
                        refine zi_iinc (pc := 331) (w + 1) [(0, .ref 33), (1, .int (iz c)), (2, .int (iz y)), (3, .int (iz z2)), (4, .int (iz h)), (5, .int (iz z4)), (6, .int (iz z15)), (7, .int (iz (w + 1)))] O dX9_price_331 rfl (by omega) (by decide) rfl ?_
                        refine z_goto (pc := 334) (tgt := 213) O dX9_price_334 (by decide) ?_
                        refine z_lk [(0, .ref 33), (1, .int (iz c)), (2, .int (iz y)), (3, .int (iz z2)), (4, .int (iz h)), (5, .int (iz z4)), (6, .int (iz z15)), (7, .int (iz (w + 1)))] ⟨rfl, rfl, rfl, rfl, rfl, rfl, rfl, rfl, trivial⟩ ?_
                        exact ih213 _ (by omega) z15 (w + 1) τ9 rfl (by omega) (by omega) (by omega) ((frρ213.pI rfl).tr (frτ9.mono (V := [(81, 99999), (82, 99999)]) rfl))
                      · refine z_aload_n (pc := 306) O dX9_price_306 rfl ?_
                        refine z_getR (pc := 307) 45 O fl_X9_48 rfl (jo_33 (frτ9.lay (frρ213.lay I.1))) (jr_33_21 (frτ9.lay (frρ213.lay I.1))) dX9_price_307 ?_
                        refine z_iload (pc := 310) O dX9_price_310 rfl ?_
                        refine zi_ialdv (pc := 312) (w.toNat) (gI σ 45 (w.toNat)) O (ja_45 (frτ9.lay (frρ213.lay I.1))) (by omega) (by omega) (by omega) (Fr.it frτ9 rfl (sk1t (by decide) (Fr.it frρ213 rfl (sk1t (by decide) (sk1t (by decide) (sk1t (by decide) (sk1t (by decide) (sk1t (by decide) (sk1t (by decide) (izg σ 45 (w.toNat))))))))))) dX9_price_312 ?_
                        have := rgI σ 45 (w.toNat)
                        refine z_goto (pc := 313) (tgt := 324) O dX9_price_313 (by decide) ?_
                        refine z_i2l (pc := 324) O dX9_price_324 ?_
                        refine z_topl (pc := 325) (fun w16 ew16 => ?_)
                        refine z_ladd (pc := 325) O dX9_price_325 ?_
                        refine z_topl (pc := 326) (fun w17 ew17 => ?_)
                        refine z_callS (pc := 326) O cl_X9_404 (k9_bounded _ _ w17) (by decide) rfl rfl (Nat.le_of_ble_eq_true rfl) ⟨Nat.zero_le _, Nat.zero_le _⟩ dX9_price_326 (fun r τ18 hp => ?_)
                        obtain ⟨z19, rfl, fτ18_0, rfl⟩ := hp
                        refine z_istore (pc := 329) [(0, .ref 33), (1, .int (iz c)), (2, .int (iz y)), (3, .int (iz z2)), (4, .int (iz h)), (5, .int (iz z4)), (6, .int (iz z19)), (7, .int (iz w))] O dX9_price_329 (by decide) rfl ?_
                        refine zi_iinc (pc := 331) (w + 1) [(0, .ref 33), (1, .int (iz c)), (2, .int (iz y)), (3, .int (iz z2)), (4, .int (iz h)), (5, .int (iz z4)), (6, .int (iz z19)), (7, .int (iz (w + 1)))] O dX9_price_331 rfl (by omega) (by decide) rfl ?_
                        refine z_goto (pc := 334) (tgt := 213) O dX9_price_334 (by decide) ?_
                        refine z_lk [(0, .ref 33), (1, .int (iz c)), (2, .int (iz y)), (3, .int (iz z2)), (4, .int (iz h)), (5, .int (iz z4)), (6, .int (iz z19)), (7, .int (iz (w + 1)))] ⟨rfl, rfl, rfl, rfl, rfl, rfl, rfl, rfl, trivial⟩ ?_
                        exact ih213 _ (by omega) z19 (w + 1) τ9 rfl (by omega) (by omega) (by omega) ((frρ213.pI rfl).tr (frτ9.mono (V := [(81, 99999), (82, 99999)]) rfl))
                    · refine z_iload (pc := 285) O dX9_price_285 rfl ?_
                      refine z_iconst (pc := 287) (v := iz (2)) O dX9_price_287 (by decide) ?_
                      refine z_idiv (pc := 288) O dX9_price_288 (by decide) ?_
                      refine zi_any (fun z20 rz20 ez20 => ?_)
                      refine z_goto (pc := 289) (tgt := 329) O dX9_price_289 (by decide) ?_
                      refine z_istore (pc := 329) [(0, .ref 33), (1, .int (iz c)), (2, .int (iz y)), (3, .int (iz z2)), (4, .int (iz h)), (5, .int (iz z4)), (6, .int (iz z20)), (7, .int (iz w))] O dX9_price_329 (by decide) rfl ?_
                      refine zi_iinc (pc := 331) (w + 1) [(0, .ref 33), (1, .int (iz c)), (2, .int (iz y)), (3, .int (iz z2)), (4, .int (iz h)), (5, .int (iz z4)), (6, .int (iz z20)), (7, .int (iz (w + 1)))] O dX9_price_331 rfl (by omega) (by decide) rfl ?_
                      refine z_goto (pc := 334) (tgt := 213) O dX9_price_334 (by decide) ?_
                      refine z_lk [(0, .ref 33), (1, .int (iz c)), (2, .int (iz y)), (3, .int (iz z2)), (4, .int (iz h)), (5, .int (iz z4)), (6, .int (iz z20)), (7, .int (iz (w + 1)))] ⟨rfl, rfl, rfl, rfl, rfl, rfl, rfl, rfl, trivial⟩ ?_
                      exact ih213 _ (by omega) z20 (w + 1) τ9 rfl (by omega) (by omega) (by omega) ((frρ213.pI rfl).tr (frτ9.mono (V := [(81, 99999), (82, 99999)]) rfl))
                  · refine z_ldc2 (pc := 261) O tw_1200 dX9_price_261 ?_
                    refine z_iload (pc := 264) O dX9_price_264 rfl ?_
                    refine z_i2l (pc := 266) O dX9_price_266 ?_
                    refine z_topl (pc := 267) (fun w21 ew21 => ?_)
                    refine z_lmul (pc := 267) O dX9_price_267 ?_
                    refine z_topl (pc := 268) (fun w22 ew22 => ?_)
                    refine z_callS (pc := 268) O cl_X9_404 (k9_bounded _ _ w22) (by decide) rfl rfl (Nat.le_of_ble_eq_true rfl) ⟨Nat.zero_le _, Nat.zero_le _⟩ dX9_price_268 (fun r τ23 hp => ?_)
                    obtain ⟨z24, rfl, fτ23_0, rfl⟩ := hp
                    refine z_goto (pc := 271) (tgt := 329) O dX9_price_271 (by decide) ?_
                    refine z_istore (pc := 329) [(0, .ref 33), (1, .int (iz c)), (2, .int (iz y)), (3, .int (iz z2)), (4, .int (iz h)), (5, .int (iz z4)), (6, .int (iz z24)), (7, .int (iz w))] O dX9_price_329 (by decide) rfl ?_
                    refine zi_iinc (pc := 331) (w + 1) [(0, .ref 33), (1, .int (iz c)), (2, .int (iz y)), (3, .int (iz z2)), (4, .int (iz h)), (5, .int (iz z4)), (6, .int (iz z24)), (7, .int (iz (w + 1)))] O dX9_price_331 rfl (by omega) (by decide) rfl ?_
                    refine z_goto (pc := 334) (tgt := 213) O dX9_price_334 (by decide) ?_
                    refine z_lk [(0, .ref 33), (1, .int (iz c)), (2, .int (iz y)), (3, .int (iz z2)), (4, .int (iz h)), (5, .int (iz z4)), (6, .int (iz z24)), (7, .int (iz (w + 1)))] ⟨rfl, rfl, rfl, rfl, rfl, rfl, rfl, rfl, trivial⟩ ?_
                    exact ih213 _ (by omega) z24 (w + 1) τ9 rfl (by omega) (by omega) (by omega) ((frρ213.pI rfl).tr (frτ9.mono (V := [(81, 99999), (82, 99999)]) rfl))
                · refine z_goto (pc := 248) (tgt := 331) O dX9_price_248 (by decide) ?_
                  refine zi_iinc (pc := 331) (w + 1) [(0, .ref 33), (1, .int (iz c)), (2, .int (iz y)), (3, .int (iz z2)), (4, .int (iz h)), (5, .int (iz z4)), (6, .int (iz v)), (7, .int (iz (w + 1)))] O dX9_price_331 rfl (by omega) (by decide) rfl ?_
                  refine z_goto (pc := 334) (tgt := 213) O dX9_price_334 (by decide) ?_
                  refine z_lk [(0, .ref 33), (1, .int (iz c)), (2, .int (iz y)), (3, .int (iz z2)), (4, .int (iz h)), (5, .int (iz z4)), (6, .int (iz v)), (7, .int (iz (w + 1)))] ⟨rfl, rfl, rfl, rfl, rfl, rfl, rfl, rfl, trivial⟩ ?_
                  exact ih213 _ (by omega) v (w + 1) τ9 rfl (by omega) (by omega) (by omega) ((frρ213.pI rfl).tr (frτ9.mono (V := [(81, 99999), (82, 99999)]) rfl))
            refine z_lk [(0, .ref 33), (1, .int (iz c)), (2, .int (iz y)), (3, .int (iz z2)), (4, .int (iz h)), (5, .int (iz z4)), (6, .int (iz (gI σ 40 (h.toNat)))), (7, .int (iz (16 * z2)))] ⟨rfl, rfl, rfl, rfl, rfl, rfl, rfl, rfl, trivial⟩ ?_
            exact cut213 _ (gI σ 40 (h.toNat)) (16 * z2) (sI (sI (sI (sI (sI (sI σ 81 0 (iz z6)) 81 1 (iz z8)) 81 2 (iz (gI σ 73 (c.toNat)))) 81 3 (iz x3)) 81 4 (iz x4)) 81 5 (iz x5)) rfl (by omega) (by omega) (by omega) (Fr.rf [(81, 99999), (82, 99999)] (sI (sI (sI (sI (sI (sI σ 81 0 (iz z6)) 81 1 (iz z8)) 81 2 (iz (gI σ 73 (c.toNat)))) 81 3 (iz x3)) 81 4 (iz x4)) 81 5 (iz x5)))
          refine z_aload_n (pc := 157) O dX9_price_157 rfl ?_
          refine z_aload_n (pc := 158) O dX9_price_158 rfl ?_
          refine z_getR (pc := 159) 58 O fl_X9_89 rfl (jo_33 I.1) (jr_33_40 I.1) dX9_price_159 ?_
          refine z_aload_n (pc := 162) O dX9_price_162 rfl ?_
          refine z_getR (pc := 163) 70 O fl_X9_125 rfl (jo_33 I.1) (jr_33_55 I.1) dX9_price_163 ?_
          refine z_iload_n (pc := 166) O dX9_price_166 rfl ?_
          refine zi_ialdv (pc := 167) (c.toNat) (gI σ 70 (c.toNat)) O (ja_70 I.1) (by omega) (by omega) (by omega) (sk1t (by decide) (sk1t (by decide) (sk1t (by decide) (sk1t (by decide) (sk1t (by decide) (izg σ 70 (c.toNat))))))) dX9_price_167 ?_
          refine zi_ialdv (pc := 168) ((gI σ 70 (c.toNat)).toNat) (gI σ 58 ((gI σ 70 (c.toNat)).toNat)) O (ja_58 I.1) (by omega) (by omega) (by omega) (sk1t (by decide) (sk1t (by decide) (sk1t (by decide) (sk1t (by decide) (sk1t (by decide) (izg σ 58 ((gI σ 70 (c.toNat)).toNat))))))) dX9_price_168 ?_
          have := rgI σ 58 ((gI σ 70 (c.toNat)).toNat)
          refine z_aload_n (pc := 169) O dX9_price_169 rfl ?_
          refine z_getR (pc := 170) 58 O fl_X9_89 rfl (jo_33 I.1) (jr_33_40 I.1) dX9_price_170 ?_
          refine z_aload_n (pc := 173) O dX9_price_173 rfl ?_
          refine z_getR (pc := 174) 71 O fl_X9_128 rfl (jo_33 I.1) (jr_33_56 I.1) dX9_price_174 ?_
          refine z_iload_n (pc := 177) O dX9_price_177 rfl ?_
          refine zi_ialdv (pc := 178) (c.toNat) (gI σ 71 (c.toNat)) O (ja_71 I.1) (by omega) (by omega) (by omega) (sk1t (by decide) (sk1t (by decide) (sk1t (by decide) (sk1t (by decide) (sk1t (by decide) (izg σ 71 (c.toNat))))))) dX9_price_178 ?_
          refine zi_ialdv (pc := 179) ((gI σ 71 (c.toNat)).toNat) (gI σ 58 ((gI σ 71 (c.toNat)).toNat)) O (ja_58 I.1) (by omega) (by omega) (by omega) (sk1t (by decide) (sk1t (by decide) (sk1t (by decide) (sk1t (by decide) (sk1t (by decide) (izg σ 58 ((gI σ 71 (c.toNat)).toNat))))))) dX9_price_179 ?_
          have := rgI σ 58 ((gI σ 71 (c.toNat)).toNat)
          refine z_aload_n (pc := 180) O dX9_price_180 rfl ?_
          refine z_getR (pc := 181) 72 O fl_X9_131 rfl (jo_33 I.1) (jr_33_57 I.1) dX9_price_181 ?_
          refine z_iload_n (pc := 184) O dX9_price_184 rfl ?_
          refine zi_ialdv (pc := 185) (c.toNat) (gI σ 72 (c.toNat)) O (ja_72 I.1) (by omega) (by omega) (by omega) (sk1t (by decide) (sk1t (by decide) (sk1t (by decide) (sk1t (by decide) (sk1t (by decide) (izg σ 72 (c.toNat))))))) dX9_price_185 ?_
          refine z_callV (pc := 186) O cl_X9_396 (k9_isTruce _ _ (gI σ 58 ((gI σ 70 (c.toNat)).toNat)) (by omega) (gI σ 58 ((gI σ 71 (c.toNat)).toNat)) (by omega) (gI σ 72 (c.toNat)) (by omega) I.1 (by have : gI (sI (sI (sI (sI (sI σ 81 0 (iz z6)) 81 1 (iz z8)) 81 2 (iz (gI σ 73 (c.toNat)))) 81 3 (iz x3)) 81 4 (iz x4)) 33 54 = gI σ 33 54 := gI_iz (sk1t (by decide) (sk1t (by decide) (sk1t (by decide) (sk1t (by decide) (sk1t (by decide) (izg σ 33 54)))))) (rgI _ _ _); omega)) (by decide) (jo_33 I.1) kc_9 rfl rfl (Nat.le_of_ble_eq_true rfl) ⟨Nat.zero_le _, Nat.zero_le _⟩ dX9_price_186 (fun r τ25 hp => ?_)
          obtain ⟨z26, rfl, fτ25_0, rfl⟩ := hp
          refine zi_if_eq (pc := 189) (tgt := 196) O dX9_price_189 (by decide) (by omega) (fun h189 => ?_) (fun h189 => ?_)
          · refine z_iconst (pc := 196) (v := iz (0)) O dX9_price_196 (by decide) ?_
            refine z_lk [(0, .ref 33), (1, .int (iz c)), (2, .int (iz y)), (3, .int (iz z2)), (4, .int (iz h)), (5, .int (iz z4))] ⟨rfl, rfl, rfl, rfl, rfl, rfl, trivial⟩ ?_
            exact cut197 0 (by omega)
          · refine z_iconst (pc := 192) (v := iz (1)) O dX9_price_192 (by decide) ?_
            refine z_goto (pc := 193) (tgt := 197) O dX9_price_193 (by decide) ?_
            refine z_lk [(0, .ref 33), (1, .int (iz c)), (2, .int (iz y)), (3, .int (iz z2)), (4, .int (iz h)), (5, .int (iz z4))] ⟨rfl, rfl, rfl, rfl, rfl, rfl, trivial⟩ ?_
            exact cut197 1 (by omega)
        refine z_iload (pc := 135) O dX9_price_135 rfl ?_
        refine zi_if_lt (pc := 137) (tgt := 150) O dX9_price_137 (by decide) (by omega) (fun h137 => ?_) (fun h137 => ?_)
        · refine z_iconst (pc := 150) (v := iz (0)) O dX9_price_150 (by decide) ?_
          refine z_lk [(0, .ref 33), (1, .int (iz c)), (2, .int (iz y)), (3, .int (iz z2)), (4, .int (iz h)), (5, .int (iz z4))] ⟨rfl, rfl, rfl, rfl, rfl, rfl, trivial⟩ ?_
          exact cut151 0 (by omega)
        · refine z_iload (pc := 140) O dX9_price_140 rfl ?_
          refine z_iconst (pc := 142) (v := iz (3)) O dX9_price_142 (by decide) ?_
          refine zi_icmp_gt (pc := 143) (tgt := 150) O dX9_price_143 (by decide) (by omega) (by decide) (fun h143 => ?_) (fun h143 => ?_)
          · refine z_iconst (pc := 150) (v := iz (0)) O dX9_price_150 (by decide) ?_
            refine z_lk [(0, .ref 33), (1, .int (iz c)), (2, .int (iz y)), (3, .int (iz z2)), (4, .int (iz h)), (5, .int (iz z4))] ⟨rfl, rfl, rfl, rfl, rfl, rfl, trivial⟩ ?_
            exact cut151 0 (by omega)
          · refine z_iconst (pc := 146) (v := iz (1)) O dX9_price_146 (by decide) ?_
            refine z_goto (pc := 147) (tgt := 151) O dX9_price_147 (by decide) ?_
            refine z_lk [(0, .ref 33), (1, .int (iz c)), (2, .int (iz y)), (3, .int (iz z2)), (4, .int (iz h)), (5, .int (iz z4))] ⟨rfl, rfl, rfl, rfl, rfl, rfl, trivial⟩ ?_
            exact cut151 1 (by omega)
      refine z_aload_n (pc := 115) O dX9_price_115 rfl ?_
      refine z_getR (pc := 116) 80 O fl_X9_155 rfl (jo_33 I.1) (jr_33_65 I.1) dX9_price_116 ?_
      refine z_iload_n (pc := 119) O dX9_price_119 rfl ?_
      refine zi_zaldv (pc := 120) (c.toNat) (gI σ 80 (c.toNat)) O (ja_80 I.1) (by omega) (by omega) (by omega) (sk1t (by decide) (sk1t (by decide) (sk1t (by decide) (izg σ 80 (c.toNat))))) dX9_price_120 ?_
      have := rgI σ 80 (c.toNat)
      refine zi_if_eq (pc := 121) (tgt := 128) O dX9_price_121 (by decide) (by omega) (fun h121 => ?_) (fun h121 => ?_)
      · refine z_iconst (pc := 128) (v := iz (0)) O dX9_price_128 (by decide) ?_
        refine z_lk [(0, .ref 33), (1, .int (iz c)), (2, .int (iz y)), (3, .int (iz z2)), (4, .int (iz h)), (5, .int (iz z4))] ⟨rfl, rfl, rfl, rfl, rfl, rfl, trivial⟩ ?_
        exact cut129 0 (by omega)
      · refine z_iconst (pc := 124) (v := iz (1)) O dX9_price_124 (by decide) ?_
        refine z_goto (pc := 125) (tgt := 129) O dX9_price_125 (by decide) ?_
        refine z_lk [(0, .ref 33), (1, .int (iz c)), (2, .int (iz y)), (3, .int (iz z2)), (4, .int (iz h)), (5, .int (iz z4))] ⟨rfl, rfl, rfl, rfl, rfl, rfl, trivial⟩ ?_
        exact cut129 1 (by omega)
    · refine z_iconst (pc := 32) (v := iz (-1)) O dX9_price_32 (by decide) ?_
      refine z_iret (pc := 33) O dX9_price_33 ?_
      exact ⟨(-1), rfl, (by decide), (by omega), (Fr.rf [(81, 99999), (82, 99999)] σ)⟩
  refine z_iload_n (pc := 6) O dX9_price_6 rfl ?_
  refine zi_if_ge (pc := 7) (tgt := 14) O dX9_price_7 (by decide) (by omega) (fun h7 => ?_) (fun h7 => ?_)
  · refine z_aload_n (pc := 14) O dX9_price_14 rfl ?_
    refine z_iload_n (pc := 15) O dX9_price_15 rfl ?_
    refine z_aload_n (pc := 16) O dX9_price_16 rfl ?_
    refine z_getR (pc := 17) 79 O fl_X9_152 rfl (jo_33 I.1) (jr_33_64 I.1) dX9_price_17 ?_
    refine z_iload_n (pc := 20) O dX9_price_20 rfl ?_
    refine zi_lald (pc := 21) (c.toNat) O (Or.inl (ja_79 I.1)) (by omega) (by omega) (by omega) dX9_price_21 ?_
    have hm := I.2.2.1.2.2.1 (z2.toNat) (by omega)
    refine z_callV (pc := 22) O cl_X9_313 (k9_hurtOf _ _ z2 (by omega) (hL σ 79 (c.toNat)) I.1 (by omega) (by omega)) (by decide) (jo_33 I.1) kc_9 rfl rfl (Nat.le_of_ble_eq_true rfl) ⟨Nat.zero_le _, Nat.zero_le _⟩ dX9_price_22 (fun r τ27 hp => ?_)
    obtain ⟨z28, rfl, fτ27_0, fτ27_1, rfl⟩ := hp
    refine z_lk [(0, .ref 33), (1, .int (iz c)), (2, .int (iz y)), (3, .int (iz z2))] ⟨rfl, rfl, rfl, rfl, trivial⟩ ?_
    exact cut25 z28 (by omega) (by omega)
  · refine z_iconst (pc := 10) (v := iz (-1)) O dX9_price_10 (by decide) ?_
    refine z_goto (pc := 11) (tgt := 25) O dX9_price_11 (by decide) ?_
    refine z_lk [(0, .ref 33), (1, .int (iz c)), (2, .int (iz y)), (3, .int (iz z2))] ⟨rfl, rfl, rfl, rfl, trivial⟩ ?_
    exact cut25 (-1) (by omega) (by omega)
set_option maxHeartbeats 4000000 in
set_option maxRecDepth 20000 in
theorem k9_sumOf (l : Launch) (σ : VH) (c : Int) (rc : (-2147483648 ≤ c ∧ c < 2147483648)) (y : Int) (ry : (-2147483648 ≤ y ∧ y < 2147483648)) (I : InvM σ) (hc : 0 ≤ c ∧ c < gI σ 33 66) : Ct l yX9_sumOf cX9_sumOf 4 (some .int) 3 0 0 [.ref 33, .int (iz c), .int (iz y)] σ (fun r τ => ∃ z : Int, r = some (.int (iz z)) ∧ (-2147483648 ≤ z ∧ z < 2147483648) ∧ (z < 0 ∨ 0 ≤ lffc σ c) ∧ (Fr [(81, 99999), (82, 99999)] σ τ)) := by
  refine Ct.enter rfl (Nat.le_of_ble_eq_true rfl) ?_
  intro κ γ hκ O hrc hrs
  subst hκ
  have i1 := I.2.1
  unfold InvM1 at i1
  have i2 := I.2.2.1.laws
  have i3 := I.2.2.2.1
  have kc := I.2.2.2.2 c.toNat (by omega)
  unfold CaseM at kc
  refine z_aload_n (pc := 0) O dX9_sumOf_0 rfl ?_
  refine z_iload_n (pc := 1) O dX9_sumOf_1 rfl ?_
  refine z_iload_n (pc := 2) O dX9_sumOf_2 rfl ?_
  refine z_callV (pc := 3) O cl_X9_407 (k9_price _ _ c (by omega) y (by omega) I (by omega)) (by decide) (jo_33 I.1) kc_9 rfl rfl (Nat.le_of_ble_eq_true rfl) ⟨Nat.zero_le _, Nat.zero_le _⟩ dX9_sumOf_3 (fun r τ1 hp => ?_)
  obtain ⟨z2, rfl, fτ1_0, fτ1_1, frτ1⟩ := hp
  refine z_istore_n (pc := 6) [(0, .ref 33), (1, .int (iz c)), (2, .int (iz y)), (3, .int (iz z2))] O dX9_sumOf_6 (by decide) rfl ?_
  refine z_iload_n (pc := 7) O dX9_sumOf_7 rfl ?_
  refine zi_if_lt (pc := 8) (tgt := 34) O dX9_sumOf_8 (by decide) (by omega) (fun h8 => ?_) (fun h8 => ?_)
  · refine z_iload_n (pc := 34) O dX9_sumOf_34 rfl ?_
    refine z_iret (pc := 35) O dX9_sumOf_35 ?_
    exact ⟨z2, rfl, (by omega), (by omega), frτ1⟩
  · refine z_aload_n (pc := 11) O dX9_sumOf_11 rfl ?_
    refine z_getR (pc := 12) 74 O fl_X9_137 rfl (jo_33 (frτ1.lay I.1)) (jr_33_59 (frτ1.lay I.1)) dX9_sumOf_12 ?_
    refine z_iload_n (pc := 15) O dX9_sumOf_15 rfl ?_
    refine zi_ialdv (pc := 16) (c.toNat) (gI σ 74 (c.toNat)) O (ja_74 (frτ1.lay I.1)) (by omega) (by omega) (by omega) (Fr.it frτ1 rfl (izg σ 74 (c.toNat))) dX9_sumOf_16 ?_
    have := rgI σ 74 (c.toNat)
    refine zi_if_lt (pc := 17) (tgt := 34) O dX9_sumOf_17 (by decide) (by omega) (fun h17 => ?_) (fun h17 => ?_)
    · refine z_iload_n (pc := 34) O dX9_sumOf_34 rfl ?_
      refine z_iret (pc := 35) O dX9_sumOf_35 ?_
      exact ⟨z2, rfl, (by omega), (by omega), frτ1⟩
    · refine z_iload_n (pc := 20) O dX9_sumOf_20 rfl ?_
      refine z_aload_n (pc := 21) O dX9_sumOf_21 rfl ?_
      refine z_getR (pc := 22) 74 O fl_X9_137 rfl (jo_33 (frτ1.lay I.1)) (jr_33_59 (frτ1.lay I.1)) dX9_sumOf_22 ?_
      refine z_iload_n (pc := 25) O dX9_sumOf_25 rfl ?_
      refine zi_ialdv (pc := 26) (c.toNat) (gI σ 74 (c.toNat)) O (ja_74 (frτ1.lay I.1)) (by omega) (by omega) (by omega) (Fr.it frτ1 rfl (izg σ 74 (c.toNat))) dX9_sumOf_26 ?_
      refine zi_icmp_lt (pc := 27) (tgt := 34) O dX9_sumOf_27 (by decide) (by omega) (by omega) (fun h27 => ?_) (fun h27 => ?_)
      · refine z_iload_n (pc := 34) O dX9_sumOf_34 rfl ?_
        refine z_iret (pc := 35) O dX9_sumOf_35 ?_
        exact ⟨z2, rfl, (by omega), (by omega), frτ1⟩
      · refine z_iconst (pc := 30) (v := iz (0)) O dX9_sumOf_30 (by decide) ?_
        refine z_goto (pc := 31) (tgt := 35) O dX9_sumOf_31 (by decide) ?_
        refine z_iret (pc := 35) O dX9_sumOf_35 ?_
        exact ⟨0, rfl, (by decide), (by omega), frτ1⟩
