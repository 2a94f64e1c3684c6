set_option maxHeartbeats 4000000 in
set_option maxRecDepth 20000 in
theorem k9_mustWord3 (l : Launch) (σ : VH) (v : Int64) (tk : Nat → Int) (pl : Nat → Int) (m : Nat) (rr : Int × Nat) (J : Lay σ) (ht : (0 ≤ gI σ 33 7 ∧ gI σ 33 7 ≤ gI σ 33 8 ∧ gI σ 33 8 ≤ gI σ 33 3 ∧ gI σ 33 3 ≤ 700 ∧ ((gI σ 33 9 = 0 ∧ gI σ 33 7 = gI σ 33 3) ∨ (gI σ 33 7 < gI σ 33 8 ∧ 1 ≤ gI σ 33 9 ∧ gI σ 33 9 ≤ 5)))) (hf : 0 ≤ gI σ 33 4) (R : Rf σ tk pl m rr) (hv : Kp v.toInt) : Ct l yX9_mustWord cX9_mustWord 3 none 3 0 0 [.ref 33, .long v] σ (fun r τ => r = none ∧ (Fr [(33, 7), (33, 8), (33, 9), (33, 10), (33, 11), (33, 4), (33, 5)] σ τ) ∧ (0 ≤ gI τ 33 7 ∧ gI τ 33 7 ≤ gI τ 33 8 ∧ gI τ 33 8 ≤ gI τ 33 3 ∧ gI τ 33 3 ≤ 700 ∧ ((gI τ 33 9 = 0 ∧ gI τ 33 7 = gI τ 33 3) ∨ (gI τ 33 7 < gI τ 33 8 ∧ 1 ≤ gI τ 33 9 ∧ gI τ 33 9 ≤ 5))) ∧ (gI σ 33 7 ≤ gI τ 33 7) ∧ ((gI σ 33 4 ≤ 0 ∨ 0 < gI τ 33 4) ∧ 0 ≤ gI τ 33 4) ∧ (Rf τ tk pl m (thn rr (fun j => exR tk m j v.toInt)))) := by
  refine Ct.enter rfl (Nat.le_of_ble_eq_true rfl) ?_
  intro κ γ hκ O hrc hrs
  subst hκ
  refine z_aload_n (pc := 0) O dX9_mustWord_0 rfl ?_
  refine z_lload_n (pc := 1) O dX9_mustWord_1 rfl ?_
  refine z_callV (pc := 2) O cl_X9_263 (k9_isWord3 _ _ v J) (by decide) (jo_33 J) kc_9 rfl rfl (Nat.le_of_ble_eq_true rfl) ⟨Nat.zero_le _, Nat.zero_le _⟩ dX9_mustWord_2 (fun r τ1 hp => ?_)
  obtain ⟨z2, rfl, fτ1_0, fτ1_1, rfl⟩ := hp
  refine zi_if_eq (pc := 5) (tgt := 15) O dX9_mustWord_5 (by decide) (by omega) (fun h5 => ?_) (fun h5 => ?_)
  · refine z_aload_n (pc := 15) O dX9_mustWord_15 rfl ?_
    refine z_callV (pc := 16) O cl_X9_269 (k9_wrong _ _ J) (by decide) (jo_33 J) kc_9 rfl rfl (Nat.le_of_ble_eq_true rfl) ⟨Nat.zero_le _, Nat.zero_le _⟩ dX9_mustWord_16 (fun r τ3 hp => ?_)
    obtain ⟨rfl, frτ3, eτ3_0⟩ := hp
    refine z_vret (pc := 19) O dX9_mustWord_19 ?_
    exact ⟨rfl, (frτ3.mono (V := [(33, 7), (33, 8), (33, 9), (33, 10), (33, 11), (33, 4), (33, 5)]) rfl), (by have : gI τ3 33 7 = gI σ 33 7 := gI_iz (Fr.it frτ3 rfl (izg σ 33 7)) (rgI _ _ _); have : gI τ3 33 8 = gI σ 33 8 := gI_iz (Fr.it frτ3 rfl (izg σ 33 8)) (rgI _ _ _); have : gI τ3 33 3 = gI σ 33 3 := gI_iz (Fr.it frτ3 rfl (izg σ 33 3)) (rgI _ _ _); have : gI τ3 33 9 = gI σ 33 9 := gI_iz (Fr.it frτ3 rfl (izg σ 33 9)) (rgI _ _ _); omega), (by have : gI τ3 33 7 = gI σ 33 7 := gI_iz (Fr.it frτ3 rfl (izg σ 33 7)) (rgI _ _ _); omega), (by omega), (by first | (exfalso; omega) | exact Rf.eq (Rf.wrong R eτ3_0) (thn_cg (fun h0 => (exR_f (fun q => absurd (((R.at0 h0).2.word hv).mpr q) (by omega))).symm)))⟩
  · refine z_aload_n (pc := 8) O dX9_mustWord_8 rfl ?_
    refine z_callV (pc := 9) O cl_X9_266 (k9_next3 _ _ J (by omega) (by omega)) (by decide) (jo_33 J) kc_9 rfl rfl (Nat.le_of_ble_eq_true rfl) ⟨Nat.zero_le _, Nat.zero_le _⟩ dX9_mustWord_9 (fun r τ5 hp => ?_)
    obtain ⟨rfl, frτ5, eτ5_0, eτ5_1, eτ5_2⟩ := hp
    have : gI τ5 33 3 = gI σ 33 3 := gI_iz (Fr.it frτ5 rfl (izg σ 33 3)) (rgI _ _ _)
    refine z_goto (pc := 12) (tgt := 19) O dX9_mustWord_12 (by decide) ?_
    refine z_vret (pc := 19) O dX9_mustWord_19 ?_
    exact ⟨rfl, (frτ5.mono (V := [(33, 7), (33, 8), (33, 9), (33, 10), (33, 11), (33, 4), (33, 5)]) rfl), (by have : gI τ5 33 3 = gI σ 33 3 := gI_iz (Fr.it frτ5 rfl (izg σ 33 3)) (rgI _ _ _); omega), (by omega), (by have : gI τ5 33 4 = gI σ 33 4 := gI_iz (Fr.it frτ5 rfl (izg σ 33 4)) (rgI _ _ _); omega), (by first | (exfalso; omega) | exact Rf.eq (Rf.next R frτ5 (fun _ => rfl) rfl eτ5_2) (thn_cg (fun h0 => (exR_t (((R.at0 h0).2.word hv).mp (by omega))).symm)))⟩
set_option maxHeartbeats 4000000 in
set_option maxRecDepth 20000 in
theorem k9_numeral3 (l : Launch) (σ : VH) (y : Int) (ry : (-2147483648 ≤ y ∧ y < 2147483648)) (x : Int) (rx : (-2147483648 ≤ x ∧ x < 2147483648)) (tk : Nat → Int) (pl : Nat → Int) (m : Nat) (rr : Int × Nat) (J : Lay σ) (ht : (0 ≤ gI σ 33 7 ∧ gI σ 33 7 ≤ gI σ 33 8 ∧ gI σ 33 8 ≤ gI σ 33 3 ∧ gI σ 33 3 ≤ 700 ∧ ((gI σ 33 9 = 0 ∧ gI σ 33 7 = gI σ 33 3) ∨ (gI σ 33 7 < gI σ 33 8 ∧ 1 ≤ gI σ 33 9 ∧ gI σ 33 9 ≤ 5)))) (hf : 0 ≤ gI σ 33 4) (R : Rf σ tk pl m rr) : Ct l yX9_numeral cX9_numeral 4 (some .int) 3 0 0 [.ref 33, .int (iz y), .int (iz x)] σ (fun r τ => ∃ z : Int, r = some (.int (iz z)) ∧ (-2147483648 ≤ z ∧ z < 2147483648) ∧ (Fr [(33, 7), (33, 8), (33, 9), (33, 10), (33, 11), (33, 4), (33, 5)] σ τ) ∧ (0 ≤ gI τ 33 7 ∧ gI τ 33 7 ≤ gI τ 33 8 ∧ gI τ 33 8 ≤ gI τ 33 3 ∧ gI τ 33 3 ≤ 700 ∧ ((gI τ 33 9 = 0 ∧ gI τ 33 7 = gI τ 33 3) ∨ (gI τ 33 7 < gI τ 33 8 ∧ 1 ≤ gI τ 33 9 ∧ gI τ 33 9 ≤ 5))) ∧ (gI σ 33 7 ≤ gI τ 33 7) ∧ ((gI σ 33 4 ≤ 0 ∨ 0 < gI τ 33 4) ∧ 0 ≤ gI τ 33 4) ∧ (0 < gI τ 33 4 ∨ (y ≤ z ∧ z ≤ x ∧ gI σ 33 7 < gI τ 33 7)) ∧ (Rf τ tk pl m (thn rr (fun j => numR tk m j y x))) ∧ (0 < gI τ 33 4 ∨ z = -1 - tk rr.2)) := by
  refine Ct.enter rfl (Nat.le_of_ble_eq_true rfl) ?_
  intro κ γ hκ O hrc hrs
  subst hκ
  refine z_aload_n (pc := 0) O dX9_numeral_0 rfl ?_
  refine z_callV (pc := 1) O cl_X9_272 (k9_isGood _ _ J) (by decide) (jo_33 J) kc_9 rfl rfl (Nat.le_of_ble_eq_true rfl) ⟨Nat.zero_le _, Nat.zero_le _⟩ dX9_numeral_1 (fun r τ1 hp => ?_)
  obtain ⟨z2, rfl, fτ1_0, fτ1_1, rfl⟩ := hp
  refine zi_if_ne (pc := 4) (tgt := 9) O dX9_numeral_4 (by decide) (by omega) (fun h4 => ?_) (fun h4 => ?_)
  · refine z_aload_n (pc := 9) O dX9_numeral_9 rfl ?_
    refine zi_getv (pc := 10) (gI σ 33 9) O fl_X9_238 rfl (jo_33 J) (izg σ 33 9) dX9_numeral_10 ?_
    have := rgI σ 33 9
    refine z_iconst (pc := 13) (v := iz (4)) O dX9_numeral_13 (by decide) ?_
    refine zi_icmp_eq (pc := 14) (tgt := 21) O dX9_numeral_14 (by decide) (by omega) (by decide) (fun h14 => ?_) (fun h14 => ?_)
    · refine z_aload_n (pc := 21) O dX9_numeral_21 rfl ?_
      refine z_callV (pc := 22) O cl_X9_272 (k9_isGood _ _ J) (by decide) (jo_33 J) kc_9 rfl rfl (Nat.le_of_ble_eq_true rfl) ⟨Nat.zero_le _, Nat.zero_le _⟩ dX9_numeral_22 (fun r τ3 hp => ?_)
      obtain ⟨z4, rfl, fτ3_0, fτ3_1, rfl⟩ := hp
      refine zi_if_eq (pc := 25) (tgt := 53) O dX9_numeral_25 (by decide) (by omega) (fun h25 => ?_) (fun h25 => ?_)
      · refine z_aload_n (pc := 53) O dX9_numeral_53 rfl ?_
        refine zi_getv (pc := 54) (gI σ 33 10) O fl_X9_256 rfl (jo_33 J) (izg σ 33 10) dX9_numeral_54 ?_
        have := rgI σ 33 10
        refine z_istore_n (pc := 57) [(0, .ref 33), (1, .int (iz y)), (2, .int (iz x)), (3, .int (iz (gI σ 33 10)))] O dX9_numeral_57 (by decide) rfl ?_
        refine z_aload_n (pc := 58) O dX9_numeral_58 rfl ?_
        refine z_callV (pc := 59) O cl_X9_272 (k9_isGood _ _ J) (by decide) (jo_33 J) kc_9 rfl rfl (Nat.le_of_ble_eq_true rfl) ⟨Nat.zero_le _, Nat.zero_le _⟩ dX9_numeral_59 (fun r τ5 hp => ?_)
        obtain ⟨z6, rfl, fτ5_0, fτ5_1, rfl⟩ := hp
        refine zi_if_eq (pc := 62) (tgt := 69) O dX9_numeral_62 (by decide) (by omega) (fun h62 => ?_) (fun h62 => ?_)
        · refine z_iload_n (pc := 69) O dX9_numeral_69 rfl ?_
          refine z_iret (pc := 70) O dX9_numeral_70 ?_
          exact ⟨(gI σ 33 10), rfl, (by omega), (Fr.rf [(33, 7), (33, 8), (33, 9), (33, 10), (33, 11), (33, 4), (33, 5)] σ), (by omega), (by omega), (by omega), (by omega), (by first | (exfalso; omega) | exact Rf.eq R (thn_f (R.bad (by omega)).1).symm), (by first | exact Or.inl (by omega) | (obtain ⟨h0, A⟩ := R.good (by omega); obtain ⟨K1, K2, -⟩ := A.num; exact Or.inr (by omega)))⟩
        · refine z_aload_n (pc := 65) O dX9_numeral_65 rfl ?_
          refine z_callV (pc := 66) O cl_X9_266 (k9_next3 _ _ J (by omega) (by omega)) (by decide) (jo_33 J) kc_9 rfl rfl (Nat.le_of_ble_eq_true rfl) ⟨Nat.zero_le _, Nat.zero_le _⟩ dX9_numeral_66 (fun r τ7 hp => ?_)
          obtain ⟨rfl, frτ7, eτ7_0, eτ7_1, eτ7_2⟩ := hp
          have : gI τ7 33 3 = gI σ 33 3 := gI_iz (Fr.it frτ7 rfl (izg σ 33 3)) (rgI _ _ _)
          refine z_iload_n (pc := 69) O dX9_numeral_69 rfl ?_
          refine z_iret (pc := 70) O dX9_numeral_70 ?_
          exact ⟨(gI σ 33 10), rfl, (by omega), (frτ7.mono (V := [(33, 7), (33, 8), (33, 9), (33, 10), (33, 11), (33, 4), (33, 5)]) rfl), (by have : gI τ7 33 3 = gI σ 33 3 := gI_iz (Fr.it frτ7 rfl (izg σ 33 3)) (rgI _ _ _); omega), (by omega), (by have : gI τ7 33 4 = gI σ 33 4 := gI_iz (Fr.it frτ7 rfl (izg σ 33 4)) (rgI _ _ _); omega), (by have : gI τ7 33 4 = gI σ 33 4 := gI_iz (Fr.it frτ7 rfl (izg σ 33 4)) (rgI _ _ _); omega), (by first | (exfalso; omega) | exact Rf.eq (Rf.next R frτ7 (fun _ => rfl) rfl eτ7_2) (thn_cg (fun h0 => by obtain ⟨K1, K2, -⟩ := (R.at0 h0).2.num; exact (numR_0 (j := rr.2) (by omega) (by omega) (by omega)).symm))), (by first | exact Or.inl (by have : gI τ7 33 4 = gI σ 33 4 := gI_iz (Fr.it frτ7 rfl (izg σ 33 4)) (rgI _ _ _); omega) | (obtain ⟨h0, A⟩ := R.good (by omega); obtain ⟨K1, K2, -⟩ := A.num; exact Or.inr (by omega)))⟩
      · refine z_aload_n (pc := 28) O dX9_numeral_28 rfl ?_
        refine zi_getv (pc := 29) (gI σ 33 10) O fl_X9_256 rfl (jo_33 J) (izg σ 33 10) dX9_numeral_29 ?_
        have := rgI σ 33 10
        refine z_iload_n (pc := 32) O dX9_numeral_32 rfl ?_
        refine zi_icmp_lt (pc := 33) (tgt := 44) O dX9_numeral_33 (by decide) (by omega) (by omega) (fun h33 => ?_) (fun h33 => ?_)
        · refine z_aload_n (pc := 44) O dX9_numeral_44 rfl ?_
          refine z_iconst (pc := 45) (v := iz (4)) O dX9_numeral_45 (by decide) ?_
          refine z_aload_n (pc := 46) O dX9_numeral_46 rfl ?_
          refine zi_getv (pc := 47) (gI σ 33 7) O fl_X9_231 rfl (jo_33 J) (izg σ 33 7) dX9_numeral_47 ?_
          have := rgI σ 33 7
          refine z_callV (pc := 50) O cl_X9_259 (k9_fails _ _ 4 (by decide) (gI σ 33 7) (by omega) J) (by decide) (jo_33 J) kc_9 rfl rfl (Nat.le_of_ble_eq_true rfl) ⟨Nat.zero_le _, Nat.zero_le _⟩ dX9_numeral_50 (fun r τ9 hp => ?_)
          obtain ⟨rfl, frτ9, eτ9_0⟩ := hp
          refine z_aload_n (pc := 53) O dX9_numeral_53 rfl ?_
          refine zi_getv (pc := 54) (gI σ 33 10) O fl_X9_256 rfl (jo_33 (frτ9.lay J)) (Fr.it frτ9 rfl (izg σ 33 10)) dX9_numeral_54 ?_
          refine z_istore_n (pc := 57) [(0, .ref 33), (1, .int (iz y)), (2, .int (iz x)), (3, .int (iz (gI σ 33 10)))] O dX9_numeral_57 (by decide) rfl ?_
          refine z_aload_n (pc := 58) O dX9_numeral_58 rfl ?_
          refine z_callV (pc := 59) O cl_X9_272 (k9_isGood _ _ (frτ9.lay J)) (by decide) (jo_33 (frτ9.lay J)) kc_9 rfl rfl (Nat.le_of_ble_eq_true rfl) ⟨Nat.zero_le _, Nat.zero_le _⟩ dX9_numeral_59 (fun r τ11 hp => ?_)
          obtain ⟨z12, rfl, fτ11_0, fτ11_1, rfl⟩ := hp
          refine zi_if_eq (pc := 62) (tgt := 69) O dX9_numeral_62 (by decide) (by omega) (fun h62 => ?_) (fun h62 => ?_)
          · refine z_iload_n (pc := 69) O dX9_numeral_69 rfl ?_
            refine z_iret (pc := 70) O dX9_numeral_70 ?_
            exact ⟨(gI σ 33 10), rfl, (by omega), (frτ9.mono (V := [(33, 7), (33, 8), (33, 9), (33, 10), (33, 11), (33, 4), (33, 5)]) rfl), (by have : gI τ9 33 7 = gI σ 33 7 := gI_iz (Fr.it frτ9 rfl (izg σ 33 7)) (rgI _ _ _); have : gI τ9 33 8 = gI σ 33 8 := gI_iz (Fr.it frτ9 rfl (izg σ 33 8)) (rgI _ _ _); have : gI τ9 33 3 = gI σ 33 3 := gI_iz (Fr.it frτ9 rfl (izg σ 33 3)) (rgI _ _ _); have : gI τ9 33 9 = gI σ 33 9 := gI_iz (Fr.it frτ9 rfl (izg σ 33 9)) (rgI _ _ _); omega), (by have : gI τ9 33 7 = gI σ 33 7 := gI_iz (Fr.it frτ9 rfl (izg σ 33 7)) (rgI _ _ _); omega), (by omega), (by have : gI τ9 33 7 = gI σ 33 7 := gI_iz (Fr.it frτ9 rfl (izg σ 33 7)) (rgI _ _ _); omega), (by first | (exfalso; omega) | exact Rf.eq (Rf.fails R (by decide) (fun h4 => by obtain ⟨h0, A⟩ := Rf.good R (by omega); have ha := A.2.2.1; omega) eτ9_0) (thn_cg (fun h0 => by obtain ⟨K1, K2, -⟩ := (R.at0 h0).2.num; exact (numR_4 (j := rr.2) (by omega) (by omega)).symm))), (by first | exact Or.inl (by omega) | (obtain ⟨h0, A⟩ := R.good (by omega); obtain ⟨K1, K2, -⟩ := A.num; exact Or.inr (by omega)))⟩
          · refine z_aload_n (pc := 65) O dX9_numeral_65 rfl ?_
            refine z_callV (pc := 66) O cl_X9_266 (k9_next3 _ _ (frτ9.lay J) (by have : gI τ9 33 3 = gI σ 33 3 := gI_iz (Fr.it frτ9 rfl (izg σ 33 3)) (rgI _ _ _); omega) (by have : gI τ9 33 8 = gI σ 33 8 := gI_iz (Fr.it frτ9 rfl (izg σ 33 8)) (rgI _ _ _); have : gI τ9 33 3 = gI σ 33 3 := gI_iz (Fr.it frτ9 rfl (izg σ 33 3)) (rgI _ _ _); omega)) (by decide) (jo_33 (frτ9.lay J)) kc_9 rfl rfl (Nat.le_of_ble_eq_true rfl) ⟨Nat.zero_le _, Nat.zero_le _⟩ dX9_numeral_66 (fun r τ13 hp => ?_)
            obtain ⟨rfl, frτ13, eτ13_0, eτ13_1, eτ13_2⟩ := hp
            have : gI τ9 33 8 = gI σ 33 8 := gI_iz (Fr.it frτ9 rfl (izg σ 33 8)) (rgI _ _ _)
            have : gI τ13 33 3 = gI σ 33 3 := gI_iz (Fr.it frτ13 rfl (Fr.it frτ9 rfl (izg σ 33 3))) (rgI _ _ _)
            refine z_iload_n (pc := 69) O dX9_numeral_69 rfl ?_
            refine z_iret (pc := 70) O dX9_numeral_70 ?_
            exact ⟨(gI σ 33 10), rfl, (by omega), ((frτ9.mono (V := [(33, 7), (33, 8), (33, 9), (33, 10), (33, 11), (33, 4), (33, 5)]) rfl).tr (frτ13.mono (V := [(33, 7), (33, 8), (33, 9), (33, 10), (33, 11), (33, 4), (33, 5)]) rfl)), (by have : gI τ13 33 3 = gI σ 33 3 := gI_iz (Fr.it frτ13 rfl (Fr.it frτ9 rfl (izg σ 33 3))) (rgI _ _ _); omega), (by omega), (by have : gI τ13 33 4 = gI τ9 33 4 := gI_iz (Fr.it frτ13 rfl (izg τ9 33 4)) (rgI _ _ _); omega), (by have : gI τ13 33 4 = gI τ9 33 4 := gI_iz (Fr.it frτ13 rfl (izg τ9 33 4)) (rgI _ _ _); omega), (by exfalso; omega), (by first | exact Or.inl (by have : gI τ13 33 4 = gI τ9 33 4 := gI_iz (Fr.it frτ13 rfl (izg τ9 33 4)) (rgI _ _ _); omega) | (obtain ⟨h0, A⟩ := R.good (by omega); obtain ⟨K1, K2, -⟩ := A.num; exact Or.inr (by omega)))⟩
        · refine z_aload_n (pc := 36) O dX9_numeral_36 rfl ?_
          refine zi_getv (pc := 37) (gI σ 33 10) O fl_X9_256 rfl (jo_33 J) (izg σ 33 10) dX9_numeral_37 ?_
          refine z_iload_n (pc := 40) O dX9_numeral_40 rfl ?_
          refine zi_icmp_le (pc := 41) (tgt := 53) O dX9_numeral_41 (by decide) (by omega) (by omega) (fun h41 => ?_) (fun h41 => ?_)
          · refine z_aload_n (pc := 53) O dX9_numeral_53 rfl ?_
            refine zi_getv (pc := 54) (gI σ 33 10) O fl_X9_256 rfl (jo_33 J) (izg σ 33 10) dX9_numeral_54 ?_
            refine z_istore_n (pc := 57) [(0, .ref 33), (1, .int (iz y)), (2, .int (iz x)), (3, .int (iz (gI σ 33 10)))] O dX9_numeral_57 (by decide) rfl ?_
            refine z_aload_n (pc := 58) O dX9_numeral_58 rfl ?_
            refine z_callV (pc := 59) O cl_X9_272 (k9_isGood _ _ J) (by decide) (jo_33 J) kc_9 rfl rfl (Nat.le_of_ble_eq_true rfl) ⟨Nat.zero_le _, Nat.zero_le _⟩ dX9_numeral_59 (fun r τ15 hp => ?_)
            obtain ⟨z16, rfl, fτ15_0, fτ15_1, rfl⟩ := hp
            refine zi_if_eq (pc := 62) (tgt := 69) O dX9_numeral_62 (by decide) (by omega) (fun h62 => ?_) (fun h62 => ?_)
            · refine z_iload_n (pc := 69) O dX9_numeral_69 rfl ?_
              refine z_iret (pc := 70) O dX9_numeral_70 ?_
              exact ⟨(gI σ 33 10), rfl, (by omega), (Fr.rf [(33, 7), (33, 8), (33, 9), (33, 10), (33, 11), (33, 4), (33, 5)] σ), (by omega), (by omega), (by omega), (by omega), (by first | (exfalso; omega) | exact Rf.eq R (thn_f (R.bad (by omega)).1).symm), (by first | exact Or.inl (by omega) | (obtain ⟨h0, A⟩ := R.good (by omega); obtain ⟨K1, K2, -⟩ := A.num; exact Or.inr (by omega)))⟩
            · refine z_aload_n (pc := 65) O dX9_numeral_65 rfl ?_
              refine z_callV (pc := 66) O cl_X9_266 (k9_next3 _ _ J (by omega) (by omega)) (by decide) (jo_33 J) kc_9 rfl rfl (Nat.le_of_ble_eq_true rfl) ⟨Nat.zero_le _, Nat.zero_le _⟩ dX9_numeral_66 (fun r τ17 hp => ?_)
              obtain ⟨rfl, frτ17, eτ17_0, eτ17_1, eτ17_2⟩ := hp
              have : gI τ17 33 3 = gI σ 33 3 := gI_iz (Fr.it frτ17 rfl (izg σ 33 3)) (rgI _ _ _)
              refine z_iload_n (pc := 69) O dX9_numeral_69 rfl ?_
              refine z_iret (pc := 70) O dX9_numeral_70 ?_
              exact ⟨(gI σ 33 10), rfl, (by omega), (frτ17.mono (V := [(33, 7), (33, 8), (33, 9), (33, 10), (33, 11), (33, 4), (33, 5)]) rfl), (by have : gI τ17 33 3 = gI σ 33 3 := gI_iz (Fr.it frτ17 rfl (izg σ 33 3)) (rgI _ _ _); omega), (by omega), (by have : gI τ17 33 4 = gI σ 33 4 := gI_iz (Fr.it frτ17 rfl (izg σ 33 4)) (rgI _ _ _); omega), (by have : gI τ17 33 4 = gI σ 33 4 := gI_iz (Fr.it frτ17 rfl (izg σ 33 4)) (rgI _ _ _); omega), (by first | (exfalso; omega) | exact Rf.eq (Rf.next R frτ17 (fun _ => rfl) rfl eτ17_2) (thn_cg (fun h0 => by obtain ⟨K1, K2, -⟩ := (R.at0 h0).2.num; exact (numR_0 (j := rr.2) (by omega) (by omega) (by omega)).symm))), (by first | exact Or.inl (by have : gI τ17 33 4 = gI σ 33 4 := gI_iz (Fr.it frτ17 rfl (izg σ 33 4)) (rgI _ _ _); omega) | (obtain ⟨h0, A⟩ := R.good (by omega); obtain ⟨K1, K2, -⟩ := A.num; exact Or.inr (by omega)))⟩
          · refine z_aload_n (pc := 44) O dX9_numeral_44 rfl ?_
            refine z_iconst (pc := 45) (v := iz (4)) O dX9_numeral_45 (by decide) ?_
            refine z_aload_n (pc := 46) O dX9_numeral_46 rfl ?_
            refine zi_getv (pc := 47) (gI σ 33 7) O fl_X9_231 rfl (jo_33 J) (izg σ 33 7) dX9_numeral_47 ?_
            have := rgI σ 33 7
            refine z_callV (pc := 50) O cl_X9_259 (k9_fails _ _ 4 (by decide) (gI σ 33 7) (by omega) J) (by decide) (jo_33 J) kc_9 rfl rfl (Nat.le_of_ble_eq_true rfl) ⟨Nat.zero_le _, Nat.zero_le _⟩ dX9_numeral_50 (fun r τ19 hp => ?_)
            obtain ⟨rfl, frτ19, eτ19_0⟩ := hp
            refine z_aload_n (pc := 53) O dX9_numeral_53 rfl ?_
            refine zi_getv (pc := 54) (gI σ 33 10) O fl_X9_256 rfl (jo_33 (frτ19.lay J)) (Fr.it frτ19 rfl (izg σ 33 10)) dX9_numeral_54 ?_
            refine z_istore_n (pc := 57) [(0, .ref 33), (1, .int (iz y)), (2, .int (iz x)), (3, .int (iz (gI σ 33 10)))] O dX9_numeral_57 (by decide) rfl ?_
            refine z_aload_n (pc := 58) O dX9_numeral_58 rfl ?_
            refine z_callV (pc := 59) O cl_X9_272 (k9_isGood _ _ (frτ19.lay J)) (by decide) (jo_33 (frτ19.lay J)) kc_9 rfl rfl (Nat.le_of_ble_eq_true rfl) ⟨Nat.zero_le _, Nat.zero_le _⟩ dX9_numeral_59 (fun r τ21 hp => ?_)
            obtain ⟨z22, rfl, fτ21_0, fτ21_1, rfl⟩ := hp
            refine zi_if_eq (pc := 62) (tgt := 69) O dX9_numeral_62 (by decide) (by omega) (fun h62 => ?_) (fun h62 => ?_)
            · refine z_iload_n (pc := 69) O dX9_numeral_69 rfl ?_
              refine z_iret (pc := 70) O dX9_numeral_70 ?_
              exact ⟨(gI σ 33 10), rfl, (by omega), (frτ19.mono (V := [(33, 7), (33, 8), (33, 9), (33, 10), (33, 11), (33, 4), (33, 5)]) rfl), (by have : gI τ19 33 7 = gI σ 33 7 := gI_iz (Fr.it frτ19 rfl (izg σ 33 7)) (rgI _ _ _); have : gI τ19 33 8 = gI σ 33 8 := gI_iz (Fr.it frτ19 rfl (izg σ 33 8)) (rgI _ _ _); have : gI τ19 33 3 = gI σ 33 3 := gI_iz (Fr.it frτ19 rfl (izg σ 33 3)) (rgI _ _ _); have : gI τ19 33 9 = gI σ 33 9 := gI_iz (Fr.it frτ19 rfl (izg σ 33 9)) (rgI _ _ _); omega), (by have : gI τ19 33 7 = gI σ 33 7 := gI_iz (Fr.it frτ19 rfl (izg σ 33 7)) (rgI _ _ _); omega), (by omega), (by have : gI τ19 33 7 = gI σ 33 7 := gI_iz (Fr.it frτ19 rfl (izg σ 33 7)) (rgI _ _ _); omega), (by first | (exfalso; omega) | exact Rf.eq (Rf.fails R (by decide) (fun h4 => by obtain ⟨h0, A⟩ := Rf.good R (by omega); have ha := A.2.2.1; omega) eτ19_0) (thn_cg (fun h0 => by obtain ⟨K1, K2, -⟩ := (R.at0 h0).2.num; exact (numR_4 (j := rr.2) (by omega) (by omega)).symm))), (by first | exact Or.inl (by omega) | (obtain ⟨h0, A⟩ := R.good (by omega); obtain ⟨K1, K2, -⟩ := A.num; exact Or.inr (by omega)))⟩
            · refine z_aload_n (pc := 65) O dX9_numeral_65 rfl ?_
              refine z_callV (pc := 66) O cl_X9_266 (k9_next3 _ _ (frτ19.lay J) (by have : gI τ19 33 3 = gI σ 33 3 := gI_iz (Fr.it frτ19 rfl (izg σ 33 3)) (rgI _ _ _); omega) (by have : gI τ19 33 8 = gI σ 33 8 := gI_iz (Fr.it frτ19 rfl (izg σ 33 8)) (rgI _ _ _); have : gI τ19 33 3 = gI σ 33 3 := gI_iz (Fr.it frτ19 rfl (izg σ 33 3)) (rgI _ _ _); omega)) (by decide) (jo_33 (frτ19.lay J)) kc_9 rfl rfl (Nat.le_of_ble_eq_true rfl) ⟨Nat.zero_le _, Nat.zero_le _⟩ dX9_numeral_66 (fun r τ23 hp => ?_)
              obtain ⟨rfl, frτ23, eτ23_0, eτ23_1, eτ23_2⟩ := hp
              have : gI τ19 33 8 = gI σ 33 8 := gI_iz (Fr.it frτ19 rfl (izg σ 33 8)) (rgI _ _ _)
              have : gI τ23 33 3 = gI σ 33 3 := gI_iz (Fr.it frτ23 rfl (Fr.it frτ19 rfl (izg σ 33 3))) (rgI _ _ _)
              refine z_iload_n (pc := 69) O dX9_numeral_69 rfl ?_
              refine z_iret (pc := 70) O dX9_numeral_70 ?_
              exact ⟨(gI σ 33 10), rfl, (by omega), ((frτ19.mono (V := [(33, 7), (33, 8), (33, 9), (33, 10), (33, 11), (33, 4), (33, 5)]) rfl).tr (frτ23.mono (V := [(33, 7), (33, 8), (33, 9), (33, 10), (33, 11), (33, 4), (33, 5)]) rfl)), (by have : gI τ23 33 3 = gI σ 33 3 := gI_iz (Fr.it frτ23 rfl (Fr.it frτ19 rfl (izg σ 33 3))) (rgI _ _ _); omega), (by omega), (by have : gI τ23 33 4 = gI τ19 33 4 := gI_iz (Fr.it frτ23 rfl (izg τ19 33 4)) (rgI _ _ _); omega), (by have : gI τ23 33 4 = gI τ19 33 4 := gI_iz (Fr.it frτ23 rfl (izg τ19 33 4)) (rgI _ _ _); omega), (by exfalso; omega), (by first | exact Or.inl (by have : gI τ23 33 4 = gI τ19 33 4 := gI_iz (Fr.it frτ23 rfl (izg τ19 33 4)) (rgI _ _ _); omega) | (obtain ⟨h0, A⟩ := R.good (by omega); obtain ⟨K1, K2, -⟩ := A.num; exact Or.inr (by omega)))⟩
    · refine z_aload_n (pc := 17) O dX9_numeral_17 rfl ?_
      refine z_callV (pc := 18) O cl_X9_269 (k9_wrong _ _ J) (by decide) (jo_33 J) kc_9 rfl rfl (Nat.le_of_ble_eq_true rfl) ⟨Nat.zero_le _, Nat.zero_le _⟩ dX9_numeral_18 (fun r τ25 hp => ?_)
      obtain ⟨rfl, frτ25, eτ25_0⟩ := hp
      refine z_aload_n (pc := 21) O dX9_numeral_21 rfl ?_
      refine z_callV (pc := 22) O cl_X9_272 (k9_isGood _ _ (frτ25.lay J)) (by decide) (jo_33 (frτ25.lay J)) kc_9 rfl rfl (Nat.le_of_ble_eq_true rfl) ⟨Nat.zero_le _, Nat.zero_le _⟩ dX9_numeral_22 (fun r τ27 hp => ?_)
      obtain ⟨z28, rfl, fτ27_0, fτ27_1, rfl⟩ := hp
      refine zi_if_eq (pc := 25) (tgt := 53) O dX9_numeral_25 (by decide) (by omega) (fun h25 => ?_) (fun h25 => ?_)
      · refine z_aload_n (pc := 53) O dX9_numeral_53 rfl ?_
        refine zi_getv (pc := 54) (gI σ 33 10) O fl_X9_256 rfl (jo_33 (frτ25.lay J)) (Fr.it frτ25 rfl (izg σ 33 10)) dX9_numeral_54 ?_
        have := rgI σ 33 10
        refine z_istore_n (pc := 57) [(0, .ref 33), (1, .int (iz y)), (2, .int (iz x)), (3, .int (iz (gI σ 33 10)))] O dX9_numeral_57 (by decide) rfl ?_
        refine z_aload_n (pc := 58) O dX9_numeral_58 rfl ?_
        refine z_callV (pc := 59) O cl_X9_272 (k9_isGood _ _ (frτ25.lay J)) (by decide) (jo_33 (frτ25.lay J)) kc_9 rfl rfl (Nat.le_of_ble_eq_true rfl) ⟨Nat.zero_le _, Nat.zero_le _⟩ dX9_numeral_59 (fun r τ29 hp => ?_)
        obtain ⟨z30, rfl, fτ29_0, fτ29_1, rfl⟩ := hp
        refine zi_if_eq (pc := 62) (tgt := 69) O dX9_numeral_62 (by decide) (by omega) (fun h62 => ?_) (fun h62 => ?_)
        · refine z_iload_n (pc := 69) O dX9_numeral_69 rfl ?_
          refine z_iret (pc := 70) O dX9_numeral_70 ?_
          exact ⟨(gI σ 33 10), rfl, (by omega), (frτ25.mono (V := [(33, 7), (33, 8), (33, 9), (33, 10), (33, 11), (33, 4), (33, 5)]) rfl), (by have : gI τ25 33 7 = gI σ 33 7 := gI_iz (Fr.it frτ25 rfl (izg σ 33 7)) (rgI _ _ _); have : gI τ25 33 8 = gI σ 33 8 := gI_iz (Fr.it frτ25 rfl (izg σ 33 8)) (rgI _ _ _); have : gI τ25 33 3 = gI σ 33 3 := gI_iz (Fr.it frτ25 rfl (izg σ 33 3)) (rgI _ _ _); have : gI τ25 33 9 = gI σ 33 9 := gI_iz (Fr.it frτ25 rfl (izg σ 33 9)) (rgI _ _ _); omega), (by have : gI τ25 33 7 = gI σ 33 7 := gI_iz (Fr.it frτ25 rfl (izg σ 33 7)) (rgI _ _ _); omega), (by omega), (by have : gI τ25 33 7 = gI σ 33 7 := gI_iz (Fr.it frτ25 rfl (izg σ 33 7)) (rgI _ _ _); omega), (by first | (exfalso; omega) | exact Rf.eq (Rf.wrong R eτ25_0) (thn_cg (fun h0 => by obtain ⟨K1, K2, -⟩ := (R.at0 h0).2.num; exact (numR_2 (j := rr.2) (by omega)).symm))), (by first | exact Or.inl (by omega) | (obtain ⟨h0, A⟩ := R.good (by omega); obtain ⟨K1, K2, -⟩ := A.num; exact Or.inr (by omega)))⟩
        · refine z_aload_n (pc := 65) O dX9_numeral_65 rfl ?_
          refine z_callV (pc := 66) O cl_X9_266 (k9_next3 _ _ (frτ25.lay J) (by have : gI τ25 33 3 = gI σ 33 3 := gI_iz (Fr.it frτ25 rfl (izg σ 33 3)) (rgI _ _ _); omega) (by have : gI τ25 33 8 = gI σ 33 8 := gI_iz (Fr.it frτ25 rfl (izg σ 33 8)) (rgI _ _ _); have : gI τ25 33 3 = gI σ 33 3 := gI_iz (Fr.it frτ25 rfl (izg σ 33 3)) (rgI _ _ _); omega)) (by decide) (jo_33 (frτ25.lay J)) kc_9 rfl rfl (Nat.le_of_ble_eq_true rfl) ⟨Nat.zero_le _, Nat.zero_le _⟩ dX9_numeral_66 (fun r τ31 hp => ?_)
          obtain ⟨rfl, frτ31, eτ31_0, eτ31_1, eτ31_2⟩ := hp
          have : gI τ25 33 8 = gI σ 33 8 := gI_iz (Fr.it frτ25 rfl (izg σ 33 8)) (rgI _ _ _)
          have : gI τ31 33 3 = gI σ 33 3 := gI_iz (Fr.it frτ31 rfl (Fr.it frτ25 rfl (izg σ 33 3))) (rgI _ _ _)
          refine z_iload_n (pc := 69) O dX9_numeral_69 rfl ?_
          refine z_iret (pc := 70) O dX9_numeral_70 ?_
          exact ⟨(gI σ 33 10), rfl, (by omega), ((frτ25.mono (V := [(33, 7), (33, 8), (33, 9), (33, 10), (33, 11), (33, 4), (33, 5)]) rfl).tr (frτ31.mono (V := [(33, 7), (33, 8), (33, 9), (33, 10), (33, 11), (33, 4), (33, 5)]) rfl)), (by have : gI τ31 33 3 = gI σ 33 3 := gI_iz (Fr.it frτ31 rfl (Fr.it frτ25 rfl (izg σ 33 3))) (rgI _ _ _); omega), (by omega), (by have : gI τ31 33 4 = gI τ25 33 4 := gI_iz (Fr.it frτ31 rfl (izg τ25 33 4)) (rgI _ _ _); omega), (by have : gI τ31 33 4 = gI τ25 33 4 := gI_iz (Fr.it frτ31 rfl (izg τ25 33 4)) (rgI _ _ _); omega), (by exfalso; omega), (by first | exact Or.inl (by have : gI τ31 33 4 = gI τ25 33 4 := gI_iz (Fr.it frτ31 rfl (izg τ25 33 4)) (rgI _ _ _); omega) | (obtain ⟨h0, A⟩ := R.good (by omega); obtain ⟨K1, K2, -⟩ := A.num; exact Or.inr (by omega)))⟩
      · refine z_aload_n (pc := 28) O dX9_numeral_28 rfl ?_
        refine zi_getv (pc := 29) (gI σ 33 10) O fl_X9_256 rfl (jo_33 (frτ25.lay J)) (Fr.it frτ25 rfl (izg σ 33 10)) dX9_numeral_29 ?_
        have := rgI σ 33 10
        refine z_iload_n (pc := 32) O dX9_numeral_32 rfl ?_
        refine zi_icmp_lt (pc := 33) (tgt := 44) O dX9_numeral_33 (by decide) (by omega) (by omega) (fun h33 => ?_) (fun h33 => ?_)
        · refine z_aload_n (pc := 44) O dX9_numeral_44 rfl ?_
          refine z_iconst (pc := 45) (v := iz (4)) O dX9_numeral_45 (by decide) ?_
          refine z_aload_n (pc := 46) O dX9_numeral_46 rfl ?_
          refine zi_getv (pc := 47) (gI σ 33 7) O fl_X9_231 rfl (jo_33 (frτ25.lay J)) (Fr.it frτ25 rfl (izg σ 33 7)) dX9_numeral_47 ?_
          have := rgI σ 33 7
          refine z_callV (pc := 50) O cl_X9_259 (k9_fails _ _ 4 (by decide) (gI σ 33 7) (by omega) (frτ25.lay J)) (by decide) (jo_33 (frτ25.lay J)) kc_9 rfl rfl (Nat.le_of_ble_eq_true rfl) ⟨Nat.zero_le _, Nat.zero_le _⟩ dX9_numeral_50 (fun r τ33 hp => ?_)
          obtain ⟨rfl, frτ33, eτ33_0⟩ := hp
          refine z_aload_n (pc := 53) O dX9_numeral_53 rfl ?_
          refine zi_getv (pc := 54) (gI σ 33 10) O fl_X9_256 rfl (jo_33 (frτ33.lay (frτ25.lay J))) (Fr.it frτ33 rfl (Fr.it frτ25 rfl (izg σ 33 10))) dX9_numeral_54 ?_
          refine z_istore_n (pc := 57) [(0, .ref 33), (1, .int (iz y)), (2, .int (iz x)), (3, .int (iz (gI σ 33 10)))] O dX9_numeral_57 (by decide) rfl ?_
          refine z_aload_n (pc := 58) O dX9_numeral_58 rfl ?_
          refine z_callV (pc := 59) O cl_X9_272 (k9_isGood _ _ (frτ33.lay (frτ25.lay J))) (by decide) (jo_33 (frτ33.lay (frτ25.lay J))) kc_9 rfl rfl (Nat.le_of_ble_eq_true rfl) ⟨Nat.zero_le _, Nat.zero_le _⟩ dX9_numeral_59 (fun r τ35 hp => ?_)
          obtain ⟨z36, rfl, fτ35_0, fτ35_1, rfl⟩ := hp
          refine zi_if_eq (pc := 62) (tgt := 69) O dX9_numeral_62 (by decide) (by omega) (fun h62 => ?_) (fun h62 => ?_)
          · refine z_iload_n (pc := 69) O dX9_numeral_69 rfl ?_
            refine z_iret (pc := 70) O dX9_numeral_70 ?_
            exact ⟨(gI σ 33 10), rfl, (by omega), ((frτ25.mono (V := [(33, 7), (33, 8), (33, 9), (33, 10), (33, 11), (33, 4), (33, 5)]) rfl).tr (frτ33.mono (V := [(33, 7), (33, 8), (33, 9), (33, 10), (33, 11), (33, 4), (33, 5)]) rfl)), (by have : gI τ33 33 7 = gI σ 33 7 := gI_iz (Fr.it frτ33 rfl (Fr.it frτ25 rfl (izg σ 33 7))) (rgI _ _ _); have : gI τ33 33 8 = gI σ 33 8 := gI_iz (Fr.it frτ33 rfl (Fr.it frτ25 rfl (izg σ 33 8))) (rgI _ _ _); have : gI τ33 33 3 = gI σ 33 3 := gI_iz (Fr.it frτ33 rfl (Fr.it frτ25 rfl (izg σ 33 3))) (rgI _ _ _); have : gI τ33 33 9 = gI σ 33 9 := gI_iz (Fr.it frτ33 rfl (Fr.it frτ25 rfl (izg σ 33 9))) (rgI _ _ _); omega), (by have : gI τ33 33 7 = gI σ 33 7 := gI_iz (Fr.it frτ33 rfl (Fr.it frτ25 rfl (izg σ 33 7))) (rgI _ _ _); omega), (by omega), (by have : gI τ33 33 7 = gI σ 33 7 := gI_iz (Fr.it frτ33 rfl (Fr.it frτ25 rfl (izg σ 33 7))) (rgI _ _ _); omega), (by exfalso; omega), (by first | exact Or.inl (by omega) | (obtain ⟨h0, A⟩ := R.good (by omega); obtain ⟨K1, K2, -⟩ := A.num; exact Or.inr (by omega)))⟩
          · refine z_aload_n (pc := 65) O dX9_numeral_65 rfl ?_
            refine z_callV (pc := 66) O cl_X9_266 (k9_next3 _ _ (frτ33.lay (frτ25.lay J)) (by have : gI τ33 33 3 = gI σ 33 3 := gI_iz (Fr.it frτ33 rfl (Fr.it frτ25 rfl (izg σ 33 3))) (rgI _ _ _); omega) (by have : gI τ33 33 8 = gI σ 33 8 := gI_iz (Fr.it frτ33 rfl (Fr.it frτ25 rfl (izg σ 33 8))) (rgI _ _ _); have : gI τ33 33 3 = gI σ 33 3 := gI_iz (Fr.it frτ33 rfl (Fr.it frτ25 rfl (izg σ 33 3))) (rgI _ _ _); omega)) (by decide) (jo_33 (frτ33.lay (frτ25.lay J))) kc_9 rfl rfl (Nat.le_of_ble_eq_true rfl) ⟨Nat.zero_le _, Nat.zero_le _⟩ dX9_numeral_66 (fun r τ37 hp => ?_)
            obtain ⟨rfl, frτ37, eτ37_0, eτ37_1, eτ37_2⟩ := hp
            have : gI τ33 33 8 = gI σ 33 8 := gI_iz (Fr.it frτ33 rfl (Fr.it frτ25 rfl (izg σ 33 8))) (rgI _ _ _)
            have : gI τ37 33 3 = gI σ 33 3 := gI_iz (Fr.it frτ37 rfl (Fr.it frτ33 rfl (Fr.it frτ25 rfl (izg σ 33 3)))) (rgI _ _ _)
            refine z_iload_n (pc := 69) O dX9_numeral_69 rfl ?_
            refine z_iret (pc := 70) O dX9_numeral_70 ?_
            exact ⟨(gI σ 33 10), rfl, (by omega), (((frτ25.mono (V := [(33, 7), (33, 8), (33, 9), (33, 10), (33, 11), (33, 4), (33, 5)]) rfl).tr (frτ33.mono (V := [(33, 7), (33, 8), (33, 9), (33, 10), (33, 11), (33, 4), (33, 5)]) rfl)).tr (frτ37.mono (V := [(33, 7), (33, 8), (33, 9), (33, 10), (33, 11), (33, 4), (33, 5)]) rfl)), (by have : gI τ37 33 3 = gI σ 33 3 := gI_iz (Fr.it frτ37 rfl (Fr.it frτ33 rfl (Fr.it frτ25 rfl (izg σ 33 3)))) (rgI _ _ _); omega), (by omega), (by have : gI τ37 33 4 = gI τ33 33 4 := gI_iz (Fr.it frτ37 rfl (izg τ33 33 4)) (rgI _ _ _); omega), (by have : gI τ37 33 4 = gI τ33 33 4 := gI_iz (Fr.it frτ37 rfl (izg τ33 33 4)) (rgI _ _ _); omega), (by exfalso; omega), (by first | exact Or.inl (by have : gI τ37 33 4 = gI τ33 33 4 := gI_iz (Fr.it frτ37 rfl (izg τ33 33 4)) (rgI _ _ _); omega) | (obtain ⟨h0, A⟩ := R.good (by omega); obtain ⟨K1, K2, -⟩ := A.num; exact Or.inr (by omega)))⟩
        · refine z_aload_n (pc := 36) O dX9_numeral_36 rfl ?_
          refine zi_getv (pc := 37) (gI σ 33 10) O fl_X9_256 rfl (jo_33 (frτ25.lay J)) (Fr.it frτ25 rfl (izg σ 33 10)) dX9_numeral_37 ?_
          refine z_iload_n (pc := 40) O dX9_numeral_40 rfl ?_
          refine zi_icmp_le (pc := 41) (tgt := 53) O dX9_numeral_41 (by decide) (by omega) (by omega) (fun h41 => ?_) (fun h41 => ?_)
          · refine z_aload_n (pc := 53) O dX9_numeral_53 rfl ?_
            refine zi_getv (pc := 54) (gI σ 33 10) O fl_X9_256 rfl (jo_33 (frτ25.lay J)) (Fr.it frτ25 rfl (izg σ 33 10)) dX9_numeral_54 ?_
            refine z_istore_n (pc := 57) [(0, .ref 33), (1, .int (iz y)), (2, .int (iz x)), (3, .int (iz (gI σ 33 10)))] O dX9_numeral_57 (by decide) rfl ?_
            refine z_aload_n (pc := 58) O dX9_numeral_58 rfl ?_
            refine z_callV (pc := 59) O cl_X9_272 (k9_isGood _ _ (frτ25.lay J)) (by decide) (jo_33 (frτ25.lay J)) kc_9 rfl rfl (Nat.le_of_ble_eq_true rfl) ⟨Nat.zero_le _, Nat.zero_le _⟩ dX9_numeral_59 (fun r τ39 hp => ?_)
            obtain ⟨z40, rfl, fτ39_0, fτ39_1, rfl⟩ := hp
            refine zi_if_eq (pc := 62) (tgt := 69) O dX9_numeral_62 (by decide) (by omega) (fun h62 => ?_) (fun h62 => ?_)
            · refine z_iload_n (pc := 69) O dX9_numeral_69 rfl ?_
              refine z_iret (pc := 70) O dX9_numeral_70 ?_
              exact ⟨(gI σ 33 10), rfl, (by omega), (frτ25.mono (V := [(33, 7), (33, 8), (33, 9), (33, 10), (33, 11), (33, 4), (33, 5)]) rfl), (by have : gI τ25 33 7 = gI σ 33 7 := gI_iz (Fr.it frτ25 rfl (izg σ 33 7)) (rgI _ _ _); have : gI τ25 33 8 = gI σ 33 8 := gI_iz (Fr.it frτ25 rfl (izg σ 33 8)) (rgI _ _ _); have : gI τ25 33 3 = gI σ 33 3 := gI_iz (Fr.it frτ25 rfl (izg σ 33 3)) (rgI _ _ _); have : gI τ25 33 9 = gI σ 33 9 := gI_iz (Fr.it frτ25 rfl (izg σ 33 9)) (rgI _ _ _); omega), (by have : gI τ25 33 7 = gI σ 33 7 := gI_iz (Fr.it frτ25 rfl (izg σ 33 7)) (rgI _ _ _); omega), (by omega), (by have : gI τ25 33 7 = gI σ 33 7 := gI_iz (Fr.it frτ25 rfl (izg σ 33 7)) (rgI _ _ _); omega), (by first | (exfalso; omega) | exact Rf.eq (Rf.wrong R eτ25_0) (thn_cg (fun h0 => by obtain ⟨K1, K2, -⟩ := (R.at0 h0).2.num; exact (numR_2 (j := rr.2) (by omega)).symm))), (by first | exact Or.inl (by omega) | (obtain ⟨h0, A⟩ := R.good (by omega); obtain ⟨K1, K2, -⟩ := A.num; exact Or.inr (by omega)))⟩
            · refine z_aload_n (pc := 65) O dX9_numeral_65 rfl ?_
              refine z_callV (pc := 66) O cl_X9_266 (k9_next3 _ _ (frτ25.lay J) (by have : gI τ25 33 3 = gI σ 33 3 := gI_iz (Fr.it frτ25 rfl (izg σ 33 3)) (rgI _ _ _); omega) (by have : gI τ25 33 8 = gI σ 33 8 := gI_iz (Fr.it frτ25 rfl (izg σ 33 8)) (rgI _ _ _); have : gI τ25 33 3 = gI σ 33 3 := gI_iz (Fr.it frτ25 rfl (izg σ 33 3)) (rgI _ _ _); omega)) (by decide) (jo_33 (frτ25.lay J)) kc_9 rfl rfl (Nat.le_of_ble_eq_true rfl) ⟨Nat.zero_le _, Nat.zero_le _⟩ dX9_numeral_66 (fun r τ41 hp => ?_)
              obtain ⟨rfl, frτ41, eτ41_0, eτ41_1, eτ41_2⟩ := hp
              have : gI τ25 33 8 = gI σ 33 8 := gI_iz (Fr.it frτ25 rfl (izg σ 33 8)) (rgI _ _ _)
              have : gI τ41 33 3 = gI σ 33 3 := gI_iz (Fr.it frτ41 rfl (Fr.it frτ25 rfl (izg σ 33 3))) (rgI _ _ _)
              refine z_iload_n (pc := 69) O dX9_numeral_69 rfl ?_
              refine z_iret (pc := 70) O dX9_numeral_70 ?_
              exact ⟨(gI σ 33 10), rfl, (by omega), ((frτ25.mono (V := [(33, 7), (33, 8), (33, 9), (33, 10), (33, 11), (33, 4), (33, 5)]) rfl).tr (frτ41.mono (V := [(33, 7), (33, 8), (33, 9), (33, 10), (33, 11), (33, 4), (33, 5)]) rfl)), (by have : gI τ41 33 3 = gI σ 33 3 := gI_iz (Fr.it frτ41 rfl (Fr.it frτ25 rfl (izg σ 33 3))) (rgI _ _ _); omega), (by omega), (by have : gI τ41 33 4 = gI τ25 33 4 := gI_iz (Fr.it frτ41 rfl (izg τ25 33 4)) (rgI _ _ _); omega), (by have : gI τ41 33 4 = gI τ25 33 4 := gI_iz (Fr.it frτ41 rfl (izg τ25 33 4)) (rgI _ _ _); omega), (by exfalso; omega), (by first | exact Or.inl (by have : gI τ41 33 4 = gI τ25 33 4 := gI_iz (Fr.it frτ41 rfl (izg τ25 33 4)) (rgI _ _ _); omega) | (obtain ⟨h0, A⟩ := R.good (by omega); obtain ⟨K1, K2, -⟩ := A.num; exact Or.inr (by omega)))⟩
          · refine z_aload_n (pc := 44) O dX9_numeral_44 rfl ?_
            refine z_iconst (pc := 45) (v := iz (4)) O dX9_numeral_45 (by decide) ?_
            refine z_aload_n (pc := 46) O dX9_numeral_46 rfl ?_
            refine zi_getv (pc := 47) (gI σ 33 7) O fl_X9_231 rfl (jo_33 (frτ25.lay J)) (Fr.it frτ25 rfl (izg σ 33 7)) dX9_numeral_47 ?_
            have := rgI σ 33 7
            refine z_callV (pc := 50) O cl_X9_259 (k9_fails _ _ 4 (by decide) (gI σ 33 7) (by omega) (frτ25.lay J)) (by decide) (jo_33 (frτ25.lay J)) kc_9 rfl rfl (Nat.le_of_ble_eq_true rfl) ⟨Nat.zero_le _, Nat.zero_le _⟩ dX9_numeral_50 (fun r τ43 hp => ?_)
            obtain ⟨rfl, frτ43, eτ43_0⟩ := hp
            refine z_aload_n (pc := 53) O dX9_numeral_53 rfl ?_
            refine zi_getv (pc := 54) (gI σ 33 10) O fl_X9_256 rfl (jo_33 (frτ43.lay (frτ25.lay J))) (Fr.it frτ43 rfl (Fr.it frτ25 rfl (izg σ 33 10))) dX9_numeral_54 ?_
            refine z_istore_n (pc := 57) [(0, .ref 33), (1, .int (iz y)), (2, .int (iz x)), (3, .int (iz (gI σ 33 10)))] O dX9_numeral_57 (by decide) rfl ?_
            refine z_aload_n (pc := 58) O dX9_numeral_58 rfl ?_
            refine z_callV (pc := 59) O cl_X9_272 (k9_isGood _ _ (frτ43.lay (frτ25.lay J))) (by decide) (jo_33 (frτ43.lay (frτ25.lay J))) kc_9 rfl rfl (Nat.le_of_ble_eq_true rfl) ⟨Nat.zero_le _, Nat.zero_le _⟩ dX9_numeral_59 (fun r τ45 hp => ?_)
            obtain ⟨z46, rfl, fτ45_0, fτ45_1, rfl⟩ := hp
            refine zi_if_eq (pc := 62) (tgt := 69) O dX9_numeral_62 (by decide) (by omega) (fun h62 => ?_) (fun h62 => ?_)
            · refine z_iload_n (pc := 69) O dX9_numeral_69 rfl ?_
              refine z_iret (pc := 70) O dX9_numeral_70 ?_
              exact ⟨(gI σ 33 10), rfl, (by omega), ((frτ25.mono (V := [(33, 7), (33, 8), (33, 9), (33, 10), (33, 11), (33, 4), (33, 5)]) rfl).tr (frτ43.mono (V := [(33, 7), (33, 8), (33, 9), (33, 10), (33, 11), (33, 4), (33, 5)]) rfl)), (by have : gI τ43 33 7 = gI σ 33 7 := gI_iz (Fr.it frτ43 rfl (Fr.it frτ25 rfl (izg σ 33 7))) (rgI _ _ _); have : gI τ43 33 8 = gI σ 33 8 := gI_iz (Fr.it frτ43 rfl (Fr.it frτ25 rfl (izg σ 33 8))) (rgI _ _ _); have : gI τ43 33 3 = gI σ 33 3 := gI_iz (Fr.it frτ43 rfl (Fr.it frτ25 rfl (izg σ 33 3))) (rgI _ _ _); have : gI τ43 33 9 = gI σ 33 9 := gI_iz (Fr.it frτ43 rfl (Fr.it frτ25 rfl (izg σ 33 9))) (rgI _ _ _); omega), (by have : gI τ43 33 7 = gI σ 33 7 := gI_iz (Fr.it frτ43 rfl (Fr.it frτ25 rfl (izg σ 33 7))) (rgI _ _ _); omega), (by omega), (by have : gI τ43 33 7 = gI σ 33 7 := gI_iz (Fr.it frτ43 rfl (Fr.it frτ25 rfl (izg σ 33 7))) (rgI _ _ _); omega), (by exfalso; omega), (by first | exact Or.inl (by omega) | (obtain ⟨h0, A⟩ := R.good (by omega); obtain ⟨K1, K2, -⟩ := A.num; exact Or.inr (by omega)))⟩
            · refine z_aload_n (pc := 65) O dX9_numeral_65 rfl ?_
              refine z_callV (pc := 66) O cl_X9_266 (k9_next3 _ _ (frτ43.lay (frτ25.lay J)) (by have : gI τ43 33 3 = gI σ 33 3 := gI_iz (Fr.it frτ43 rfl (Fr.it frτ25 rfl (izg σ 33 3))) (rgI _ _ _); omega) (by have : gI τ43 33 8 = gI σ 33 8 := gI_iz (Fr.it frτ43 rfl (Fr.it frτ25 rfl (izg σ 33 8))) (rgI _ _ _); have : gI τ43 33 3 = gI σ 33 3 := gI_iz (Fr.it frτ43 rfl (Fr.it frτ25 rfl (izg σ 33 3))) (rgI _ _ _); omega)) (by decide) (jo_33 (frτ43.lay (frτ25.lay J))) kc_9 rfl rfl (Nat.le_of_ble_eq_true rfl) ⟨Nat.zero_le _, Nat.zero_le _⟩ dX9_numeral_66 (fun r τ47 hp => ?_)
              obtain ⟨rfl, frτ47, eτ47_0, eτ47_1, eτ47_2⟩ := hp
              have : gI τ43 33 8 = gI σ 33 8 := gI_iz (Fr.it frτ43 rfl (Fr.it frτ25 rfl (izg σ 33 8))) (rgI _ _ _)
              have : gI τ47 33 3 = gI σ 33 3 := gI_iz (Fr.it frτ47 rfl (Fr.it frτ43 rfl (Fr.it frτ25 rfl (izg σ 33 3)))) (rgI _ _ _)
              refine z_iload_n (pc := 69) O dX9_numeral_69 rfl ?_
              refine z_iret (pc := 70) O dX9_numeral_70 ?_
              exact ⟨(gI σ 33 10), rfl, (by omega), (((frτ25.mono (V := [(33, 7), (33, 8), (33, 9), (33, 10), (33, 11), (33, 4), (33, 5)]) rfl).tr (frτ43.mono (V := [(33, 7), (33, 8), (33, 9), (33, 10), (33, 11), (33, 4), (33, 5)]) rfl)).tr (frτ47.mono (V := [(33, 7), (33, 8), (33, 9), (33, 10), (33, 11), (33, 4), (33, 5)]) rfl)), (by have : gI τ47 33 3 = gI σ 33 3 := gI_iz (Fr.it frτ47 rfl (Fr.it frτ43 rfl (Fr.it frτ25 rfl (izg σ 33 3)))) (rgI _ _ _); omega), (by omega), (by have : gI τ47 33 4 = gI τ43 33 4 := gI_iz (Fr.it frτ47 rfl (izg τ43 33 4)) (rgI _ _ _); omega), (by have : gI τ47 33 4 = gI τ43 33 4 := gI_iz (Fr.it frτ47 rfl (izg τ43 33 4)) (rgI _ _ _); omega), (by exfalso; omega), (by first | exact Or.inl (by have : gI τ47 33 4 = gI τ43 33 4 := gI_iz (Fr.it frτ47 rfl (izg τ43 33 4)) (rgI _ _ _); omega) | (obtain ⟨h0, A⟩ := R.good (by omega); obtain ⟨K1, K2, -⟩ := A.num; exact Or.inr (by omega)))⟩
  · refine z_iconst (pc := 7) (v := iz (0)) O dX9_numeral_7 (by decide) ?_
    refine z_iret (pc := 8) O dX9_numeral_8 ?_
    exact ⟨0, rfl, (by decide), (Fr.rf [(33, 7), (33, 8), (33, 9), (33, 10), (33, 11), (33, 4), (33, 5)] σ), (by omega), (by omega), (by omega), (by omega), (by first | (exfalso; omega) | exact Rf.eq R (thn_f (R.bad (by omega)).1).symm), (by first | exact Or.inl (by omega) | (obtain ⟨h0, A⟩ := R.good (by omega); obtain ⟨K1, K2, -⟩ := A.num; exact Or.inr (by omega)))⟩
