set_option maxHeartbeats 4000000 in
set_option maxRecDepth 20000 in
theorem k8_sum (l : Launch) (σ : VH) (w : Int) (rw : (-2147483648 ≤ w ∧ w < 2147483648)) (y : Int) (ry : (-2147483648 ≤ y ∧ y < 2147483648)) (I : InvX σ) : Ct l yX8_sum cX8_sum 4 (some .int) 6 0 0 [.ref 2, .int (iz w), .int (iz y)] σ (fun r τ => ∃ z : Int, r = some (.int (iz z)) ∧ (-2147483648 ≤ z ∧ z < 2147483648) ∧ (Fr [(14, 99999), (32, 99999)] σ τ) ∧ (InvX τ)) := by
  refine Ct.enter rfl (Nat.le_of_ble_eq_true rfl) ?_
  intro κ γ hκ O hrc hrs
  subst hκ
  have i1 := I.2.1
  unfold InvX1 at i1
  refine z_aload_n (pc := 0) O dX8_sum_0 rfl ?_
  refine z_iload_n (pc := 1) O dX8_sum_1 rfl ?_
  refine z_callV (pc := 2) O cl_X8_158 (k8_caseAt _ _ w (by omega) I) (by decide) (jo_2 I.1) kc_8 rfl rfl (Nat.le_of_ble_eq_true rfl) ⟨Nat.zero_le _, Nat.zero_le _⟩ dX8_sum_2 (fun r τ1 hp => ?_)
  obtain ⟨rfl, hq⟩ := hp
  rcases hq with rfl | ⟨o2, rfl, ho2⟩
  · refine z_astore_nN (pc := 5) [(0, .ref 2), (1, .int (iz w)), (2, .int (iz y)), (3, .null)] O dX8_sum_5 (by decide) rfl ?_
    refine z_aload_nN (pc := 6) O dX8_sum_6 rfl ?_
    refine z_ifnonnullN (pc := 7) O dX8_sum_7 ?_
    refine z_iconst (pc := 10) (v := iz (-1)) O dX8_sum_10 (by decide) ?_
    refine z_goto (pc := 11) (tgt := 20) O dX8_sum_11 (by decide) ?_
    refine z_iret (pc := 20) O dX8_sum_20 ?_
    exact ⟨(-1), rfl, (by decide), (Fr.rf [(14, 99999), (32, 99999)] σ), I⟩
  · have := ho2.1
    refine z_astore_n (pc := 5) [(0, .ref 2), (1, .int (iz w)), (2, .int (iz y)), (3, .ref o2)] O dX8_sum_5 (by decide) rfl ?_
    refine z_aload_n (pc := 6) O dX8_sum_6 rfl ?_
    refine z_ifnonnull (pc := 7) (tgt := 14) O dX8_sum_7 (by decide) ?_
    refine z_aload_n (pc := 14) O dX8_sum_14 rfl ?_
    refine z_aload_n (pc := 15) O dX8_sum_15 rfl ?_
    refine z_iload_n (pc := 16) O dX8_sum_16 rfl ?_
    refine z_callV (pc := 17) O cl_X8_162 (k8_sumAsKnown _ _ o2 y (by omega) I ho2) (by decide) (jo_2 I.1) kc_8 rfl rfl (Nat.le_of_ble_eq_true rfl) ⟨Nat.zero_le _, Nat.zero_le _⟩ dX8_sum_17 (fun r τ3 hp => ?_)
    obtain ⟨z4, rfl, fτ3_0, frτ3⟩ := hp
    refine z_iret (pc := 20) O dX8_sum_20 ?_
    exact ⟨z4, rfl, (by omega), frτ3, (InvX.fr frτ3 I (by unfold InvX1; have : gI τ3 2 1 = gI σ 2 1 := gI_iz (Fr.it frτ3 rfl (izg σ 2 1)) (rgI _ _ _); have : gI τ3 9 7 = gI σ 9 7 := gI_iz (Fr.it frτ3 rfl (izg σ 9 7)) (rgI _ _ _); have : gI τ3 16 4 = gI σ 16 4 := gI_iz (Fr.it frτ3 rfl (izg σ 16 4)) (rgI _ _ _); have : gI τ3 21 4 = gI σ 21 4 := gI_iz (Fr.it frτ3 rfl (izg σ 21 4)) (rgI _ _ _); have : gI τ3 2 12 = gI σ 2 12 := gI_iz (Fr.it frτ3 rfl (izg σ 2 12)) (rgI _ _ _); have : gI τ3 27 3 = gI σ 27 3 := gI_iz (Fr.it frτ3 rfl (izg σ 27 3)) (rgI _ _ _); have : gI τ3 2 15 = gI σ 2 15 := gI_iz (Fr.it frτ3 rfl (izg σ 2 15)) (rgI _ _ _); have : gI τ3 2 7 = gI σ 2 7 := gI_iz (Fr.it frτ3 rfl (izg σ 2 7)) (rgI _ _ _); omega) (fun _ => rfl))⟩
set_option maxHeartbeats 4000000 in
set_option maxRecDepth 20000 in
theorem k8_oath (l : Launch) (σ : VH) (w : Int) (rw : (-2147483648 ≤ w ∧ w < 2147483648)) (e : Int) (re : (-2147483648 ≤ e ∧ e < 2147483648)) (I : InvX σ) : Ct l yX8_oath cX8_oath 5 (some .int) 4 0 0 [.ref 2, .int (iz w), .int (iz e)] σ (fun r τ => ∃ z : Int, r = some (.int (iz z)) ∧ (-2147483648 ≤ z ∧ z < 2147483648) ∧ (Fr [(14, 99999)] σ τ) ∧ (InvX τ)) := by
  refine Ct.enter rfl (Nat.le_of_ble_eq_true rfl) ?_
  intro κ γ hκ O hrc hrs
  subst hκ
  have i1 := I.2.1
  unfold InvX1 at i1
  refine z_aload_n (pc := 0) O dX8_oath_0 rfl ?_
  refine z_iload_n (pc := 1) O dX8_oath_1 rfl ?_
  refine z_callV (pc := 2) O cl_X8_158 (k8_caseAt _ _ w (by omega) I) (by decide) (jo_2 I.1) kc_8 rfl rfl (Nat.le_of_ble_eq_true rfl) ⟨Nat.zero_le _, Nat.zero_le _⟩ dX8_oath_2 (fun r τ1 hp => ?_)
  obtain ⟨rfl, hq⟩ := hp
  rcases hq with rfl | ⟨o2, rfl, ho2⟩
  · refine z_astore_nN (pc := 5) [(0, .ref 2), (1, .int (iz w)), (2, .int (iz e)), (3, .null)] O dX8_oath_5 (by decide) rfl ?_
    refine z_aload_nN (pc := 6) O dX8_oath_6 rfl ?_
    refine z_ifnullN (pc := 7) (tgt := 26) O dX8_oath_7 (by decide) ?_
    refine z_iconst (pc := 26) (v := iz (-1)) O dX8_oath_26 (by decide) ?_
    refine z_iret (pc := 27) O dX8_oath_27 ?_
    exact ⟨(-1), rfl, (by decide), (Fr.rf [(14, 99999)] σ), I⟩
  · have := ho2.1
    refine z_astore_n (pc := 5) [(0, .ref 2), (1, .int (iz w)), (2, .int (iz e)), (3, .ref o2)] O dX8_oath_5 (by decide) rfl ?_
    refine z_aload_n (pc := 6) O dX8_oath_6 rfl ?_
    refine z_ifnull (pc := 7) O dX8_oath_7 ?_
    refine z_aload_n (pc := 10) O dX8_oath_10 rfl ?_
    refine zi_getv (pc := 11) (gI σ o2 6) O fl_X8_166 rfl (ho2).is (izg _ o2 6) dX8_oath_11 ?_
    have := rgI σ o2 6
    refine z_iconst (pc := 14) (v := iz (-1)) O dX8_oath_14 (by decide) ?_
    refine zi_icmp_ne (pc := 15) (tgt := 26) O dX8_oath_15 (by decide) (by omega) (by decide) (fun h15 => ?_) (fun h15 => ?_)
    · refine z_iconst (pc := 26) (v := iz (-1)) O dX8_oath_26 (by decide) ?_
      refine z_iret (pc := 27) O dX8_oath_27 ?_
      exact ⟨(-1), rfl, (by decide), (Fr.rf [(14, 99999)] σ), I⟩
    · refine z_aload_n (pc := 18) O dX8_oath_18 rfl ?_
      refine zi_getv (pc := 19) (gI σ o2 7) O fl_X8_169 rfl (ho2).is (izg _ o2 7) dX8_oath_19 ?_
      have := rgI σ o2 7
      refine z_iconst (pc := 22) (v := iz (-1)) O dX8_oath_22 (by decide) ?_
      refine zi_icmp_eq (pc := 23) (tgt := 28) O dX8_oath_23 (by decide) (by omega) (by decide) (fun h23 => ?_) (fun h23 => ?_)
      · refine z_aload_n (pc := 28) O dX8_oath_28 rfl ?_
        refine z_aload_n (pc := 29) O dX8_oath_29 rfl ?_
        refine z_callV (pc := 30) O cl_X8_172 (k8_lawOfCase _ _ o2 I ho2) (by decide) (jo_2 I.1) kc_8 rfl rfl (Nat.le_of_ble_eq_true rfl) ⟨Nat.zero_le _, Nat.zero_le _⟩ dX8_oath_30 (fun r τ3 hp => ?_)
        obtain ⟨rfl, hq⟩ := hp
        rcases hq with rfl | ⟨o4, rfl, ho4⟩
        · refine z_astoreN (pc := 33) [(0, .ref 2), (1, .int (iz w)), (2, .int (iz e)), (3, .ref o2), (4, .null)] O dX8_oath_33 (by decide) rfl ?_
          refine z_aloadN (pc := 35) O dX8_oath_35 rfl ?_
          refine z_ifnonnullN (pc := 37) O dX8_oath_37 ?_
          refine z_iconst (pc := 40) (v := iz (-1)) O dX8_oath_40 (by decide) ?_
          refine z_iret (pc := 41) O dX8_oath_41 ?_
          exact ⟨(-1), rfl, (by decide), (Fr.rf [(14, 99999)] σ), I⟩
        · have := ho4.1
          refine z_astore (pc := 33) [(0, .ref 2), (1, .int (iz w)), (2, .int (iz e)), (3, .ref o2), (4, .ref o4)] O dX8_oath_33 (by decide) rfl ?_
          refine z_aload (pc := 35) O dX8_oath_35 rfl ?_
          refine z_ifnonnull (pc := 37) (tgt := 42) O dX8_oath_37 (by decide) ?_
          refine z_aload_n (pc := 42) O dX8_oath_42 rfl ?_
          refine z_aload_n (pc := 43) O dX8_oath_43 rfl ?_
          refine z_aload (pc := 44) O dX8_oath_44 rfl ?_
          refine z_iload_n (pc := 46) O dX8_oath_46 rfl ?_
          refine z_callV (pc := 47) O cl_X8_176 (k8_oathStands _ _ o2 o4 e (by omega) I.1 (by omega) (by omega) ho2 ho4) (by decide) (jo_2 I.1) kc_8 rfl rfl (Nat.le_of_ble_eq_true rfl) ⟨Nat.zero_le _, Nat.zero_le _⟩ dX8_oath_47 (fun r τ5 hp => ?_)
          obtain ⟨z6, rfl, fτ5_0, frτ5⟩ := hp
          refine zi_if_ne (pc := 50) (tgt := 55) O dX8_oath_50 (by decide) (by omega) (fun h50 => ?_) (fun h50 => ?_)
          · refine z_aload_n (pc := 55) O dX8_oath_55 rfl ?_
            refine z_aload_n (pc := 56) O dX8_oath_56 rfl ?_
            refine zi_getv (pc := 57) (gI σ 2 7) O fl_X8_133 rfl (jo_2 (frτ5.lay I.1)) (Fr.it frτ5 rfl (izg σ 2 7)) dX8_oath_57 ?_
            have := rgI σ 2 7
            refine z_putI (pc := 60) O fl_X8_166 rfl ⟨rfl, rfl⟩ ((CaseOK.fr frτ5 ho2)).is dX8_oath_60 ?_
            refine z_iconst (pc := 63) (v := iz (1)) O dX8_oath_63 (by decide) ?_
            refine z_iret (pc := 64) O dX8_oath_64 ?_
            exact ⟨1, rfl, (by decide), (frτ5.pD (by omega) (Or.inr (ho2).2.2)), (InvX.fr (frτ5.pD (by omega) (Or.inr (ho2).2.2)) I (by unfold InvX1; have : gI (sI τ5 o2 6 (iz (gI σ 2 7))) 2 1 = gI σ 2 1 := gI_iz (sk1t (by omega) (Fr.it frτ5 rfl (izg σ 2 1))) (rgI _ _ _); have : gI (sI τ5 o2 6 (iz (gI σ 2 7))) 9 7 = gI σ 9 7 := gI_iz (sk1t (by omega) (Fr.it frτ5 rfl (izg σ 9 7))) (rgI _ _ _); have : gI (sI τ5 o2 6 (iz (gI σ 2 7))) 16 4 = gI σ 16 4 := gI_iz (sk1t (by omega) (Fr.it frτ5 rfl (izg σ 16 4))) (rgI _ _ _); have : gI (sI τ5 o2 6 (iz (gI σ 2 7))) 21 4 = gI σ 21 4 := gI_iz (sk1t (by omega) (Fr.it frτ5 rfl (izg σ 21 4))) (rgI _ _ _); have : gI (sI τ5 o2 6 (iz (gI σ 2 7))) 2 12 = gI σ 2 12 := gI_iz (sk1t (by omega) (Fr.it frτ5 rfl (izg σ 2 12))) (rgI _ _ _); have : gI (sI τ5 o2 6 (iz (gI σ 2 7))) 27 3 = gI σ 27 3 := gI_iz (sk1t (by omega) (Fr.it frτ5 rfl (izg σ 27 3))) (rgI _ _ _); have : gI (sI τ5 o2 6 (iz (gI σ 2 7))) 2 15 = gI σ 2 15 := gI_iz (sk1t (by omega) (Fr.it frτ5 rfl (izg σ 2 15))) (rgI _ _ _); have : gI (sI τ5 o2 6 (iz (gI σ 2 7))) 2 7 = gI σ 2 7 := gI_iz (sk1t (by omega) (Fr.it frτ5 rfl (izg σ 2 7))) (rgI _ _ _); omega) (fun _ => rfl))⟩
          · refine z_iconst (pc := 53) (v := iz (0)) O dX8_oath_53 (by decide) ?_
            refine z_iret (pc := 54) O dX8_oath_54 ?_
            exact ⟨0, rfl, (by decide), frτ5, (InvX.fr frτ5 I (by unfold InvX1; have : gI τ5 2 1 = gI σ 2 1 := gI_iz (Fr.it frτ5 rfl (izg σ 2 1)) (rgI _ _ _); have : gI τ5 9 7 = gI σ 9 7 := gI_iz (Fr.it frτ5 rfl (izg σ 9 7)) (rgI _ _ _); have : gI τ5 16 4 = gI σ 16 4 := gI_iz (Fr.it frτ5 rfl (izg σ 16 4)) (rgI _ _ _); have : gI τ5 21 4 = gI σ 21 4 := gI_iz (Fr.it frτ5 rfl (izg σ 21 4)) (rgI _ _ _); have : gI τ5 2 12 = gI σ 2 12 := gI_iz (Fr.it frτ5 rfl (izg σ 2 12)) (rgI _ _ _); have : gI τ5 27 3 = gI σ 27 3 := gI_iz (Fr.it frτ5 rfl (izg σ 27 3)) (rgI _ _ _); have : gI τ5 2 15 = gI σ 2 15 := gI_iz (Fr.it frτ5 rfl (izg σ 2 15)) (rgI _ _ _); have : gI τ5 2 7 = gI σ 2 7 := gI_iz (Fr.it frτ5 rfl (izg σ 2 7)) (rgI _ _ _); omega) (fun _ => rfl))⟩
      · refine z_iconst (pc := 26) (v := iz (-1)) O dX8_oath_26 (by decide) ?_
        refine z_iret (pc := 27) O dX8_oath_27 ?_
        exact ⟨(-1), rfl, (by decide), (Fr.rf [(14, 99999)] σ), I⟩
set_option maxHeartbeats 4000000 in
set_option maxRecDepth 20000 in
theorem k8_of (l : Launch) (σ : VH) (w : Int) (rw : (-2147483648 ≤ w ∧ w < 2147483648)) (k : Int) (rk : (-2147483648 ≤ k ∧ k < 2147483648)) (I : InvX σ) : Ct l yX8_of cX8_of 4 (some .int) 3 0 0 [.ref 2, .int (iz w), .int (iz k)] σ (fun r τ => ∃ z : Int, r = some (.int (iz z)) ∧ (-2147483648 ≤ z ∧ z < 2147483648) ∧ (Fr [] σ τ) ∧ (InvX τ)) := by
  refine Ct.enter rfl (Nat.le_of_ble_eq_true rfl) ?_
  intro κ γ hκ O hrc hrs
  subst hκ
  have i1 := I.2.1
  unfold InvX1 at i1
  refine z_aload_n (pc := 0) O dX8_of_0 rfl ?_
  refine z_iload_n (pc := 1) O dX8_of_1 rfl ?_
  refine z_callV (pc := 2) O cl_X8_158 (k8_caseAt _ _ w (by omega) I) (by decide) (jo_2 I.1) kc_8 rfl rfl (Nat.le_of_ble_eq_true rfl) ⟨Nat.zero_le _, Nat.zero_le _⟩ dX8_of_2 (fun r τ1 hp => ?_)
  obtain ⟨rfl, hq⟩ := hp
  rcases hq with rfl | ⟨o2, rfl, ho2⟩
  · refine z_astore_nN (pc := 5) [(0, .ref 2), (1, .int (iz w)), (2, .int (iz k)), (3, .null)] O dX8_of_5 (by decide) rfl ?_
    refine z_aload_nN (pc := 6) O dX8_of_6 rfl ?_
    refine z_ifnonnullN (pc := 7) O dX8_of_7 ?_
    refine z_iconst (pc := 10) (v := iz (-1)) O dX8_of_10 (by decide) ?_
    refine z_iret (pc := 11) O dX8_of_11 ?_
    exact ⟨(-1), rfl, (by decide), (Fr.rf [] σ), I⟩
  · have := ho2.1
    refine z_astore_n (pc := 5) [(0, .ref 2), (1, .int (iz w)), (2, .int (iz k)), (3, .ref o2)] O dX8_of_5 (by decide) rfl ?_
    refine z_aload_n (pc := 6) O dX8_of_6 rfl ?_
    refine z_ifnonnull (pc := 7) (tgt := 12) O dX8_of_7 (by decide) ?_
    refine z_iload_n (pc := 12) O dX8_of_12 rfl ?_
    by_cases hs3 : k < 0 ∨ 5 < k
    · refine zi_tableOut (pc := 13) (tgt := 91) O dX8_of_13 (by omega) hs3 (by decide) ?_
      refine z_iconst (pc := 91) (v := iz (-1)) O dX8_of_91 (by decide) ?_
      refine z_iret (pc := 92) O dX8_of_92 ?_
      exact ⟨(-1), rfl, (by decide), (Fr.rf [] σ), I⟩
    · have hs3x : k = 0 ∨ k = 1 ∨ k = 2 ∨ k = 3 ∨ k = 4 ∨ k = 5 := by omega
      obtain ⟨hs3a, hs3b⟩ := not_or.mp hs3
      rcases hs3x with hs3q | hs3q | hs3q | hs3q | hs3q | hs3q
      · refine zi_tableIn (pc := 13) (tgt := 52) O dX8_of_13 (by omega) hs3a hs3b (by rw [hs3q]; rfl) (by decide) ?_
        refine z_aload_n (pc := 52) O dX8_of_52 rfl ?_
        refine zi_getv (pc := 53) (gI σ o2 0) O fl_X8_180 rfl (ho2).is (izg _ o2 0) dX8_of_53 ?_
        have := rgI σ o2 0
        refine z_iret (pc := 56) O dX8_of_56 ?_
        exact ⟨(gI σ o2 0), rfl, (by omega), (Fr.rf [] σ), I⟩
      · refine zi_tableIn (pc := 13) (tgt := 57) O dX8_of_13 (by omega) hs3a hs3b (by rw [hs3q]; rfl) (by decide) ?_
        refine z_aload_n (pc := 57) O dX8_of_57 rfl ?_
        refine zi_getv (pc := 58) (gI σ o2 1) O fl_X8_183 rfl (ho2).is (izg _ o2 1) dX8_of_58 ?_
        have := rgI σ o2 1
        refine z_iret (pc := 61) O dX8_of_61 ?_
        exact ⟨(gI σ o2 1), rfl, (by omega), (Fr.rf [] σ), I⟩
      · refine zi_tableIn (pc := 13) (tgt := 62) O dX8_of_13 (by omega) hs3a hs3b (by rw [hs3q]; rfl) (by decide) ?_
        refine z_aload_n (pc := 62) O dX8_of_62 rfl ?_
        refine zi_getv (pc := 63) (gI σ o2 3) O fl_X8_186 rfl (ho2).is (izg _ o2 3) dX8_of_63 ?_
        have := rgI σ o2 3
        refine z_iret (pc := 66) O dX8_of_66 ?_
        exact ⟨(gI σ o2 3), rfl, (by omega), (Fr.rf [] σ), I⟩
      · refine zi_tableIn (pc := 13) (tgt := 67) O dX8_of_13 (by omega) hs3a hs3b (by rw [hs3q]; rfl) (by decide) ?_
        refine z_aload_n (pc := 67) O dX8_of_67 rfl ?_
        refine z_aload_n (pc := 68) O dX8_of_68 rfl ?_
        refine z_callV (pc := 69) O cl_X8_189 (k8_truceBroken _ _ o2 I.1 (by omega) (by omega) ho2) (by decide) (jo_2 I.1) kc_8 rfl rfl (Nat.le_of_ble_eq_true rfl) ⟨Nat.zero_le _, Nat.zero_le _⟩ dX8_of_69 (fun r τ4 hp => ?_)
        obtain ⟨z5, rfl, fτ4_0, rfl⟩ := hp
        refine zi_if_eq (pc := 72) (tgt := 79) O dX8_of_72 (by decide) (by omega) (fun h72 => ?_) (fun h72 => ?_)
        · refine z_iconst (pc := 79) (v := iz (0)) O dX8_of_79 (by decide) ?_
          refine z_iret (pc := 80) O dX8_of_80 ?_
          exact ⟨0, rfl, (by decide), (Fr.rf [] σ), I⟩
        · refine z_iconst (pc := 75) (v := iz (1)) O dX8_of_75 (by decide) ?_
          refine z_goto (pc := 76) (tgt := 80) O dX8_of_76 (by decide) ?_
          refine z_iret (pc := 80) O dX8_of_80 ?_
          exact ⟨1, rfl, (by decide), (Fr.rf [] σ), I⟩
      · refine zi_tableIn (pc := 13) (tgt := 81) O dX8_of_13 (by omega) hs3a hs3b (by rw [hs3q]; rfl) (by decide) ?_
        refine z_aload_n (pc := 81) O dX8_of_81 rfl ?_
        refine zi_getv (pc := 82) (gI σ o2 6) O fl_X8_166 rfl (ho2).is (izg _ o2 6) dX8_of_82 ?_
        have := rgI σ o2 6
        refine z_iret (pc := 85) O dX8_of_85 ?_
        exact ⟨(gI σ o2 6), rfl, (by omega), (Fr.rf [] σ), I⟩
      · refine zi_tableIn (pc := 13) (tgt := 86) O dX8_of_13 (by omega) hs3a hs3b (by rw [hs3q]; rfl) (by decide) ?_
        refine z_aload_n (pc := 86) O dX8_of_86 rfl ?_
        refine zi_getv (pc := 87) (gI σ o2 7) O fl_X8_169 rfl (ho2).is (izg _ o2 7) dX8_of_87 ?_
        have := rgI σ o2 7
        refine z_iret (pc := 90) O dX8_of_90 ?_
        exact ⟨(gI σ o2 7), rfl, (by omega), (Fr.rf [] σ), I⟩
set_option maxHeartbeats 4000000 in
set_option maxRecDepth 20000 in
theorem k8_pays (l : Launch) (σ : VH) (w : Int) (rw : (-2147483648 ≤ w ∧ w < 2147483648)) (p : Int) (rp : (-2147483648 ≤ p ∧ p < 2147483648)) (y : Int) (ry : (-2147483648 ≤ y ∧ y < 2147483648)) (I : InvX σ) : Ct l yX8_pays cX8_pays 5 (some .int) 7 0 0 [.ref 2, .int (iz w), .int (iz p), .int (iz y)] σ (fun r τ => ∃ z : Int, r = some (.int (iz z)) ∧ (-2147483648 ≤ z ∧ z < 2147483648) ∧ (Fr [(14, 99999), (15, 99999), (9, 6), (32, 99999)] σ τ) ∧ (InvX τ)) := by
  refine Ct.enter rfl (Nat.le_of_ble_eq_true rfl) ?_
  intro κ γ hκ O hrc hrs
  subst hκ
  have i1 := I.2.1
  unfold InvX1 at i1
  refine z_aload_n (pc := 0) O dX8_pays_0 rfl ?_
  refine z_iload_n (pc := 1) O dX8_pays_1 rfl ?_
  refine z_callV (pc := 2) O cl_X8_158 (k8_caseAt _ _ w (by omega) I) (by decide) (jo_2 I.1) kc_8 rfl rfl (Nat.le_of_ble_eq_true rfl) ⟨Nat.zero_le _, Nat.zero_le _⟩ dX8_pays_2 (fun r τ1 hp => ?_)
  obtain ⟨rfl, hq⟩ := hp
  rcases hq with rfl | ⟨o2, rfl, ho2⟩
  · refine z_astoreN (pc := 5) [(0, .ref 2), (1, .int (iz w)), (2, .int (iz p)), (3, .int (iz y)), (4, .null)] O dX8_pays_5 (by decide) rfl ?_
    refine z_aloadN (pc := 7) O dX8_pays_7 rfl ?_
    refine z_ifnonnullN (pc := 9) O dX8_pays_9 ?_
    refine z_iconst (pc := 12) (v := iz (-1)) O dX8_pays_12 (by decide) ?_
    refine z_goto (pc := 13) (tgt := 34) O dX8_pays_13 (by decide) ?_
    refine z_iret (pc := 34) O dX8_pays_34 ?_
    exact ⟨(-1), rfl, (by decide), (Fr.rf [(14, 99999), (15, 99999), (9, 6), (32, 99999)] σ), I⟩
  · have := ho2.1
    refine z_astore (pc := 5) [(0, .ref 2), (1, .int (iz w)), (2, .int (iz p)), (3, .int (iz y)), (4, .ref o2)] O dX8_pays_5 (by decide) rfl ?_
    refine z_aload (pc := 7) O dX8_pays_7 rfl ?_
    refine z_ifnonnull (pc := 9) (tgt := 16) O dX8_pays_9 (by decide) ?_
    refine z_aload_n (pc := 16) O dX8_pays_16 rfl ?_
    refine z_aload (pc := 17) O dX8_pays_17 rfl ?_
    refine z_iload_n (pc := 19) O dX8_pays_19 rfl ?_
    refine z_iload_n (pc := 20) O dX8_pays_20 rfl ?_
    refine z_aload (pc := 21) O dX8_pays_21 rfl ?_
    refine zi_getv (pc := 23) (gI σ o2 0) O fl_X8_180 rfl (ho2).is (izg _ o2 0) dX8_pays_23 ?_
    have := rgI σ o2 0
    refine z_aload (pc := 26) O dX8_pays_26 rfl ?_
    refine zi_getv (pc := 28) (gI σ o2 1) O fl_X8_183 rfl (ho2).is (izg _ o2 1) dX8_pays_28 ?_
    have := rgI σ o2 1
    refine z_callV (pc := 31) O cl_X8_193 (k8_partOf _ _ o2 p (by omega) y (by omega) (gI σ o2 0) (by omega) (gI σ o2 1) (by omega) I ho2) (by decide) (jo_2 I.1) kc_8 rfl rfl (Nat.le_of_ble_eq_true rfl) ⟨Nat.zero_le _, Nat.zero_le _⟩ dX8_pays_31 (fun r τ3 hp => ?_)
    obtain ⟨z4, rfl, fτ3_0, frτ3⟩ := hp
    refine z_iret (pc := 34) O dX8_pays_34 ?_
    exact ⟨z4, rfl, (by omega), frτ3, (InvX.fr frτ3 I (by unfold InvX1; have : gI τ3 2 1 = gI σ 2 1 := gI_iz (Fr.it frτ3 rfl (izg σ 2 1)) (rgI _ _ _); have : gI τ3 9 7 = gI σ 9 7 := gI_iz (Fr.it frτ3 rfl (izg σ 9 7)) (rgI _ _ _); have : gI τ3 16 4 = gI σ 16 4 := gI_iz (Fr.it frτ3 rfl (izg σ 16 4)) (rgI _ _ _); have : gI τ3 21 4 = gI σ 21 4 := gI_iz (Fr.it frτ3 rfl (izg σ 21 4)) (rgI _ _ _); have : gI τ3 2 12 = gI σ 2 12 := gI_iz (Fr.it frτ3 rfl (izg σ 2 12)) (rgI _ _ _); have : gI τ3 27 3 = gI σ 27 3 := gI_iz (Fr.it frτ3 rfl (izg σ 27 3)) (rgI _ _ _); have : gI τ3 2 15 = gI σ 2 15 := gI_iz (Fr.it frτ3 rfl (izg σ 2 15)) (rgI _ _ _); have : gI τ3 2 7 = gI σ 2 7 := gI_iz (Fr.it frτ3 rfl (izg σ 2 7)) (rgI _ _ _); omega) (fun _ => rfl))⟩
set_option maxHeartbeats 4000000 in
set_option maxRecDepth 20000 in
theorem k8_has (l : Launch) (σ : VH) (w : Int) (rw : (-2147483648 ≤ w ∧ w < 2147483648)) (p : Int) (rp : (-2147483648 ≤ p ∧ p < 2147483648)) (y : Int) (ry : (-2147483648 ≤ y ∧ y < 2147483648)) (I : InvX σ) : Ct l yX8_has cX8_has 5 (some .int) 7 0 0 [.ref 2, .int (iz w), .int (iz p), .int (iz y)] σ (fun r τ => ∃ z : Int, r = some (.int (iz z)) ∧ (-2147483648 ≤ z ∧ z < 2147483648) ∧ (Fr [(14, 99999), (15, 99999), (9, 6), (32, 99999)] σ τ) ∧ (InvX τ)) := by
  refine Ct.enter rfl (Nat.le_of_ble_eq_true rfl) ?_
  intro κ γ hκ O hrc hrs
  subst hκ
  have i1 := I.2.1
  unfold InvX1 at i1
  refine z_aload_n (pc := 0) O dX8_has_0 rfl ?_
  refine z_iload_n (pc := 1) O dX8_has_1 rfl ?_
  refine z_callV (pc := 2) O cl_X8_158 (k8_caseAt _ _ w (by omega) I) (by decide) (jo_2 I.1) kc_8 rfl rfl (Nat.le_of_ble_eq_true rfl) ⟨Nat.zero_le _, Nat.zero_le _⟩ dX8_has_2 (fun r τ1 hp => ?_)
  obtain ⟨rfl, hq⟩ := hp
  rcases hq with rfl | ⟨o2, rfl, ho2⟩
  · refine z_astoreN (pc := 5) [(0, .ref 2), (1, .int (iz w)), (2, .int (iz p)), (3, .int (iz y)), (4, .null)] O dX8_has_5 (by decide) rfl ?_
    refine z_aloadN (pc := 7) O dX8_has_7 rfl ?_
    refine z_ifnonnullN (pc := 9) O dX8_has_9 ?_
    refine z_iconst (pc := 12) (v := iz (-1)) O dX8_has_12 (by decide) ?_
    refine z_goto (pc := 13) (tgt := 34) O dX8_has_13 (by decide) ?_
    refine z_iret (pc := 34) O dX8_has_34 ?_
    exact ⟨(-1), rfl, (by decide), (Fr.rf [(14, 99999), (15, 99999), (9, 6), (32, 99999)] σ), I⟩
  · have := ho2.1
    refine z_astore (pc := 5) [(0, .ref 2), (1, .int (iz w)), (2, .int (iz p)), (3, .int (iz y)), (4, .ref o2)] O dX8_has_5 (by decide) rfl ?_
    refine z_aload (pc := 7) O dX8_has_7 rfl ?_
    refine z_ifnonnull (pc := 9) (tgt := 16) O dX8_has_9 (by decide) ?_
    refine z_aload_n (pc := 16) O dX8_has_16 rfl ?_
    refine z_aload (pc := 17) O dX8_has_17 rfl ?_
    refine z_iload_n (pc := 19) O dX8_has_19 rfl ?_
    refine z_iload_n (pc := 20) O dX8_has_20 rfl ?_
    refine z_aload (pc := 21) O dX8_has_21 rfl ?_
    refine zi_getv (pc := 23) (gI σ o2 1) O fl_X8_183 rfl (ho2).is (izg _ o2 1) dX8_has_23 ?_
    have := rgI σ o2 1
    refine z_aload (pc := 26) O dX8_has_26 rfl ?_
    refine zi_getv (pc := 28) (gI σ o2 0) O fl_X8_180 rfl (ho2).is (izg _ o2 0) dX8_has_28 ?_
    have := rgI σ o2 0
    refine z_callV (pc := 31) O cl_X8_193 (k8_partOf _ _ o2 p (by omega) y (by omega) (gI σ o2 1) (by omega) (gI σ o2 0) (by omega) I ho2) (by decide) (jo_2 I.1) kc_8 rfl rfl (Nat.le_of_ble_eq_true rfl) ⟨Nat.zero_le _, Nat.zero_le _⟩ dX8_has_31 (fun r τ3 hp => ?_)
    obtain ⟨z4, rfl, fτ3_0, frτ3⟩ := hp
    refine z_iret (pc := 34) O dX8_has_34 ?_
    exact ⟨z4, rfl, (by omega), frτ3, (InvX.fr frτ3 I (by unfold InvX1; have : gI τ3 2 1 = gI σ 2 1 := gI_iz (Fr.it frτ3 rfl (izg σ 2 1)) (rgI _ _ _); have : gI τ3 9 7 = gI σ 9 7 := gI_iz (Fr.it frτ3 rfl (izg σ 9 7)) (rgI _ _ _); have : gI τ3 16 4 = gI σ 16 4 := gI_iz (Fr.it frτ3 rfl (izg σ 16 4)) (rgI _ _ _); have : gI τ3 21 4 = gI σ 21 4 := gI_iz (Fr.it frτ3 rfl (izg σ 21 4)) (rgI _ _ _); have : gI τ3 2 12 = gI σ 2 12 := gI_iz (Fr.it frτ3 rfl (izg σ 2 12)) (rgI _ _ _); have : gI τ3 27 3 = gI σ 27 3 := gI_iz (Fr.it frτ3 rfl (izg σ 27 3)) (rgI _ _ _); have : gI τ3 2 15 = gI σ 2 15 := gI_iz (Fr.it frτ3 rfl (izg σ 2 15)) (rgI _ _ _); have : gI τ3 2 7 = gI σ 2 7 := gI_iz (Fr.it frτ3 rfl (izg σ 2 7)) (rgI _ _ _); omega) (fun _ => rfl))⟩
set_option maxHeartbeats 4000000 in
set_option maxRecDepth 20000 in
theorem k8_judge (l : Launch) (σ : VH) (w : Int) (rw : (-2147483648 ≤ w ∧ w < 2147483648)) (I : InvX σ) : Ct l yX8_judge cX8_judge 5 (some .int) 6 0 0 [.ref 2, .int (iz w)] σ (fun r τ => ∃ z : Int, r = some (.int (iz z)) ∧ (-2147483648 ≤ z ∧ z < 2147483648) ∧ (Fr [(14, 99999), (32, 99999)] σ τ) ∧ (InvX τ)) := by
  refine Ct.enter rfl (Nat.le_of_ble_eq_true rfl) ?_
  intro κ γ hκ O hrc hrs
  subst hκ
  have i1 := I.2.1
  unfold InvX1 at i1
  refine z_aload_n (pc := 0) O dX8_judge_0 rfl ?_
  refine z_iload_n (pc := 1) O dX8_judge_1 rfl ?_
  refine z_callV (pc := 2) O cl_X8_158 (k8_caseAt _ _ w (by omega) I) (by decide) (jo_2 I.1) kc_8 rfl rfl (Nat.le_of_ble_eq_true rfl) ⟨Nat.zero_le _, Nat.zero_le _⟩ dX8_judge_2 (fun r τ1 hp => ?_)
  obtain ⟨rfl, hq⟩ := hp
  rcases hq with rfl | ⟨o2, rfl, ho2⟩
  · refine z_astore_nN (pc := 5) [(0, .ref 2), (1, .int (iz w)), (2, .null)] O dX8_judge_5 (by decide) rfl ?_
    refine z_aload_nN (pc := 6) O dX8_judge_6 rfl ?_
    refine z_ifnullN (pc := 7) (tgt := 18) O dX8_judge_7 (by decide) ?_
    refine z_iconst (pc := 18) (v := iz (-1)) O dX8_judge_18 (by decide) ?_
    refine z_iret (pc := 19) O dX8_judge_19 ?_
    exact ⟨(-1), rfl, (by decide), (Fr.rf [(14, 99999), (32, 99999)] σ), I⟩
  · have := ho2.1
    refine z_astore_n (pc := 5) [(0, .ref 2), (1, .int (iz w)), (2, .ref o2)] O dX8_judge_5 (by decide) rfl ?_
    refine z_aload_n (pc := 6) O dX8_judge_6 rfl ?_
    refine z_ifnull (pc := 7) O dX8_judge_7 ?_
    refine z_aload_n (pc := 10) O dX8_judge_10 rfl ?_
    refine zi_getv (pc := 11) (gI σ o2 7) O fl_X8_169 rfl (ho2).is (izg _ o2 7) dX8_judge_11 ?_
    have := rgI σ o2 7
    refine z_iconst (pc := 14) (v := iz (-1)) O dX8_judge_14 (by decide) ?_
    refine zi_icmp_eq (pc := 15) (tgt := 20) O dX8_judge_15 (by decide) (by omega) (by decide) (fun h15 => ?_) (fun h15 => ?_)
    · refine z_aload_n (pc := 20) O dX8_judge_20 rfl ?_
      refine z_aload_n (pc := 21) O dX8_judge_21 rfl ?_
      refine z_callV (pc := 22) O cl_X8_172 (k8_lawOfCase _ _ o2 I ho2) (by decide) (jo_2 I.1) kc_8 rfl rfl (Nat.le_of_ble_eq_true rfl) ⟨Nat.zero_le _, Nat.zero_le _⟩ dX8_judge_22 (fun r τ3 hp => ?_)
      obtain ⟨rfl, hq⟩ := hp
      rcases hq with rfl | ⟨o4, rfl, ho4⟩
      · refine z_astore_nN (pc := 25) [(0, .ref 2), (1, .int (iz w)), (2, .ref o2), (3, .null)] O dX8_judge_25 (by decide) rfl ?_
        refine z_aload_n (pc := 26) O dX8_judge_26 rfl ?_
        refine z_aload_n (pc := 27) O dX8_judge_27 rfl ?_
        refine z_aload_n (pc := 28) O dX8_judge_28 rfl ?_
        refine zi_getv (pc := 29) (gI σ 2 7) O fl_X8_133 rfl (jo_2 I.1) (izg σ 2 7) dX8_judge_29 ?_
        have := rgI σ 2 7
        refine z_callV (pc := 32) O cl_X8_162 (k8_sumAsKnown _ _ o2 (gI σ 2 7) (by omega) I ho2) (by decide) (jo_2 I.1) kc_8 rfl rfl (Nat.le_of_ble_eq_true rfl) ⟨Nat.zero_le _, Nat.zero_le _⟩ dX8_judge_32 (fun r τ5 hp => ?_)
        obtain ⟨z6, rfl, fτ5_0, frτ5⟩ := hp
        refine z_istore (pc := 35) [(0, .ref 2), (1, .int (iz w)), (2, .ref o2), (3, .null), (4, .int (iz z6))] O dX8_judge_35 (by decide) rfl ?_
        refine z_aload_nN (pc := 37) O dX8_judge_37 rfl ?_
        refine z_ifnullN (pc := 38) (tgt := 47) O dX8_judge_38 (by decide) ?_
        refine z_iconst (pc := 47) (v := iz (-1)) O dX8_judge_47 (by decide) ?_
        refine z_iret (pc := 48) O dX8_judge_48 ?_
        exact ⟨(-1), rfl, (by decide), frτ5, (InvX.fr frτ5 I (by unfold InvX1; have : gI τ5 2 1 = gI σ 2 1 := gI_iz (Fr.it frτ5 rfl (izg σ 2 1)) (rgI _ _ _); have : gI τ5 9 7 = gI σ 9 7 := gI_iz (Fr.it frτ5 rfl (izg σ 9 7)) (rgI _ _ _); have : gI τ5 16 4 = gI σ 16 4 := gI_iz (Fr.it frτ5 rfl (izg σ 16 4)) (rgI _ _ _); have : gI τ5 21 4 = gI σ 21 4 := gI_iz (Fr.it frτ5 rfl (izg σ 21 4)) (rgI _ _ _); have : gI τ5 2 12 = gI σ 2 12 := gI_iz (Fr.it frτ5 rfl (izg σ 2 12)) (rgI _ _ _); have : gI τ5 27 3 = gI σ 27 3 := gI_iz (Fr.it frτ5 rfl (izg σ 27 3)) (rgI _ _ _); have : gI τ5 2 15 = gI σ 2 15 := gI_iz (Fr.it frτ5 rfl (izg σ 2 15)) (rgI _ _ _); have : gI τ5 2 7 = gI σ 2 7 := gI_iz (Fr.it frτ5 rfl (izg σ 2 7)) (rgI _ _ _); omega) (fun _ => rfl))⟩
      · have := ho4.1
        refine z_astore_n (pc := 25) [(0, .ref 2), (1, .int (iz w)), (2, .ref o2), (3, .ref o4)] O dX8_judge_25 (by decide) rfl ?_
        refine z_aload_n (pc := 26) O dX8_judge_26 rfl ?_
        refine z_aload_n (pc := 27) O dX8_judge_27 rfl ?_
        refine z_aload_n (pc := 28) O dX8_judge_28 rfl ?_
        refine zi_getv (pc := 29) (gI σ 2 7) O fl_X8_133 rfl (jo_2 I.1) (izg σ 2 7) dX8_judge_29 ?_
        have := rgI σ 2 7
        refine z_callV (pc := 32) O cl_X8_162 (k8_sumAsKnown _ _ o2 (gI σ 2 7) (by omega) I ho2) (by decide) (jo_2 I.1) kc_8 rfl rfl (Nat.le_of_ble_eq_true rfl) ⟨Nat.zero_le _, Nat.zero_le _⟩ dX8_judge_32 (fun r τ7 hp => ?_)
        obtain ⟨z8, rfl, fτ7_0, frτ7⟩ := hp
        refine z_istore (pc := 35) [(0, .ref 2), (1, .int (iz w)), (2, .ref o2), (3, .ref o4), (4, .int (iz z8))] O dX8_judge_35 (by decide) rfl ?_
        refine z_aload_n (pc := 37) O dX8_judge_37 rfl ?_
        refine z_ifnull (pc := 38) O dX8_judge_38 ?_
        refine z_iload (pc := 41) O dX8_judge_41 rfl ?_
        refine z_iconst (pc := 43) (v := iz (-1)) O dX8_judge_43 (by decide) ?_
        refine zi_icmp_ne (pc := 44) (tgt := 49) O dX8_judge_44 (by decide) (by omega) (by decide) (fun h44 => ?_) (fun h44 => ?_)
        · refine z_aload_n (pc := 49) O dX8_judge_49 rfl ?_
          refine z_aload_n (pc := 50) O dX8_judge_50 rfl ?_
          refine zi_getv (pc := 51) (gI σ 2 7) O fl_X8_133 rfl (jo_2 (frτ7.lay I.1)) (Fr.it frτ7 rfl (izg σ 2 7)) dX8_judge_51 ?_
          refine z_putI (pc := 54) O fl_X8_169 rfl ⟨rfl, rfl⟩ ((CaseOK.fr frτ7 ho2)).is dX8_judge_54 ?_
          refine z_aload_n (pc := 57) O dX8_judge_57 rfl ?_
          refine z_iload (pc := 58) O dX8_judge_58 rfl ?_
          refine z_putI (pc := 60) O fl_X8_197 rfl ⟨rfl, rfl⟩ ((show CaseOK (sI τ7 o2 7 (iz (gI σ 2 7))) o2 from CaseOK.fr ((Fr.rf [] τ7).pD (by omega) (Or.inr ((CaseOK.fr frτ7 ho2)).2.2)) (CaseOK.fr frτ7 ho2))).is dX8_judge_60 ?_
          refine z_aload_n (pc := 63) O dX8_judge_63 rfl ?_
          refine z_aload_n (pc := 64) O dX8_judge_64 rfl ?_
          refine zi_getv (pc := 65) (gI (sI (sI τ7 o2 7 (iz (gI σ 2 7))) o2 8 (iz z8)) o4 7) O fl_X8_200 rfl ((show LawOK (sI (sI τ7 o2 7 (iz (gI σ 2 7))) o2 8 (iz z8)) o4 from LawOK.fr (((Fr.rf [] τ7).pD (by omega) (Or.inr ((CaseOK.fr frτ7 ho2)).2.2)).pD (by omega) (Or.inr ((CaseOK.fr frτ7 ho2)).2.2)) (LawOK.fr frτ7 ho4))).is (izg _ o4 7) dX8_judge_65 ?_
          have := rgI (sI (sI τ7 o2 7 (iz (gI σ 2 7))) o2 8 (iz z8)) o4 7
          refine z_putI (pc := 68) O fl_X8_203 rfl ⟨rfl, rfl⟩ ((show CaseOK (sI (sI τ7 o2 7 (iz (gI σ 2 7))) o2 8 (iz z8)) o2 from CaseOK.fr (((Fr.rf [] τ7).pD (by omega) (Or.inr ((CaseOK.fr frτ7 ho2)).2.2)).pD (by omega) (Or.inr ((CaseOK.fr frτ7 ho2)).2.2)) (CaseOK.fr frτ7 ho2))).is dX8_judge_68 ?_
          refine z_aload_n (pc := 71) O dX8_judge_71 rfl ?_
          refine z_aload_n (pc := 72) O dX8_judge_72 rfl ?_
          refine zi_getv (pc := 73) (gI (sI (sI (sI τ7 o2 7 (iz (gI σ 2 7))) o2 8 (iz z8)) o2 9 (iz (gI (sI (sI τ7 o2 7 (iz (gI σ 2 7))) o2 8 (iz z8)) o4 7))) o4 8) O fl_X8_204 rfl ((show LawOK (sI (sI (sI τ7 o2 7 (iz (gI σ 2 7))) o2 8 (iz z8)) o2 9 (iz (gI (sI (sI τ7 o2 7 (iz (gI σ 2 7))) o2 8 (iz z8)) o4 7))) o4 from LawOK.fr ((((Fr.rf [] τ7).pD (by omega) (Or.inr ((CaseOK.fr frτ7 ho2)).2.2)).pD (by omega) (Or.inr ((CaseOK.fr frτ7 ho2)).2.2)).pD (by omega) (Or.inr ((CaseOK.fr frτ7 ho2)).2.2)) (LawOK.fr frτ7 ho4))).is (izg _ o4 8) dX8_judge_73 ?_
          have := rgI (sI (sI (sI τ7 o2 7 (iz (gI σ 2 7))) o2 8 (iz z8)) o2 9 (iz (gI (sI (sI τ7 o2 7 (iz (gI σ 2 7))) o2 8 (iz z8)) o4 7))) o4 8
          refine z_putI (pc := 76) O fl_X8_207 rfl ⟨rfl, rfl⟩ ((show CaseOK (sI (sI (sI τ7 o2 7 (iz (gI σ 2 7))) o2 8 (iz z8)) o2 9 (iz (gI (sI (sI τ7 o2 7 (iz (gI σ 2 7))) o2 8 (iz z8)) o4 7))) o2 from CaseOK.fr ((((Fr.rf [] τ7).pD (by omega) (Or.inr ((CaseOK.fr frτ7 ho2)).2.2)).pD (by omega) (Or.inr ((CaseOK.fr frτ7 ho2)).2.2)).pD (by omega) (Or.inr ((CaseOK.fr frτ7 ho2)).2.2)) (CaseOK.fr frτ7 ho2))).is dX8_judge_76 ?_
          refine z_iload (pc := 79) O dX8_judge_79 rfl ?_
          refine z_iret (pc := 81) O dX8_judge_81 ?_
          exact ⟨z8, rfl, (by omega), ((((frτ7.pD (by omega) (Or.inr (ho2).2.2)).pD (by omega) (Or.inr (ho2).2.2)).pD (by omega) (Or.inr (ho2).2.2)).pD (by omega) (Or.inr (ho2).2.2)), (InvX.fr ((((frτ7.pD (by omega) (Or.inr (ho2).2.2)).pD (by omega) (Or.inr (ho2).2.2)).pD (by omega) (Or.inr (ho2).2.2)).pD (by omega) (Or.inr (ho2).2.2)) I (by unfold InvX1; have : gI (sI (sI (sI (sI τ7 o2 7 (iz (gI σ 2 7))) o2 8 (iz z8)) o2 9 (iz (gI (sI (sI τ7 o2 7 (iz (gI σ 2 7))) o2 8 (iz z8)) o4 7))) o2 10 (iz (gI (sI (sI (sI τ7 o2 7 (iz (gI σ 2 7))) o2 8 (iz z8)) o2 9 (iz (gI (sI (sI τ7 o2 7 (iz (gI σ 2 7))) o2 8 (iz z8)) o4 7))) o4 8))) 2 1 = gI σ 2 1 := gI_iz (sk1t (by omega) (sk1t (by omega) (sk1t (by omega) (sk1t (by omega) (Fr.it frτ7 rfl (izg σ 2 1)))))) (rgI _ _ _); have : gI (sI (sI (sI (sI τ7 o2 7 (iz (gI σ 2 7))) o2 8 (iz z8)) o2 9 (iz (gI (sI (sI τ7 o2 7 (iz (gI σ 2 7))) o2 8 (iz z8)) o4 7))) o2 10 (iz (gI (sI (sI (sI τ7 o2 7 (iz (gI σ 2 7))) o2 8 (iz z8)) o2 9 (iz (gI (sI (sI τ7 o2 7 (iz (gI σ 2 7))) o2 8 (iz z8)) o4 7))) o4 8))) 9 7 = gI σ 9 7 := gI_iz (sk1t (by omega) (sk1t (by omega) (sk1t (by omega) (sk1t (by omega) (Fr.it frτ7 rfl (izg σ 9 7)))))) (rgI _ _ _); have : gI (sI (sI (sI (sI τ7 o2 7 (iz (gI σ 2 7))) o2 8 (iz z8)) o2 9 (iz (gI (sI (sI τ7 o2 7 (iz (gI σ 2 7))) o2 8 (iz z8)) o4 7))) o2 10 (iz (gI (sI (sI (sI τ7 o2 7 (iz (gI σ 2 7))) o2 8 (iz z8)) o2 9 (iz (gI (sI (sI τ7 o2 7 (iz (gI σ 2 7))) o2 8 (iz z8)) o4 7))) o4 8))) 16 4 = gI σ 16 4 := gI_iz (sk1t (by omega) (sk1t (by omega) (sk1t (by omega) (sk1t (by omega) (Fr.it frτ7 rfl (izg σ 16 4)))))) (rgI _ _ _); have : gI (sI (sI (sI (sI τ7 o2 7 (iz (gI σ 2 7))) o2 8 (iz z8)) o2 9 (iz (gI (sI (sI τ7 o2 7 (iz (gI σ 2 7))) o2 8 (iz z8)) o4 7))) o2 10 (iz (gI (sI (sI (sI τ7 o2 7 (iz (gI σ 2 7))) o2 8 (iz z8)) o2 9 (iz (gI (sI (sI τ7 o2 7 (iz (gI σ 2 7))) o2 8 (iz z8)) o4 7))) o4 8))) 21 4 = gI σ 21 4 := gI_iz (sk1t (by omega) (sk1t (by omega) (sk1t (by omega) (sk1t (by omega) (Fr.it frτ7 rfl (izg σ 21 4)))))) (rgI _ _ _); have : gI (sI (sI (sI (sI τ7 o2 7 (iz (gI σ 2 7))) o2 8 (iz z8)) o2 9 (iz (gI (sI (sI τ7 o2 7 (iz (gI σ 2 7))) o2 8 (iz z8)) o4 7))) o2 10 (iz (gI (sI (sI (sI τ7 o2 7 (iz (gI σ 2 7))) o2 8 (iz z8)) o2 9 (iz (gI (sI (sI τ7 o2 7 (iz (gI σ 2 7))) o2 8 (iz z8)) o4 7))) o4 8))) 2 12 = gI σ 2 12 := gI_iz (sk1t (by omega) (sk1t (by omega) (sk1t (by omega) (sk1t (by omega) (Fr.it frτ7 rfl (izg σ 2 12)))))) (rgI _ _ _); have : gI (sI (sI (sI (sI τ7 o2 7 (iz (gI σ 2 7))) o2 8 (iz z8)) o2 9 (iz (gI (sI (sI τ7 o2 7 (iz (gI σ 2 7))) o2 8 (iz z8)) o4 7))) o2 10 (iz (gI (sI (sI (sI τ7 o2 7 (iz (gI σ 2 7))) o2 8 (iz z8)) o2 9 (iz (gI (sI (sI τ7 o2 7 (iz (gI σ 2 7))) o2 8 (iz z8)) o4 7))) o4 8))) 27 3 = gI σ 27 3 := gI_iz (sk1t (by omega) (sk1t (by omega) (sk1t (by omega) (sk1t (by omega) (Fr.it frτ7 rfl (izg σ 27 3)))))) (rgI _ _ _); have : gI (sI (sI (sI (sI τ7 o2 7 (iz (gI σ 2 7))) o2 8 (iz z8)) o2 9 (iz (gI (sI (sI τ7 o2 7 (iz (gI σ 2 7))) o2 8 (iz z8)) o4 7))) o2 10 (iz (gI (sI (sI (sI τ7 o2 7 (iz (gI σ 2 7))) o2 8 (iz z8)) o2 9 (iz (gI (sI (sI τ7 o2 7 (iz (gI σ 2 7))) o2 8 (iz z8)) o4 7))) o4 8))) 2 15 = gI σ 2 15 := gI_iz (sk1t (by omega) (sk1t (by omega) (sk1t (by omega) (sk1t (by omega) (Fr.it frτ7 rfl (izg σ 2 15)))))) (rgI _ _ _); have : gI (sI (sI (sI (sI τ7 o2 7 (iz (gI σ 2 7))) o2 8 (iz z8)) o2 9 (iz (gI (sI (sI τ7 o2 7 (iz (gI σ 2 7))) o2 8 (iz z8)) o4 7))) o2 10 (iz (gI (sI (sI (sI τ7 o2 7 (iz (gI σ 2 7))) o2 8 (iz z8)) o2 9 (iz (gI (sI (sI τ7 o2 7 (iz (gI σ 2 7))) o2 8 (iz z8)) o4 7))) o4 8))) 2 7 = gI σ 2 7 := gI_iz (sk1t (by omega) (sk1t (by omega) (sk1t (by omega) (sk1t (by omega) (Fr.it frτ7 rfl (izg σ 2 7)))))) (rgI _ _ _); omega) (fun _ => rfl))⟩
        · refine z_iconst (pc := 47) (v := iz (-1)) O dX8_judge_47 (by decide) ?_
          refine z_iret (pc := 48) O dX8_judge_48 ?_
          exact ⟨(-1), rfl, (by decide), frτ7, (InvX.fr frτ7 I (by unfold InvX1; have : gI τ7 2 1 = gI σ 2 1 := gI_iz (Fr.it frτ7 rfl (izg σ 2 1)) (rgI _ _ _); have : gI τ7 9 7 = gI σ 9 7 := gI_iz (Fr.it frτ7 rfl (izg σ 9 7)) (rgI _ _ _); have : gI τ7 16 4 = gI σ 16 4 := gI_iz (Fr.it frτ7 rfl (izg σ 16 4)) (rgI _ _ _); have : gI τ7 21 4 = gI σ 21 4 := gI_iz (Fr.it frτ7 rfl (izg σ 21 4)) (rgI _ _ _); have : gI τ7 2 12 = gI σ 2 12 := gI_iz (Fr.it frτ7 rfl (izg σ 2 12)) (rgI _ _ _); have : gI τ7 27 3 = gI σ 27 3 := gI_iz (Fr.it frτ7 rfl (izg σ 27 3)) (rgI _ _ _); have : gI τ7 2 15 = gI σ 2 15 := gI_iz (Fr.it frτ7 rfl (izg σ 2 15)) (rgI _ _ _); have : gI τ7 2 7 = gI σ 2 7 := gI_iz (Fr.it frτ7 rfl (izg σ 2 7)) (rgI _ _ _); omega) (fun _ => rfl))⟩
    · refine z_iconst (pc := 18) (v := iz (-1)) O dX8_judge_18 (by decide) ?_
      refine z_iret (pc := 19) O dX8_judge_19 ?_
      exact ⟨(-1), rfl, (by decide), (Fr.rf [(14, 99999), (32, 99999)] σ), I⟩
set_option maxHeartbeats 4000000 in
set_option maxRecDepth 20000 in
theorem k8_pay (l : Launch) (σ : VH) (w : Int) (rw : (-2147483648 ≤ w ∧ w < 2147483648)) (k : Int) (rk : (-2147483648 ≤ k ∧ k < 2147483648)) (b : Int) (rb : (-2147483648 ≤ b ∧ b < 2147483648)) (I : InvX σ) : Ct l yX8_pay cX8_pay 5 (some .int) 1 0 0 [.ref 2, .int (iz w), .int (iz k), .int (iz b)] σ (fun r τ => ∃ z : Int, r = some (.int (iz z)) ∧ (-2147483648 ≤ z ∧ z < 2147483648) ∧ (Fr [(28, 99999), (29, 99999), (30, 99999), (27, 3)] σ τ) ∧ (InvX τ)) := by
  refine Ct.enter rfl (Nat.le_of_ble_eq_true rfl) ?_
  intro κ γ hκ O hrc hrs
  subst hκ
  have i1 := I.2.1
  unfold InvX1 at i1
  refine z_aload_n (pc := 0) O dX8_pay_0 rfl ?_
  refine z_iload_n (pc := 1) O dX8_pay_1 rfl ?_
  refine z_callV (pc := 2) O cl_X8_158 (k8_caseAt _ _ w (by omega) I) (by decide) (jo_2 I.1) kc_8 rfl rfl (Nat.le_of_ble_eq_true rfl) ⟨Nat.zero_le _, Nat.zero_le _⟩ dX8_pay_2 (fun r τ1 hp => ?_)
  obtain ⟨rfl, hq⟩ := hp
  rcases hq with rfl | ⟨o2, rfl, ho2⟩
  · refine z_astoreN (pc := 5) [(0, .ref 2), (1, .int (iz w)), (2, .int (iz k)), (3, .int (iz b)), (4, .null)] O dX8_pay_5 (by decide) rfl ?_
    refine z_aloadN (pc := 7) O dX8_pay_7 rfl ?_
    refine z_ifnullN (pc := 9) (tgt := 21) O dX8_pay_9 (by decide) ?_
    refine z_iconst (pc := 21) (v := iz (-1)) O dX8_pay_21 (by decide) ?_
    refine z_iret (pc := 22) O dX8_pay_22 ?_
    exact ⟨(-1), rfl, (by decide), (Fr.rf [(28, 99999), (29, 99999), (30, 99999), (27, 3)] σ), I⟩
  · have := ho2.1
    refine z_astore (pc := 5) [(0, .ref 2), (1, .int (iz w)), (2, .int (iz k)), (3, .int (iz b)), (4, .ref o2)] O dX8_pay_5 (by decide) rfl ?_
    refine z_aload (pc := 7) O dX8_pay_7 rfl ?_
    refine z_ifnull (pc := 9) O dX8_pay_9 ?_
    refine z_aload (pc := 12) O dX8_pay_12 rfl ?_
    refine zi_getv (pc := 14) (gI σ o2 7) O fl_X8_169 rfl (ho2).is (izg _ o2 7) dX8_pay_14 ?_
    have := rgI σ o2 7
    refine z_iconst (pc := 17) (v := iz (-1)) O dX8_pay_17 (by decide) ?_
    refine zi_icmp_ne (pc := 18) (tgt := 23) O dX8_pay_18 (by decide) (by omega) (by decide) (fun h18 => ?_) (fun h18 => ?_)
    · refine z_iload_n (pc := 23) O dX8_pay_23 rfl ?_
      refine z_callS (pc := 24) O cl_X8_208 (k8_isKind _ _ k (by omega)) (by decide) rfl rfl (Nat.le_of_ble_eq_true rfl) ⟨Nat.zero_le _, Nat.zero_le _⟩ dX8_pay_24 (fun r τ3 hp => ?_)
      obtain ⟨z4, rfl, fτ3_0, fτ3_1, rfl⟩ := hp
      refine zi_if_eq (pc := 27) (tgt := 42) O dX8_pay_27 (by decide) (by omega) (fun h27 => ?_) (fun h27 => ?_)
      · refine z_iconst (pc := 42) (v := iz (-1)) O dX8_pay_42 (by decide) ?_
        refine z_iret (pc := 43) O dX8_pay_43 ?_
        exact ⟨(-1), rfl, (by decide), (Fr.rf [(28, 99999), (29, 99999), (30, 99999), (27, 3)] σ), I⟩
      · refine z_iload_n (pc := 30) O dX8_pay_30 rfl ?_
        refine z_iconst (pc := 31) (v := iz (1)) O dX8_pay_31 (by decide) ?_
        refine zi_icmp_lt (pc := 32) (tgt := 42) O dX8_pay_32 (by decide) (by omega) (by decide) (fun h32 => ?_) (fun h32 => ?_)
        · refine z_iconst (pc := 42) (v := iz (-1)) O dX8_pay_42 (by decide) ?_
          refine z_iret (pc := 43) O dX8_pay_43 ?_
          exact ⟨(-1), rfl, (by decide), (Fr.rf [(28, 99999), (29, 99999), (30, 99999), (27, 3)] σ), I⟩
        · refine z_iload_n (pc := 35) O dX8_pay_35 rfl ?_
          refine z_sipush (pc := 36) (v := iz (1000)) O dX8_pay_36 (by decide) ?_
          refine zi_icmp_le (pc := 39) (tgt := 44) O dX8_pay_39 (by decide) (by omega) (by decide) (fun h39 => ?_) (fun h39 => ?_)
          · refine z_aload_n (pc := 44) O dX8_pay_44 rfl ?_
            refine z_getR (pc := 45) 27 O fl_X8_64 rfl (jo_2 I.1) (jr_2_13 I.1) dX8_pay_45 ?_
            refine z_iload_n (pc := 48) O dX8_pay_48 rfl ?_
            refine z_aload_n (pc := 49) O dX8_pay_49 rfl ?_
            refine zi_getv (pc := 50) (gI σ 2 7) O fl_X8_133 rfl (jo_2 I.1) (izg σ 2 7) dX8_pay_50 ?_
            have := rgI σ 2 7
            refine z_aload_n (pc := 53) O dX8_pay_53 rfl ?_
            refine z_getR (pc := 54) 31 O fl_X8_68 rfl (jo_2 I.1) (jr_2_14 I.1) dX8_pay_54 ?_
            refine z_iload_n (pc := 57) O dX8_pay_57 rfl ?_
            refine zi_ialdv (pc := 58) (k.toNat) (gI σ 31 (k.toNat)) O (ja_31 I.1) (by omega) (by omega) (by omega) (izg σ 31 (k.toNat)) dX8_pay_58 ?_
            have := rgI σ 31 (k.toNat)
            refine z_iload_n (pc := 59) O dX8_pay_59 rfl ?_
            refine zi_imul (pc := 60) O dX8_pay_60 ?_
            refine zi_any (fun z5 rz5 ez5 => ?_)
            refine z_callV (pc := 61) O cl_X8_214 (k2_add _ _ w (by omega) (gI σ 2 7) (by omega) z5 (by omega) I.1 (by omega)) (by decide) (jo_27 I.1) kc_2 rfl rfl (Nat.le_of_ble_eq_true rfl) ⟨Nat.zero_le _, Nat.zero_le _⟩ dX8_pay_61 (fun r τ6 hp => ?_)
            obtain ⟨z7, rfl, fτ6_0, frτ6, eτ6_0⟩ := hp
            refine z_iret (pc := 64) O dX8_pay_64 ?_
            exact ⟨z7, rfl, (by omega), frτ6, (InvX.fr frτ6 I (by unfold InvX1; have : gI τ6 2 1 = gI σ 2 1 := gI_iz (Fr.it frτ6 rfl (izg σ 2 1)) (rgI _ _ _); have : gI τ6 9 7 = gI σ 9 7 := gI_iz (Fr.it frτ6 rfl (izg σ 9 7)) (rgI _ _ _); have : gI τ6 16 4 = gI σ 16 4 := gI_iz (Fr.it frτ6 rfl (izg σ 16 4)) (rgI _ _ _); have : gI τ6 21 4 = gI σ 21 4 := gI_iz (Fr.it frτ6 rfl (izg σ 21 4)) (rgI _ _ _); have : gI τ6 2 12 = gI σ 2 12 := gI_iz (Fr.it frτ6 rfl (izg σ 2 12)) (rgI _ _ _); have : gI τ6 2 15 = gI σ 2 15 := gI_iz (Fr.it frτ6 rfl (izg σ 2 15)) (rgI _ _ _); have : gI τ6 2 7 = gI σ 2 7 := gI_iz (Fr.it frτ6 rfl (izg σ 2 7)) (rgI _ _ _); omega) (fun _ => rfl))⟩
          · refine z_iconst (pc := 42) (v := iz (-1)) O dX8_pay_42 (by decide) ?_
            refine z_iret (pc := 43) O dX8_pay_43 ?_
            exact ⟨(-1), rfl, (by decide), (Fr.rf [(28, 99999), (29, 99999), (30, 99999), (27, 3)] σ), I⟩
    · refine z_iconst (pc := 21) (v := iz (-1)) O dX8_pay_21 (by decide) ?_
      refine z_iret (pc := 22) O dX8_pay_22 ?_
      exact ⟨(-1), rfl, (by decide), (Fr.rf [(28, 99999), (29, 99999), (30, 99999), (27, 3)] σ), I⟩
set_option maxHeartbeats 4000000 in
set_option maxRecDepth 20000 in
theorem k8_owed (l : Launch) (σ : VH) (w : Int) (rw : (-2147483648 ≤ w ∧ w < 2147483648)) (d : Int) (rd : (-2147483648 ≤ d ∧ d < 2147483648)) (I : InvX σ) : Ct l yX8_owed cX8_owed 4 (some .int) 2 0 0 [.ref 2, .int (iz w), .int (iz d)] σ (fun r τ => ∃ z : Int, r = some (.int (iz z)) ∧ (-2147483648 ≤ z ∧ z < 2147483648) ∧ (Fr [] σ τ) ∧ (InvX τ)) := by
  refine Ct.enter rfl (Nat.le_of_ble_eq_true rfl) ?_
  intro κ γ hκ O hrc hrs
  subst hκ
  have i1 := I.2.1
  unfold InvX1 at i1
  refine z_aload_n (pc := 0) O dX8_owed_0 rfl ?_
  refine z_iload_n (pc := 1) O dX8_owed_1 rfl ?_
  refine z_callV (pc := 2) O cl_X8_158 (k8_caseAt _ _ w (by omega) I) (by decide) (jo_2 I.1) kc_8 rfl rfl (Nat.le_of_ble_eq_true rfl) ⟨Nat.zero_le _, Nat.zero_le _⟩ dX8_owed_2 (fun r τ1 hp => ?_)
  obtain ⟨rfl, hq⟩ := hp
  rcases hq with rfl | ⟨o2, rfl, ho2⟩
  · refine z_astore_nN (pc := 5) [(0, .ref 2), (1, .int (iz w)), (2, .int (iz d)), (3, .null)] O dX8_owed_5 (by decide) rfl ?_
    refine z_aload_nN (pc := 6) O dX8_owed_6 rfl ?_
    refine z_ifnullN (pc := 7) (tgt := 34) O dX8_owed_7 (by decide) ?_
    refine z_ldc (pc := 34) O tw_736 dX8_owed_34 ?_
    refine zi_val (-2000000001) (by decide) ?_
    refine z_iret (pc := 36) O dX8_owed_36 ?_
    exact ⟨(-2000000001), rfl, (by decide), (Fr.rf [] σ), I⟩
  · have := ho2.1
    refine z_astore_n (pc := 5) [(0, .ref 2), (1, .int (iz w)), (2, .int (iz d)), (3, .ref o2)] O dX8_owed_5 (by decide) rfl ?_
    refine z_aload_n (pc := 6) O dX8_owed_6 rfl ?_
    refine z_ifnull (pc := 7) O dX8_owed_7 ?_
    refine z_aload_n (pc := 10) O dX8_owed_10 rfl ?_
    refine zi_getv (pc := 11) (gI σ o2 7) O fl_X8_169 rfl (ho2).is (izg _ o2 7) dX8_owed_11 ?_
    have := rgI σ o2 7
    refine z_iconst (pc := 14) (v := iz (-1)) O dX8_owed_14 (by decide) ?_
    refine zi_icmp_eq (pc := 15) (tgt := 34) O dX8_owed_15 (by decide) (by omega) (by decide) (fun h15 => ?_) (fun h15 => ?_)
    · refine z_ldc (pc := 34) O tw_736 dX8_owed_34 ?_
      refine zi_val (-2000000001) (by decide) ?_
      refine z_iret (pc := 36) O dX8_owed_36 ?_
      exact ⟨(-2000000001), rfl, (by decide), (Fr.rf [] σ), I⟩
    · refine z_iload_n (pc := 18) O dX8_owed_18 rfl ?_
      refine z_aload_n (pc := 19) O dX8_owed_19 rfl ?_
      refine zi_getv (pc := 20) (gI σ o2 7) O fl_X8_169 rfl (ho2).is (izg _ o2 7) dX8_owed_20 ?_
      refine zi_icmp_lt (pc := 23) (tgt := 34) O dX8_owed_23 (by decide) (by omega) (by omega) (fun h23 => ?_) (fun h23 => ?_)
      · refine z_ldc (pc := 34) O tw_736 dX8_owed_34 ?_
        refine zi_val (-2000000001) (by decide) ?_
        refine z_iret (pc := 36) O dX8_owed_36 ?_
        exact ⟨(-2000000001), rfl, (by decide), (Fr.rf [] σ), I⟩
      · refine z_iload_n (pc := 26) O dX8_owed_26 rfl ?_
        refine z_aload_n (pc := 27) O dX8_owed_27 rfl ?_
        refine zi_getv (pc := 28) (gI σ 2 7) O fl_X8_133 rfl (jo_2 I.1) (izg σ 2 7) dX8_owed_28 ?_
        have := rgI σ 2 7
        refine zi_icmp_le (pc := 31) (tgt := 37) O dX8_owed_31 (by decide) (by omega) (by omega) (fun h31 => ?_) (fun h31 => ?_)
        · refine z_aload_n (pc := 37) O dX8_owed_37 rfl ?_
          refine z_aload_n (pc := 38) O dX8_owed_38 rfl ?_
          refine z_iload_n (pc := 39) O dX8_owed_39 rfl ?_
          refine z_iload_n (pc := 40) O dX8_owed_40 rfl ?_
          refine z_callV (pc := 41) O cl_X8_216 (k8_owedOn _ _ o2 w (by omega) d (by omega) I.1 (by omega) ho2) (by decide) (jo_2 I.1) kc_8 rfl rfl (Nat.le_of_ble_eq_true rfl) ⟨Nat.zero_le _, Nat.zero_le _⟩ dX8_owed_41 (fun r τ3 hp => ?_)
          obtain ⟨z4, rfl, fτ3_0, rfl⟩ := hp
          refine z_iret (pc := 44) O dX8_owed_44 ?_
          exact ⟨z4, rfl, (by omega), (Fr.rf [] σ), I⟩
        · refine z_ldc (pc := 34) O tw_736 dX8_owed_34 ?_
          refine zi_val (-2000000001) (by decide) ?_
          refine z_iret (pc := 36) O dX8_owed_36 ?_
          exact ⟨(-2000000001), rfl, (by decide), (Fr.rf [] σ), I⟩
