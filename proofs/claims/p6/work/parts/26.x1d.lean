set_option maxHeartbeats 4000000 in
set_option maxRecDepth 20000 in
theorem k1_operand (l : Launch) (σ : VH) (t : Int) (rt : (-2147483648 ≤ t ∧ t < 2147483648)) (J : Lay σ) : Ct l yX1_operand cX1_operand 3 (some .int) 0 0 0 [.int (iz t), .ref 32] σ (fun r τ => ∃ z : Int, r = some (.int (iz z)) ∧ (-2147483648 ≤ z ∧ z < 2147483648) ∧ (σ = τ)) := by
  refine Ct.enter rfl (Nat.le_of_ble_eq_true rfl) ?_
  intro κ γ hκ O hrc hrs
  subst hκ
  refine z_iconst (pc := 0) (v := iz (-1)) O dX1_operand_0 (by decide) ?_
  refine z_iload_n (pc := 1) O dX1_operand_1 rfl ?_
  refine zi_isub (pc := 2) O dX1_operand_2 ?_
  refine z_istore_n (pc := 3) [(0, .int (iz t)), (1, .ref 32), (2, .int (iz ((-1) - t)))] O dX1_operand_3 (by decide) rfl ?_
  refine z_iload_n (pc := 4) O dX1_operand_4 rfl ?_
  refine zi_if_lt (pc := 5) (tgt := 20) O dX1_operand_5 (by decide) (by omega) (fun h5 => ?_) (fun h5 => ?_)
  · refine z_iload_n (pc := 20) O dX1_operand_20 rfl ?_
    refine z_iret (pc := 21) O dX1_operand_21 ?_
    exact ⟨t, rfl, (by omega), rfl⟩
  · refine z_iload_n (pc := 8) O dX1_operand_8 rfl ?_
    refine z_aload_n (pc := 9) O dX1_operand_9 rfl ?_
    refine z_alen (pc := 10) (t0 := 2) (n := iz 7) O (ja_32 J) (by decide) rfl (by decide) dX1_operand_10 ?_
    refine zi_icmp_ge (pc := 11) (tgt := 20) O dX1_operand_11 (by decide) (by omega) (by decide) (fun h11 => ?_) (fun h11 => ?_)
    · refine z_iload_n (pc := 20) O dX1_operand_20 rfl ?_
      refine z_iret (pc := 21) O dX1_operand_21 ?_
      exact ⟨t, rfl, (by omega), rfl⟩
    · refine z_aload_n (pc := 14) O dX1_operand_14 rfl ?_
      refine z_iload_n (pc := 15) O dX1_operand_15 rfl ?_
      refine zi_ialdv (pc := 16) (((-1) - t).toNat) (gI σ 32 (((-1) - t).toNat)) O (ja_32 J) (by omega) (by omega) (by omega) (izg σ 32 (((-1) - t).toNat)) dX1_operand_16 ?_
      have := rgI σ 32 (((-1) - t).toNat)
      refine z_goto (pc := 17) (tgt := 21) O dX1_operand_17 (by decide) ?_
      refine z_iret (pc := 21) O dX1_operand_21 ?_
      exact ⟨(gI σ 32 (((-1) - t).toNat)), rfl, (by omega), rfl⟩
set_option maxHeartbeats 4000000 in
set_option maxRecDepth 20000 in
theorem k1_joined (l : Launch) (σ : VH) (c : Int) (rc : (-2147483648 ≤ c ∧ c < 2147483648)) (a : Int) (ra : (-2147483648 ≤ a ∧ a < 2147483648)) (b : Int) (rb : (-2147483648 ≤ b ∧ b < 2147483648)) : Ct l yX1_joined cX1_joined 3 (some .boolean) 0 0 0 [.int (iz c), .int (iz a), .int (iz b)] σ (fun r τ => ∃ z : Int, r = some (.int (iz z)) ∧ (z = 0 ∨ z = 1) ∧ (σ = τ)) := by
  refine Ct.enter rfl (Nat.le_of_ble_eq_true rfl) ?_
  intro κ γ hκ O hrc hrs
  subst hκ
  refine z_iload_n (pc := 0) O dX1_joined_0 rfl ?_
  by_cases hs1 : c < -15 ∨ -12 < c
  · refine zi_tableOut (pc := 1) (tgt := 82) O dX1_joined_1 (by omega) hs1 (by decide) ?_
    refine z_iload_n (pc := 82) O dX1_joined_82 rfl ?_
    refine z_iload_n (pc := 83) O dX1_joined_83 rfl ?_
    refine zi_icmp_ne (pc := 84) (tgt := 91) O dX1_joined_84 (by decide) (by omega) (by omega) (fun h84 => ?_) (fun h84 => ?_)
    · refine z_iconst (pc := 91) (v := iz (0)) O dX1_joined_91 (by decide) ?_
      refine z_zret (pc := 92) O dX1_joined_92 rfl ?_
      exact ⟨0, rfl, (by decide), rfl⟩
    · refine z_iconst (pc := 87) (v := iz (1)) O dX1_joined_87 (by decide) ?_
      refine z_goto (pc := 88) (tgt := 92) O dX1_joined_88 (by decide) ?_
      refine z_zret (pc := 92) O dX1_joined_92 rfl ?_
      exact ⟨1, rfl, (by decide), rfl⟩
  · have hs1x : c = -15 ∨ c = -14 ∨ c = -13 ∨ c = -12 := by omega
    obtain ⟨hs1a, hs1b⟩ := not_or.mp hs1
    rcases hs1x with hs1q | hs1q | hs1q | hs1q
    · refine zi_tableIn (pc := 1) (tgt := 71) O dX1_joined_1 (by omega) hs1a hs1b (by rw [hs1q]; rfl) (by decide) ?_
      refine z_iload_n (pc := 71) O dX1_joined_71 rfl ?_
      refine z_iload_n (pc := 72) O dX1_joined_72 rfl ?_
      refine zi_icmp_le (pc := 73) (tgt := 80) O dX1_joined_73 (by decide) (by omega) (by omega) (fun h73 => ?_) (fun h73 => ?_)
      · refine z_iconst (pc := 80) (v := iz (0)) O dX1_joined_80 (by decide) ?_
        refine z_zret (pc := 81) O dX1_joined_81 rfl ?_
        exact ⟨0, rfl, (by decide), rfl⟩
      · refine z_iconst (pc := 76) (v := iz (1)) O dX1_joined_76 (by decide) ?_
        refine z_goto (pc := 77) (tgt := 81) O dX1_joined_77 (by decide) ?_
        refine z_zret (pc := 81) O dX1_joined_81 rfl ?_
        exact ⟨1, rfl, (by decide), rfl⟩
    · refine zi_tableIn (pc := 1) (tgt := 60) O dX1_joined_1 (by omega) hs1a hs1b (by rw [hs1q]; rfl) (by decide) ?_
      refine z_iload_n (pc := 60) O dX1_joined_60 rfl ?_
      refine z_iload_n (pc := 61) O dX1_joined_61 rfl ?_
      refine zi_icmp_ge (pc := 62) (tgt := 69) O dX1_joined_62 (by decide) (by omega) (by omega) (fun h62 => ?_) (fun h62 => ?_)
      · refine z_iconst (pc := 69) (v := iz (0)) O dX1_joined_69 (by decide) ?_
        refine z_zret (pc := 70) O dX1_joined_70 rfl ?_
        exact ⟨0, rfl, (by decide), rfl⟩
      · refine z_iconst (pc := 65) (v := iz (1)) O dX1_joined_65 (by decide) ?_
        refine z_goto (pc := 66) (tgt := 70) O dX1_joined_66 (by decide) ?_
        refine z_zret (pc := 70) O dX1_joined_70 rfl ?_
        exact ⟨1, rfl, (by decide), rfl⟩
    · refine zi_tableIn (pc := 1) (tgt := 46) O dX1_joined_1 (by omega) hs1a hs1b (by rw [hs1q]; rfl) (by decide) ?_
      refine z_iload_n (pc := 46) O dX1_joined_46 rfl ?_
      refine zi_if_ne (pc := 47) (tgt := 54) O dX1_joined_47 (by decide) (by omega) (fun h47 => ?_) (fun h47 => ?_)
      · refine z_iconst (pc := 54) (v := iz (1)) O dX1_joined_54 (by decide) ?_
        refine z_goto (pc := 55) (tgt := 59) O dX1_joined_55 (by decide) ?_
        refine z_zret (pc := 59) O dX1_joined_59 rfl ?_
        exact ⟨1, rfl, (by decide), rfl⟩
      · refine z_iload_n (pc := 50) O dX1_joined_50 rfl ?_
        refine zi_if_eq (pc := 51) (tgt := 58) O dX1_joined_51 (by decide) (by omega) (fun h51 => ?_) (fun h51 => ?_)
        · refine z_iconst (pc := 58) (v := iz (0)) O dX1_joined_58 (by decide) ?_
          refine z_zret (pc := 59) O dX1_joined_59 rfl ?_
          exact ⟨0, rfl, (by decide), rfl⟩
        · refine z_iconst (pc := 54) (v := iz (1)) O dX1_joined_54 (by decide) ?_
          refine z_goto (pc := 55) (tgt := 59) O dX1_joined_55 (by decide) ?_
          refine z_zret (pc := 59) O dX1_joined_59 rfl ?_
          exact ⟨1, rfl, (by decide), rfl⟩
    · refine zi_tableIn (pc := 1) (tgt := 32) O dX1_joined_1 (by omega) hs1a hs1b (by rw [hs1q]; rfl) (by decide) ?_
      refine z_iload_n (pc := 32) O dX1_joined_32 rfl ?_
      refine zi_if_eq (pc := 33) (tgt := 44) O dX1_joined_33 (by decide) (by omega) (fun h33 => ?_) (fun h33 => ?_)
      · refine z_iconst (pc := 44) (v := iz (0)) O dX1_joined_44 (by decide) ?_
        refine z_zret (pc := 45) O dX1_joined_45 rfl ?_
        exact ⟨0, rfl, (by decide), rfl⟩
      · refine z_iload_n (pc := 36) O dX1_joined_36 rfl ?_
        refine zi_if_eq (pc := 37) (tgt := 44) O dX1_joined_37 (by decide) (by omega) (fun h37 => ?_) (fun h37 => ?_)
        · refine z_iconst (pc := 44) (v := iz (0)) O dX1_joined_44 (by decide) ?_
          refine z_zret (pc := 45) O dX1_joined_45 rfl ?_
          exact ⟨0, rfl, (by decide), rfl⟩
        · refine z_iconst (pc := 40) (v := iz (1)) O dX1_joined_40 (by decide) ?_
          refine z_goto (pc := 41) (tgt := 45) O dX1_joined_41 (by decide) ?_
          refine z_zret (pc := 45) O dX1_joined_45 rfl ?_
          exact ⟨1, rfl, (by decide), rfl⟩
set_option maxHeartbeats 4000000 in
set_option maxRecDepth 20000 in
theorem k1_changed (l : Launch) (σ : VH) (p : Int) (rp : (-2147483648 ≤ p ∧ p < 2147483648)) (c : Int) (rc : (-2147483648 ≤ c ∧ c < 2147483648)) (n : Int) (rn : (-2147483648 ≤ n ∧ n < 2147483648)) : Ct l yX1_changed cX1_changed 3 (some .int) 1 0 0 [.int (iz p), .int (iz c), .int (iz n)] σ (fun r τ => ∃ z : Int, r = some (.int (iz z)) ∧ (-2147483648 ≤ z ∧ z < 2147483648) ∧ (σ = τ)) := by
  refine Ct.enter rfl (Nat.le_of_ble_eq_true rfl) ?_
  intro κ γ hκ O hrc hrs
  subst hκ
  refine z_iload_n (pc := 0) O dX1_changed_0 rfl ?_
  by_cases hs1 : c < 0 ∨ 2 < c
  · refine zi_tableOut (pc := 1) (tgt := 50) O dX1_changed_1 (by omega) hs1 (by decide) ?_
    refine z_iload_n (pc := 50) O dX1_changed_50 rfl ?_
    refine z_iload_n (pc := 51) O dX1_changed_51 rfl ?_
    refine zi_isub (pc := 52) O dX1_changed_52 ?_
    refine zi_any (fun z2 rz2 ez2 => ?_)
    refine z_iconst (pc := 53) (v := iz (0)) O dX1_changed_53 (by decide) ?_
    refine zi_mmax (pc := 54) O (by decide) tw_661 tw_662 tw_11 tw_663 (Nat.le_of_ble_eq_true rfl) ⟨Nat.zero_le _, Nat.zero_le _⟩ dX1_changed_54 (fun z3 rz3 => ?_)
    refine z_iret (pc := 57) O dX1_changed_57 ?_
    exact ⟨z3, rfl, (by omega), rfl⟩
  · have hs1x : c = 0 ∨ c = 1 ∨ c = 2 := by omega
    obtain ⟨hs1a, hs1b⟩ := not_or.mp hs1
    rcases hs1x with hs1q | hs1q | hs1q
    · refine zi_tableIn (pc := 1) (tgt := 28) O dX1_changed_1 (by omega) hs1a hs1b (by rw [hs1q]; rfl) (by decide) ?_
      refine z_iload_n (pc := 28) O dX1_changed_28 rfl ?_
      refine z_iconst (pc := 29) (v := iz (2)) O dX1_changed_29 (by decide) ?_
      refine zi_imul (pc := 30) O dX1_changed_30 ?_
      refine zi_any (fun z4 rz4 ez4 => ?_)
      refine z_ldc (pc := 31) O tw_657 dX1_changed_31 ?_
      refine zi_val (10000000) (by decide) ?_
      refine zi_mmin (pc := 33) O (by decide) tw_658 tw_659 tw_11 tw_660 (Nat.le_of_ble_eq_true rfl) ⟨Nat.zero_le _, Nat.zero_le _⟩ dX1_changed_33 (fun z5 rz5 => ?_)
      refine z_iret (pc := 36) O dX1_changed_36 ?_
      exact ⟨z5, rfl, (by omega), rfl⟩
    · refine zi_tableIn (pc := 1) (tgt := 37) O dX1_changed_1 (by omega) hs1a hs1b (by rw [hs1q]; rfl) (by decide) ?_
      refine z_iload_n (pc := 37) O dX1_changed_37 rfl ?_
      refine z_iconst (pc := 38) (v := iz (2)) O dX1_changed_38 (by decide) ?_
      refine z_idiv (pc := 39) O dX1_changed_39 (by decide) ?_
      refine zi_any (fun z6 rz6 ez6 => ?_)
      refine z_iret (pc := 40) O dX1_changed_40 ?_
      exact ⟨z6, rfl, (by omega), rfl⟩
    · refine zi_tableIn (pc := 1) (tgt := 41) O dX1_changed_1 (by omega) hs1a hs1b (by rw [hs1q]; rfl) (by decide) ?_
      refine z_iload_n (pc := 41) O dX1_changed_41 rfl ?_
      refine z_iload_n (pc := 42) O dX1_changed_42 rfl ?_
      refine zi_iadd (pc := 43) O dX1_changed_43 ?_
      refine zi_any (fun z7 rz7 ez7 => ?_)
      refine z_ldc (pc := 44) O tw_657 dX1_changed_44 ?_
      refine zi_val (10000000) (by decide) ?_
      refine zi_mmin (pc := 46) O (by decide) tw_658 tw_659 tw_11 tw_660 (Nat.le_of_ble_eq_true rfl) ⟨Nat.zero_le _, Nat.zero_le _⟩ dX1_changed_46 (fun z8 rz8 => ?_)
      refine z_iret (pc := 49) O dX1_changed_49 ?_
      exact ⟨z8, rfl, (by omega), rfl⟩
set_option maxHeartbeats 4000000 in
set_option maxRecDepth 20000 in
theorem k1_holds (l : Launch) (σ : VH) (h : Nat) (p : Int) (rp : (-2147483648 ≤ p ∧ p < 2147483648)) (e : Int) (re : (-2147483648 ≤ e ∧ e < 2147483648)) (J : Lay σ) (hh : LawOK σ h) (hp : 0 ≤ p) : Ct l yX1_holds cX1_holds 7 (some .boolean) 1 0 0 [.ref h, .int (iz p), .int (iz e), .ref 32] σ (fun r τ => ∃ z : Int, r = some (.int (iz z)) ∧ (z = 0 ∨ z = 1) ∧ (Fr [] σ τ)) := by
  refine Ct.enter rfl (Nat.le_of_ble_eq_true rfl) ?_
  intro κ γ hκ O hrc hrs
  subst hκ
  have := hh.1
  refine z_iconst (pc := 0) (v := iz (0)) O dX1_holds_0 (by decide) ?_
  refine z_istore (pc := 1) [(0, .ref h), (1, .int (iz p)), (2, .int (iz e)), (3, .ref 32), (4, .int (iz 0))] O dX1_holds_1 (by decide) rfl ?_
  refine z_iload_n (pc := 3) O dX1_holds_3 rfl ?_
  refine z_istore (pc := 4) [(0, .ref h), (1, .int (iz p)), (2, .int (iz e)), (3, .ref 32), (4, .int (iz 0)), (5, .int (iz p))] O dX1_holds_4 (by decide) rfl ?_
  have cut6 : ∀ (mu6 : Nat) (t : Int) (k : Int) (ρ6 : VH), (mu6 = (e - k).toNat) → (-2147483648 ≤ t ∧ t < 2147483648) → (-2147483648 ≤ k ∧ k < 2147483648) → (0 ≤ t ∧ t ≤ 60) → (0 ≤ k) → (Fr [] σ ρ6) → Z κ γ 7 ρ6 0 0 (QM κ γ (fun r τ => ∃ z : Int, r = some (.int (iz z)) ∧ (z = 0 ∨ z = 1) ∧ (Fr [] σ τ)) 0 0) 6 [(0, .ref h), (1, .int (iz p)), (2, .int (iz e)), (3, .ref 32), (4, .int (iz t)), (5, .int (iz k))] [] := by
    intro mu6
    induction mu6 using Nat.strongRecOn with
    | ind mu6 ih6 =>
    intro t k ρ6 hmu6 rr6_0 rr6_1 ff6_0 ff6_1 frρ6
    refine z_iload (pc := 6) O dX1_holds_6 rfl ?_
    refine z_iload_n (pc := 8) O dX1_holds_8 rfl ?_
    refine zi_icmp_ge (pc := 9) (tgt := 161) O dX1_holds_9 (by decide) (by omega) (by omega) (fun h9 => ?_) (fun h9 => ?_)
    · refine z_iload (pc := 161) O dX1_holds_161 rfl ?_
      refine zi_if_le (pc := 163) (tgt := 179) O dX1_holds_163 (by decide) (by omega) (fun h163 => ?_) (fun h163 => ?_)
      · refine z_iconst (pc := 179) (v := iz (0)) O dX1_holds_179 (by decide) ?_
        refine z_zret (pc := 180) O dX1_holds_180 rfl ?_
        exact ⟨0, rfl, (by decide), frρ6⟩
      · refine z_aload_n (pc := 166) O dX1_holds_166 rfl ?_
        refine z_getR (pc := 167) (h + 7) O fl_X1_38 rfl ((LawOK.fr frρ6 hh)).is ((LawOK.fr frρ6 hh)).2.2.1.2.2.2.2.2.2.1 dX1_holds_167 ?_
        refine z_iconst (pc := 170) (v := iz (0)) O dX1_holds_170 (by decide) ?_
        refine zi_ialdv (pc := 171) 0 (gI ρ6 (h + 7) 0) O ((LawOK.fr frρ6 hh)).2.2.2.1.2.2.2.2.2.2.1 rfl (by decide) (by omega) (izg _ (h + 7) 0) dX1_holds_171 ?_
        have := rgI ρ6 (h + 7) 0
        refine zi_if_eq (pc := 172) (tgt := 179) O dX1_holds_172 (by decide) (by omega) (fun h172 => ?_) (fun h172 => ?_)
        · refine z_iconst (pc := 179) (v := iz (0)) O dX1_holds_179 (by decide) ?_
          refine z_zret (pc := 180) O dX1_holds_180 rfl ?_
          exact ⟨0, rfl, (by decide), frρ6⟩
        · refine z_iconst (pc := 175) (v := iz (1)) O dX1_holds_175 (by decide) ?_
          refine z_goto (pc := 176) (tgt := 180) O dX1_holds_176 (by decide) ?_
          refine z_zret (pc := 180) O dX1_holds_180 rfl ?_
          exact ⟨1, rfl, (by decide), frρ6⟩
    · refine z_iload (pc := 12) O dX1_holds_12 rfl ?_
      have := ((LawOK.fr frρ6 hh)).2.2.2.1.2.2.2.2.2.2.2.2
      refine z_aload_n (pc := 14) O dX1_holds_14 rfl ?_
      refine z_getR (pc := 15) (h + 8) O fl_X1_44 rfl ((LawOK.fr frρ6 hh)).is ((LawOK.fr frρ6 hh)).2.2.1.2.2.2.2.2.2.2 dX1_holds_15 ?_
      refine z_alen (pc := 18) (t0 := 2) (n := iz ((hS ρ6 (h + 8)).2 : Int)) O ((LawOK.fr frρ6 hh)).2.2.2.1.2.2.2.2.2.2.2.1 (by decide) rfl (iz_nI rfl).symm dX1_holds_18 ?_
      refine zi_icmp_ge (pc := 19) (tgt := 161) O dX1_holds_19 (by decide) (by omega) (by omega) (fun h19 => ?_) (fun h19 => ?_)
      · refine z_iload (pc := 161) O dX1_holds_161 rfl ?_
        refine zi_if_le (pc := 163) (tgt := 179) O dX1_holds_163 (by decide) (by omega) (fun h163 => ?_) (fun h163 => ?_)
        · refine z_iconst (pc := 179) (v := iz (0)) O dX1_holds_179 (by decide) ?_
          refine z_zret (pc := 180) O dX1_holds_180 rfl ?_
          exact ⟨0, rfl, (by decide), frρ6⟩
        · refine z_aload_n (pc := 166) O dX1_holds_166 rfl ?_
          refine z_getR (pc := 167) (h + 7) O fl_X1_38 rfl ((LawOK.fr frρ6 hh)).is ((LawOK.fr frρ6 hh)).2.2.1.2.2.2.2.2.2.1 dX1_holds_167 ?_
          refine z_iconst (pc := 170) (v := iz (0)) O dX1_holds_170 (by decide) ?_
          refine zi_ialdv (pc := 171) 0 (gI ρ6 (h + 7) 0) O ((LawOK.fr frρ6 hh)).2.2.2.1.2.2.2.2.2.2.1 rfl (by decide) (by omega) (izg _ (h + 7) 0) dX1_holds_171 ?_
          have := rgI ρ6 (h + 7) 0
          refine zi_if_eq (pc := 172) (tgt := 179) O dX1_holds_172 (by decide) (by omega) (fun h172 => ?_) (fun h172 => ?_)
          · refine z_iconst (pc := 179) (v := iz (0)) O dX1_holds_179 (by decide) ?_
            refine z_zret (pc := 180) O dX1_holds_180 rfl ?_
            exact ⟨0, rfl, (by decide), frρ6⟩
          · refine z_iconst (pc := 175) (v := iz (1)) O dX1_holds_175 (by decide) ?_
            refine z_goto (pc := 176) (tgt := 180) O dX1_holds_176 (by decide) ?_
            refine z_zret (pc := 180) O dX1_holds_180 rfl ?_
            exact ⟨1, rfl, (by decide), frρ6⟩
      · refine z_aload_n (pc := 22) O dX1_holds_22 rfl ?_
        refine z_getR (pc := 23) (h + 8) O fl_X1_44 rfl ((LawOK.fr frρ6 hh)).is ((LawOK.fr frρ6 hh)).2.2.1.2.2.2.2.2.2.2 dX1_holds_23 ?_
        refine z_iload (pc := 26) O dX1_holds_26 rfl ?_
        refine zi_ialdv (pc := 28) (k.toNat) (gI ρ6 (h + 8) (k.toNat)) O ((LawOK.fr frρ6 hh)).2.2.2.1.2.2.2.2.2.2.2.1 (by omega) (by omega) (by omega) (izg _ (h + 8) (k.toNat)) dX1_holds_28 ?_
        have := rgI ρ6 (h + 8) (k.toNat)
        refine z_istore (pc := 29) [(0, .ref h), (1, .int (iz p)), (2, .int (iz e)), (3, .ref 32), (4, .int (iz t)), (5, .int (iz k)), (6, .int (iz (gI ρ6 (h + 8) (k.toNat))))] O dX1_holds_29 (by decide) rfl ?_
        refine z_iload (pc := 31) O dX1_holds_31 rfl ?_
        refine z_bipush (pc := 33) (v := iz (-11)) O dX1_holds_33 (by decide) ?_
        refine zi_icmp_le (pc := 35) (tgt := 67) O dX1_holds_35 (by decide) (by omega) (by decide) (fun h35 => ?_) (fun h35 => ?_)
        · refine z_iload (pc := 67) O dX1_holds_67 rfl ?_
          refine z_bipush (pc := 69) (v := iz (-11)) O dX1_holds_69 (by decide) ?_
          refine zi_icmp_ne (pc := 71) (tgt := 108) O dX1_holds_71 (by decide) (by omega) (by decide) (fun h71 => ?_) (fun h71 => ?_)
          · refine z_iload (pc := 108) O dX1_holds_108 rfl ?_
            refine z_iconst (pc := 110) (v := iz (1)) O dX1_holds_110 (by decide) ?_
            refine zi_icmp_le (pc := 111) (tgt := 155) O dX1_holds_111 (by decide) (by omega) (by decide) (fun h111 => ?_) (fun h111 => ?_)
            · refine zi_iinc (pc := 155) (k + 1) [(0, .ref h), (1, .int (iz p)), (2, .int (iz e)), (3, .ref 32), (4, .int (iz t)), (5, .int (iz (k + 1))), (6, .int (iz (gI ρ6 (h + 8) (k.toNat))))] O dX1_holds_155 rfl (by omega) (by decide) rfl ?_
              refine z_goto (pc := 158) (tgt := 6) O dX1_holds_158 (by decide) ?_
              refine z_lk [(0, .ref h), (1, .int (iz p)), (2, .int (iz e)), (3, .ref 32), (4, .int (iz t)), (5, .int (iz (k + 1)))] ⟨rfl, rfl, rfl, rfl, rfl, rfl, trivial⟩ ?_
              exact ih6 _ (by omega) t (k + 1) ρ6 rfl (by omega) (by omega) (by omega) (by omega) frρ6
            · refine zi_iinc (pc := 114) (t - 1) [(0, .ref h), (1, .int (iz p)), (2, .int (iz e)), (3, .ref 32), (4, .int (iz (t - 1))), (5, .int (iz k)), (6, .int (iz (gI ρ6 (h + 8) (k.toNat))))] O dX1_holds_114 rfl (by omega) (by decide) rfl ?_
              refine z_aload_n (pc := 117) O dX1_holds_117 rfl ?_
              refine z_getR (pc := 118) (h + 7) O fl_X1_38 rfl ((LawOK.fr frρ6 hh)).is ((LawOK.fr frρ6 hh)).2.2.1.2.2.2.2.2.2.1 dX1_holds_118 ?_
              refine z_iload (pc := 121) O dX1_holds_121 rfl ?_
              refine z_iconst (pc := 123) (v := iz (1)) O dX1_holds_123 (by decide) ?_
              refine zi_isub (pc := 124) O dX1_holds_124 ?_
              refine z_iload (pc := 125) O dX1_holds_125 rfl ?_
              refine z_aload_n (pc := 127) O dX1_holds_127 rfl ?_
              refine z_getR (pc := 128) (h + 7) O fl_X1_38 rfl ((LawOK.fr frρ6 hh)).is ((LawOK.fr frρ6 hh)).2.2.1.2.2.2.2.2.2.1 dX1_holds_128 ?_
              refine z_iload (pc := 131) O dX1_holds_131 rfl ?_
              refine z_iconst (pc := 133) (v := iz (1)) O dX1_holds_133 (by decide) ?_
              refine zi_isub (pc := 134) O dX1_holds_134 ?_
              refine zi_ialdv (pc := 135) (((t - 1) - 1).toNat) (gI ρ6 (h + 7) (((t - 1) - 1).toNat)) O ((LawOK.fr frρ6 hh)).2.2.2.1.2.2.2.2.2.2.1 (by omega) (by omega) (by omega) (izg _ (h + 7) (((t - 1) - 1).toNat)) dX1_holds_135 ?_
              have := rgI ρ6 (h + 7) (((t - 1) - 1).toNat)
              refine z_aload_n (pc := 136) O dX1_holds_136 rfl ?_
              refine z_getR (pc := 137) (h + 7) O fl_X1_38 rfl ((LawOK.fr frρ6 hh)).is ((LawOK.fr frρ6 hh)).2.2.1.2.2.2.2.2.2.1 dX1_holds_137 ?_
              refine z_iload (pc := 140) O dX1_holds_140 rfl ?_
              refine zi_ialdv (pc := 142) ((t - 1).toNat) (gI ρ6 (h + 7) ((t - 1).toNat)) O ((LawOK.fr frρ6 hh)).2.2.2.1.2.2.2.2.2.2.1 (by omega) (by omega) (by omega) (izg _ (h + 7) ((t - 1).toNat)) dX1_holds_142 ?_
              have := rgI ρ6 (h + 7) ((t - 1).toNat)
              refine z_callS (pc := 143) O cl_X1_78 (k1_joined _ _ (gI ρ6 (h + 8) (k.toNat)) (by omega) (gI ρ6 (h + 7) (((t - 1) - 1).toNat)) (by omega) (gI ρ6 (h + 7) ((t - 1).toNat)) (by omega)) (by decide) rfl rfl (Nat.le_of_ble_eq_true rfl) ⟨Nat.zero_le _, Nat.zero_le _⟩ dX1_holds_143 (fun r τ1 hp => ?_)
              obtain ⟨z2, rfl, fτ1_0, rfl⟩ := hp
              refine zi_if_eq (pc := 146) (tgt := 153) O dX1_holds_146 (by decide) (by omega) (fun h146 => ?_) (fun h146 => ?_)
              · refine z_iconst (pc := 153) (v := iz (0)) O dX1_holds_153 (by decide) ?_
                refine zi_iast (pc := 154) (((t - 1) - 1).toNat) O ((LawOK.fr frρ6 hh)).2.2.2.1.2.2.2.2.2.2.1 (by omega) (by omega) (by omega) dX1_holds_154 ?_
                refine zi_iinc (pc := 155) (k + 1) [(0, .ref h), (1, .int (iz p)), (2, .int (iz e)), (3, .ref 32), (4, .int (iz (t - 1))), (5, .int (iz (k + 1))), (6, .int (iz (gI ρ6 (h + 8) (k.toNat))))] O dX1_holds_155 rfl (by omega) (by decide) rfl ?_
                refine z_goto (pc := 158) (tgt := 6) O dX1_holds_158 (by decide) ?_
                refine z_lk [(0, .ref h), (1, .int (iz p)), (2, .int (iz e)), (3, .ref 32), (4, .int (iz (t - 1))), (5, .int (iz (k + 1)))] ⟨rfl, rfl, rfl, rfl, rfl, rfl, trivial⟩ ?_
                exact ih6 _ (by omega) (t - 1) (k + 1) (sI ρ6 (h + 7) (((t - 1) - 1).toNat) (iz 0)) rfl (by omega) (by omega) (by omega) (by omega) (frρ6.pD (by omega) (Or.inl (hh).stk))
              · refine z_iconst (pc := 149) (v := iz (1)) O dX1_holds_149 (by decide) ?_
                refine z_goto (pc := 150) (tgt := 154) O dX1_holds_150 (by decide) ?_
                refine zi_iast (pc := 154) (((t - 1) - 1).toNat) O ((LawOK.fr frρ6 hh)).2.2.2.1.2.2.2.2.2.2.1 (by omega) (by omega) (by omega) dX1_holds_154 ?_
                refine zi_iinc (pc := 155) (k + 1) [(0, .ref h), (1, .int (iz p)), (2, .int (iz e)), (3, .ref 32), (4, .int (iz (t - 1))), (5, .int (iz (k + 1))), (6, .int (iz (gI ρ6 (h + 8) (k.toNat))))] O dX1_holds_155 rfl (by omega) (by decide) rfl ?_
                refine z_goto (pc := 158) (tgt := 6) O dX1_holds_158 (by decide) ?_
                refine z_lk [(0, .ref h), (1, .int (iz p)), (2, .int (iz e)), (3, .ref 32), (4, .int (iz (t - 1))), (5, .int (iz (k + 1)))] ⟨rfl, rfl, rfl, rfl, rfl, rfl, trivial⟩ ?_
                exact ih6 _ (by omega) (t - 1) (k + 1) (sI ρ6 (h + 7) (((t - 1) - 1).toNat) (iz 1)) rfl (by omega) (by omega) (by omega) (by omega) (frρ6.pD (by omega) (Or.inl (hh).stk))
          · refine z_iload (pc := 74) O dX1_holds_74 rfl ?_
            refine zi_if_le (pc := 76) (tgt := 155) O dX1_holds_76 (by decide) (by omega) (fun h76 => ?_) (fun h76 => ?_)
            · refine zi_iinc (pc := 155) (k + 1) [(0, .ref h), (1, .int (iz p)), (2, .int (iz e)), (3, .ref 32), (4, .int (iz t)), (5, .int (iz (k + 1))), (6, .int (iz (gI ρ6 (h + 8) (k.toNat))))] O dX1_holds_155 rfl (by omega) (by decide) rfl ?_
              refine z_goto (pc := 158) (tgt := 6) O dX1_holds_158 (by decide) ?_
              refine z_lk [(0, .ref h), (1, .int (iz p)), (2, .int (iz e)), (3, .ref 32), (4, .int (iz t)), (5, .int (iz (k + 1)))] ⟨rfl, rfl, rfl, rfl, rfl, rfl, trivial⟩ ?_
              exact ih6 _ (by omega) t (k + 1) ρ6 rfl (by omega) (by omega) (by omega) (by omega) frρ6
            · refine z_aload_n (pc := 79) O dX1_holds_79 rfl ?_
              refine z_getR (pc := 80) (h + 7) O fl_X1_38 rfl ((LawOK.fr frρ6 hh)).is ((LawOK.fr frρ6 hh)).2.2.1.2.2.2.2.2.2.1 dX1_holds_80 ?_
              refine z_iload (pc := 83) O dX1_holds_83 rfl ?_
              refine z_iconst (pc := 85) (v := iz (1)) O dX1_holds_85 (by decide) ?_
              refine zi_isub (pc := 86) O dX1_holds_86 ?_
              refine z_aload_n (pc := 87) O dX1_holds_87 rfl ?_
              refine z_getR (pc := 88) (h + 7) O fl_X1_38 rfl ((LawOK.fr frρ6 hh)).is ((LawOK.fr frρ6 hh)).2.2.1.2.2.2.2.2.2.1 dX1_holds_88 ?_
              refine z_iload (pc := 91) O dX1_holds_91 rfl ?_
              refine z_iconst (pc := 93) (v := iz (1)) O dX1_holds_93 (by decide) ?_
              refine zi_isub (pc := 94) O dX1_holds_94 ?_
              refine zi_ialdv (pc := 95) ((t - 1).toNat) (gI ρ6 (h + 7) ((t - 1).toNat)) O ((LawOK.fr frρ6 hh)).2.2.2.1.2.2.2.2.2.2.1 (by omega) (by omega) (by omega) (izg _ (h + 7) ((t - 1).toNat)) dX1_holds_95 ?_
              have := rgI ρ6 (h + 7) ((t - 1).toNat)
              refine zi_if_ne (pc := 96) (tgt := 103) O dX1_holds_96 (by decide) (by omega) (fun h96 => ?_) (fun h96 => ?_)
              · refine z_iconst (pc := 103) (v := iz (0)) O dX1_holds_103 (by decide) ?_
                refine zi_iast (pc := 104) ((t - 1).toNat) O ((LawOK.fr frρ6 hh)).2.2.2.1.2.2.2.2.2.2.1 (by omega) (by omega) (by omega) dX1_holds_104 ?_
                refine z_goto (pc := 105) (tgt := 155) O dX1_holds_105 (by decide) ?_
                refine zi_iinc (pc := 155) (k + 1) [(0, .ref h), (1, .int (iz p)), (2, .int (iz e)), (3, .ref 32), (4, .int (iz t)), (5, .int (iz (k + 1))), (6, .int (iz (gI ρ6 (h + 8) (k.toNat))))] O dX1_holds_155 rfl (by omega) (by decide) rfl ?_
                refine z_goto (pc := 158) (tgt := 6) O dX1_holds_158 (by decide) ?_
                refine z_lk [(0, .ref h), (1, .int (iz p)), (2, .int (iz e)), (3, .ref 32), (4, .int (iz t)), (5, .int (iz (k + 1)))] ⟨rfl, rfl, rfl, rfl, rfl, rfl, trivial⟩ ?_
                exact ih6 _ (by omega) t (k + 1) (sI ρ6 (h + 7) ((t - 1).toNat) (iz 0)) rfl (by omega) (by omega) (by omega) (by omega) (frρ6.pD (by omega) (Or.inl (hh).stk))
              · refine z_iconst (pc := 99) (v := iz (1)) O dX1_holds_99 (by decide) ?_
                refine z_goto (pc := 100) (tgt := 104) O dX1_holds_100 (by decide) ?_
                refine zi_iast (pc := 104) ((t - 1).toNat) O ((LawOK.fr frρ6 hh)).2.2.2.1.2.2.2.2.2.2.1 (by omega) (by omega) (by omega) dX1_holds_104 ?_
                refine z_goto (pc := 105) (tgt := 155) O dX1_holds_105 (by decide) ?_
                refine zi_iinc (pc := 155) (k + 1) [(0, .ref h), (1, .int (iz p)), (2, .int (iz e)), (3, .ref 32), (4, .int (iz t)), (5, .int (iz (k + 1))), (6, .int (iz (gI ρ6 (h + 8) (k.toNat))))] O dX1_holds_155 rfl (by omega) (by decide) rfl ?_
                refine z_goto (pc := 158) (tgt := 6) O dX1_holds_158 (by decide) ?_
                refine z_lk [(0, .ref h), (1, .int (iz p)), (2, .int (iz e)), (3, .ref 32), (4, .int (iz t)), (5, .int (iz (k + 1)))] ⟨rfl, rfl, rfl, rfl, rfl, rfl, trivial⟩ ?_
                exact ih6 _ (by omega) t (k + 1) (sI ρ6 (h + 7) ((t - 1).toNat) (iz 1)) rfl (by omega) (by omega) (by omega) (by omega) (frρ6.pD (by omega) (Or.inl (hh).stk))
        · refine z_iload (pc := 38) O dX1_holds_38 rfl ?_
          refine z_aload_n (pc := 40) O dX1_holds_40 rfl ?_
          refine z_getR (pc := 41) (h + 7) O fl_X1_38 rfl ((LawOK.fr frρ6 hh)).is ((LawOK.fr frρ6 hh)).2.2.1.2.2.2.2.2.2.1 dX1_holds_41 ?_
          refine z_alen (pc := 44) (t0 := 2) (n := iz 60) O ((LawOK.fr frρ6 hh)).2.2.2.1.2.2.2.2.2.2.1 (by decide) rfl (by decide) dX1_holds_44 ?_
          refine zi_icmp_ge (pc := 45) (tgt := 155) O dX1_holds_45 (by decide) (by omega) (by decide) (fun h45 => ?_) (fun h45 => ?_)
          · refine zi_iinc (pc := 155) (k + 1) [(0, .ref h), (1, .int (iz p)), (2, .int (iz e)), (3, .ref 32), (4, .int (iz t)), (5, .int (iz (k + 1))), (6, .int (iz (gI ρ6 (h + 8) (k.toNat))))] O dX1_holds_155 rfl (by omega) (by decide) rfl ?_
            refine z_goto (pc := 158) (tgt := 6) O dX1_holds_158 (by decide) ?_
            refine z_lk [(0, .ref h), (1, .int (iz p)), (2, .int (iz e)), (3, .ref 32), (4, .int (iz t)), (5, .int (iz (k + 1)))] ⟨rfl, rfl, rfl, rfl, rfl, rfl, trivial⟩ ?_
            exact ih6 _ (by omega) t (k + 1) ρ6 rfl (by omega) (by omega) (by omega) (by omega) frρ6
          · refine z_aload_n (pc := 48) O dX1_holds_48 rfl ?_
            refine z_getR (pc := 49) (h + 7) O fl_X1_38 rfl ((LawOK.fr frρ6 hh)).is ((LawOK.fr frρ6 hh)).2.2.1.2.2.2.2.2.2.1 dX1_holds_49 ?_
            refine z_iload (pc := 52) O dX1_holds_52 rfl ?_
            refine z_iload (pc := 54) O dX1_holds_54 rfl ?_
            refine z_aload_n (pc := 56) O dX1_holds_56 rfl ?_
            refine z_callS (pc := 57) O cl_X1_74 (k1_operand _ _ (gI ρ6 (h + 8) (k.toNat)) (by omega) (frρ6.lay J)) (by decide) rfl rfl (Nat.le_of_ble_eq_true rfl) ⟨Nat.zero_le _, Nat.zero_le _⟩ dX1_holds_57 (fun r τ3 hp => ?_)
            obtain ⟨z4, rfl, fτ3_0, rfl⟩ := hp
            refine zi_iast (pc := 60) (t.toNat) O ((LawOK.fr frρ6 hh)).2.2.2.1.2.2.2.2.2.2.1 (by omega) (by omega) (by omega) dX1_holds_60 ?_
            refine zi_iinc (pc := 61) (t + 1) [(0, .ref h), (1, .int (iz p)), (2, .int (iz e)), (3, .ref 32), (4, .int (iz (t + 1))), (5, .int (iz k)), (6, .int (iz (gI ρ6 (h + 8) (k.toNat))))] O dX1_holds_61 rfl (by omega) (by decide) rfl ?_
            refine z_goto (pc := 64) (tgt := 155) O dX1_holds_64 (by decide) ?_
            refine zi_iinc (pc := 155) (k + 1) [(0, .ref h), (1, .int (iz p)), (2, .int (iz e)), (3, .ref 32), (4, .int (iz (t + 1))), (5, .int (iz (k + 1))), (6, .int (iz (gI ρ6 (h + 8) (k.toNat))))] O dX1_holds_155 rfl (by omega) (by decide) rfl ?_
            refine z_goto (pc := 158) (tgt := 6) O dX1_holds_158 (by decide) ?_
            refine z_lk [(0, .ref h), (1, .int (iz p)), (2, .int (iz e)), (3, .ref 32), (4, .int (iz (t + 1))), (5, .int (iz (k + 1)))] ⟨rfl, rfl, rfl, rfl, rfl, rfl, trivial⟩ ?_
            exact ih6 _ (by omega) (t + 1) (k + 1) (sI ρ6 (h + 7) (t.toNat) (iz z4)) rfl (by omega) (by omega) (by omega) (by omega) (frρ6.pD (by omega) (Or.inl (hh).stk))
  refine z_lk [(0, .ref h), (1, .int (iz p)), (2, .int (iz e)), (3, .ref 32), (4, .int (iz 0)), (5, .int (iz p))] ⟨rfl, rfl, rfl, rfl, rfl, rfl, trivial⟩ ?_
  exact cut6 _ 0 p σ rfl (by omega) (by omega) (by omega) (by omega) (Fr.rf [] σ)
set_option maxHeartbeats 4000000 in
set_option maxRecDepth 20000 in
theorem k1_priceOf (l : Launch) (σ : VH) (h : Nat) (u : Int) (ru : (-2147483648 ≤ u ∧ u < 2147483648)) (J : Lay σ) (hh : LawOK σ h) : Ct l yX1_priceOf cX1_priceOf 6 (some .int) 2 0 0 [.ref h, .int (iz u), .ref 32] σ (fun r τ => ∃ z : Int, r = some (.int (iz z)) ∧ (-2147483648 ≤ z ∧ z < 2147483648) ∧ (Fr [(32, 99999)] σ τ)) := by
  refine Ct.enter rfl (Nat.le_of_ble_eq_true rfl) ?_
  intro κ γ hκ O hrc hrs
  subst hκ
  have := hh.1
  have hu := hh.2.2.2.2.1
  have cut22 : ∀ (x1 : Int), (-2147483648 ≤ x1 ∧ x1 < 2147483648) → Z κ γ 6 σ 0 0 (QM κ γ (fun r τ => ∃ z : Int, r = some (.int (iz z)) ∧ (-2147483648 ≤ z ∧ z < 2147483648) ∧ (Fr [(32, 99999)] σ τ)) 0 0) 22 [(0, .ref h), (1, .int (iz u)), (2, .ref 32)] [.int (iz x1)] := by
    intro x1 rr22_0
    refine z_istore_n (pc := 22) [(0, .ref h), (1, .int (iz u)), (2, .ref 32), (3, .int (iz x1))] O dX1_priceOf_22 (by decide) rfl ?_
    refine z_iconst (pc := 23) (v := iz (0)) O dX1_priceOf_23 (by decide) ?_
    refine z_istore (pc := 24) [(0, .ref h), (1, .int (iz u)), (2, .ref 32), (3, .int (iz x1)), (4, .int (iz 0))] O dX1_priceOf_24 (by decide) rfl ?_
    refine z_iconst (pc := 26) (v := iz (0)) O dX1_priceOf_26 (by decide) ?_
    refine z_istore (pc := 27) [(0, .ref h), (1, .int (iz u)), (2, .ref 32), (3, .int (iz x1)), (4, .int (iz 0)), (5, .int (iz 0))] O dX1_priceOf_27 (by decide) rfl ?_
    have cut29 : ∀ (mu29 : Nat) (v : Int) (fs : Int) (k : Int) (ρ29 : VH), (mu29 = (16 - k).toNat) → (-2147483648 ≤ v ∧ v < 2147483648) → (-2147483648 ≤ fs ∧ fs < 2147483648) → (-2147483648 ≤ k ∧ k < 2147483648) → (0 ≤ fs) → (0 ≤ k ∧ k ≤ 16) → (Fr [(32, 99999)] σ ρ29) → Z κ γ 6 ρ29 0 0 (QM κ γ (fun r τ => ∃ z : Int, r = some (.int (iz z)) ∧ (-2147483648 ≤ z ∧ z < 2147483648) ∧ (Fr [(32, 99999)] σ τ)) 0 0) 29 [(0, .ref h), (1, .int (iz u)), (2, .ref 32), (3, .int (iz v)), (4, .int (iz fs)), (5, .int (iz k))] [] := by
      intro mu29
      induction mu29 using Nat.strongRecOn with
      | ind mu29 ih29 =>
      intro v fs k ρ29 hmu29 rr29_0 rr29_1 rr29_2 ff29_0 ff29_1 frρ29
      refine z_iload (pc := 29) O dX1_priceOf_29 rfl ?_
      refine z_aload_n (pc := 31) O dX1_priceOf_31 rfl ?_
      refine zi_getv (pc := 32) (gI ρ29 h 4) O fl_X1_53 rfl ((LawOK.fr frρ29 hh)).is (izg _ h 4) dX1_priceOf_32 ?_
      have := rgI ρ29 h 4
      have := ((LawOK.fr frρ29 hh)).2.2.2.2.2.1
      refine zi_icmp_ge (pc := 35) (tgt := 94) O dX1_priceOf_35 (by decide) (by omega) (by omega) (fun h35 => ?_) (fun h35 => ?_)
      · refine z_iload_n (pc := 94) O dX1_priceOf_94 rfl ?_
        refine z_iret (pc := 95) O dX1_priceOf_95 ?_
        exact ⟨v, rfl, (by omega), frρ29⟩
      · refine z_aload_n (pc := 38) O dX1_priceOf_38 rfl ?_
        refine z_bipush (pc := 39) (v := iz (6)) O dX1_priceOf_39 (by decide) ?_
        refine z_iload_n (pc := 41) O dX1_priceOf_41 rfl ?_
        refine zi_iast (pc := 42) 6 O (ja_32 (frρ29.lay J)) rfl (by decide) (by omega) dX1_priceOf_42 ?_
        refine z_aload_n (pc := 43) O dX1_priceOf_43 rfl ?_
        refine z_iload (pc := 44) O dX1_priceOf_44 rfl ?_
        refine z_aload_n (pc := 46) O dX1_priceOf_46 rfl ?_
        refine z_getR (pc := 47) (h + 6) O fl_X1_35 rfl ((show LawOK (sI ρ29 32 6 (iz v)) h from LawOK.fr ((Fr.rf [(32, 99999)] ρ29).pI rfl) (LawOK.fr frρ29 hh))).is ((show LawOK (sI ρ29 32 6 (iz v)) h from LawOK.fr ((Fr.rf [(32, 99999)] ρ29).pI rfl) (LawOK.fr frρ29 hh))).2.2.1.2.2.2.2.2.1 dX1_priceOf_47 ?_
        refine z_iload (pc := 50) O dX1_priceOf_50 rfl ?_
        have := ((show LawOK (sI ρ29 32 6 (iz v)) h from LawOK.fr ((Fr.rf [(32, 99999)] ρ29).pI rfl) (LawOK.fr frρ29 hh))).2.2.2.2.2.2 (k.toNat) (by omega)
        refine zi_ialdv (pc := 52) (k.toNat) (gI (sI ρ29 32 6 (iz v)) (h + 6) (k.toNat)) O ((show LawOK (sI ρ29 32 6 (iz v)) h from LawOK.fr ((Fr.rf [(32, 99999)] ρ29).pI rfl) (LawOK.fr frρ29 hh))).2.2.2.1.2.2.2.2.2.1 (by omega) (by omega) (by omega) (izg _ (h + 6) (k.toNat)) dX1_priceOf_52 ?_
        have := rgI (sI ρ29 32 6 (iz v)) (h + 6) (k.toNat)
        refine z_aload_n (pc := 53) O dX1_priceOf_53 rfl ?_
        refine z_callV (pc := 54) O cl_X1_56 (k1_holds _ _ h fs (by omega) (gI (sI ρ29 32 6 (iz v)) (h + 6) (k.toNat)) (by omega) (frρ29.lay J) (show LawOK (sI ρ29 32 6 (iz v)) h from LawOK.fr ((Fr.rf [(32, 99999)] ρ29).pI rfl) (LawOK.fr frρ29 hh)) (by omega)) (by decide) ((show LawOK (sI ρ29 32 6 (iz v)) h from LawOK.fr ((Fr.rf [(32, 99999)] ρ29).pI rfl) (LawOK.fr frρ29 hh))).is kc_1 rfl rfl (Nat.le_of_ble_eq_true rfl) ⟨Nat.zero_le _, Nat.zero_le _⟩ dX1_priceOf_54 (fun r τ1 hp => ?_)
        obtain ⟨z2, rfl, fτ1_0, frτ1⟩ := hp
        refine zi_if_eq (pc := 57) (tgt := 79) O dX1_priceOf_57 (by decide) (by omega) (fun h57 => ?_) (fun h57 => ?_)
        · refine z_aload_n (pc := 79) O dX1_priceOf_79 rfl ?_
          refine z_getR (pc := 80) (h + 6) O fl_X1_35 rfl ((LawOK.fr frτ1 (show LawOK (sI ρ29 32 6 (iz v)) _ from LawOK.fr ((Fr.rf [(32, 99999)] ρ29).pI rfl) (LawOK.fr frρ29 hh)))).is ((LawOK.fr frτ1 (show LawOK (sI ρ29 32 6 (iz v)) _ from LawOK.fr ((Fr.rf [(32, 99999)] ρ29).pI rfl) (LawOK.fr frρ29 hh)))).2.2.1.2.2.2.2.2.1 dX1_priceOf_80 ?_
          refine z_iload (pc := 83) O dX1_priceOf_83 rfl ?_
          have := ((LawOK.fr frτ1 (show LawOK (sI ρ29 32 6 (iz v)) _ from LawOK.fr ((Fr.rf [(32, 99999)] ρ29).pI rfl) (LawOK.fr frρ29 hh)))).2.2.2.2.2.2 (k.toNat) (by omega)
          refine zi_ialdv (pc := 85) (k.toNat) (gI τ1 (h + 6) (k.toNat)) O ((LawOK.fr frτ1 (show LawOK (sI ρ29 32 6 (iz v)) _ from LawOK.fr ((Fr.rf [(32, 99999)] ρ29).pI rfl) (LawOK.fr frρ29 hh)))).2.2.2.1.2.2.2.2.2.1 (by omega) (by omega) (by omega) (izg _ (h + 6) (k.toNat)) dX1_priceOf_85 ?_
          have := rgI τ1 (h + 6) (k.toNat)
          refine z_istore (pc := 86) [(0, .ref h), (1, .int (iz u)), (2, .ref 32), (3, .int (iz v)), (4, .int (iz (gI τ1 (h + 6) (k.toNat)))), (5, .int (iz k))] O dX1_priceOf_86 (by decide) rfl ?_
          refine zi_iinc (pc := 88) (k + 1) [(0, .ref h), (1, .int (iz u)), (2, .ref 32), (3, .int (iz v)), (4, .int (iz (gI τ1 (h + 6) (k.toNat)))), (5, .int (iz (k + 1)))] O dX1_priceOf_88 rfl (by omega) (by decide) rfl ?_
          refine z_goto (pc := 91) (tgt := 29) O dX1_priceOf_91 (by decide) ?_
          refine z_lk [(0, .ref h), (1, .int (iz u)), (2, .ref 32), (3, .int (iz v)), (4, .int (iz (gI τ1 (h + 6) (k.toNat)))), (5, .int (iz (k + 1)))] ⟨rfl, rfl, rfl, rfl, rfl, rfl, trivial⟩ ?_
          exact ih29 _ (by omega) v (gI τ1 (h + 6) (k.toNat)) (k + 1) τ1 rfl (by omega) (by omega) (by omega) (by omega) (by omega) ((frρ29.pI rfl).tr (frτ1.mono (V := [(32, 99999)]) rfl))
        · refine z_iload_n (pc := 60) O dX1_priceOf_60 rfl ?_
          refine z_aload_n (pc := 61) O dX1_priceOf_61 rfl ?_
          refine z_getR (pc := 62) (h + 4) O fl_X1_29 rfl ((LawOK.fr frτ1 (show LawOK (sI ρ29 32 6 (iz v)) _ from LawOK.fr ((Fr.rf [(32, 99999)] ρ29).pI rfl) (LawOK.fr frρ29 hh)))).is ((LawOK.fr frτ1 (show LawOK (sI ρ29 32 6 (iz v)) _ from LawOK.fr ((Fr.rf [(32, 99999)] ρ29).pI rfl) (LawOK.fr frρ29 hh)))).2.2.1.2.2.2.1 dX1_priceOf_62 ?_
          refine z_iload (pc := 65) O dX1_priceOf_65 rfl ?_
          refine zi_ialdv (pc := 67) (k.toNat) (gI τ1 (h + 4) (k.toNat)) O ((LawOK.fr frτ1 (show LawOK (sI ρ29 32 6 (iz v)) _ from LawOK.fr ((Fr.rf [(32, 99999)] ρ29).pI rfl) (LawOK.fr frρ29 hh)))).2.2.2.1.2.2.2.1 (by omega) (by omega) (by omega) (izg _ (h + 4) (k.toNat)) dX1_priceOf_67 ?_
          have := rgI τ1 (h + 4) (k.toNat)
          refine z_aload_n (pc := 68) O dX1_priceOf_68 rfl ?_
          refine z_getR (pc := 69) (h + 5) O fl_X1_32 rfl ((LawOK.fr frτ1 (show LawOK (sI ρ29 32 6 (iz v)) _ from LawOK.fr ((Fr.rf [(32, 99999)] ρ29).pI rfl) (LawOK.fr frρ29 hh)))).is ((LawOK.fr frτ1 (show LawOK (sI ρ29 32 6 (iz v)) _ from LawOK.fr ((Fr.rf [(32, 99999)] ρ29).pI rfl) (LawOK.fr frρ29 hh)))).2.2.1.2.2.2.2.1 dX1_priceOf_69 ?_
          refine z_iload (pc := 72) O dX1_priceOf_72 rfl ?_
          refine zi_ialdv (pc := 74) (k.toNat) (gI τ1 (h + 5) (k.toNat)) O ((LawOK.fr frτ1 (show LawOK (sI ρ29 32 6 (iz v)) _ from LawOK.fr ((Fr.rf [(32, 99999)] ρ29).pI rfl) (LawOK.fr frρ29 hh)))).2.2.2.1.2.2.2.2.1 (by omega) (by omega) (by omega) (izg _ (h + 5) (k.toNat)) dX1_priceOf_74 ?_
          have := rgI τ1 (h + 5) (k.toNat)
          refine z_callS (pc := 75) O cl_X1_60 (k1_changed _ _ v (by omega) (gI τ1 (h + 4) (k.toNat)) (by omega) (gI τ1 (h + 5) (k.toNat)) (by omega)) (by decide) rfl rfl (Nat.le_of_ble_eq_true rfl) ⟨Nat.zero_le _, Nat.zero_le _⟩ dX1_priceOf_75 (fun r τ3 hp => ?_)
          obtain ⟨z4, rfl, fτ3_0, rfl⟩ := hp
          refine z_istore_n (pc := 78) [(0, .ref h), (1, .int (iz u)), (2, .ref 32), (3, .int (iz z4)), (4, .int (iz fs)), (5, .int (iz k))] O dX1_priceOf_78 (by decide) rfl ?_
          refine z_aload_n (pc := 79) O dX1_priceOf_79 rfl ?_
          refine z_getR (pc := 80) (h + 6) O fl_X1_35 rfl ((LawOK.fr frτ1 (show LawOK (sI ρ29 32 6 (iz v)) _ from LawOK.fr ((Fr.rf [(32, 99999)] ρ29).pI rfl) (LawOK.fr frρ29 hh)))).is ((LawOK.fr frτ1 (show LawOK (sI ρ29 32 6 (iz v)) _ from LawOK.fr ((Fr.rf [(32, 99999)] ρ29).pI rfl) (LawOK.fr frρ29 hh)))).2.2.1.2.2.2.2.2.1 dX1_priceOf_80 ?_
          refine z_iload (pc := 83) O dX1_priceOf_83 rfl ?_
          have := ((LawOK.fr frτ1 (show LawOK (sI ρ29 32 6 (iz v)) _ from LawOK.fr ((Fr.rf [(32, 99999)] ρ29).pI rfl) (LawOK.fr frρ29 hh)))).2.2.2.2.2.2 (k.toNat) (by omega)
          refine zi_ialdv (pc := 85) (k.toNat) (gI τ1 (h + 6) (k.toNat)) O ((LawOK.fr frτ1 (show LawOK (sI ρ29 32 6 (iz v)) _ from LawOK.fr ((Fr.rf [(32, 99999)] ρ29).pI rfl) (LawOK.fr frρ29 hh)))).2.2.2.1.2.2.2.2.2.1 (by omega) (by omega) (by omega) (izg _ (h + 6) (k.toNat)) dX1_priceOf_85 ?_
          have := rgI τ1 (h + 6) (k.toNat)
          refine z_istore (pc := 86) [(0, .ref h), (1, .int (iz u)), (2, .ref 32), (3, .int (iz z4)), (4, .int (iz (gI τ1 (h + 6) (k.toNat)))), (5, .int (iz k))] O dX1_priceOf_86 (by decide) rfl ?_
          refine zi_iinc (pc := 88) (k + 1) [(0, .ref h), (1, .int (iz u)), (2, .ref 32), (3, .int (iz z4)), (4, .int (iz (gI τ1 (h + 6) (k.toNat)))), (5, .int (iz (k + 1)))] O dX1_priceOf_88 rfl (by omega) (by decide) rfl ?_
          refine z_goto (pc := 91) (tgt := 29) O dX1_priceOf_91 (by decide) ?_
          refine z_lk [(0, .ref h), (1, .int (iz u)), (2, .ref 32), (3, .int (iz z4)), (4, .int (iz (gI τ1 (h + 6) (k.toNat)))), (5, .int (iz (k + 1)))] ⟨rfl, rfl, rfl, rfl, rfl, rfl, trivial⟩ ?_
          exact ih29 _ (by omega) z4 (gI τ1 (h + 6) (k.toNat)) (k + 1) τ1 rfl (by omega) (by omega) (by omega) (by omega) (by omega) ((frρ29.pI rfl).tr (frτ1.mono (V := [(32, 99999)]) rfl))
    refine z_lk [(0, .ref h), (1, .int (iz u)), (2, .ref 32), (3, .int (iz x1)), (4, .int (iz 0)), (5, .int (iz 0))] ⟨rfl, rfl, rfl, rfl, rfl, rfl, trivial⟩ ?_
    exact cut29 _ x1 0 0 σ rfl (by omega) (by omega) (by omega) (by omega) (by omega) (Fr.rf [(32, 99999)] σ)
  refine z_iload_n (pc := 0) O dX1_priceOf_0 rfl ?_
  refine zi_if_lt (pc := 1) (tgt := 21) O dX1_priceOf_1 (by decide) (by omega) (fun h1 => ?_) (fun h1 => ?_)
  · refine z_iconst (pc := 21) (v := iz (0)) O dX1_priceOf_21 (by decide) ?_
    refine z_lk [(0, .ref h), (1, .int (iz u)), (2, .ref 32)] ⟨rfl, rfl, rfl, trivial⟩ ?_
    exact cut22 0 (by omega)
  · refine z_iload_n (pc := 4) O dX1_priceOf_4 rfl ?_
    refine z_aload_n (pc := 5) O dX1_priceOf_5 rfl ?_
    refine zi_getv (pc := 6) (gI σ h 3) O fl_X1_47 rfl (hh).is (izg _ h 3) dX1_priceOf_6 ?_
    have := rgI σ h 3
    refine zi_icmp_ge (pc := 9) (tgt := 21) O dX1_priceOf_9 (by decide) (by omega) (by omega) (fun h9 => ?_) (fun h9 => ?_)
    · refine z_iconst (pc := 21) (v := iz (0)) O dX1_priceOf_21 (by decide) ?_
      refine z_lk [(0, .ref h), (1, .int (iz u)), (2, .ref 32)] ⟨rfl, rfl, rfl, trivial⟩ ?_
      exact cut22 0 (by omega)
    · refine z_aload_n (pc := 12) O dX1_priceOf_12 rfl ?_
      refine z_getR (pc := 13) (h + 3) O fl_X1_26 rfl (hh).is (hh).2.2.1.2.2.1 dX1_priceOf_13 ?_
      refine z_iload_n (pc := 16) O dX1_priceOf_16 rfl ?_
      refine zi_ialdv (pc := 17) (u.toNat) (gI σ (h + 3) (u.toNat)) O (hh).2.2.2.1.2.2.1 (by omega) (by omega) (by omega) (izg _ (h + 3) (u.toNat)) dX1_priceOf_17 ?_
      have := rgI σ (h + 3) (u.toNat)
      refine z_goto (pc := 18) (tgt := 22) O dX1_priceOf_18 (by decide) ?_
      refine z_lk [(0, .ref h), (1, .int (iz u)), (2, .ref 32)] ⟨rfl, rfl, rfl, trivial⟩ ?_
      exact cut22 (gI σ (h + 3) (u.toNat)) (by omega)
set_option maxHeartbeats 4000000 in
set_option maxRecDepth 20000 in
theorem k1_partOfDegree (l : Launch) (σ : VH) (h : Nat) (w : Int) (rw : (-2147483648 ≤ w ∧ w < 2147483648)) (d : Int) (rd : (-2147483648 ≤ d ∧ d < 2147483648)) (hh : LawOK σ h) : Ct l yX1_partOfDegree cX1_partOfDegree 4 (some .int) 0 0 0 [.ref h, .int (iz w), .int (iz d)] σ (fun r τ => ∃ z : Int, r = some (.int (iz z)) ∧ (-2147483648 ≤ z ∧ z < 2147483648) ∧ (σ = τ)) := by
  refine Ct.enter rfl (Nat.le_of_ble_eq_true rfl) ?_
  intro κ γ hκ O hrc hrs
  subst hκ
  have := hh.1
  refine z_aload_n (pc := 0) O dX1_partOfDegree_0 rfl ?_
  refine z_getR (pc := 1) (h + 2) O fl_X1_15 rfl (hh).is (hh).2.2.1.2.1 dX1_partOfDegree_1 ?_
  refine z_iconst (pc := 4) (v := iz (0)) O dX1_partOfDegree_4 (by decide) ?_
  refine zi_ialdv (pc := 5) 0 (gI σ (h + 2) 0) O (hh).2.2.2.1.2.1 rfl (by decide) (by omega) (izg _ (h + 2) 0) dX1_partOfDegree_5 ?_
  have := rgI σ (h + 2) 0
  refine z_aload_n (pc := 6) O dX1_partOfDegree_6 rfl ?_
  refine z_getR (pc := 7) (h + 2) O fl_X1_15 rfl (hh).is (hh).2.2.1.2.1 dX1_partOfDegree_7 ?_
  refine z_iconst (pc := 10) (v := iz (1)) O dX1_partOfDegree_10 (by decide) ?_
  refine zi_ialdv (pc := 11) 1 (gI σ (h + 2) 1) O (hh).2.2.2.1.2.1 rfl (by decide) (by omega) (izg _ (h + 2) 1) dX1_partOfDegree_11 ?_
  have := rgI σ (h + 2) 1
  refine zi_iadd (pc := 12) O dX1_partOfDegree_12 ?_
  refine zi_any (fun z1 rz1 ez1 => ?_)
  refine z_aload_n (pc := 13) O dX1_partOfDegree_13 rfl ?_
  refine z_getR (pc := 14) (h + 2) O fl_X1_15 rfl (hh).is (hh).2.2.1.2.1 dX1_partOfDegree_14 ?_
  refine z_iconst (pc := 17) (v := iz (2)) O dX1_partOfDegree_17 (by decide) ?_
  refine zi_ialdv (pc := 18) 2 (gI σ (h + 2) 2) O (hh).2.2.2.1.2.1 rfl (by decide) (by omega) (izg _ (h + 2) 2) dX1_partOfDegree_18 ?_
  have := rgI σ (h + 2) 2
  refine zi_iadd (pc := 19) O dX1_partOfDegree_19 ?_
  refine zi_any (fun z2 rz2 ez2 => ?_)
  refine z_aload_n (pc := 20) O dX1_partOfDegree_20 rfl ?_
  refine z_getR (pc := 21) (h + 2) O fl_X1_15 rfl (hh).is (hh).2.2.1.2.1 dX1_partOfDegree_21 ?_
  refine z_iconst (pc := 24) (v := iz (3)) O dX1_partOfDegree_24 (by decide) ?_
  refine zi_ialdv (pc := 25) 3 (gI σ (h + 2) 3) O (hh).2.2.2.1.2.1 rfl (by decide) (by omega) (izg _ (h + 2) 3) dX1_partOfDegree_25 ?_
  have := rgI σ (h + 2) 3
  refine zi_iadd (pc := 26) O dX1_partOfDegree_26 ?_
  refine zi_any (fun z3 rz3 ez3 => ?_)
  refine z_istore_n (pc := 27) [(0, .ref h), (1, .int (iz w)), (2, .int (iz d)), (3, .int (iz z3))] O dX1_partOfDegree_27 (by decide) rfl ?_
  refine z_iload_n (pc := 28) O dX1_partOfDegree_28 rfl ?_
  refine zi_if_le (pc := 29) (tgt := 45) O dX1_partOfDegree_29 (by decide) (by omega) (fun h29 => ?_) (fun h29 => ?_)
  · refine z_iconst (pc := 45) (v := iz (0)) O dX1_partOfDegree_45 (by decide) ?_
    refine z_iret (pc := 46) O dX1_partOfDegree_46 ?_
    exact ⟨0, rfl, (by decide), rfl⟩
  · refine z_iload_n (pc := 32) O dX1_partOfDegree_32 rfl ?_
    refine zi_if_lt (pc := 33) (tgt := 45) O dX1_partOfDegree_33 (by decide) (by omega) (fun h33 => ?_) (fun h33 => ?_)
    · refine z_iconst (pc := 45) (v := iz (0)) O dX1_partOfDegree_45 (by decide) ?_
      refine z_iret (pc := 46) O dX1_partOfDegree_46 ?_
      exact ⟨0, rfl, (by decide), rfl⟩
    · refine z_iload_n (pc := 36) O dX1_partOfDegree_36 rfl ?_
      refine z_aload_n (pc := 37) O dX1_partOfDegree_37 rfl ?_
      refine z_getR (pc := 38) (h + 2) O fl_X1_15 rfl (hh).is (hh).2.2.1.2.1 dX1_partOfDegree_38 ?_
      refine z_alen (pc := 41) (t0 := 2) (n := iz 4) O (hh).2.2.2.1.2.1 (by decide) rfl (by decide) dX1_partOfDegree_41 ?_
      refine zi_icmp_lt (pc := 42) (tgt := 47) O dX1_partOfDegree_42 (by decide) (by omega) (by decide) (fun h42 => ?_) (fun h42 => ?_)
      · refine z_iload_n (pc := 47) O dX1_partOfDegree_47 rfl ?_
        refine z_i2l (pc := 48) O dX1_partOfDegree_48 ?_
        refine z_topl (pc := 49) (fun w4 ew4 => ?_)
        refine z_aload_n (pc := 49) O dX1_partOfDegree_49 rfl ?_
        refine z_getR (pc := 50) (h + 2) O fl_X1_15 rfl (hh).is (hh).2.2.1.2.1 dX1_partOfDegree_50 ?_
        refine z_iload_n (pc := 53) O dX1_partOfDegree_53 rfl ?_
        refine zi_ialdv (pc := 54) (d.toNat) (gI σ (h + 2) (d.toNat)) O (hh).2.2.2.1.2.1 (by omega) (by omega) (by omega) (izg _ (h + 2) (d.toNat)) dX1_partOfDegree_54 ?_
        have := rgI σ (h + 2) (d.toNat)
        refine z_i2l (pc := 55) O dX1_partOfDegree_55 ?_
        refine z_topl (pc := 56) (fun w5 ew5 => ?_)
        refine z_lmul (pc := 56) O dX1_partOfDegree_56 ?_
        refine z_topl (pc := 57) (fun w6 ew6 => ?_)
        refine z_iload_n (pc := 57) O dX1_partOfDegree_57 rfl ?_
        refine z_i2l (pc := 58) O dX1_partOfDegree_58 ?_
        refine z_topl (pc := 59) (fun w7 ew7 => ?_)
        refine z_ldiv (pc := 59) O dX1_partOfDegree_59 (fun h0 => by have h1 := iz_l0 (a := z3) (by omega) ((ew7).symm.trans h0); omega) ?_
        refine z_topl (pc := 60) (fun w8 ew8 => ?_)
        refine z_l2i (pc := 60) O dX1_partOfDegree_60 ?_
        refine zi_any (fun z9 rz9 ez9 => ?_)
        refine z_iret (pc := 61) O dX1_partOfDegree_61 ?_
        exact ⟨z9, rfl, (by omega), rfl⟩
      · refine z_iconst (pc := 45) (v := iz (0)) O dX1_partOfDegree_45 (by decide) ?_
        refine z_iret (pc := 46) O dX1_partOfDegree_46 ?_
        exact ⟨0, rfl, (by decide), rfl⟩
