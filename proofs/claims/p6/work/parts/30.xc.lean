theorem Ar.top {σ : VH} {v c kd n : Nat} (h : Is σ v c) : Ar (sN σ (kd, n)) (hN σ) kd n := ⟨by have := h.1; have := h.2.1; omega, Nat.lt_succ_self _, by rw [hS_sN, if_pos rfl]⟩
theorem fit_z {z : Int} (h : z = 0 ∨ z = 1) : fits .boolean (.int (iz z)) = true := by
  rcases h with h | h <;> (subst h; rfl)
set_option maxHeartbeats 4000000 in
set_option maxRecDepth 20000 in
theorem c1_init (l : Launch) (b : Nat) (σ : VH) (hb : Is σ b 1) (d n : Int) (hn : 1 ≤ n ∧ n ≤ 701)  : Ct l yX1_init cX1_init 3 none 1 8 837 [.ref b, .int (iz d), .int (iz n)] σ (fun r τ => r = none ∧ τ = in_X1 b (iz d) n.toNat σ) := by
  refine Ct.enter rfl (Nat.le_of_ble_eq_true rfl) ?_
  intro κ γ hκ O hrc hrs
  subst hκ
  refine z_aload_n (pc := 0) O dX1_init_0 rfl ?_
  refine z_objInit (pc := 1) O (by decide) tw_265 tw_19 tw_20 (Nat.le_of_ble_eq_true rfl) dX1_init_1 ?_
  refine z_aload_n (pc := 4) O dX1_init_4 rfl ?_
  refine z_bipush (pc := 5) (v := 12) O dX1_init_5 (by decide) ?_
  refine na_long (pc := 7) (N := 12) O rfl (by decide) ⟨by rw [hrc]; decide, by rw [hrs]; decide⟩ dX1_init_7 ?_
  replace hb := hb.grow (23, 12)
  refine z_putFR (pc := 9) O fl_X1_9 (fun C T h => by cases h; rfl) rfl (fun _ => ⟨rfl, rfl⟩) hb dX1_init_9 ?_
  refine z_aload_n (pc := 12) O dX1_init_12 rfl ?_
  refine z_iconst (pc := 13) (v := 4) O dX1_init_13 (by decide) ?_
  refine na_int (pc := 14) (N := 4) O rfl (by decide) ⟨by rw [hrc]; decide, by rw [hrs]; decide⟩ dX1_init_14 ?_
  have hsh := Ar.top (kd := 22) (n := 4) hb
  replace hb := hb.grow (22, 4)
  refine z_dup (pc := 16) O dX1_init_16 rfl ?_
  refine z_iconst (pc := 17) (v := 0) O dX1_init_17 (by decide) ?_
  refine z_iconst (pc := 18) (v := 1) O dX1_init_18 (by decide) ?_
  refine z_iast (pc := 19) 0 O hsh rfl (by decide) (by decide) dX1_init_19 ?_
  refine z_dup (pc := 20) O dX1_init_20 rfl ?_
  refine z_iconst (pc := 21) (v := 1) O dX1_init_21 (by decide) ?_
  refine z_iconst (pc := 22) (v := 0) O dX1_init_22 (by decide) ?_
  refine z_iast (pc := 23) 1 O hsh rfl (by decide) (by decide) dX1_init_23 ?_
  refine z_dup (pc := 24) O dX1_init_24 rfl ?_
  refine z_iconst (pc := 25) (v := 2) O dX1_init_25 (by decide) ?_
  refine z_iconst (pc := 26) (v := 0) O dX1_init_26 (by decide) ?_
  refine z_iast (pc := 27) 2 O hsh rfl (by decide) (by decide) dX1_init_27 ?_
  refine z_dup (pc := 28) O dX1_init_28 rfl ?_
  refine z_iconst (pc := 29) (v := 3) O dX1_init_29 (by decide) ?_
  refine z_iconst (pc := 30) (v := 0) O dX1_init_30 (by decide) ?_
  refine z_iast (pc := 31) 3 O hsh rfl (by decide) (by decide) dX1_init_31 ?_
  refine z_putFR (pc := 32) O fl_X1_15 (fun C T h => by cases h; rfl) rfl (fun _ => ⟨rfl, rfl⟩) hb dX1_init_32 ?_
  refine z_aload_n (pc := 35) O dX1_init_35 rfl ?_
  refine z_iconst (pc := 36) (v := 1) O dX1_init_36 (by decide) ?_
  refine z_putI (pc := 37) O fl_X1_19 rfl ⟨rfl, rfl⟩ hb dX1_init_37 ?_
  refine z_aload_n (pc := 40) O dX1_init_40 rfl ?_
  refine z_iconst (pc := 41) (v := 1) O dX1_init_41 (by decide) ?_
  refine z_putI (pc := 42) O fl_X1_23 rfl ⟨rfl, rfl⟩ hb dX1_init_42 ?_
  refine z_aload_n (pc := 45) O dX1_init_45 rfl ?_
  refine z_bipush (pc := 46) (v := 12) O dX1_init_46 (by decide) ?_
  refine na_int (pc := 48) (N := 12) O rfl (by decide) ⟨by rw [hrc]; decide, by rw [hrs]; decide⟩ dX1_init_48 ?_
  replace hb := hb.grow (22, 12)
  refine z_putFR (pc := 50) O fl_X1_26 (fun C T h => by cases h; rfl) rfl (fun _ => ⟨rfl, rfl⟩) hb dX1_init_50 ?_
  refine z_aload_n (pc := 53) O dX1_init_53 rfl ?_
  refine z_bipush (pc := 54) (v := 16) O dX1_init_54 (by decide) ?_
  refine na_int (pc := 56) (N := 16) O rfl (by decide) ⟨by rw [hrc]; decide, by rw [hrs]; decide⟩ dX1_init_56 ?_
  replace hb := hb.grow (22, 16)
  refine z_putFR (pc := 58) O fl_X1_29 (fun C T h => by cases h; rfl) rfl (fun _ => ⟨rfl, rfl⟩) hb dX1_init_58 ?_
  refine z_aload_n (pc := 61) O dX1_init_61 rfl ?_
  refine z_bipush (pc := 62) (v := 16) O dX1_init_62 (by decide) ?_
  refine na_int (pc := 64) (N := 16) O rfl (by decide) ⟨by rw [hrc]; decide, by rw [hrs]; decide⟩ dX1_init_64 ?_
  replace hb := hb.grow (22, 16)
  refine z_putFR (pc := 66) O fl_X1_32 (fun C T h => by cases h; rfl) rfl (fun _ => ⟨rfl, rfl⟩) hb dX1_init_66 ?_
  refine z_aload_n (pc := 69) O dX1_init_69 rfl ?_
  refine z_bipush (pc := 70) (v := 16) O dX1_init_70 (by decide) ?_
  refine na_int (pc := 72) (N := 16) O rfl (by decide) ⟨by rw [hrc]; decide, by rw [hrs]; decide⟩ dX1_init_72 ?_
  replace hb := hb.grow (22, 16)
  refine z_putFR (pc := 74) O fl_X1_35 (fun C T h => by cases h; rfl) rfl (fun _ => ⟨rfl, rfl⟩) hb dX1_init_74 ?_
  refine z_aload_n (pc := 77) O dX1_init_77 rfl ?_
  refine z_bipush (pc := 78) (v := 60) O dX1_init_78 (by decide) ?_
  refine na_int (pc := 80) (N := 60) O rfl (by decide) ⟨by rw [hrc]; decide, by rw [hrs]; decide⟩ dX1_init_80 ?_
  replace hb := hb.grow (22, 60)
  refine z_putFR (pc := 82) O fl_X1_38 (fun C T h => by cases h; rfl) rfl (fun _ => ⟨rfl, rfl⟩) hb dX1_init_82 ?_
  refine z_aload_n (pc := 85) O dX1_init_85 rfl ?_
  refine z_iload_n (pc := 86) O dX1_init_86 rfl ?_
  refine z_putFI (pc := 87) O fl_X1_41 (fun C T h => by cases h; rfl) rfl ⟨rfl, rfl⟩ hb dX1_init_87 ?_
  refine z_aload_n (pc := 90) O dX1_init_90 rfl ?_
  refine z_iload_n (pc := 91) O dX1_init_91 rfl ?_
  refine z_if_le (pc := 92) (tgt := 99) O dX1_init_92 (by decide) (fun h92 => ?_) (fun h92 => ?_)
  · exfalso; have h9 := (iz_le (a := n) (b := 0) (by omega) (by omega)).mp h92; omega
  · refine z_iload_n (pc := 95) O dX1_init_95 rfl ?_
    refine z_goto (pc := 96) (tgt := 100) O dX1_init_96 (by decide) ?_
    refine na_int (pc := 100) (N := n.toNat) O (iz_nI (by omega)) (by omega) ⟨by rw [hrc]; decide, by rw [hrs]; omega⟩ dX1_init_100 ?_
    replace hb := hb.grow (22, n.toNat)
    refine z_putFR (pc := 102) O fl_X1_44 (fun C T h => by cases h; rfl) rfl (fun _ => ⟨rfl, rfl⟩) hb dX1_init_102 ?_
    refine z_widen (k := 8) (n := 837) (by decide) (by omega) ?_
    refine z_vret (pc := 105) O dX1_init_105 ?_
    exact ⟨rfl, rfl⟩
set_option maxHeartbeats 4000000 in
set_option maxRecDepth 20000 in
theorem c4_init (l : Launch) (b w : Nat) (σ : VH) (hb : Is σ b 4) (J : Lay σ) (h87 : 87 ≤ b)  : Ct l yX4_init cX4_init 3 none 1 0 0 [.ref b, .ref 4, .ref w] σ (fun r τ => r = none ∧ τ = in_X4 b w σ) := by
  refine Ct.enter rfl (Nat.le_of_ble_eq_true rfl) ?_
  intro κ γ hκ O hrc hrs
  subst hκ
  refine z_aload_n (pc := 0) O dX4_init_0 rfl ?_
  refine z_objInit (pc := 1) O (by decide) tw_332 tw_19 tw_20 (Nat.le_of_ble_eq_true rfl) dX4_init_1 ?_
  refine z_aload_n (pc := 4) O dX4_init_4 rfl ?_
  refine z_iconst (pc := 5) (v := -1) O dX4_init_5 (by decide) ?_
  refine z_putI (pc := 6) O fl_X4_9 rfl ⟨rfl, rfl⟩ hb dX4_init_6 ?_
  refine z_aload_n (pc := 9) O dX4_init_9 rfl ?_
  refine z_aload_n (pc := 10) O dX4_init_10 rfl ?_
  refine z_putFR (pc := 11) O fl_X4_15 (fun C T h => by cases h; rfl) rfl (fun _ => ⟨rfl, rfl⟩) hb dX4_init_11 ?_
  refine z_aload_n (pc := 14) O dX4_init_14 rfl ?_
  refine z_aload_n (pc := 15) O dX4_init_15 rfl ?_
  refine z_putFR (pc := 16) O fl_X4_19 (fun C T h => by cases h; rfl) rfl (fun _ => ⟨rfl, rfl⟩) hb dX4_init_16 ?_
  refine z_aload_n (pc := 19) O dX4_init_19 rfl ?_
  refine z_aload_n (pc := 20) O dX4_init_20 rfl ?_
  refine z_getR (pc := 21) 5 O fl_X4_23 rfl (jo_4 (show Lay (sR (sR (sI σ b 9 (-1)) b 0 (some 4)) b 1 (some w)) from FrA.lay (n := 87) (((FrA.rf J.1).pI h87).pR h87 |>.pR h87) (Nat.le_refl _) J)) (jr_4_0 (show Lay (sR (sR (sI σ b 9 (-1)) b 0 (some 4)) b 1 (some w)) from FrA.lay (n := 87) (((FrA.rf J.1).pI h87).pR h87 |>.pR h87) (Nat.le_refl _) J)) dX4_init_21 ?_
  refine z_iconst (pc := 24) (v := 0) O dX4_init_24 (by decide) ?_
  refine z_lald (pc := 25) 0 O (Or.inl (ja_5 (show Lay (sR (sR (sI σ b 9 (-1)) b 0 (some 4)) b 1 (some w)) from FrA.lay (n := 87) (((FrA.rf J.1).pI h87).pR h87 |>.pR h87) (Nat.le_refl _) J))) rfl (by decide) (by decide) dX4_init_25 ?_
  refine z_putL (pc := 26) O fl_X4_29 rfl ⟨rfl, rfl⟩ hb dX4_init_26 ?_
  refine z_vret (pc := 29) O dX4_init_29 ?_
  exact ⟨rfl, rfl⟩
set_option maxHeartbeats 4000000 in
set_option maxRecDepth 20000 in
theorem c0_init (l : Launch) (c : Nat) (σ : VH) (hb : Is σ c 0) (y o : Int) (v : Int64) (d p n : Int) (hn : n = 0 ∨ n = 1)  : Ct l yX0_init cX0_init 8 none 1 0 0 [.ref c, .int (iz y), .int (iz o), .long v, .int (iz d), .int (iz p), .int (iz n)] σ (fun r τ => r = none ∧ τ = in_X0 c (iz y) (iz o) v (iz d) (iz p) (iz n) σ) := by
  refine Ct.enter rfl (Nat.le_of_ble_eq_true rfl) ?_
  intro κ γ hκ O hrc hrs
  subst hκ
  refine z_aload_n (pc := 0) O dX0_init_0 rfl ?_
  refine z_objInit (pc := 1) O (by decide) tw_562 tw_19 tw_20 (Nat.le_of_ble_eq_true rfl) dX0_init_1 ?_
  refine z_aload_n (pc := 4) O dX0_init_4 rfl ?_
  refine z_iconst (pc := 5) (v := -1) O dX0_init_5 (by decide) ?_
  refine z_putI (pc := 6) O fl_X0_9 rfl ⟨rfl, rfl⟩ hb dX0_init_6 ?_
  refine z_aload_n (pc := 9) O dX0_init_9 rfl ?_
  refine z_iconst (pc := 10) (v := -1) O dX0_init_10 (by decide) ?_
  refine z_putI (pc := 11) O fl_X0_15 rfl ⟨rfl, rfl⟩ hb dX0_init_11 ?_
  refine z_aload_n (pc := 14) O dX0_init_14 rfl ?_
  refine z_iload_n (pc := 15) O dX0_init_15 rfl ?_
  refine z_putFI (pc := 16) O fl_X0_18 (fun C T h => by cases h; rfl) rfl ⟨rfl, rfl⟩ hb dX0_init_16 ?_
  refine z_aload_n (pc := 19) O dX0_init_19 rfl ?_
  refine z_iload_n (pc := 20) O dX0_init_20 rfl ?_
  refine z_putFI (pc := 21) O fl_X0_21 (fun C T h => by cases h; rfl) rfl ⟨rfl, rfl⟩ hb dX0_init_21 ?_
  refine z_aload_n (pc := 24) O dX0_init_24 rfl ?_
  refine z_lload_n (pc := 25) O dX0_init_25 rfl ?_
  refine z_putFL (pc := 26) O fl_X0_24 (fun C T h => by cases h; rfl) rfl ⟨rfl, rfl⟩ hb dX0_init_26 ?_
  refine z_aload_n (pc := 29) O dX0_init_29 rfl ?_
  refine z_iload (pc := 30) O dX0_init_30 rfl ?_
  refine z_putFI (pc := 32) O fl_X0_28 (fun C T h => by cases h; rfl) rfl ⟨rfl, rfl⟩ hb dX0_init_32 ?_
  refine z_aload_n (pc := 35) O dX0_init_35 rfl ?_
  refine z_iload (pc := 36) O dX0_init_36 rfl ?_
  refine z_putFI (pc := 38) O fl_X0_31 (fun C T h => by cases h; rfl) rfl ⟨rfl, rfl⟩ hb dX0_init_38 ?_
  refine z_aload_n (pc := 41) O dX0_init_41 rfl ?_
  refine z_iload (pc := 42) O dX0_init_42 rfl ?_
  refine z_putFI (pc := 44) O fl_X0_34 (fun C T h => by cases h; rfl) rfl ⟨nar_z hn, fit_z hn⟩ hb dX0_init_44 ?_
  refine z_vret (pc := 47) O dX0_init_47 ?_
  exact ⟨rfl, rfl⟩
