/-- a new row, put into field k of b -/
def nf (b k : Nat) (sh : Nat × Nat) (σ : VH) : VH := sR (sN σ sh) b k (some (hN σ))
theorem Is.grow {σ : VH} {v ci : Nat} (h : Is σ v ci) (sh : Nat × Nat) : Is (sN σ sh) v ci := ⟨h.1, by have := h.2.1; rw [hN_sN]; omega, by rw [hS_sN, if_neg (Nat.ne_of_lt h.2.1)]; exact h.2.2⟩
theorem Is.top {σ : VH} {ci n : Nat} (h : 2 ≤ hN σ) : Is (sN σ (ci, n)) (hN σ) ci := ⟨h, Nat.lt_succ_self _, by rw [hS_sN, if_pos rfl]⟩
theorem Is.top' {σ : VH} {ci n v c : Nat} (h : Is σ v c) : Is (sN σ (ci, n)) (hN σ) ci := Is.top (by have := h.1; have := h.2.1; omega)
/-- a new object of class ci, made by f, put into field k of b -/
def no (b k ci : Nat) (f : Nat → VH → VH) (σ : VH) : VH := sR (f (hN σ) (sN σ (ci, 0))) b k (some (hN σ))
def in_X2 (b : Nat) (σ : VH) : VH := (nf b 2 (22, 60) (nf b 1 (22, 60) (nf b 0 (22, 60) σ)))
set_option maxHeartbeats 4000000 in
set_option maxRecDepth 20000 in
theorem ct_X2_init (l : Launch) (b : Nat) (σ : VH) (hb : Is σ b 2) : Ct l yX2_init cX2_init 1 none 1 3 180 [.ref b] σ (fun r τ => r = none ∧ τ = in_X2 b σ) := by
  refine Ct.enter rfl (Nat.le_of_ble_eq_true rfl) ?_
  intro κ γ hκ O hrc hrs
  subst hκ
  refine z_aload_n (pc := 0) O dX2_init_0 rfl ?_
  refine z_objInit (pc := 1) O (by decide) tw_138 tw_19 tw_20 (Nat.le_of_ble_eq_true rfl) dX2_init_1 ?_
  refine z_aload_n (pc := 4) O dX2_init_4 rfl ?_
  refine z_bipush (pc := 5) (v := 60) O dX2_init_5 (by decide) ?_
  refine na_int (pc := 7) (N := 60) O rfl (by decide) ⟨by rw [hrc]; decide, by rw [hrs]; decide⟩ dX2_init_7 ?_
  replace hb := hb.grow (22, 60)
  refine z_putFR (pc := 9) O fl_X2_9 (fun C T h => by cases h; rfl) rfl (fun _ => ⟨rfl, rfl⟩) hb dX2_init_9 ?_
  refine z_aload_n (pc := 12) O dX2_init_12 rfl ?_
  refine z_bipush (pc := 13) (v := 60) O dX2_init_13 (by decide) ?_
  refine na_int (pc := 15) (N := 60) O rfl (by decide) ⟨by rw [hrc]; decide, by rw [hrs]; decide⟩ dX2_init_15 ?_
  replace hb := hb.grow (22, 60)
  refine z_putFR (pc := 17) O fl_X2_15 (fun C T h => by cases h; rfl) rfl (fun _ => ⟨rfl, rfl⟩) hb dX2_init_17 ?_
  refine z_aload_n (pc := 20) O dX2_init_20 rfl ?_
  refine z_bipush (pc := 21) (v := 60) O dX2_init_21 (by decide) ?_
  refine na_int (pc := 23) (N := 60) O rfl (by decide) ⟨by rw [hrc]; decide, by rw [hrs]; decide⟩ dX2_init_23 ?_
  replace hb := hb.grow (22, 60)
  refine z_putFR (pc := 25) O fl_X2_18 (fun C T h => by cases h; rfl) rfl (fun _ => ⟨rfl, rfl⟩) hb dX2_init_25 ?_
  refine z_vret (pc := 28) O dX2_init_28 ?_
  exact ⟨rfl, rfl⟩
def in_X3 (b : Nat) (σ : VH) : VH := (nf b 5 (20, 20) (nf b 4 (22, 20) (nf b 3 (22, 20) (nf b 2 (22, 20) (nf b 1 (22, 20) (nf b 0 (22, 20) σ))))))
set_option maxHeartbeats 4000000 in
set_option maxRecDepth 20000 in
theorem ct_X3_init (l : Launch) (b : Nat) (σ : VH) (hb : Is σ b 3) : Ct l yX3_init cX3_init 1 none 1 6 120 [.ref b] σ (fun r τ => r = none ∧ τ = in_X3 b σ) := by
  refine Ct.enter rfl (Nat.le_of_ble_eq_true rfl) ?_
  intro κ γ hκ O hrc hrs
  subst hκ
  refine z_aload_n (pc := 0) O dX3_init_0 rfl ?_
  refine z_objInit (pc := 1) O (by decide) tw_54 tw_19 tw_20 (Nat.le_of_ble_eq_true rfl) dX3_init_1 ?_
  refine z_aload_n (pc := 4) O dX3_init_4 rfl ?_
  refine z_bipush (pc := 5) (v := 20) O dX3_init_5 (by decide) ?_
  refine na_int (pc := 7) (N := 20) O rfl (by decide) ⟨by rw [hrc]; decide, by rw [hrs]; decide⟩ dX3_init_7 ?_
  replace hb := hb.grow (22, 20)
  refine z_putFR (pc := 9) O fl_X3_9 (fun C T h => by cases h; rfl) rfl (fun _ => ⟨rfl, rfl⟩) hb dX3_init_9 ?_
  refine z_aload_n (pc := 12) O dX3_init_12 rfl ?_
  refine z_bipush (pc := 13) (v := 20) O dX3_init_13 (by decide) ?_
  refine na_int (pc := 15) (N := 20) O rfl (by decide) ⟨by rw [hrc]; decide, by rw [hrs]; decide⟩ dX3_init_15 ?_
  replace hb := hb.grow (22, 20)
  refine z_putFR (pc := 17) O fl_X3_15 (fun C T h => by cases h; rfl) rfl (fun _ => ⟨rfl, rfl⟩) hb dX3_init_17 ?_
  refine z_aload_n (pc := 20) O dX3_init_20 rfl ?_
  refine z_bipush (pc := 21) (v := 20) O dX3_init_21 (by decide) ?_
  refine na_int (pc := 23) (N := 20) O rfl (by decide) ⟨by rw [hrc]; decide, by rw [hrs]; decide⟩ dX3_init_23 ?_
  replace hb := hb.grow (22, 20)
  refine z_putFR (pc := 25) O fl_X3_18 (fun C T h => by cases h; rfl) rfl (fun _ => ⟨rfl, rfl⟩) hb dX3_init_25 ?_
  refine z_aload_n (pc := 28) O dX3_init_28 rfl ?_
  refine z_bipush (pc := 29) (v := 20) O dX3_init_29 (by decide) ?_
  refine na_int (pc := 31) (N := 20) O rfl (by decide) ⟨by rw [hrc]; decide, by rw [hrs]; decide⟩ dX3_init_31 ?_
  replace hb := hb.grow (22, 20)
  refine z_putFR (pc := 33) O fl_X3_21 (fun C T h => by cases h; rfl) rfl (fun _ => ⟨rfl, rfl⟩) hb dX3_init_33 ?_
  refine z_aload_n (pc := 36) O dX3_init_36 rfl ?_
  refine z_bipush (pc := 37) (v := 20) O dX3_init_37 (by decide) ?_
  refine na_int (pc := 39) (N := 20) O rfl (by decide) ⟨by rw [hrc]; decide, by rw [hrs]; decide⟩ dX3_init_39 ?_
  replace hb := hb.grow (22, 20)
  refine z_putFR (pc := 41) O fl_X3_24 (fun C T h => by cases h; rfl) rfl (fun _ => ⟨rfl, rfl⟩) hb dX3_init_41 ?_
  refine z_aload_n (pc := 44) O dX3_init_44 rfl ?_
  refine z_bipush (pc := 45) (v := 20) O dX3_init_45 (by decide) ?_
  refine na_boolean (pc := 47) (N := 20) O rfl (by decide) ⟨by rw [hrc]; decide, by rw [hrs]; decide⟩ dX3_init_47 ?_
  replace hb := hb.grow (20, 20)
  refine z_putFR (pc := 49) O fl_X3_27 (fun C T h => by cases h; rfl) rfl (fun _ => ⟨rfl, rfl⟩) hb dX3_init_49 ?_
  refine z_vret (pc := 52) O dX3_init_52 ?_
  exact ⟨rfl, rfl⟩
def in_X5 (b : Nat) (σ : VH) : VH := (nf b 1 (22, 701) (nf b 0 (23, 701) σ))
set_option maxHeartbeats 4000000 in
set_option maxRecDepth 20000 in
theorem ct_X5_init (l : Launch) (b : Nat) (σ : VH) (hb : Is σ b 5) : Ct l yX5_init cX5_init 1 none 1 2 1402 [.ref b] σ (fun r τ => r = none ∧ τ = in_X5 b σ) := by
  refine Ct.enter rfl (Nat.le_of_ble_eq_true rfl) ?_
  intro κ γ hκ O hrc hrs
  subst hκ
  refine z_aload_n (pc := 0) O dX5_init_0 rfl ?_
  refine z_objInit (pc := 1) O (by decide) tw_26 tw_19 tw_20 (Nat.le_of_ble_eq_true rfl) dX5_init_1 ?_
  refine z_aload_n (pc := 4) O dX5_init_4 rfl ?_
  refine z_sipush (pc := 5) (v := 701) O dX5_init_5 (by decide) ?_
  refine na_long (pc := 8) (N := 701) O rfl (by decide) ⟨by rw [hrc]; decide, by rw [hrs]; decide⟩ dX5_init_8 ?_
  replace hb := hb.grow (23, 701)
  refine z_putFR (pc := 10) O fl_X5_9 (fun C T h => by cases h; rfl) rfl (fun _ => ⟨rfl, rfl⟩) hb dX5_init_10 ?_
  refine z_aload_n (pc := 13) O dX5_init_13 rfl ?_
  refine z_sipush (pc := 14) (v := 701) O dX5_init_14 (by decide) ?_
  refine na_int (pc := 17) (N := 701) O rfl (by decide) ⟨by rw [hrc]; decide, by rw [hrs]; decide⟩ dX5_init_17 ?_
  replace hb := hb.grow (22, 701)
  refine z_putFR (pc := 19) O fl_X5_15 (fun C T h => by cases h; rfl) rfl (fun _ => ⟨rfl, rfl⟩) hb dX5_init_19 ?_
  refine z_vret (pc := 22) O dX5_init_22 ?_
  exact ⟨rfl, rfl⟩
def in_X6 (b : Nat) (σ : VH) : VH := (nf b 3 (22, 60) (nf b 2 (22, 60) (nf b 1 (22, 60) (nf b 0 (22, 60) σ))))
set_option maxHeartbeats 4000000 in
set_option maxRecDepth 20000 in
theorem ct_X6_init (l : Launch) (b : Nat) (σ : VH) (hb : Is σ b 6) : Ct l yX6_init cX6_init 1 none 1 4 240 [.ref b] σ (fun r τ => r = none ∧ τ = in_X6 b σ) := by
  refine Ct.enter rfl (Nat.le_of_ble_eq_true rfl) ?_
  intro κ γ hκ O hrc hrs
  subst hκ
  refine z_aload_n (pc := 0) O dX6_init_0 rfl ?_
  refine z_objInit (pc := 1) O (by decide) tw_90 tw_19 tw_20 (Nat.le_of_ble_eq_true rfl) dX6_init_1 ?_
  refine z_aload_n (pc := 4) O dX6_init_4 rfl ?_
  refine z_bipush (pc := 5) (v := 60) O dX6_init_5 (by decide) ?_
  refine na_int (pc := 7) (N := 60) O rfl (by decide) ⟨by rw [hrc]; decide, by rw [hrs]; decide⟩ dX6_init_7 ?_
  replace hb := hb.grow (22, 60)
  refine z_putFR (pc := 9) O fl_X6_9 (fun C T h => by cases h; rfl) rfl (fun _ => ⟨rfl, rfl⟩) hb dX6_init_9 ?_
  refine z_aload_n (pc := 12) O dX6_init_12 rfl ?_
  refine z_bipush (pc := 13) (v := 60) O dX6_init_13 (by decide) ?_
  refine na_int (pc := 15) (N := 60) O rfl (by decide) ⟨by rw [hrc]; decide, by rw [hrs]; decide⟩ dX6_init_15 ?_
  replace hb := hb.grow (22, 60)
  refine z_putFR (pc := 17) O fl_X6_15 (fun C T h => by cases h; rfl) rfl (fun _ => ⟨rfl, rfl⟩) hb dX6_init_17 ?_
  refine z_aload_n (pc := 20) O dX6_init_20 rfl ?_
  refine z_bipush (pc := 21) (v := 60) O dX6_init_21 (by decide) ?_
  refine na_int (pc := 23) (N := 60) O rfl (by decide) ⟨by rw [hrc]; decide, by rw [hrs]; decide⟩ dX6_init_23 ?_
  replace hb := hb.grow (22, 60)
  refine z_putFR (pc := 25) O fl_X6_18 (fun C T h => by cases h; rfl) rfl (fun _ => ⟨rfl, rfl⟩) hb dX6_init_25 ?_
  refine z_aload_n (pc := 28) O dX6_init_28 rfl ?_
  refine z_bipush (pc := 29) (v := 60) O dX6_init_29 (by decide) ?_
  refine na_int (pc := 31) (N := 60) O rfl (by decide) ⟨by rw [hrc]; decide, by rw [hrs]; decide⟩ dX6_init_31 ?_
  replace hb := hb.grow (22, 60)
  refine z_putFR (pc := 33) O fl_X6_21 (fun C T h => by cases h; rfl) rfl (fun _ => ⟨rfl, rfl⟩) hb dX6_init_33 ?_
  refine z_vret (pc := 36) O dX6_init_36 ?_
  exact ⟨rfl, rfl⟩
def in_X7 (b : Nat) (σ : VH) : VH := (nf b 3 (22, 10) (nf b 2 (22, 10) (nf b 1 (22, 10) (nf b 0 (22, 10) σ))))
set_option maxHeartbeats 4000000 in
set_option maxRecDepth 20000 in
theorem ct_X7_init (l : Launch) (b : Nat) (σ : VH) (hb : Is σ b 7) : Ct l yX7_init cX7_init 1 none 1 4 40 [.ref b] σ (fun r τ => r = none ∧ τ = in_X7 b σ) := by
  refine Ct.enter rfl (Nat.le_of_ble_eq_true rfl) ?_
  intro κ γ hκ O hrc hrs
  subst hκ
  refine z_aload_n (pc := 0) O dX7_init_0 rfl ?_
  refine z_objInit (pc := 1) O (by decide) tw_113 tw_19 tw_20 (Nat.le_of_ble_eq_true rfl) dX7_init_1 ?_
  refine z_aload_n (pc := 4) O dX7_init_4 rfl ?_
  refine z_bipush (pc := 5) (v := 10) O dX7_init_5 (by decide) ?_
  refine na_int (pc := 7) (N := 10) O rfl (by decide) ⟨by rw [hrc]; decide, by rw [hrs]; decide⟩ dX7_init_7 ?_
  replace hb := hb.grow (22, 10)
  refine z_putFR (pc := 9) O fl_X7_9 (fun C T h => by cases h; rfl) rfl (fun _ => ⟨rfl, rfl⟩) hb dX7_init_9 ?_
  refine z_aload_n (pc := 12) O dX7_init_12 rfl ?_
  refine z_bipush (pc := 13) (v := 10) O dX7_init_13 (by decide) ?_
  refine na_int (pc := 15) (N := 10) O rfl (by decide) ⟨by rw [hrc]; decide, by rw [hrs]; decide⟩ dX7_init_15 ?_
  replace hb := hb.grow (22, 10)
  refine z_putFR (pc := 17) O fl_X7_15 (fun C T h => by cases h; rfl) rfl (fun _ => ⟨rfl, rfl⟩) hb dX7_init_17 ?_
  refine z_aload_n (pc := 20) O dX7_init_20 rfl ?_
  refine z_bipush (pc := 21) (v := 10) O dX7_init_21 (by decide) ?_
  refine na_int (pc := 23) (N := 10) O rfl (by decide) ⟨by rw [hrc]; decide, by rw [hrs]; decide⟩ dX7_init_23 ?_
  replace hb := hb.grow (22, 10)
  refine z_putFR (pc := 25) O fl_X7_18 (fun C T h => by cases h; rfl) rfl (fun _ => ⟨rfl, rfl⟩) hb dX7_init_25 ?_
  refine z_aload_n (pc := 28) O dX7_init_28 rfl ?_
  refine z_bipush (pc := 29) (v := 10) O dX7_init_29 (by decide) ?_
  refine na_int (pc := 31) (N := 10) O rfl (by decide) ⟨by rw [hrc]; decide, by rw [hrs]; decide⟩ dX7_init_31 ?_
  replace hb := hb.grow (22, 10)
  refine z_putFR (pc := 33) O fl_X7_21 (fun C T h => by cases h; rfl) rfl (fun _ => ⟨rfl, rfl⟩) hb dX7_init_33 ?_
  refine z_vret (pc := 36) O dX7_init_36 ?_
  exact ⟨rfl, rfl⟩
def in_X8 (b : Nat) (σ : VH) : VH := (nf b 16 (22, 7) (nf b 14 (22, 4) (no b 13 2 in_X2 (nf b 11 (25, 20) (no b 10 7 in_X7 (no b 9 6 in_X6 (no b 8 3 in_X3 (sI (nf b 4 (22, 4) (nf b 3 (24, 16) (no b 2 5 in_X5 (nf b 0 (21, 700) σ)))) b 6 (-1)))))))))
set_option maxHeartbeats 4000000 in
set_option maxRecDepth 20000 in
theorem ct_X8_init (l : Launch) (b : Nat) (σ : VH) (hb : Is σ b 8) : Ct l yX8_init cX8_init 1 none 2 30 2759 [.ref b] σ (fun r τ => r = none ∧ τ = in_X8 b σ) := by
  refine Ct.enter rfl (Nat.le_of_ble_eq_true rfl) ?_
  intro κ γ hκ O hrc hrs
  subst hκ
  refine z_aload_n (pc := 0) O dX8_init_0 rfl ?_
  refine z_objInit (pc := 1) O (by decide) tw_18 tw_19 tw_20 (Nat.le_of_ble_eq_true rfl) dX8_init_1 ?_
  refine z_aload_n (pc := 4) O dX8_init_4 rfl ?_
  refine z_sipush (pc := 5) (v := 700) O dX8_init_5 (by decide) ?_
  refine na_byte (pc := 8) (N := 700) O rfl (by decide) ⟨by rw [hrc]; decide, by rw [hrs]; decide⟩ dX8_init_8 ?_
  replace hb := hb.grow (21, 700)
  refine z_putFR (pc := 10) O fl_X8_9 (fun C T h => by cases h; rfl) rfl (fun _ => ⟨rfl, rfl⟩) hb dX8_init_10 ?_
  refine z_aload_n (pc := 13) O dX8_init_13 rfl ?_
  refine z_new (pc := 14) O kc_5 dv_5 tw_21 tw_22 tw_2 ⟨by rw [hrc]; decide, by rw [hrs]; decide⟩ dX8_init_14 ?_
  have ht := Is.top' (ci := 5) (n := 0) hb
  replace hb := hb.grow (5, 0)
  refine z_dup (pc := 17) O dX8_init_17 rfl ?_
  refine z_callIN (pc := 18) O cl_X8_15 (ct_X5_init _ _ _ ht) (by decide) rfl rfl (Nat.le_of_ble_eq_true rfl) ⟨by rw [hrc]; decide, by rw [hrs]; decide⟩ dX8_init_18 (fun r τ hp => ?_)
  obtain ⟨rfl, rfl⟩ := hp
  replace hb := (Is.grow (Is.grow hb (23, 701)) (22, 701))
  refine z_putFR (pc := 21) O fl_X8_16 (fun C T h => by cases h; rfl) rfl (fun _ => ⟨rfl, rfl⟩) hb dX8_init_21 ?_
  refine z_aload_n (pc := 24) O dX8_init_24 rfl ?_
  refine z_bipush (pc := 25) (v := 16) O dX8_init_25 (by decide) ?_
  refine z_newq (pc := 27) (kd := 24) (t0 := 4) (N := 16) O (by decide) rfl O.2.2.2.2.2.2.1.2.2.2.1 tw_47 rfl (by decide) ⟨by rw [hrc]; decide, by rw [hrs]; decide⟩ dX8_init_27 ?_
  replace hb := hb.grow (24, 16)
  refine z_putFR (pc := 30) O fl_X8_22 (fun C T h => by cases h; rfl) rfl (fun _ => ⟨rfl, rfl⟩) hb dX8_init_30 ?_
  refine z_aload_n (pc := 33) O dX8_init_33 rfl ?_
  refine z_iconst (pc := 34) (v := 4) O dX8_init_34 (by decide) ?_
  refine na_int (pc := 35) (N := 4) O rfl (by decide) ⟨by rw [hrc]; decide, by rw [hrs]; decide⟩ dX8_init_35 ?_
  replace hb := hb.grow (22, 4)
  refine z_putFR (pc := 37) O fl_X8_26 (fun C T h => by cases h; rfl) rfl (fun _ => ⟨rfl, rfl⟩) hb dX8_init_37 ?_
  refine z_aload_n (pc := 40) O dX8_init_40 rfl ?_
  refine z_iconst (pc := 41) (v := -1) O dX8_init_41 (by decide) ?_
  refine z_putI (pc := 42) O fl_X8_30 rfl ⟨rfl, rfl⟩ hb dX8_init_42 ?_
  refine z_aload_n (pc := 45) O dX8_init_45 rfl ?_
  refine z_new (pc := 46) O kc_3 dv_3 tw_49 tw_50 tw_3 ⟨by rw [hrc]; decide, by rw [hrs]; decide⟩ dX8_init_46 ?_
  have ht := Is.top' (ci := 3) (n := 0) hb
  replace hb := hb.grow (3, 0)
  refine z_dup (pc := 49) O dX8_init_49 rfl ?_
  refine z_callIN (pc := 50) O cl_X8_36 (ct_X3_init _ _ _ ht) (by decide) rfl rfl (Nat.le_of_ble_eq_true rfl) ⟨by rw [hrc]; decide, by rw [hrs]; decide⟩ dX8_init_50 (fun r τ hp => ?_)
  obtain ⟨rfl, rfl⟩ := hp
  replace hb := (Is.grow (Is.grow (Is.grow (Is.grow (Is.grow (Is.grow hb (22, 20)) (22, 20)) (22, 20)) (22, 20)) (22, 20)) (20, 20))
  refine z_putFR (pc := 53) O fl_X8_37 (fun C T h => by cases h; rfl) rfl (fun _ => ⟨rfl, rfl⟩) hb dX8_init_53 ?_
  refine z_aload_n (pc := 56) O dX8_init_56 rfl ?_
  refine z_new (pc := 57) O kc_6 dv_6 tw_85 tw_86 tw_4 ⟨by rw [hrc]; decide, by rw [hrs]; decide⟩ dX8_init_57 ?_
  have ht := Is.top' (ci := 6) (n := 0) hb
  replace hb := hb.grow (6, 0)
  refine z_dup (pc := 60) O dX8_init_60 rfl ?_
  refine z_callIN (pc := 61) O cl_X8_43 (ct_X6_init _ _ _ ht) (by decide) rfl rfl (Nat.le_of_ble_eq_true rfl) ⟨by rw [hrc]; decide, by rw [hrs]; decide⟩ dX8_init_61 (fun r τ hp => ?_)
  obtain ⟨rfl, rfl⟩ := hp
  replace hb := (Is.grow (Is.grow (Is.grow (Is.grow hb (22, 60)) (22, 60)) (22, 60)) (22, 60))
  refine z_putFR (pc := 64) O fl_X8_44 (fun C T h => by cases h; rfl) rfl (fun _ => ⟨rfl, rfl⟩) hb dX8_init_64 ?_
  refine z_aload_n (pc := 67) O dX8_init_67 rfl ?_
  refine z_new (pc := 68) O kc_7 dv_7 tw_108 tw_109 tw_5 ⟨by rw [hrc]; decide, by rw [hrs]; decide⟩ dX8_init_68 ?_
  have ht := Is.top' (ci := 7) (n := 0) hb
  replace hb := hb.grow (7, 0)
  refine z_dup (pc := 71) O dX8_init_71 rfl ?_
  refine z_callIN (pc := 72) O cl_X8_50 (ct_X7_init _ _ _ ht) (by decide) rfl rfl (Nat.le_of_ble_eq_true rfl) ⟨by rw [hrc]; decide, by rw [hrs]; decide⟩ dX8_init_72 (fun r τ hp => ?_)
  obtain ⟨rfl, rfl⟩ := hp
  replace hb := (Is.grow (Is.grow (Is.grow (Is.grow hb (22, 10)) (22, 10)) (22, 10)) (22, 10))
  refine z_putFR (pc := 75) O fl_X8_51 (fun C T h => by cases h; rfl) rfl (fun _ => ⟨rfl, rfl⟩) hb dX8_init_75 ?_
  refine z_aload_n (pc := 78) O dX8_init_78 rfl ?_
  refine z_bipush (pc := 79) (v := 20) O dX8_init_79 (by decide) ?_
  refine z_newq (pc := 81) (kd := 25) (t0 := 5) (N := 20) O (by decide) rfl O.2.2.2.2.2.2.1.2.2.2.2 tw_131 rfl (by decide) ⟨by rw [hrc]; decide, by rw [hrs]; decide⟩ dX8_init_81 ?_
  replace hb := hb.grow (25, 20)
  refine z_putFR (pc := 84) O fl_X8_57 (fun C T h => by cases h; rfl) rfl (fun _ => ⟨rfl, rfl⟩) hb dX8_init_84 ?_
  refine z_aload_n (pc := 87) O dX8_init_87 rfl ?_
  refine z_new (pc := 88) O kc_2 dv_2 tw_133 tw_134 tw_6 ⟨by rw [hrc]; decide, by rw [hrs]; decide⟩ dX8_init_88 ?_
  have ht := Is.top' (ci := 2) (n := 0) hb
  replace hb := hb.grow (2, 0)
  refine z_dup (pc := 91) O dX8_init_91 rfl ?_
  refine z_callIN (pc := 92) O cl_X8_63 (ct_X2_init _ _ _ ht) (by decide) rfl rfl (Nat.le_of_ble_eq_true rfl) ⟨by rw [hrc]; decide, by rw [hrs]; decide⟩ dX8_init_92 (fun r τ hp => ?_)
  obtain ⟨rfl, rfl⟩ := hp
  replace hb := (Is.grow (Is.grow (Is.grow hb (22, 60)) (22, 60)) (22, 60))
  refine z_putFR (pc := 95) O fl_X8_64 (fun C T h => by cases h; rfl) rfl (fun _ => ⟨rfl, rfl⟩) hb dX8_init_95 ?_
  refine z_aload_n (pc := 98) O dX8_init_98 rfl ?_
  refine z_iconst (pc := 99) (v := 4) O dX8_init_99 (by decide) ?_
  refine na_int (pc := 100) (N := 4) O rfl (by decide) ⟨by rw [hrc]; decide, by rw [hrs]; decide⟩ dX8_init_100 ?_
  replace hb := hb.grow (22, 4)
  refine z_putFR (pc := 102) O fl_X8_68 (fun C T h => by cases h; rfl) rfl (fun _ => ⟨rfl, rfl⟩) hb dX8_init_102 ?_
  refine z_aload_n (pc := 105) O dX8_init_105 rfl ?_
  refine z_bipush (pc := 106) (v := 7) O dX8_init_106 (by decide) ?_
  refine na_int (pc := 108) (N := 7) O rfl (by decide) ⟨by rw [hrc]; decide, by rw [hrs]; decide⟩ dX8_init_108 ?_
  replace hb := hb.grow (22, 7)
  refine z_putFR (pc := 110) O fl_X8_71 (fun C T h => by cases h; rfl) rfl (fun _ => ⟨rfl, rfl⟩) hb dX8_init_110 ?_
  refine z_vret (pc := 113) O dX8_init_113 ?_
  exact ⟨rfl, rfl⟩
def in_X9 (b : Nat) (σ : VH) : VH := (nf b 72 (22, 60) (nf b 71 (22, 60) (nf b 70 (22, 60) (nf b 69 (22, 4) (nf b 68 (22, 70) (nf b 67 (22, 7) (nf b 65 (20, 20) (nf b 64 (23, 20) (nf b 63 (22, 20) (nf b 62 (22, 20) (nf b 61 (22, 20) (nf b 60 (22, 20) (nf b 59 (22, 20) (nf b 58 (22, 20) (nf b 57 (22, 20) (nf b 56 (22, 20) (nf b 55 (22, 20) (nf b 51 (22, 10) (nf b 50 (22, 10) (nf b 49 (22, 10) (nf b 48 (22, 10) (nf b 47 (22, 60) (nf b 46 (22, 60) (nf b 45 (22, 60) (nf b 44 (22, 60) (nf b 43 (22, 20) (nf b 42 (22, 20) (nf b 41 (22, 20) (nf b 40 (22, 20) (nf b 37 (22, 60) (nf b 32 (20, 17) (nf b 31 (20, 17) (nf b 30 (20, 17) (nf b 29 (23, 204) (nf b 28 (22, 11900) (nf b 27 (22, 11900) (nf b 26 (22, 17) (nf b 25 (22, 17) (nf b 24 (22, 17) (nf b 23 (22, 17) (nf b 22 (22, 68) (nf b 21 (22, 272) (nf b 20 (22, 272) (nf b 19 (22, 272) (nf b 18 (22, 272) (nf b 17 (22, 17) (nf b 16 (22, 204) (nf b 15 (22, 17) (nf b 14 (22, 4) (nf b 13 (22, 16) (nf b 12 (22, 16) (sI (nf b 1 (21, 700) (nf b 0 (21, 720) σ)) b 5 (-1)))))))))))))))))))))))))))))))))))))))))))))))))))))
set_option maxHeartbeats 4000000 in
set_option maxRecDepth 20000 in
theorem ct_X9_init (l : Launch) (b : Nat) (σ : VH) (hb : Is σ b 9) : Ct l yX9_init cX9_init 1 none 2 53 27874 [.ref b] σ (fun r τ => r = none ∧ τ = in_X9 b σ) := by
  refine Ct.enter rfl (Nat.le_of_ble_eq_true rfl) ?_
  intro κ γ hκ O hrc hrs
  subst hκ
  refine z_aload_n (pc := 0) O dX9_init_0 rfl ?_
  refine z_objInit (pc := 1) O (by decide) tw_758 tw_19 tw_20 (Nat.le_of_ble_eq_true rfl) dX9_init_1 ?_
  refine z_aload_n (pc := 4) O dX9_init_4 rfl ?_
  refine z_sipush (pc := 5) (v := 720) O dX9_init_5 (by decide) ?_
  refine na_byte (pc := 8) (N := 720) O rfl (by decide) ⟨by rw [hrc]; decide, by rw [hrs]; decide⟩ dX9_init_8 ?_
  replace hb := hb.grow (21, 720)
  refine z_putFR (pc := 10) O fl_X9_7 (fun C T h => by cases h; rfl) rfl (fun _ => ⟨rfl, rfl⟩) hb dX9_init_10 ?_
  refine z_aload_n (pc := 13) O dX9_init_13 rfl ?_
  refine z_sipush (pc := 14) (v := 700) O dX9_init_14 (by decide) ?_
  refine na_byte (pc := 17) (N := 700) O rfl (by decide) ⟨by rw [hrc]; decide, by rw [hrs]; decide⟩ dX9_init_17 ?_
  replace hb := hb.grow (21, 700)
  refine z_putFR (pc := 19) O fl_X9_13 (fun C T h => by cases h; rfl) rfl (fun _ => ⟨rfl, rfl⟩) hb dX9_init_19 ?_
  refine z_aload_n (pc := 22) O dX9_init_22 rfl ?_
  refine z_iconst (pc := 23) (v := -1) O dX9_init_23 (by decide) ?_
  refine z_putI (pc := 24) O fl_X9_16 rfl ⟨rfl, rfl⟩ hb dX9_init_24 ?_
  refine z_aload_n (pc := 27) O dX9_init_27 rfl ?_
  refine z_bipush (pc := 28) (v := 16) O dX9_init_28 (by decide) ?_
  refine na_int (pc := 30) (N := 16) O rfl (by decide) ⟨by rw [hrc]; decide, by rw [hrs]; decide⟩ dX9_init_30 ?_
  replace hb := hb.grow (22, 16)
  refine z_putFR (pc := 32) O fl_X9_20 (fun C T h => by cases h; rfl) rfl (fun _ => ⟨rfl, rfl⟩) hb dX9_init_32 ?_
  refine z_aload_n (pc := 35) O dX9_init_35 rfl ?_
  refine z_bipush (pc := 36) (v := 16) O dX9_init_36 (by decide) ?_
  refine na_int (pc := 38) (N := 16) O rfl (by decide) ⟨by rw [hrc]; decide, by rw [hrs]; decide⟩ dX9_init_38 ?_
  replace hb := hb.grow (22, 16)
  refine z_putFR (pc := 40) O fl_X9_24 (fun C T h => by cases h; rfl) rfl (fun _ => ⟨rfl, rfl⟩) hb dX9_init_40 ?_
  refine z_aload_n (pc := 43) O dX9_init_43 rfl ?_
  refine z_iconst (pc := 44) (v := 4) O dX9_init_44 (by decide) ?_
  refine na_int (pc := 45) (N := 4) O rfl (by decide) ⟨by rw [hrc]; decide, by rw [hrs]; decide⟩ dX9_init_45 ?_
  replace hb := hb.grow (22, 4)
  refine z_putFR (pc := 47) O fl_X9_27 (fun C T h => by cases h; rfl) rfl (fun _ => ⟨rfl, rfl⟩) hb dX9_init_47 ?_
  refine z_aload_n (pc := 50) O dX9_init_50 rfl ?_
  refine z_bipush (pc := 51) (v := 17) O dX9_init_51 (by decide) ?_
  refine na_int (pc := 53) (N := 17) O rfl (by decide) ⟨by rw [hrc]; decide, by rw [hrs]; decide⟩ dX9_init_53 ?_
  replace hb := hb.grow (22, 17)
  refine z_putFR (pc := 55) O fl_X9_30 (fun C T h => by cases h; rfl) rfl (fun _ => ⟨rfl, rfl⟩) hb dX9_init_55 ?_
  refine z_aload_n (pc := 58) O dX9_init_58 rfl ?_
  refine z_sipush (pc := 59) (v := 204) O dX9_init_59 (by decide) ?_
  refine na_int (pc := 62) (N := 204) O rfl (by decide) ⟨by rw [hrc]; decide, by rw [hrs]; decide⟩ dX9_init_62 ?_
  replace hb := hb.grow (22, 204)
  refine z_putFR (pc := 64) O fl_X9_33 (fun C T h => by cases h; rfl) rfl (fun _ => ⟨rfl, rfl⟩) hb dX9_init_64 ?_
  refine z_aload_n (pc := 67) O dX9_init_67 rfl ?_
  refine z_bipush (pc := 68) (v := 17) O dX9_init_68 (by decide) ?_
  refine na_int (pc := 70) (N := 17) O rfl (by decide) ⟨by rw [hrc]; decide, by rw [hrs]; decide⟩ dX9_init_70 ?_
  replace hb := hb.grow (22, 17)
  refine z_putFR (pc := 72) O fl_X9_36 (fun C T h => by cases h; rfl) rfl (fun _ => ⟨rfl, rfl⟩) hb dX9_init_72 ?_
  refine z_aload_n (pc := 75) O dX9_init_75 rfl ?_
  refine z_sipush (pc := 76) (v := 272) O dX9_init_76 (by decide) ?_
  refine na_int (pc := 79) (N := 272) O rfl (by decide) ⟨by rw [hrc]; decide, by rw [hrs]; decide⟩ dX9_init_79 ?_
  replace hb := hb.grow (22, 272)
  refine z_putFR (pc := 81) O fl_X9_39 (fun C T h => by cases h; rfl) rfl (fun _ => ⟨rfl, rfl⟩) hb dX9_init_81 ?_
  refine z_aload_n (pc := 84) O dX9_init_84 rfl ?_
  refine z_sipush (pc := 85) (v := 272) O dX9_init_85 (by decide) ?_
  refine na_int (pc := 88) (N := 272) O rfl (by decide) ⟨by rw [hrc]; decide, by rw [hrs]; decide⟩ dX9_init_88 ?_
  replace hb := hb.grow (22, 272)
  refine z_putFR (pc := 90) O fl_X9_42 (fun C T h => by cases h; rfl) rfl (fun _ => ⟨rfl, rfl⟩) hb dX9_init_90 ?_
  refine z_aload_n (pc := 93) O dX9_init_93 rfl ?_
  refine z_sipush (pc := 94) (v := 272) O dX9_init_94 (by decide) ?_
  refine na_int (pc := 97) (N := 272) O rfl (by decide) ⟨by rw [hrc]; decide, by rw [hrs]; decide⟩ dX9_init_97 ?_
  replace hb := hb.grow (22, 272)
  refine z_putFR (pc := 99) O fl_X9_45 (fun C T h => by cases h; rfl) rfl (fun _ => ⟨rfl, rfl⟩) hb dX9_init_99 ?_
  refine z_aload_n (pc := 102) O dX9_init_102 rfl ?_
  refine z_sipush (pc := 103) (v := 272) O dX9_init_103 (by decide) ?_
  refine na_int (pc := 106) (N := 272) O rfl (by decide) ⟨by rw [hrc]; decide, by rw [hrs]; decide⟩ dX9_init_106 ?_
  replace hb := hb.grow (22, 272)
  refine z_putFR (pc := 108) O fl_X9_48 (fun C T h => by cases h; rfl) rfl (fun _ => ⟨rfl, rfl⟩) hb dX9_init_108 ?_
  refine z_aload_n (pc := 111) O dX9_init_111 rfl ?_
  refine z_bipush (pc := 112) (v := 68) O dX9_init_112 (by decide) ?_
  refine na_int (pc := 114) (N := 68) O rfl (by decide) ⟨by rw [hrc]; decide, by rw [hrs]; decide⟩ dX9_init_114 ?_
  replace hb := hb.grow (22, 68)
  refine z_putFR (pc := 116) O fl_X9_51 (fun C T h => by cases h; rfl) rfl (fun _ => ⟨rfl, rfl⟩) hb dX9_init_116 ?_
  refine z_aload_n (pc := 119) O dX9_init_119 rfl ?_
  refine z_bipush (pc := 120) (v := 17) O dX9_init_120 (by decide) ?_
  refine na_int (pc := 122) (N := 17) O rfl (by decide) ⟨by rw [hrc]; decide, by rw [hrs]; decide⟩ dX9_init_122 ?_
  replace hb := hb.grow (22, 17)
  refine z_putFR (pc := 124) O fl_X9_54 (fun C T h => by cases h; rfl) rfl (fun _ => ⟨rfl, rfl⟩) hb dX9_init_124 ?_
  refine z_aload_n (pc := 127) O dX9_init_127 rfl ?_
  refine z_bipush (pc := 128) (v := 17) O dX9_init_128 (by decide) ?_
  refine na_int (pc := 130) (N := 17) O rfl (by decide) ⟨by rw [hrc]; decide, by rw [hrs]; decide⟩ dX9_init_130 ?_
  replace hb := hb.grow (22, 17)
  refine z_putFR (pc := 132) O fl_X9_57 (fun C T h => by cases h; rfl) rfl (fun _ => ⟨rfl, rfl⟩) hb dX9_init_132 ?_
  refine z_aload_n (pc := 135) O dX9_init_135 rfl ?_
  refine z_bipush (pc := 136) (v := 17) O dX9_init_136 (by decide) ?_
  refine na_int (pc := 138) (N := 17) O rfl (by decide) ⟨by rw [hrc]; decide, by rw [hrs]; decide⟩ dX9_init_138 ?_
  replace hb := hb.grow (22, 17)
  refine z_putFR (pc := 140) O fl_X9_60 (fun C T h => by cases h; rfl) rfl (fun _ => ⟨rfl, rfl⟩) hb dX9_init_140 ?_
  refine z_aload_n (pc := 143) O dX9_init_143 rfl ?_
  refine z_bipush (pc := 144) (v := 17) O dX9_init_144 (by decide) ?_
  refine na_int (pc := 146) (N := 17) O rfl (by decide) ⟨by rw [hrc]; decide, by rw [hrs]; decide⟩ dX9_init_146 ?_
  replace hb := hb.grow (22, 17)
  refine z_putFR (pc := 148) O fl_X9_63 (fun C T h => by cases h; rfl) rfl (fun _ => ⟨rfl, rfl⟩) hb dX9_init_148 ?_
  refine z_aload_n (pc := 151) O dX9_init_151 rfl ?_
  refine z_sipush (pc := 152) (v := 11900) O dX9_init_152 (by decide) ?_
  refine na_int (pc := 155) (N := 11900) O rfl (by decide) ⟨by rw [hrc]; decide, by rw [hrs]; decide⟩ dX9_init_155 ?_
  replace hb := hb.grow (22, 11900)
  refine z_putFR (pc := 157) O fl_X9_66 (fun C T h => by cases h; rfl) rfl (fun _ => ⟨rfl, rfl⟩) hb dX9_init_157 ?_
  refine z_aload_n (pc := 160) O dX9_init_160 rfl ?_
  refine z_sipush (pc := 161) (v := 11900) O dX9_init_161 (by decide) ?_
  refine na_int (pc := 164) (N := 11900) O rfl (by decide) ⟨by rw [hrc]; decide, by rw [hrs]; decide⟩ dX9_init_164 ?_
  replace hb := hb.grow (22, 11900)
  refine z_putFR (pc := 166) O fl_X9_69 (fun C T h => by cases h; rfl) rfl (fun _ => ⟨rfl, rfl⟩) hb dX9_init_166 ?_
  refine z_aload_n (pc := 169) O dX9_init_169 rfl ?_
  refine z_sipush (pc := 170) (v := 204) O dX9_init_170 (by decide) ?_
  refine na_long (pc := 173) (N := 204) O rfl (by decide) ⟨by rw [hrc]; decide, by rw [hrs]; decide⟩ dX9_init_173 ?_
  replace hb := hb.grow (23, 204)
  refine z_putFR (pc := 175) O fl_X9_72 (fun C T h => by cases h; rfl) rfl (fun _ => ⟨rfl, rfl⟩) hb dX9_init_175 ?_
  refine z_aload_n (pc := 178) O dX9_init_178 rfl ?_
  refine z_bipush (pc := 179) (v := 17) O dX9_init_179 (by decide) ?_
  refine na_boolean (pc := 181) (N := 17) O rfl (by decide) ⟨by rw [hrc]; decide, by rw [hrs]; decide⟩ dX9_init_181 ?_
  replace hb := hb.grow (20, 17)
  refine z_putFR (pc := 183) O fl_X9_76 (fun C T h => by cases h; rfl) rfl (fun _ => ⟨rfl, rfl⟩) hb dX9_init_183 ?_
  refine z_aload_n (pc := 186) O dX9_init_186 rfl ?_
  refine z_bipush (pc := 187) (v := 17) O dX9_init_187 (by decide) ?_
  refine na_boolean (pc := 189) (N := 17) O rfl (by decide) ⟨by rw [hrc]; decide, by rw [hrs]; decide⟩ dX9_init_189 ?_
  replace hb := hb.grow (20, 17)
  refine z_putFR (pc := 191) O fl_X9_80 (fun C T h => by cases h; rfl) rfl (fun _ => ⟨rfl, rfl⟩) hb dX9_init_191 ?_
  refine z_aload_n (pc := 194) O dX9_init_194 rfl ?_
  refine z_bipush (pc := 195) (v := 17) O dX9_init_195 (by decide) ?_
  refine na_boolean (pc := 197) (N := 17) O rfl (by decide) ⟨by rw [hrc]; decide, by rw [hrs]; decide⟩ dX9_init_197 ?_
  replace hb := hb.grow (20, 17)
  refine z_putFR (pc := 199) O fl_X9_83 (fun C T h => by cases h; rfl) rfl (fun _ => ⟨rfl, rfl⟩) hb dX9_init_199 ?_
  refine z_aload_n (pc := 202) O dX9_init_202 rfl ?_
  refine z_bipush (pc := 203) (v := 60) O dX9_init_203 (by decide) ?_
  refine na_int (pc := 205) (N := 60) O rfl (by decide) ⟨by rw [hrc]; decide, by rw [hrs]; decide⟩ dX9_init_205 ?_
  replace hb := hb.grow (22, 60)
  refine z_putFR (pc := 207) O fl_X9_86 (fun C T h => by cases h; rfl) rfl (fun _ => ⟨rfl, rfl⟩) hb dX9_init_207 ?_
  refine z_aload_n (pc := 210) O dX9_init_210 rfl ?_
  refine z_bipush (pc := 211) (v := 20) O dX9_init_211 (by decide) ?_
  refine na_int (pc := 213) (N := 20) O rfl (by decide) ⟨by rw [hrc]; decide, by rw [hrs]; decide⟩ dX9_init_213 ?_
  replace hb := hb.grow (22, 20)
  refine z_putFR (pc := 215) O fl_X9_89 (fun C T h => by cases h; rfl) rfl (fun _ => ⟨rfl, rfl⟩) hb dX9_init_215 ?_
  refine z_aload_n (pc := 218) O dX9_init_218 rfl ?_
  refine z_bipush (pc := 219) (v := 20) O dX9_init_219 (by decide) ?_
  refine na_int (pc := 221) (N := 20) O rfl (by decide) ⟨by rw [hrc]; decide, by rw [hrs]; decide⟩ dX9_init_221 ?_
  replace hb := hb.grow (22, 20)
  refine z_putFR (pc := 223) O fl_X9_92 (fun C T h => by cases h; rfl) rfl (fun _ => ⟨rfl, rfl⟩) hb dX9_init_223 ?_
  refine z_aload_n (pc := 226) O dX9_init_226 rfl ?_
  refine z_bipush (pc := 227) (v := 20) O dX9_init_227 (by decide) ?_
  refine na_int (pc := 229) (N := 20) O rfl (by decide) ⟨by rw [hrc]; decide, by rw [hrs]; decide⟩ dX9_init_229 ?_
  replace hb := hb.grow (22, 20)
  refine z_putFR (pc := 231) O fl_X9_95 (fun C T h => by cases h; rfl) rfl (fun _ => ⟨rfl, rfl⟩) hb dX9_init_231 ?_
  refine z_aload_n (pc := 234) O dX9_init_234 rfl ?_
  refine z_bipush (pc := 235) (v := 20) O dX9_init_235 (by decide) ?_
  refine na_int (pc := 237) (N := 20) O rfl (by decide) ⟨by rw [hrc]; decide, by rw [hrs]; decide⟩ dX9_init_237 ?_
  replace hb := hb.grow (22, 20)
  refine z_putFR (pc := 239) O fl_X9_98 (fun C T h => by cases h; rfl) rfl (fun _ => ⟨rfl, rfl⟩) hb dX9_init_239 ?_
  refine z_aload_n (pc := 242) O dX9_init_242 rfl ?_
  refine z_bipush (pc := 243) (v := 60) O dX9_init_243 (by decide) ?_
  refine na_int (pc := 245) (N := 60) O rfl (by decide) ⟨by rw [hrc]; decide, by rw [hrs]; decide⟩ dX9_init_245 ?_
  replace hb := hb.grow (22, 60)
  refine z_putFR (pc := 247) O fl_X9_101 (fun C T h => by cases h; rfl) rfl (fun _ => ⟨rfl, rfl⟩) hb dX9_init_247 ?_
  refine z_aload_n (pc := 250) O dX9_init_250 rfl ?_
  refine z_bipush (pc := 251) (v := 60) O dX9_init_251 (by decide) ?_
  refine na_int (pc := 253) (N := 60) O rfl (by decide) ⟨by rw [hrc]; decide, by rw [hrs]; decide⟩ dX9_init_253 ?_
  replace hb := hb.grow (22, 60)
  refine z_putFR (pc := 255) O fl_X9_104 (fun C T h => by cases h; rfl) rfl (fun _ => ⟨rfl, rfl⟩) hb dX9_init_255 ?_
  refine z_aload_n (pc := 258) O dX9_init_258 rfl ?_
  refine z_bipush (pc := 259) (v := 60) O dX9_init_259 (by decide) ?_
  refine na_int (pc := 261) (N := 60) O rfl (by decide) ⟨by rw [hrc]; decide, by rw [hrs]; decide⟩ dX9_init_261 ?_
  replace hb := hb.grow (22, 60)
  refine z_putFR (pc := 263) O fl_X9_107 (fun C T h => by cases h; rfl) rfl (fun _ => ⟨rfl, rfl⟩) hb dX9_init_263 ?_
  refine z_aload_n (pc := 266) O dX9_init_266 rfl ?_
  refine z_bipush (pc := 267) (v := 60) O dX9_init_267 (by decide) ?_
  refine na_int (pc := 269) (N := 60) O rfl (by decide) ⟨by rw [hrc]; decide, by rw [hrs]; decide⟩ dX9_init_269 ?_
  replace hb := hb.grow (22, 60)
  refine z_putFR (pc := 271) O fl_X9_110 (fun C T h => by cases h; rfl) rfl (fun _ => ⟨rfl, rfl⟩) hb dX9_init_271 ?_
  refine z_aload_n (pc := 274) O dX9_init_274 rfl ?_
  refine z_bipush (pc := 275) (v := 10) O dX9_init_275 (by decide) ?_
  refine na_int (pc := 277) (N := 10) O rfl (by decide) ⟨by rw [hrc]; decide, by rw [hrs]; decide⟩ dX9_init_277 ?_
  replace hb := hb.grow (22, 10)
  refine z_putFR (pc := 279) O fl_X9_113 (fun C T h => by cases h; rfl) rfl (fun _ => ⟨rfl, rfl⟩) hb dX9_init_279 ?_
  refine z_aload_n (pc := 282) O dX9_init_282 rfl ?_
  refine z_bipush (pc := 283) (v := 10) O dX9_init_283 (by decide) ?_
  refine na_int (pc := 285) (N := 10) O rfl (by decide) ⟨by rw [hrc]; decide, by rw [hrs]; decide⟩ dX9_init_285 ?_
  replace hb := hb.grow (22, 10)
  refine z_putFR (pc := 287) O fl_X9_116 (fun C T h => by cases h; rfl) rfl (fun _ => ⟨rfl, rfl⟩) hb dX9_init_287 ?_
  refine z_aload_n (pc := 290) O dX9_init_290 rfl ?_
  refine z_bipush (pc := 291) (v := 10) O dX9_init_291 (by decide) ?_
  refine na_int (pc := 293) (N := 10) O rfl (by decide) ⟨by rw [hrc]; decide, by rw [hrs]; decide⟩ dX9_init_293 ?_
  replace hb := hb.grow (22, 10)
  refine z_putFR (pc := 295) O fl_X9_119 (fun C T h => by cases h; rfl) rfl (fun _ => ⟨rfl, rfl⟩) hb dX9_init_295 ?_
  refine z_aload_n (pc := 298) O dX9_init_298 rfl ?_
  refine z_bipush (pc := 299) (v := 10) O dX9_init_299 (by decide) ?_
  refine na_int (pc := 301) (N := 10) O rfl (by decide) ⟨by rw [hrc]; decide, by rw [hrs]; decide⟩ dX9_init_301 ?_
  replace hb := hb.grow (22, 10)
  refine z_putFR (pc := 303) O fl_X9_122 (fun C T h => by cases h; rfl) rfl (fun _ => ⟨rfl, rfl⟩) hb dX9_init_303 ?_
  refine z_aload_n (pc := 306) O dX9_init_306 rfl ?_
  refine z_bipush (pc := 307) (v := 20) O dX9_init_307 (by decide) ?_
  refine na_int (pc := 309) (N := 20) O rfl (by decide) ⟨by rw [hrc]; decide, by rw [hrs]; decide⟩ dX9_init_309 ?_
  replace hb := hb.grow (22, 20)
  refine z_putFR (pc := 311) O fl_X9_125 (fun C T h => by cases h; rfl) rfl (fun _ => ⟨rfl, rfl⟩) hb dX9_init_311 ?_
  refine z_aload_n (pc := 314) O dX9_init_314 rfl ?_
  refine z_bipush (pc := 315) (v := 20) O dX9_init_315 (by decide) ?_
  refine na_int (pc := 317) (N := 20) O rfl (by decide) ⟨by rw [hrc]; decide, by rw [hrs]; decide⟩ dX9_init_317 ?_
  replace hb := hb.grow (22, 20)
  refine z_putFR (pc := 319) O fl_X9_128 (fun C T h => by cases h; rfl) rfl (fun _ => ⟨rfl, rfl⟩) hb dX9_init_319 ?_
  refine z_aload_n (pc := 322) O dX9_init_322 rfl ?_
  refine z_bipush (pc := 323) (v := 20) O dX9_init_323 (by decide) ?_
  refine na_int (pc := 325) (N := 20) O rfl (by decide) ⟨by rw [hrc]; decide, by rw [hrs]; decide⟩ dX9_init_325 ?_
  replace hb := hb.grow (22, 20)
  refine z_putFR (pc := 327) O fl_X9_131 (fun C T h => by cases h; rfl) rfl (fun _ => ⟨rfl, rfl⟩) hb dX9_init_327 ?_
  refine z_aload_n (pc := 330) O dX9_init_330 rfl ?_
  refine z_bipush (pc := 331) (v := 20) O dX9_init_331 (by decide) ?_
  refine na_int (pc := 333) (N := 20) O rfl (by decide) ⟨by rw [hrc]; decide, by rw [hrs]; decide⟩ dX9_init_333 ?_
  replace hb := hb.grow (22, 20)
  refine z_putFR (pc := 335) O fl_X9_134 (fun C T h => by cases h; rfl) rfl (fun _ => ⟨rfl, rfl⟩) hb dX9_init_335 ?_
  refine z_aload_n (pc := 338) O dX9_init_338 rfl ?_
  refine z_bipush (pc := 339) (v := 20) O dX9_init_339 (by decide) ?_
  refine na_int (pc := 341) (N := 20) O rfl (by decide) ⟨by rw [hrc]; decide, by rw [hrs]; decide⟩ dX9_init_341 ?_
  replace hb := hb.grow (22, 20)
  refine z_putFR (pc := 343) O fl_X9_137 (fun C T h => by cases h; rfl) rfl (fun _ => ⟨rfl, rfl⟩) hb dX9_init_343 ?_
  refine z_aload_n (pc := 346) O dX9_init_346 rfl ?_
  refine z_bipush (pc := 347) (v := 20) O dX9_init_347 (by decide) ?_
  refine na_int (pc := 349) (N := 20) O rfl (by decide) ⟨by rw [hrc]; decide, by rw [hrs]; decide⟩ dX9_init_349 ?_
  replace hb := hb.grow (22, 20)
  refine z_putFR (pc := 351) O fl_X9_140 (fun C T h => by cases h; rfl) rfl (fun _ => ⟨rfl, rfl⟩) hb dX9_init_351 ?_
  refine z_aload_n (pc := 354) O dX9_init_354 rfl ?_
  refine z_bipush (pc := 355) (v := 20) O dX9_init_355 (by decide) ?_
  refine na_int (pc := 357) (N := 20) O rfl (by decide) ⟨by rw [hrc]; decide, by rw [hrs]; decide⟩ dX9_init_357 ?_
  replace hb := hb.grow (22, 20)
  refine z_putFR (pc := 359) O fl_X9_143 (fun C T h => by cases h; rfl) rfl (fun _ => ⟨rfl, rfl⟩) hb dX9_init_359 ?_
  refine z_aload_n (pc := 362) O dX9_init_362 rfl ?_
  refine z_bipush (pc := 363) (v := 20) O dX9_init_363 (by decide) ?_
  refine na_int (pc := 365) (N := 20) O rfl (by decide) ⟨by rw [hrc]; decide, by rw [hrs]; decide⟩ dX9_init_365 ?_
  replace hb := hb.grow (22, 20)
  refine z_putFR (pc := 367) O fl_X9_146 (fun C T h => by cases h; rfl) rfl (fun _ => ⟨rfl, rfl⟩) hb dX9_init_367 ?_
  refine z_aload_n (pc := 370) O dX9_init_370 rfl ?_
  refine z_bipush (pc := 371) (v := 20) O dX9_init_371 (by decide) ?_
  refine na_int (pc := 373) (N := 20) O rfl (by decide) ⟨by rw [hrc]; decide, by rw [hrs]; decide⟩ dX9_init_373 ?_
  replace hb := hb.grow (22, 20)
  refine z_putFR (pc := 375) O fl_X9_149 (fun C T h => by cases h; rfl) rfl (fun _ => ⟨rfl, rfl⟩) hb dX9_init_375 ?_
  refine z_aload_n (pc := 378) O dX9_init_378 rfl ?_
  refine z_bipush (pc := 379) (v := 20) O dX9_init_379 (by decide) ?_
  refine na_long (pc := 381) (N := 20) O rfl (by decide) ⟨by rw [hrc]; decide, by rw [hrs]; decide⟩ dX9_init_381 ?_
  replace hb := hb.grow (23, 20)
  refine z_putFR (pc := 383) O fl_X9_152 (fun C T h => by cases h; rfl) rfl (fun _ => ⟨rfl, rfl⟩) hb dX9_init_383 ?_
  refine z_aload_n (pc := 386) O dX9_init_386 rfl ?_
  refine z_bipush (pc := 387) (v := 20) O dX9_init_387 (by decide) ?_
  refine na_boolean (pc := 389) (N := 20) O rfl (by decide) ⟨by rw [hrc]; decide, by rw [hrs]; decide⟩ dX9_init_389 ?_
  replace hb := hb.grow (20, 20)
  refine z_putFR (pc := 391) O fl_X9_155 (fun C T h => by cases h; rfl) rfl (fun _ => ⟨rfl, rfl⟩) hb dX9_init_391 ?_
  refine z_aload_n (pc := 394) O dX9_init_394 rfl ?_
  refine z_bipush (pc := 395) (v := 7) O dX9_init_395 (by decide) ?_
  refine na_int (pc := 397) (N := 7) O rfl (by decide) ⟨by rw [hrc]; decide, by rw [hrs]; decide⟩ dX9_init_397 ?_
  replace hb := hb.grow (22, 7)
  refine z_putFR (pc := 399) O fl_X9_158 (fun C T h => by cases h; rfl) rfl (fun _ => ⟨rfl, rfl⟩) hb dX9_init_399 ?_
  refine z_aload_n (pc := 402) O dX9_init_402 rfl ?_
  refine z_bipush (pc := 403) (v := 70) O dX9_init_403 (by decide) ?_
  refine na_int (pc := 405) (N := 70) O rfl (by decide) ⟨by rw [hrc]; decide, by rw [hrs]; decide⟩ dX9_init_405 ?_
  replace hb := hb.grow (22, 70)
  refine z_putFR (pc := 407) O fl_X9_161 (fun C T h => by cases h; rfl) rfl (fun _ => ⟨rfl, rfl⟩) hb dX9_init_407 ?_
  refine z_aload_n (pc := 410) O dX9_init_410 rfl ?_
  refine z_iconst (pc := 411) (v := 4) O dX9_init_411 (by decide) ?_
  refine na_int (pc := 412) (N := 4) O rfl (by decide) ⟨by rw [hrc]; decide, by rw [hrs]; decide⟩ dX9_init_412 ?_
  replace hb := hb.grow (22, 4)
  refine z_putFR (pc := 414) O fl_X9_164 (fun C T h => by cases h; rfl) rfl (fun _ => ⟨rfl, rfl⟩) hb dX9_init_414 ?_
  refine z_aload_n (pc := 417) O dX9_init_417 rfl ?_
  refine z_bipush (pc := 418) (v := 60) O dX9_init_418 (by decide) ?_
  refine na_int (pc := 420) (N := 60) O rfl (by decide) ⟨by rw [hrc]; decide, by rw [hrs]; decide⟩ dX9_init_420 ?_
  replace hb := hb.grow (22, 60)
  refine z_putFR (pc := 422) O fl_X9_167 (fun C T h => by cases h; rfl) rfl (fun _ => ⟨rfl, rfl⟩) hb dX9_init_422 ?_
  refine z_aload_n (pc := 425) O dX9_init_425 rfl ?_
  refine z_bipush (pc := 426) (v := 60) O dX9_init_426 (by decide) ?_
  refine na_int (pc := 428) (N := 60) O rfl (by decide) ⟨by rw [hrc]; decide, by rw [hrs]; decide⟩ dX9_init_428 ?_
  replace hb := hb.grow (22, 60)
  refine z_putFR (pc := 430) O fl_X9_170 (fun C T h => by cases h; rfl) rfl (fun _ => ⟨rfl, rfl⟩) hb dX9_init_430 ?_
  refine z_aload_n (pc := 433) O dX9_init_433 rfl ?_
  refine z_bipush (pc := 434) (v := 60) O dX9_init_434 (by decide) ?_
  refine na_int (pc := 436) (N := 60) O rfl (by decide) ⟨by rw [hrc]; decide, by rw [hrs]; decide⟩ dX9_init_436 ?_
  replace hb := hb.grow (22, 60)
  refine z_putFR (pc := 438) O fl_X9_173 (fun C T h => by cases h; rfl) rfl (fun _ => ⟨rfl, rfl⟩) hb dX9_init_438 ?_
  refine z_vret (pc := 441) O dX9_init_441 ?_
  exact ⟨rfl, rfl⟩
