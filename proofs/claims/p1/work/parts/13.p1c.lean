theorem rngI (x : Int32) : -2147483648 ≤ x.toInt ∧ x.toInt < 2147483648 := ⟨by have := Int32.le_toInt x; omega, by have := Int32.toInt_lt x; omega⟩
theorem Ar.top {σ : VH} {v c kd n : Nat} (h : Is σ v c) : Ar (sN σ (kd, n)) (hN σ) kd n := ⟨by have := h.1; have := h.2.1; omega, Nat.lt_succ_self _, by rw [hS_sN, if_pos rfl]⟩
/-- behind the reading of an empty text: the reference is as new, no law of the class counts yet, END is the first token -/
def FX (σ : VH) : Prop := FrM σ ∧ (∀ j, hI σ 8 j = 0) ∧ hL σ 5 0 = 1
theorem FX.pI {σ : VH} {a k : Nat} {x : Int32} (ha : (a < 33 ∨ 87 ≤ a) ∧ a ≠ 8) (h : FX σ) : FX (sI σ a k x) := ⟨⟨h.1.1, fun v j h1 h2 => by rw [hI_sI, if_neg (fun e => by omega)]; exact h.1.2 v j h1 h2⟩, fun j => by rw [hI_sI, if_neg (fun e => by omega)]; exact h.2.1 j, h.2.2⟩
theorem FX.pL {σ : VH} {a k : Nat} {x : Int64} (ha : a ≠ 5) (h : FX σ) : FX (sL σ a k x) := ⟨h.1.pL, h.2.1, by rw [hL_sL, if_neg (fun e => by omega)]; exact h.2.2⟩
theorem FX.new {σ : VH} {sh : Nat × Nat} (h : FX σ) : FX (sN σ sh) := by
  have h9 := h.1.1.1
  exact ⟨h.1.new, fun j => by rw [hI_sN, if_neg (by omega)]; exact h.2.1 j, by rw [hL_sN, if_neg (by omega)]; exact h.2.2⟩
theorem FX.pR {σ : VH} {a k : Nat} {r : Option Nat} (ha : 87 ≤ a) (h : FX σ) : FX (sR σ a k r) := ⟨h.1.pR (Or.inr ha), h.2.1, h.2.2⟩
set_option maxHeartbeats 4000000 in
set_option maxRecDepth 20000 in
theorem p1_begin (l : Launch) (σ : VH) (F : FrM σ) (h8 : ∀ j, hI σ 8 j = 0) (h4 : hI σ 4 2 = 0)  : Ct l yX5_begin cX5_begin 4 none 0 0 0 [.ref 4, .long 1, .int 0] σ (fun r τ => r = none ∧ FX τ ∧ hI τ 4 2 = 1) := by
  refine Ct.enter rfl (Nat.le_of_ble_eq_true rfl) ?_
  intro κ γ hκ O hrc hrs
  subst hκ
  refine z_aload_n (pc := 0) O dX5_begin_0 rfl ?_
  refine z_getIv (pc := 1) (x := 0) O fl_X5_19 rfl (jo_4 F.1) h4 dX5_begin_1 ?_
  refine z_aload_n (pc := 4) O dX5_begin_4 rfl ?_
  refine z_getR (pc := 5) 5 O fl_X5_9 rfl (jo_4 F.1) (jr_4_0 F.1) dX5_begin_5 ?_
  refine z_alenL (pc := 8) (n := 701) O (Or.inl (ja_5 F.1)) (by decide) dX5_begin_8 ?_
  refine z_icmp_ge (pc := 9) (tgt := 47) O dX5_begin_9 (by decide) (fun h => absurd h (by decide)) (fun _ => ?_)
  refine z_aload_n (pc := 12) O dX5_begin_12 rfl ?_
  refine z_getR (pc := 13) 5 O fl_X5_9 rfl (jo_4 F.1) (jr_4_0 F.1) dX5_begin_13 ?_
  refine z_aload_n (pc := 16) O dX5_begin_16 rfl ?_
  refine z_getIv (pc := 17) (x := 0) O fl_X5_19 rfl (jo_4 F.1) h4 dX5_begin_17 ?_
  refine z_lload_n (pc := 20) O dX5_begin_20 rfl ?_
  refine z_last (pc := 21) 0 O (ja_5 F.1) rfl (by decide) (by decide) dX5_begin_21 ?_
  refine z_aload_n (pc := 22) O dX5_begin_22 rfl ?_
  refine z_getR (pc := 23) 6 O fl_X5_15 rfl (jo_4 F.1) (jr_4_1 F.1) dX5_begin_23 ?_
  refine z_aload_n (pc := 26) O dX5_begin_26 rfl ?_
  refine z_getIv (pc := 27) (x := 0) O fl_X5_19 rfl (jo_4 F.1) h4 dX5_begin_27 ?_
  refine z_iload_n (pc := 30) O dX5_begin_30 rfl ?_
  refine z_iast (pc := 31) 0 O (ja_6 F.1) rfl (by decide) (by decide) dX5_begin_31 ?_
  refine z_aload_n (pc := 32) O dX5_begin_32 rfl ?_
  refine z_dup (pc := 33) O dX5_begin_33 rfl ?_
  refine z_getIv (pc := 34) (x := 0) O fl_X5_19 rfl (jo_4 F.1) h4 dX5_begin_34 ?_
  refine z_iconst (pc := 37) (v := 1) O dX5_begin_37 (by decide) ?_
  refine z_iadd (pc := 38) O dX5_begin_38 ?_
  refine z_topv (pc := 39) (1) (by decide) ?_
  refine z_putI (pc := 39) O fl_X5_19 rfl ⟨rfl, rfl⟩ (jo_4 F.1) dX5_begin_39 ?_
  refine z_aload_n (pc := 42) O dX5_begin_42 rfl ?_
  refine z_iconst (pc := 43) (v := 1) O dX5_begin_43 (by decide) ?_
  refine z_putI (pc := 44) O fl_X5_60 rfl ⟨rfl, rfl⟩ (jo_4 F.1) dX5_begin_44 ?_
  refine z_vret (pc := 47) O dX5_begin_47 ?_
  refine ⟨rfl, ⟨⟨F.1, fun v j h1 h2 => ?_⟩, fun j => ?_, rfl⟩, rfl⟩
  · simp only [hI_sI, hI_sL]
    rw [if_neg (by omega), if_neg (by omega), if_neg (by omega)]
    exact F.2 v j h1 h2
  · exact h8 j
set_option maxHeartbeats 4000000 in
set_option maxRecDepth 20000 in
theorem p1_split (l : Launch) (σ : VH) (F : Fr σ)  : Ct l yX5_split cX5_split 7 none 1 0 0 [.ref 4, .ref 3, .int 0] σ (fun r τ => r = none ∧ FX τ ∧ hI τ 4 2 = 1) := by
  refine Ct.enter rfl (Nat.le_of_ble_eq_true rfl) ?_
  intro κ γ hκ O hrc hrs
  subst hκ
  refine z_aload_n (pc := 0) O dX5_split_0 rfl ?_
  refine z_iconst (pc := 1) (v := 0) O dX5_split_1 (by decide) ?_
  refine z_putI (pc := 2) O fl_X5_19 rfl ⟨rfl, rfl⟩ (jo_4 F.1) dX5_split_2 ?_
  refine z_iconst (pc := 5) (v := 4) O dX5_split_5 (by decide) ?_
  refine z_istore_n (pc := 6) _ O dX5_split_6 (by decide) rfl ?_
  refine z_iconst (pc := 7) (v := 0) O dX5_split_7 (by decide) ?_
  refine z_istore (pc := 8) _ O dX5_split_8 (by decide) rfl ?_
  refine z_iload (pc := 10) O dX5_split_10 rfl ?_
  refine z_iload_n (pc := 12) O dX5_split_12 rfl ?_
  refine z_icmp_ge (pc := 13) (tgt := 112) O dX5_split_13 (by decide) (fun _ => ?_) (fun h => absurd h (by decide))
  refine z_aload_n (pc := 112) O dX5_split_112 rfl ?_
  refine z_lconst (pc := 113) (v := 1) O dX5_split_113 (by decide) ?_
  refine z_iload_n (pc := 114) O dX5_split_114 rfl ?_
  refine z_callV (pc := 115) O cl_X5_38 (p1_begin _ _ (F.m.pI (by decide)) (fun j => fr0 F 8 j (by decide) (by decide) (by omega)) rfl) (by decide) (jo_4 F.1) kc_5 rfl rfl (Nat.le_of_ble_eq_true rfl) ⟨Nat.zero_le _, Nat.zero_le _⟩ dX5_split_115 (fun r τ hp => ?_)
  obtain ⟨rfl, hp⟩ := hp
  refine z_vret (pc := 118) O dX5_split_118 ?_
  exact ⟨rfl, hp⟩
set_option maxHeartbeats 4000000 in
set_option maxRecDepth 20000 in
theorem p1_X1_init (l : Launch) (b : Nat) (σ : VH) (hb : Is σ b 1) (hw : 87 ≤ b) (F : FX σ) (d : Int32)  : Ct l yX1_init cX1_init 3 none 1 8 137 [.ref b, .int d, .int 1] σ (fun r τ => r = none ∧ FX τ ∧ Is τ b 1) := by
  refine Ct.enter rfl (Nat.le_of_ble_eq_true rfl) ?_
  intro κ γ hκ O hrc hrs
  subst hκ
  refine z_aload_n (pc := 0) O dX1_init_0 rfl ?_
  refine z_objInit (pc := 1) O (by decide) tw_265 tw_19 tw_20 (Nat.le_of_ble_eq_true rfl) dX1_init_1 ?_
  refine z_aload_n (pc := 4) O dX1_init_4 rfl ?_
  refine z_bipush (pc := 5) (v := 12) O dX1_init_5 (by decide) ?_
  refine na_long (pc := 7) (N := 12) O rfl (by decide) ⟨by rw [hrc]; decide, by rw [hrs]; decide⟩ dX1_init_7 ?_
  replace hb := hb.grow (23, 12)
  refine z_putFR (pc := 9) O fl_X1_9 (fun C T h => by cases h; rfl) rfl (fun _ => ⟨rfl, rfl⟩) hb dX1_init_9 ?_
  refine z_aload_n (pc := 12) O dX1_init_12 rfl ?_
  refine z_iconst (pc := 13) (v := 4) O dX1_init_13 (by decide) ?_
  refine na_int (pc := 14) (N := 4) O rfl (by decide) ⟨by rw [hrc]; decide, by rw [hrs]; decide⟩ dX1_init_14 ?_
  have hsh := Ar.top (kd := 22) (n := 4) hb
  replace hb := hb.grow (22, 4)
  refine z_dup (pc := 16) O dX1_init_16 rfl ?_
  refine z_iconst (pc := 17) (v := 0) O dX1_init_17 (by decide) ?_
  refine z_iconst (pc := 18) (v := 1) O dX1_init_18 (by decide) ?_
  refine z_iast (pc := 19) 0 O hsh rfl (by decide) (by decide) dX1_init_19 ?_
  refine z_dup (pc := 20) O dX1_init_20 rfl ?_
  refine z_iconst (pc := 21) (v := 1) O dX1_init_21 (by decide) ?_
  refine z_iconst (pc := 22) (v := 0) O dX1_init_22 (by decide) ?_
  refine z_iast (pc := 23) 1 O hsh rfl (by decide) (by decide) dX1_init_23 ?_
  refine z_dup (pc := 24) O dX1_init_24 rfl ?_
  refine z_iconst (pc := 25) (v := 2) O dX1_init_25 (by decide) ?_
  refine z_iconst (pc := 26) (v := 0) O dX1_init_26 (by decide) ?_
  refine z_iast (pc := 27) 2 O hsh rfl (by decide) (by decide) dX1_init_27 ?_
  refine z_dup (pc := 28) O dX1_init_28 rfl ?_
  refine z_iconst (pc := 29) (v := 3) O dX1_init_29 (by decide) ?_
  refine z_iconst (pc := 30) (v := 0) O dX1_init_30 (by decide) ?_
  refine z_iast (pc := 31) 3 O hsh rfl (by decide) (by decide) dX1_init_31 ?_
  refine z_putFR (pc := 32) O fl_X1_15 (fun C T h => by cases h; rfl) rfl (fun _ => ⟨rfl, rfl⟩) hb dX1_init_32 ?_
  refine z_aload_n (pc := 35) O dX1_init_35 rfl ?_
  refine z_iconst (pc := 36) (v := 1) O dX1_init_36 (by decide) ?_
  refine z_putI (pc := 37) O fl_X1_19 rfl ⟨rfl, rfl⟩ hb dX1_init_37 ?_
  refine z_aload_n (pc := 40) O dX1_init_40 rfl ?_
  refine z_iconst (pc := 41) (v := 1) O dX1_init_41 (by decide) ?_
  refine z_putI (pc := 42) O fl_X1_23 rfl ⟨rfl, rfl⟩ hb dX1_init_42 ?_
  refine z_aload_n (pc := 45) O dX1_init_45 rfl ?_
  refine z_bipush (pc := 46) (v := 12) O dX1_init_46 (by decide) ?_
  refine na_int (pc := 48) (N := 12) O rfl (by decide) ⟨by rw [hrc]; decide, by rw [hrs]; decide⟩ dX1_init_48 ?_
  replace hb := hb.grow (22, 12)
  refine z_putFR (pc := 50) O fl_X1_26 (fun C T h => by cases h; rfl) rfl (fun _ => ⟨rfl, rfl⟩) hb dX1_init_50 ?_
  refine z_aload_n (pc := 53) O dX1_init_53 rfl ?_
  refine z_bipush (pc := 54) (v := 16) O dX1_init_54 (by decide) ?_
  refine na_int (pc := 56) (N := 16) O rfl (by decide) ⟨by rw [hrc]; decide, by rw [hrs]; decide⟩ dX1_init_56 ?_
  replace hb := hb.grow (22, 16)
  refine z_putFR (pc := 58) O fl_X1_29 (fun C T h => by cases h; rfl) rfl (fun _ => ⟨rfl, rfl⟩) hb dX1_init_58 ?_
  refine z_aload_n (pc := 61) O dX1_init_61 rfl ?_
  refine z_bipush (pc := 62) (v := 16) O dX1_init_62 (by decide) ?_
  refine na_int (pc := 64) (N := 16) O rfl (by decide) ⟨by rw [hrc]; decide, by rw [hrs]; decide⟩ dX1_init_64 ?_
  replace hb := hb.grow (22, 16)
  refine z_putFR (pc := 66) O fl_X1_32 (fun C T h => by cases h; rfl) rfl (fun _ => ⟨rfl, rfl⟩) hb dX1_init_66 ?_
  refine z_aload_n (pc := 69) O dX1_init_69 rfl ?_
  refine z_bipush (pc := 70) (v := 16) O dX1_init_70 (by decide) ?_
  refine na_int (pc := 72) (N := 16) O rfl (by decide) ⟨by rw [hrc]; decide, by rw [hrs]; decide⟩ dX1_init_72 ?_
  replace hb := hb.grow (22, 16)
  refine z_putFR (pc := 74) O fl_X1_35 (fun C T h => by cases h; rfl) rfl (fun _ => ⟨rfl, rfl⟩) hb dX1_init_74 ?_
  refine z_aload_n (pc := 77) O dX1_init_77 rfl ?_
  refine z_bipush (pc := 78) (v := 60) O dX1_init_78 (by decide) ?_
  refine na_int (pc := 80) (N := 60) O rfl (by decide) ⟨by rw [hrc]; decide, by rw [hrs]; decide⟩ dX1_init_80 ?_
  replace hb := hb.grow (22, 60)
  refine z_putFR (pc := 82) O fl_X1_38 (fun C T h => by cases h; rfl) rfl (fun _ => ⟨rfl, rfl⟩) hb dX1_init_82 ?_
  refine z_aload_n (pc := 85) O dX1_init_85 rfl ?_
  refine z_iload_n (pc := 86) O dX1_init_86 rfl ?_
  refine z_putFI (pc := 87) O fl_X1_41 (fun C T h => by cases h; rfl) rfl ⟨rfl, rfl⟩ hb dX1_init_87 ?_
  refine z_aload_n (pc := 90) O dX1_init_90 rfl ?_
  refine z_iload_n (pc := 91) O dX1_init_91 rfl ?_
  refine z_if_le (pc := 92) (tgt := 99) O dX1_init_92 (by decide) (fun h => absurd h (by decide)) (fun _ => ?_)
  refine z_iload_n (pc := 95) O dX1_init_95 rfl ?_
  refine z_goto (pc := 96) (tgt := 100) O dX1_init_96 (by decide) ?_
  refine na_int (pc := 100) (N := 1) O rfl (by decide) ⟨by rw [hrc]; decide, by rw [hrs]; decide⟩ dX1_init_100 ?_
  replace hb := hb.grow (22, 1)
  refine z_putFR (pc := 102) O fl_X1_44 (fun C T h => by cases h; rfl) rfl (fun _ => ⟨rfl, rfl⟩) hb dX1_init_102 ?_
  refine z_vret (pc := 105) O dX1_init_105 ?_
  refine ⟨rfl, ?_, hb⟩
  have hs9 : 87 ≤ hN σ := F.1.1.1
  have hs9 : 87 ≤ hN (sR (sN σ (23, 12)) b 1 (some (hN σ))) := Nat.le_succ_of_le hs9
  repeat (first | with_reducible exact F | with_reducible refine FX.pR hw ?_ | with_reducible refine FX.new ?_ | with_reducible refine FX.pI ⟨Or.inr hw, by omega⟩ ?_ | with_reducible refine FX.pI ⟨Or.inr hs9, by omega⟩ ?_)
set_option maxHeartbeats 4000000 in
set_option maxRecDepth 20000 in
theorem p1_X4_init (l : Launch) (b w : Nat) (σ : VH) (hb : Is σ b 4) (hw : 87 ≤ b) (F : FX σ)  : Ct l yX4_init cX4_init 3 none 1 0 0 [.ref b, .ref 4, .ref w] σ (fun r τ => r = none ∧ FX τ ∧ hL τ b 3 = 1 ∧ (∀ v c, Is σ v c → Is τ v c)) := by
  refine Ct.enter rfl (Nat.le_of_ble_eq_true rfl) ?_
  intro κ γ hκ O hrc hrs
  subst hκ
  refine z_aload_n (pc := 0) O dX4_init_0 rfl ?_
  refine z_objInit (pc := 1) O (by decide) tw_332 tw_19 tw_20 (Nat.le_of_ble_eq_true rfl) dX4_init_1 ?_
  refine z_aload_n (pc := 4) O dX4_init_4 rfl ?_
  refine z_iconst (pc := 5) (v := -1) O dX4_init_5 (by decide) ?_
  refine z_putI (pc := 6) O fl_X4_9 rfl ⟨rfl, rfl⟩ hb dX4_init_6 ?_
  refine z_aload_n (pc := 9) O dX4_init_9 rfl ?_
  refine z_aload_n (pc := 10) O dX4_init_10 rfl ?_
  refine z_putFR (pc := 11) O fl_X4_15 (fun C T h => by cases h; rfl) rfl (fun _ => ⟨rfl, rfl⟩) hb dX4_init_11 ?_
  refine z_aload_n (pc := 14) O dX4_init_14 rfl ?_
  refine z_aload_n (pc := 15) O dX4_init_15 rfl ?_
  refine z_putFR (pc := 16) O fl_X4_19 (fun C T h => by cases h; rfl) rfl (fun _ => ⟨rfl, rfl⟩) hb dX4_init_16 ?_
  refine z_aload_n (pc := 19) O dX4_init_19 rfl ?_
  refine z_aload_n (pc := 20) O dX4_init_20 rfl ?_
  refine z_getR (pc := 21) 5 O fl_X4_23 rfl (jo_4 (Lay.pR (k := 1) (r := some w) (Or.inr hw) (Lay.pR (k := 0) (r := some 4) (Or.inr hw) F.1.1))) (jr_4_0 (Lay.pR (k := 1) (r := some w) (Or.inr hw) (Lay.pR (k := 0) (r := some 4) (Or.inr hw) F.1.1))) dX4_init_21 ?_
  refine z_iconst (pc := 24) (v := 0) O dX4_init_24 (by decide) ?_
  refine z_lald (pc := 25) 0 O (Or.inl (ja_5 (Lay.pR (k := 1) (r := some w) (Or.inr hw) (Lay.pR (k := 0) (r := some 4) (Or.inr hw) F.1.1)))) rfl (by decide) (by decide) dX4_init_25 ?_
  refine z_putL (pc := 26) O fl_X4_29 rfl ⟨rfl, rfl⟩ hb dX4_init_26 ?_
  refine z_vret (pc := 29) O dX4_init_29 ?_
  refine ⟨rfl, ?_, ?_, fun v c h => h⟩
  · refine FX.pL (by omega) ?_
    repeat (first | with_reducible exact F | with_reducible refine FX.pR hw ?_ | with_reducible refine FX.new ?_ | with_reducible refine FX.pI ⟨Or.inr hw, by omega⟩ ?_ | with_reducible refine FX.pI ⟨Or.inr hw, by omega⟩ ?_)
  · rw [hL_sL, if_pos ⟨rfl, rfl⟩]
    exact F.2.2
set_option maxHeartbeats 4000000 in
set_option maxRecDepth 20000 in
theorem p1_readText (l : Launch) (b : Nat) (σ : VH) (hb : Is σ b 4) (hc : hL σ b 3 = 1)  : Ct l yX4_readText cX4_readText 3 (some .boolean) 0 0 0 [.ref b] σ (fun r τ => r = some (.int 1) ∧ τ = σ) := by
  refine Ct.enter rfl (Nat.le_of_ble_eq_true rfl) ?_
  intro κ γ hκ O hrc hrs
  subst hκ
  refine z_iconst (pc := 0) (v := 1) O dX4_readText_0 (by decide) ?_
  refine z_istore_n (pc := 1) _ O dX4_readText_1 (by decide) rfl ?_
  refine z_iconst (pc := 2) (v := 0) O dX4_readText_2 (by decide) ?_
  refine z_istore_n (pc := 3) _ O dX4_readText_3 (by decide) rfl ?_
  refine z_iload_n (pc := 4) O dX4_readText_4 rfl ?_
  refine z_sipush (pc := 5) (v := 700) O dX4_readText_5 (by decide) ?_
  refine z_icmp_gt (pc := 8) (tgt := 131) O dX4_readText_8 (by decide) (fun h => absurd h (by decide)) (fun _ => ?_)
  refine z_iload_n (pc := 11) O dX4_readText_11 rfl ?_
  refine z_if_eq (pc := 12) (tgt := 131) O dX4_readText_12 (by decide) (fun h => absurd h (by decide)) (fun _ => ?_)
  refine z_aload_n (pc := 15) O dX4_readText_15 rfl ?_
  refine z_getL (pc := 16) O fl_X4_29 rfl hb dX4_readText_16 ?_
  refine z_lconst (pc := 19) (v := 1) O dX4_readText_19 (by decide) ?_
  refine z_lcmp (pc := 20) O dX4_readText_20 ?_
  refine z_if_eq (pc := 21) (tgt := 131) O dX4_readText_21 (by decide) (fun h21 => ?_) (fun h21 => ?_)
  · refine z_iload_n (pc := 131) O dX4_readText_131 rfl ?_
    refine z_zret (pc := 132) O dX4_readText_132 rfl ?_
    exact ⟨rfl, rfl⟩
  · exact absurd (by rw [hc]; decide) h21
set_option maxHeartbeats 4000000 in
set_option maxRecDepth 20000 in
theorem p1x_law (l : Launch) (σ : VH) (F : Fr σ) (f : Int32) (d : Int32)  : Ct l yX8_law cX8_law 6 (some .int) 3 10 163 [.ref 2, .int f, .int d] σ (fun r τ => r = some (.int (a_law f d)) ∧ FrM τ) := by
  refine Ct.enter rfl (Nat.le_of_ble_eq_true rfl) ?_
  intro κ γ hκ O hrc hrs
  subst hκ
  refine z_iload_n (pc := 0) O dX8_law_0 rfl ?_
  refine z_callS (pc := 1) O cl_X8_81 (ct_X8_isFolk _ _ _) (by decide) rfl rfl (Nat.le_of_ble_eq_true rfl) ⟨Nat.zero_le _, Nat.zero_le _⟩ dX8_law_1 (fun r τ hp => ?_)
  obtain ⟨rfl, rfl⟩ := hp
  refine z_if_eq (pc := 4) (tgt := 24) O dX8_law_4 (by decide) (fun h4 => ?_) (fun h4 => ?_)
  · refine z_bipush (pc := 24) (v := -2) O dX8_law_24 (by decide) ?_
    refine z_widen (k := 10) (n := 163) (by decide) (by decide) ?_
    refine z_iret (pc := 26) O dX8_law_26 ?_
    refine ⟨congrArg (fun z => some (Value.int z)) ?_, (by repeat (first | with_reducible exact F.m | with_reducible refine FrM.pI (by decide) ?_ | with_reducible refine FrM.pL ?_ | with_reducible refine FrM.new ?_ | with_reducible refine FrM.pR (Or.inl (by decide)) ?_))⟩
    (try simp only [bI_0, decide_eq_false_iff_not, Decidable.not_not] at *)
    unfold a_law
    split <;> (simp only [Int32.lt_iff_toInt_lt, Int32.le_iff_toInt_le, ← Int32.toInt_inj, Int32.reduceToInt] at * <;> omega)
  · refine z_iload_n (pc := 7) O dX8_law_7 rfl ?_
    refine z_callS (pc := 8) O cl_X8_85 (ct_X8_isDay _ _ _) (by decide) rfl rfl (Nat.le_of_ble_eq_true rfl) ⟨Nat.zero_le _, Nat.zero_le _⟩ dX8_law_8 (fun r τ hp => ?_)
    obtain ⟨rfl, rfl⟩ := hp
    refine z_if_eq (pc := 11) (tgt := 24) O dX8_law_11 (by decide) (fun h11 => ?_) (fun h11 => ?_)
    · refine z_bipush (pc := 24) (v := -2) O dX8_law_24 (by decide) ?_
      refine z_widen (k := 10) (n := 163) (by decide) (by decide) ?_
      refine z_iret (pc := 26) O dX8_law_26 ?_
      refine ⟨congrArg (fun z => some (Value.int z)) ?_, (by repeat (first | with_reducible exact F.m | with_reducible refine FrM.pI (by decide) ?_ | with_reducible refine FrM.pL ?_ | with_reducible refine FrM.new ?_ | with_reducible refine FrM.pR (Or.inl (by decide)) ?_))⟩
      (try simp only [bI_0, decide_eq_false_iff_not, Decidable.not_not] at *)
      unfold a_law
      split <;> (simp only [Int32.lt_iff_toInt_lt, Int32.le_iff_toInt_le, ← Int32.toInt_inj, Int32.reduceToInt] at * <;> omega)
    · have hf : 0 ≤ f ∧ f < 4 := by
        simp only [bI_0, decide_eq_false_iff_not, Decidable.not_not] at h4
        exact h4
      have hd : 0 ≤ d ∧ d ≤ 100000 := by
        simp only [bI_0, decide_eq_false_iff_not, Decidable.not_not] at h11
        exact h11
      obtain ⟨j, hj, rfl⟩ := ix4 hf
      refine z_aload_n (pc := 14) O dX8_law_14 rfl ?_
      refine z_getR (pc := 15) 8 O fl_X8_26 rfl (jo_2 F.1) (jr_2_4 F.1) dX8_law_15 ?_
      refine z_iload_n (pc := 18) O dX8_law_18 rfl ?_
      refine z_ialdv (pc := 19) (x := 0) j O (ja_8 F.1) (fr0 F 8 j (by decide) (by decide) (by omega)) rfl hj (by decide) dX8_law_19 ?_
      refine z_iconst (pc := 20) (v := 4) O dX8_law_20 (by decide) ?_
      refine z_icmp_lt (pc := 21) (tgt := 27) O dX8_law_21 (by decide) (fun _ => ?_) (fun h => absurd h (by decide))
      refine z_aload_n (pc := 27) O dX8_law_27 rfl ?_
      refine z_getR (pc := 28) 4 O fl_X8_16 rfl (jo_2 F.1) (jr_2_2 F.1) dX8_law_28 ?_
      refine z_aload_n (pc := 31) O dX8_law_31 rfl ?_
      refine z_getR (pc := 32) 3 O fl_X8_9 rfl (jo_2 F.1) (jr_2_0 F.1) dX8_law_32 ?_
      refine z_aload_n (pc := 35) O dX8_law_35 rfl ?_
      refine z_getIv (pc := 36) (x := 0) O fl_X8_74 rfl (jo_2 F.1) (fr0 F 2 1 (by decide) (by decide) (by decide)) dX8_law_36 ?_
      refine z_callV (pc := 39) O cl_X8_88 (p1_split _ _ F) (by decide) (jo_4 F.1) kc_5 rfl rfl (Nat.le_of_ble_eq_true rfl) ⟨Nat.zero_le _, Nat.zero_le _⟩ dX8_law_39 (fun r τ hp => ?_)
      obtain ⟨rfl, hp⟩ := hp
      refine z_aload_n (pc := 42) O dX8_law_42 rfl ?_
      refine z_iconst (pc := 43) (v := 0) O dX8_law_43 (by decide) ?_
      refine z_putI (pc := 44) O fl_X8_74 rfl ⟨rfl, rfl⟩ (jo_2 hp.1.1.1) dX8_law_44 ?_
      refine z_new (pc := 47) O kc_1 dv_1 tw_47 tw_261 tw_8 ⟨by rw [hrc]; decide, by rw [hrs]; decide⟩ dX8_law_47 ?_
      have ht : Is (sN (sI τ 2 1 0) (1, 0)) (hN (sI τ 2 1 0)) 1 := Is.top' (ci := 1) (n := 0) (jo_2 (σ := sI τ 2 1 0) hp.1.1.1)
      have hw1 : 87 ≤ hN (sI τ 2 1 0) := hp.1.1.1.1
      have h42 : hI (sN (sI τ 2 1 0) (1, 0)) 4 2 = 1 := by rw [hI_sN, if_neg (by omega)]; exact hp.2
      refine z_dup (pc := 50) O dX8_law_50 rfl ?_
      refine z_iload_n (pc := 51) O dX8_law_51 rfl ?_
      refine z_aload_n (pc := 52) O dX8_law_52 rfl ?_
      refine z_getR (pc := 53) 4 O fl_X8_16 rfl (jo_2 (Lay.new (sh := (1, 0)) (show Lay (sI τ 2 1 0) from hp.1.1.1))) (jr_2_2 (Lay.new (sh := (1, 0)) (show Lay (sI τ 2 1 0) from hp.1.1.1))) dX8_law_53 ?_
      refine z_getIv (pc := 56) (x := 1) O fl_X8_92 rfl (jo_4 (Lay.new (sh := (1, 0)) (show Lay (sI τ 2 1 0) from hp.1.1.1))) h42 dX8_law_56 ?_
      refine z_callI (pc := 59) O cl_X8_95 (p1_X1_init _ _ _ ht hw1 (FX.new (FX.pI (a := 2) (k := 1) (x := 0) (by decide) hp.1)) _) (by decide) rfl rfl (Nat.le_of_ble_eq_true rfl) ⟨by rw [hrc]; decide, by rw [hrs]; decide⟩ dX8_law_59 (fun r τ hp => ?_)
      obtain ⟨rfl, hq⟩ := hp
      refine z_astore_n (pc := 62) _ O dX8_law_62 (by decide) rfl ?_
      refine z_new (pc := 63) O kc_4 dv_4 tw_327 tw_328 tw_9 ⟨by rw [hrc]; decide, by rw [hrs]; decide⟩ dX8_law_63 ?_
      have ht := Is.top' (ci := 4) (n := 0) hq.2
      have hb1 := hq.2.grow (4, 0)
      have hw2 : 87 ≤ hN τ := hq.1.1.1.1
      refine z_dup (pc := 66) O dX8_law_66 rfl ?_
      refine z_aload_n (pc := 67) O dX8_law_67 rfl ?_
      refine z_getR (pc := 68) 4 O fl_X8_16 rfl (jo_2 (Lay.new (sh := (4, 0)) hq.1.1.1)) (jr_2_2 (Lay.new (sh := (4, 0)) hq.1.1.1)) dX8_law_68 ?_
      refine z_aload_n (pc := 71) O dX8_law_71 rfl ?_
      refine z_callI (pc := 72) O cl_X8_100 (p1_X4_init _ _ _ _ ht hw2 (FX.new hq.1)) (by decide) rfl rfl (Nat.le_of_ble_eq_true rfl) ⟨by rw [hrc]; decide, by rw [hrs]; decide⟩ dX8_law_72 (fun r τ hp => ?_)
      obtain ⟨rfl, hF, hcur, hI4⟩ := hp
      have hrd := hI4 _ _ ht
      have hlw := hI4 _ _ hb1
      refine z_astore (pc := 75) _ O dX8_law_75 (by decide) rfl ?_
      refine z_aload (pc := 77) O dX8_law_77 rfl ?_
      refine z_callV (pc := 79) O cl_X8_103 (p1_readText _ _ _ hrd hcur) (by decide) hrd kc_4 rfl rfl (Nat.le_of_ble_eq_true rfl) ⟨by rw [hrc]; decide, by rw [hrs]; decide⟩ dX8_law_79 (fun r τ hp => ?_)
      obtain ⟨rfl, rfl⟩ := hp
      refine z_istore (pc := 82) _ O dX8_law_82 (by decide) rfl ?_
      refine z_aload_n (pc := 84) O dX8_law_84 rfl ?_
      refine z_aload (pc := 85) O dX8_law_85 rfl ?_
      refine z_getI (pc := 87) O fl_X8_107 rfl hrd dX8_law_87 ?_
      refine z_putI (pc := 90) O fl_X8_110 rfl ⟨rfl, rfl⟩ (jo_2 hF.1.1) dX8_law_90 ?_
      refine z_aload_n (pc := 93) O dX8_law_93 rfl ?_
      refine z_aload (pc := 94) O dX8_law_94 rfl ?_
      refine z_getI (pc := 96) O fl_X8_113 rfl hrd dX8_law_96 ?_
      refine z_putI (pc := 99) O fl_X8_30 rfl ⟨rfl, rfl⟩ (jo_2 hF.1.1) dX8_law_99 ?_
      refine z_iload (pc := 102) O dX8_law_102 rfl ?_
      refine z_if_ne (pc := 104) (tgt := 109) O dX8_law_104 (by decide) (fun _ => ?_) (fun h => absurd h (by decide))
      refine z_aload_n (pc := 109) O dX8_law_109 rfl ?_
      refine z_getR (pc := 110) 7 O fl_X8_22 rfl (jo_2 hF.1.1) (jr_2_3 hF.1.1) dX8_law_110 ?_
      refine z_iload_n (pc := 113) O dX8_law_113 rfl ?_
      refine z_iconst (pc := 114) (v := 4) O dX8_law_114 (by decide) ?_
      refine z_imul (pc := 115) O dX8_law_115 ?_
      refine z_aload_n (pc := 116) O dX8_law_116 rfl ?_
      refine z_getR (pc := 117) 8 O fl_X8_26 rfl (jo_2 hF.1.1) (jr_2_4 hF.1.1) dX8_law_117 ?_
      refine z_iload_n (pc := 120) O dX8_law_120 rfl ?_
      refine z_ialdv (pc := 121) (x := 0) j O (ja_8 hF.1.1) (hF.2.1 j) rfl hj (by decide) dX8_law_121 ?_
      refine z_iadd (pc := 122) O dX8_law_122 ?_
      refine z_aload_n (pc := 123) O dX8_law_123 rfl ?_
      refine z_aast (pc := 124) (t0 := 4) (ci := 1) (4 * j) O (ja_7 hF.1.1) (by decide) rfl rfl (by decide) hlw (by rw [Int32.add_zero]; exact (pk_mul j 4).trans (by rw [Nat.mul_comm])) (by omega) (by decide) dX8_law_124 ?_
      refine z_aload_n (pc := 125) O dX8_law_125 rfl ?_
      refine z_getR (pc := 126) 8 O fl_X8_26 rfl (jo_2 (Lay.pR (Or.inl (by decide)) hF.1.1)) (jr_2_4 (Lay.pR (Or.inl (by decide)) hF.1.1)) dX8_law_126 ?_
      refine z_iload_n (pc := 129) O dX8_law_129 rfl ?_
      refine z_dup2 (pc := 130) O dX8_law_130 rfl rfl ?_
      refine z_ialdv (pc := 131) (x := 0) j O (ja_8 (Lay.pR (Or.inl (by decide)) hF.1.1)) (hF.2.1 j) rfl hj (by decide) dX8_law_131 ?_
      refine z_iconst (pc := 132) (v := 1) O dX8_law_132 (by decide) ?_
      refine z_iadd (pc := 133) O dX8_law_133 ?_
      refine z_topv (pc := 134) (1) (by decide) ?_
      refine z_iast (pc := 134) j O (ja_8 (Lay.pR (Or.inl (by decide)) hF.1.1)) rfl hj (by decide) dX8_law_134 ?_
      refine z_aload_n (pc := 135) O dX8_law_135 rfl ?_
      refine z_getR (pc := 136) 8 O fl_X8_26 rfl (jo_2 (Lay.pR (Or.inl (by decide)) hF.1.1)) (jr_2_4 (Lay.pR (Or.inl (by decide)) hF.1.1)) dX8_law_136 ?_
      refine z_iload_n (pc := 139) O dX8_law_139 rfl ?_
      refine z_iald (pc := 140) j O (ja_8 (Lay.pR (Or.inl (by decide)) hF.1.1)) rfl hj (by decide) dX8_law_140 ?_
      refine z_widen (k := 10) (n := 163) (by decide) (by decide) ?_
      refine z_iret (pc := 141) O dX8_law_141 ?_
      refine ⟨congrArg (fun z => some (Value.int z)) ?_, ?_⟩
      · rw [hI_sI, if_pos ⟨rfl, rfl⟩]
        unfold a_law
        rw [if_pos ⟨hf, hd⟩]
      · have hF1 := hF.1
        repeat (first | with_reducible exact hF1 | with_reducible refine FrM.pI (by decide) ?_ | with_reducible refine FrM.pR (Or.inl (by decide)) ?_)
set_option maxHeartbeats 4000000 in
set_option maxRecDepth 20000 in
theorem p1x_about (l : Launch) (σ : VH) (F : Fr σ) (w : Int32)  : Ct l yX8_about cX8_about 2 (some .int) 1 0 0 [.ref 2, .int w] σ (fun r τ => r = some (.int (a_about w)) ∧ FrM τ) := by
  refine Ct.enter rfl (Nat.le_of_ble_eq_true rfl) ?_
  intro κ γ hκ O hrc hrs
  subst hκ
  refine z_iload_n (pc := 0) O dX8_about_0 rfl ?_
  by_cases hsw : w.toInt < 0 ∨ 7 < w.toInt
  · refine z_tableOut (pc := 1) (tgt := 100) O dX8_about_1 hsw (by decide) ?_
    refine z_iload_n (pc := 100) O dX8_about_100 rfl ?_
    refine z_bipush (pc := 101) (v := 10) O dX8_about_101 (by decide) ?_
    refine z_icmp_lt (pc := 103) (tgt := 128) O dX8_about_103 (by decide) (fun h103 => ?_) (fun h103 => ?_)
    · refine z_iconst (pc := 128) (v := -1) O dX8_about_128 (by decide) ?_
      refine z_iret (pc := 129) O dX8_about_129 ?_
      refine ⟨congrArg (fun z => some (Value.int z)) ?_, F.m⟩
      have e1 : 10 ≤ w.toInt → (w - 10).toInt = w.toInt - 10 := fun hh => subI (by have := rngI w; simp only [Int32.lt_iff_toInt_lt, Int32.le_iff_toInt_le, ← Int32.toInt_inj, Int32.reduceToInt] at *; omega) (by have := rngI w; simp only [Int32.lt_iff_toInt_lt, Int32.le_iff_toInt_le, ← Int32.toInt_inj, Int32.reduceToInt] at *; omega)
      (try simp only [bI_0, decide_eq_false_iff_not, Decidable.not_not] at *)
      unfold a_about
      rw [if_neg]
      simp only [Int32.lt_iff_toInt_lt, Int32.le_iff_toInt_le, ← Int32.toInt_inj, Int32.reduceToInt] at *
      omega
    · refine z_iload_n (pc := 106) O dX8_about_106 rfl ?_
      refine z_bipush (pc := 107) (v := 10) O dX8_about_107 (by decide) ?_
      refine z_isub (pc := 109) O dX8_about_109 ?_
      refine z_callS (pc := 110) O cl_X8_81 (ct_X8_isFolk _ _ _) (by decide) rfl rfl (Nat.le_of_ble_eq_true rfl) ⟨Nat.zero_le _, Nat.zero_le _⟩ dX8_about_110 (fun r τ hp => ?_)
      obtain ⟨rfl, rfl⟩ := hp
      refine z_if_eq (pc := 113) (tgt := 128) O dX8_about_113 (by decide) (fun h113 => ?_) (fun h113 => ?_)
      · refine z_iconst (pc := 128) (v := -1) O dX8_about_128 (by decide) ?_
        refine z_iret (pc := 129) O dX8_about_129 ?_
        refine ⟨congrArg (fun z => some (Value.int z)) ?_, F.m⟩
        have e1 : 10 ≤ w.toInt → (w - 10).toInt = w.toInt - 10 := fun hh => subI (by have := rngI w; simp only [Int32.lt_iff_toInt_lt, Int32.le_iff_toInt_le, ← Int32.toInt_inj, Int32.reduceToInt] at *; omega) (by have := rngI w; simp only [Int32.lt_iff_toInt_lt, Int32.le_iff_toInt_le, ← Int32.toInt_inj, Int32.reduceToInt] at *; omega)
        (try simp only [bI_0, decide_eq_false_iff_not, Decidable.not_not] at *)
        unfold a_about
        rw [if_neg]
        simp only [Int32.lt_iff_toInt_lt, Int32.le_iff_toInt_le, ← Int32.toInt_inj, Int32.reduceToInt] at *
        omega
      · have h9 : 0 ≤ w - 10 ∧ w - 10 < 4 := by
          simp only [bI_0, decide_eq_false_iff_not, Decidable.not_not] at h113
          exact h113
        obtain ⟨j, hj, hjw⟩ := ix4 h9
        refine z_aload_n (pc := 116) O dX8_about_116 rfl ?_
        refine z_getR (pc := 117) 8 O fl_X8_26 rfl (jo_2 F.1) (jr_2_4 F.1) dX8_about_117 ?_
        refine z_iload_n (pc := 120) O dX8_about_120 rfl ?_
        refine z_bipush (pc := 121) (v := 10) O dX8_about_121 (by decide) ?_
        refine z_isub (pc := 123) O dX8_about_123 ?_
        refine z_ialdv (pc := 124) (x := 0) j O (ja_8 F.1) (fr0 F 8 j (by decide) (by decide) (by omega)) hjw hj (by decide) dX8_about_124 ?_
        refine z_goto (pc := 125) (tgt := 129) O dX8_about_125 (by decide) ?_
        refine z_iret (pc := 129) O dX8_about_129 ?_
        refine ⟨congrArg (fun z => some (Value.int z)) ?_, F.m⟩
        unfold a_about
        rw [if_pos]
        right
        have e1 : (w - 10).toInt = w.toInt - 10 := subI (by have := rngI w; simp only [Int32.lt_iff_toInt_lt, Int32.le_iff_toInt_le, ← Int32.toInt_inj, Int32.reduceToInt] at *; omega) (by have := rngI w; simp only [Int32.lt_iff_toInt_lt, Int32.le_iff_toInt_le, ← Int32.toInt_inj, Int32.reduceToInt] at *; omega)
        simp only [Int32.lt_iff_toInt_lt, Int32.le_iff_toInt_le, ← Int32.toInt_inj, Int32.reduceToInt, e1] at *
        omega
  · obtain ⟨hs1, hs2⟩ := not_or.mp hsw
    have hsx : w.toInt = 0 ∨ w.toInt = 1 ∨ w.toInt = 2 ∨ w.toInt = 3 ∨ w.toInt = 4 ∨ w.toInt = 5 ∨ w.toInt = 6 ∨ w.toInt = 7 := by omega
    rcases hsx with hsx | hsx | hsx | hsx | hsx | hsx | hsx | hsx
    · refine z_tableIn (pc := 1) (tgt := 48) O dX8_about_1 hs1 hs2 (by rw [hsx]; rfl) (by decide) ?_
      refine z_aload_n (pc := 48) O dX8_about_48 rfl ?_
      refine z_getIv (pc := 49) (x := 0) O fl_X8_133 rfl (jo_2 F.1) (fr0 F 2 7 (by decide) (by decide) (by decide)) dX8_about_49 ?_
      refine z_iret (pc := 52) O dX8_about_52 ?_
      refine ⟨congrArg (fun z => some (Value.int z)) ?_, F.m⟩
      unfold a_about
      rw [if_pos]
      left
      simp only [Int32.lt_iff_toInt_lt, Int32.le_iff_toInt_le, ← Int32.toInt_inj, Int32.reduceToInt]
      omega
    · refine z_tableIn (pc := 1) (tgt := 53) O dX8_about_1 hs1 hs2 (by rw [hsx]; rfl) (by decide) ?_
      refine z_aload_n (pc := 53) O dX8_about_53 rfl ?_
      refine z_getR (pc := 54) 9 O fl_X8_37 rfl (jo_2 F.1) (jr_2_8 F.1) dX8_about_54 ?_
      refine z_getIv (pc := 57) (x := 0) O fl_X8_220 rfl (jo_9 F.1) (fr0 F 9 7 (by decide) (by decide) (by decide)) dX8_about_57 ?_
      refine z_iret (pc := 60) O dX8_about_60 ?_
      refine ⟨congrArg (fun z => some (Value.int z)) ?_, F.m⟩
      unfold a_about
      rw [if_pos]
      left
      simp only [Int32.lt_iff_toInt_lt, Int32.le_iff_toInt_le, ← Int32.toInt_inj, Int32.reduceToInt]
      omega
    · refine z_tableIn (pc := 1) (tgt := 61) O dX8_about_1 hs1 hs2 (by rw [hsx]; rfl) (by decide) ?_
      refine z_aload_n (pc := 61) O dX8_about_61 rfl ?_
      refine z_getR (pc := 62) 16 O fl_X8_44 rfl (jo_2 F.1) (jr_2_9 F.1) dX8_about_62 ?_
      refine z_getIv (pc := 65) (x := 0) O fl_X8_221 rfl (jo_16 F.1) (fr0 F 16 4 (by decide) (by decide) (by decide)) dX8_about_65 ?_
      refine z_iret (pc := 68) O dX8_about_68 ?_
      refine ⟨congrArg (fun z => some (Value.int z)) ?_, F.m⟩
      unfold a_about
      rw [if_pos]
      left
      simp only [Int32.lt_iff_toInt_lt, Int32.le_iff_toInt_le, ← Int32.toInt_inj, Int32.reduceToInt]
      omega
    · refine z_tableIn (pc := 1) (tgt := 69) O dX8_about_1 hs1 hs2 (by rw [hsx]; rfl) (by decide) ?_
      refine z_aload_n (pc := 69) O dX8_about_69 rfl ?_
      refine z_getR (pc := 70) 21 O fl_X8_51 rfl (jo_2 F.1) (jr_2_10 F.1) dX8_about_70 ?_
      refine z_getIv (pc := 73) (x := 0) O fl_X8_222 rfl (jo_21 F.1) (fr0 F 21 4 (by decide) (by decide) (by decide)) dX8_about_73 ?_
      refine z_iret (pc := 76) O dX8_about_76 ?_
      refine ⟨congrArg (fun z => some (Value.int z)) ?_, F.m⟩
      unfold a_about
      rw [if_pos]
      left
      simp only [Int32.lt_iff_toInt_lt, Int32.le_iff_toInt_le, ← Int32.toInt_inj, Int32.reduceToInt]
      omega
    · refine z_tableIn (pc := 1) (tgt := 77) O dX8_about_1 hs1 hs2 (by rw [hsx]; rfl) (by decide) ?_
      refine z_aload_n (pc := 77) O dX8_about_77 rfl ?_
      refine z_getIv (pc := 78) (x := 0) O fl_X8_152 rfl (jo_2 F.1) (fr0 F 2 12 (by decide) (by decide) (by decide)) dX8_about_78 ?_
      refine z_iret (pc := 81) O dX8_about_81 ?_
      refine ⟨congrArg (fun z => some (Value.int z)) ?_, F.m⟩
      unfold a_about
      rw [if_pos]
      left
      simp only [Int32.lt_iff_toInt_lt, Int32.le_iff_toInt_le, ← Int32.toInt_inj, Int32.reduceToInt]
      omega
    · refine z_tableIn (pc := 1) (tgt := 82) O dX8_about_1 hs1 hs2 (by rw [hsx]; rfl) (by decide) ?_
      refine z_aload_n (pc := 82) O dX8_about_82 rfl ?_
      refine z_getR (pc := 83) 27 O fl_X8_64 rfl (jo_2 F.1) (jr_2_13 F.1) dX8_about_83 ?_
      refine z_getIv (pc := 86) (x := 0) O fl_X8_223 rfl (jo_27 F.1) (fr0 F 27 3 (by decide) (by decide) (by decide)) dX8_about_86 ?_
      refine z_iret (pc := 89) O dX8_about_89 ?_
      refine ⟨congrArg (fun z => some (Value.int z)) ?_, F.m⟩
      unfold a_about
      rw [if_pos]
      left
      simp only [Int32.lt_iff_toInt_lt, Int32.le_iff_toInt_le, ← Int32.toInt_inj, Int32.reduceToInt]
      omega
    · refine z_tableIn (pc := 1) (tgt := 90) O dX8_about_1 hs1 hs2 (by rw [hsx]; rfl) (by decide) ?_
      refine z_aload_n (pc := 90) O dX8_about_90 rfl ?_
      refine z_getIv (pc := 91) (x := 0) O fl_X8_211 rfl (jo_2 F.1) (fr0 F 2 15 (by decide) (by decide) (by decide)) dX8_about_91 ?_
      refine z_iret (pc := 94) O dX8_about_94 ?_
      refine ⟨congrArg (fun z => some (Value.int z)) ?_, F.m⟩
      unfold a_about
      rw [if_pos]
      left
      simp only [Int32.lt_iff_toInt_lt, Int32.le_iff_toInt_le, ← Int32.toInt_inj, Int32.reduceToInt]
      omega
    · refine z_tableIn (pc := 1) (tgt := 95) O dX8_about_1 hs1 hs2 (by rw [hsx]; rfl) (by decide) ?_
      refine z_aload_n (pc := 95) O dX8_about_95 rfl ?_
      refine z_getIv (pc := 96) (x := 0) O fl_X8_74 rfl (jo_2 F.1) (fr0 F 2 1 (by decide) (by decide) (by decide)) dX8_about_96 ?_
      refine z_iret (pc := 99) O dX8_about_99 ?_
      refine ⟨congrArg (fun z => some (Value.int z)) ?_, F.m⟩
      unfold a_about
      rw [if_pos]
      left
      simp only [Int32.lt_iff_toInt_lt, Int32.le_iff_toInt_le, ← Int32.toInt_inj, Int32.reduceToInt]
      omega
set_option maxHeartbeats 4000000 in
set_option maxRecDepth 20000 in
theorem p1x_lawOn (l : Launch) (σ : VH) (F : Fr σ) (f : Int32) (d : Int32)  : Ct l yX8_lawOn cX8_lawOn 7 (some .int) 1 0 0 [.ref 2, .int f, .int d] σ (fun r τ => r = some (.int (-1)) ∧ FrM τ) := by
  refine Ct.enter rfl (Nat.le_of_ble_eq_true rfl) ?_
  intro κ γ hκ O hrc hrs
  subst hκ
  refine z_iload_n (pc := 0) O dX8_lawOn_0 rfl ?_
  refine z_callS (pc := 1) O cl_X8_81 (ct_X8_isFolk _ _ _) (by decide) rfl rfl (Nat.le_of_ble_eq_true rfl) ⟨Nat.zero_le _, Nat.zero_le _⟩ dX8_lawOn_1 (fun r τ hp => ?_)
  obtain ⟨rfl, rfl⟩ := hp
  refine z_if_ne (pc := 4) (tgt := 9) O dX8_lawOn_4 (by decide) (fun h4 => ?_) (fun h4 => ?_)
  · have hf : 0 ≤ f ∧ f < 4 := by
      simp only [bI_0, decide_eq_false_iff_not, Decidable.not_not] at h4
      exact h4
    obtain ⟨j, hj, rfl⟩ := ix4 hf
    refine z_iconst (pc := 9) (v := -1) O dX8_lawOn_9 (by decide) ?_
    refine z_istore_n (pc := 10) _ O dX8_lawOn_10 (by decide) rfl ?_
    refine z_iconst (pc := 11) (v := -1) O dX8_lawOn_11 (by decide) ?_
    refine z_istore (pc := 12) _ O dX8_lawOn_12 (by decide) rfl ?_
    refine z_iconst (pc := 14) (v := 0) O dX8_lawOn_14 (by decide) ?_
    refine z_istore (pc := 15) _ O dX8_lawOn_15 (by decide) rfl ?_
    refine z_iload (pc := 17) O dX8_lawOn_17 rfl ?_
    refine z_aload_n (pc := 19) O dX8_lawOn_19 rfl ?_
    refine z_getR (pc := 20) 8 O fl_X8_26 rfl (jo_2 F.1) (jr_2_4 F.1) dX8_lawOn_20 ?_
    refine z_iload_n (pc := 23) O dX8_lawOn_23 rfl ?_
    refine z_ialdv (pc := 24) (x := 0) j O (ja_8 F.1) (fr0 F 8 j (by decide) (by decide) (by omega)) rfl hj (by decide) dX8_lawOn_24 ?_
    refine z_icmp_ge (pc := 25) (tgt := 81) O dX8_lawOn_25 (by decide) (fun _ => ?_) (fun h => absurd h (by decide))
    refine z_iload_n (pc := 81) O dX8_lawOn_81 rfl ?_
    refine z_iret (pc := 82) O dX8_lawOn_82 ?_
    exact ⟨rfl, (by repeat (first | with_reducible exact F.m | with_reducible refine FrM.pI (by decide) ?_ | with_reducible refine FrM.pL ?_ | with_reducible refine FrM.new ?_ | with_reducible refine FrM.pR (Or.inl (by decide)) ?_))⟩
  · refine z_iconst (pc := 7) (v := -1) O dX8_lawOn_7 (by decide) ?_
    refine z_iret (pc := 8) O dX8_lawOn_8 ?_
    exact ⟨rfl, (by repeat (first | with_reducible exact F.m | with_reducible refine FrM.pI (by decide) ?_ | with_reducible refine FrM.pL ?_ | with_reducible refine FrM.new ?_ | with_reducible refine FrM.pR (Or.inl (by decide)) ?_))⟩
set_option maxHeartbeats 4000000 in
set_option maxRecDepth 20000 in
theorem p1_writeNumber (l : Launch) (σ : VH) (F : FrM σ) (t : Nat) (ht : hI σ 2 1 = nI t) (ht2 : t ≤ 696) (x : Int32) : Ct l yX8_writeNumber cX8_writeNumber 3 none 0 0 0 [.ref 2, .int x] σ (fun r τ => r = none ∧ FrM τ ∧ hI τ 2 1 = nI (t + 4)) := by
  refine Ct.enter rfl (Nat.le_of_ble_eq_true rfl) ?_
  intro κ γ hκ O hrc hrs
  subst hκ
  have body : ∀ (ρ : VH) (J1 : Lay ρ) (F1 : FrM ρ) (u : Nat) (hu : hI ρ 2 1 = nI u) (hu2 : u < 700) (s2 : Int32) (Q : State → Prop), (∀ (τ : VH), Lay τ → FrM τ → hI τ 2 1 = nI (u + 1) → Z κ γ 3 τ 0 0 Q 42 [(0, .ref 2), (1, .int x), (2, .int s2)] []) → Z κ γ 3 ρ 0 0 Q 7 [(0, .ref 2), (1, .int x), (2, .int s2)] [] := by
    intro ρ J1 F1 u hu hu2 s2 Q kk
    refine z_aload_n (pc := 7) O dX8_writeNumber_7 rfl ?_
    refine z_getI (pc := 8) O fl_X8_74 rfl (jo_2 J1) dX8_writeNumber_8 ?_
    refine z_aload_n (pc := 11) O dX8_writeNumber_11 rfl ?_
    refine z_getR (pc := 12) 3 O fl_X8_9 rfl (jo_2 J1) (jr_2_0 J1) dX8_writeNumber_12 ?_
    refine z_alen (pc := 15) (t0 := 1) (n := 700) O (ja_3 J1) (by decide) rfl (by decide) dX8_writeNumber_15 ?_
    refine z_icmp_ge (pc := 16) (tgt := 42) O dX8_writeNumber_16 (by decide) (fun h16 => ?_) (fun h16 => ?_)
    · exact absurd h16 (by rw [hu]; exact nI_ge (by omega) (by decide))
    · refine z_aload_n (pc := 19) O dX8_writeNumber_19 rfl ?_
      refine z_getR (pc := 20) 3 O fl_X8_9 rfl (jo_2 J1) (jr_2_0 J1) dX8_writeNumber_20 ?_
      refine z_aload_n (pc := 23) O dX8_writeNumber_23 rfl ?_
      refine z_getI (pc := 24) O fl_X8_74 rfl (jo_2 J1) dX8_writeNumber_24 ?_
      refine z_iload_n (pc := 27) O dX8_writeNumber_27 rfl ?_
      refine z_iload_n (pc := 28) O dX8_writeNumber_28 rfl ?_
      refine z_iushr (pc := 29) O dX8_writeNumber_29 ?_
      refine z_i2b (pc := 30) O dX8_writeNumber_30 ?_
      refine z_bast (pc := 31) u O (ja_3 J1) hu (by omega) (by decide) dX8_writeNumber_31 ?_
      refine z_aload_n (pc := 32) O dX8_writeNumber_32 rfl ?_
      refine z_dup (pc := 33) O dX8_writeNumber_33 rfl ?_
      refine z_getI (pc := 34) O fl_X8_74 rfl (jo_2 J1) dX8_writeNumber_34 ?_
      refine z_iconst (pc := 37) (v := 1) O dX8_writeNumber_37 (by decide) ?_
      refine z_iadd (pc := 38) O dX8_writeNumber_38 ?_
      refine z_putI (pc := 39) O fl_X8_74 rfl ⟨rfl, rfl⟩ (jo_2 J1) dX8_writeNumber_39 ?_
      exact kk _ J1 (FrM.pI (by decide) (FrM.pI (by decide) F1)) (by rw [hI_sI, if_pos ⟨rfl, rfl⟩]; exact (congrArg (fun z => z + 1) hu).trans (nI_1 u))
  refine z_bipush (pc := 0) (v := 24) O dX8_writeNumber_0 (by decide) ?_
  refine z_istore_n (pc := 2) _ O dX8_writeNumber_2 (by decide) rfl ?_
  refine z_iload_n (pc := 3) O dX8_writeNumber_3 rfl ?_
  refine z_if_lt (pc := 4) (tgt := 48) O dX8_writeNumber_4 (by decide) (fun h => absurd h (by decide)) (fun _ => ?_)
  refine body σ F.1 F (t + 0) ht (by omega) _ _ (fun τ1 J1 F1 e1 => ?_)
  refine z_iinc (pc := 42) (16) _ O dX8_writeNumber_42 rfl (by decide) (by decide) rfl ?_
  refine z_goto (pc := 45) (tgt := 3) O dX8_writeNumber_45 (by decide) ?_
  refine z_iload_n (pc := 3) O dX8_writeNumber_3 rfl ?_
  refine z_if_lt (pc := 4) (tgt := 48) O dX8_writeNumber_4 (by decide) (fun h => absurd h (by decide)) (fun _ => ?_)
  refine body τ1 J1 F1 (t + 1) e1 (by omega) _ _ (fun τ2 J2 F2 e2 => ?_)
  refine z_iinc (pc := 42) (8) _ O dX8_writeNumber_42 rfl (by decide) (by decide) rfl ?_
  refine z_goto (pc := 45) (tgt := 3) O dX8_writeNumber_45 (by decide) ?_
  refine z_iload_n (pc := 3) O dX8_writeNumber_3 rfl ?_
  refine z_if_lt (pc := 4) (tgt := 48) O dX8_writeNumber_4 (by decide) (fun h => absurd h (by decide)) (fun _ => ?_)
  refine body τ2 J2 F2 (t + 2) e2 (by omega) _ _ (fun τ3 J3 F3 e3 => ?_)
  refine z_iinc (pc := 42) (0) _ O dX8_writeNumber_42 rfl (by decide) (by decide) rfl ?_
  refine z_goto (pc := 45) (tgt := 3) O dX8_writeNumber_45 (by decide) ?_
  refine z_iload_n (pc := 3) O dX8_writeNumber_3 rfl ?_
  refine z_if_lt (pc := 4) (tgt := 48) O dX8_writeNumber_4 (by decide) (fun h => absurd h (by decide)) (fun _ => ?_)
  refine body τ3 J3 F3 (t + 3) e3 (by omega) _ _ (fun τ4 J4 F4 e4 => ?_)
  refine z_iinc (pc := 42) (-8) _ O dX8_writeNumber_42 rfl (by decide) (by decide) rfl ?_
  refine z_goto (pc := 45) (tgt := 3) O dX8_writeNumber_45 (by decide) ?_
  refine z_iload_n (pc := 3) O dX8_writeNumber_3 rfl ?_
  refine z_if_lt (pc := 4) (tgt := 48) O dX8_writeNumber_4 (by decide) (fun _ => ?_) (fun h => absurd h (by decide))
  refine z_vret (pc := 48) O dX8_writeNumber_48 ?_
  exact ⟨rfl, F4, e4⟩
theorem nIadd4 (a : Nat) : True := trivial
set_option maxHeartbeats 4000000 in
set_option maxRecDepth 20000 in
theorem p1x_feed (l : Launch) (σ : VH) (F : Fr σ) (a : Int32) (b : Int32) (c : Int32) (d : Int32) (e : Int32)  : Ct l yX8_feed cX8_feed 6 (some .int) 1 0 0 [.ref 2, .int a, .int b, .int c, .int d, .int e] σ (fun r τ => r = some (.int 20) ∧ FrM τ) := by
  refine Ct.enter rfl (Nat.le_of_ble_eq_true rfl) ?_
  intro κ γ hκ O hrc hrs
  subst hκ
  have F0 := F.m
  have e0 : hI σ 2 1 = nI 0 := fr0 F 2 1 (by decide) (by decide) (by decide)
  refine z_aload_n (pc := 0) O dX8_feed_0 rfl ?_
  refine z_getIv (pc := 1) (x := 0) O fl_X8_74 rfl (jo_2 F.1) (fr0 F 2 1 (by decide) (by decide) (by decide)) dX8_feed_1 ?_
  refine z_bipush (pc := 4) (v := 20) O dX8_feed_4 (by decide) ?_
  refine z_iadd (pc := 6) O dX8_feed_6 ?_
  refine z_topv (pc := 7) (20) (by decide) ?_
  refine z_sipush (pc := 7) (v := 700) O dX8_feed_7 (by decide) ?_
  refine z_icmp_le (pc := 10) (tgt := 15) O dX8_feed_10 (by decide) (fun _ => ?_) (fun h => absurd h (by decide))
  refine z_aload_n (pc := 15) O dX8_feed_15 rfl ?_
  refine z_iload_n (pc := 16) O dX8_feed_16 rfl ?_
  refine z_callV (pc := 17) O cl_X8_77 (p1_writeNumber _ _ F0 0 e0 (by decide) _) (by decide) (jo_2 F.1) kc_8 rfl rfl (Nat.le_of_ble_eq_true rfl) ⟨Nat.zero_le _, Nat.zero_le _⟩ dX8_feed_17 (fun r τ hp => ?_)
  obtain ⟨rfl, F1, e1⟩ := hp
  refine z_aload_n (pc := 20) O dX8_feed_20 rfl ?_
  refine z_iload_n (pc := 21) O dX8_feed_21 rfl ?_
  refine z_callV (pc := 22) O cl_X8_77 (p1_writeNumber _ _ F1 4 e1 (by decide) _) (by decide) (jo_2 F1.1) kc_8 rfl rfl (Nat.le_of_ble_eq_true rfl) ⟨Nat.zero_le _, Nat.zero_le _⟩ dX8_feed_22 (fun r τ hp => ?_)
  obtain ⟨rfl, F2, e2⟩ := hp
  refine z_aload_n (pc := 25) O dX8_feed_25 rfl ?_
  refine z_iload_n (pc := 26) O dX8_feed_26 rfl ?_
  refine z_callV (pc := 27) O cl_X8_77 (p1_writeNumber _ _ F2 8 e2 (by decide) _) (by decide) (jo_2 F2.1) kc_8 rfl rfl (Nat.le_of_ble_eq_true rfl) ⟨Nat.zero_le _, Nat.zero_le _⟩ dX8_feed_27 (fun r τ hp => ?_)
  obtain ⟨rfl, F3, e3⟩ := hp
  refine z_aload_n (pc := 30) O dX8_feed_30 rfl ?_
  refine z_iload (pc := 31) O dX8_feed_31 rfl ?_
  refine z_callV (pc := 33) O cl_X8_77 (p1_writeNumber _ _ F3 12 e3 (by decide) _) (by decide) (jo_2 F3.1) kc_8 rfl rfl (Nat.le_of_ble_eq_true rfl) ⟨Nat.zero_le _, Nat.zero_le _⟩ dX8_feed_33 (fun r τ hp => ?_)
  obtain ⟨rfl, F4, e4⟩ := hp
  refine z_aload_n (pc := 36) O dX8_feed_36 rfl ?_
  refine z_iload (pc := 37) O dX8_feed_37 rfl ?_
  refine z_callV (pc := 39) O cl_X8_77 (p1_writeNumber _ _ F4 16 e4 (by decide) _) (by decide) (jo_2 F4.1) kc_8 rfl rfl (Nat.le_of_ble_eq_true rfl) ⟨Nat.zero_le _, Nat.zero_le _⟩ dX8_feed_39 (fun r τ hp => ?_)
  obtain ⟨rfl, F5, e5⟩ := hp
  refine z_aload_n (pc := 42) O dX8_feed_42 rfl ?_
  refine z_getI (pc := 43) O fl_X8_74 rfl (jo_2 F5.1) dX8_feed_43 ?_
  refine z_iret (pc := 46) O dX8_feed_46 ?_
  refine ⟨congrArg (fun z => some (Value.int z)) ?_, F5⟩
  exact e5
