def a_end (n : Int32) : Int32 := if n = 0 then 0 else -1
def a_later (d : Int32) : Int32 := if 0 ≤ d ∧ d ≤ 1000 then d else -1
def a_rate (k w : Int32) : Int32 := if (0 ≤ k ∧ k < 4) ∧ 0 ≤ w ∧ w ≤ 1000 then 1 else 0
def a_person (f m p : Int32) : Int32 := if (0 ≤ f ∧ f < 4) ∧ m = -1 ∧ p = -1 then 0 else -1
def a_truce (a b f t : Int32) : Int32 := if (0 ≤ a ∧ a < 4) ∧ (0 ≤ b ∧ b < 4) ∧ (0 ≤ f ∧ f ≤ 100000) ∧ (0 ≤ t ∧ t ≤ 100000) ∧ f ≤ t then 1 else -1
def a_about (w : Int32) : Int32 := if (0 ≤ w ∧ w ≤ 7) ∨ (10 ≤ w ∧ w < 14) then 0 else -1
def a_law (f d : Int32) : Int32 := if (0 ≤ f ∧ f < 4) ∧ 0 ≤ d ∧ d ≤ 100000 then 1 else -2
def a_fault (w : Int32) : Int32 := if w = 0 then 0 else -1
theorem ix4 {x : Int32} (h : 0 ≤ x ∧ x < 4) : ∃ j : Nat, j < 4 ∧ x = nI j := by
  obtain ⟨j, h1, h2⟩ := nI_of (x := x) (by simp only [Int32.lt_iff_toInt_lt, Int32.le_iff_toInt_le, Int32.reduceToInt] at *; omega)
  refine ⟨j, ?_, h2⟩
  have h3 := h.2
  rw [h2, Int32.lt_iff_toInt_lt, nI_toInt h1] at h3
  have h4 : (4 : Int32).toInt = 4 := by decide
  omega
set_option maxHeartbeats 4000000 in
set_option maxRecDepth 20000 in
theorem ct_X3_isThere (l : Launch) (σ : VH) (J : Lay σ) (x : Int32)  : Ct l yX3_isThere cX3_isThere 2 (some .boolean) 0 0 0 [.ref 9, .int x] σ (fun r τ => r = some (.int (bI (decide (0 ≤ x ∧ x < hI σ 9 7)))) ∧ τ = σ) := by
  refine Ct.enter rfl (Nat.le_of_ble_eq_true rfl) ?_
  intro κ γ hκ O hrc hrs
  subst hκ
  refine z_iload_n (pc := 0) O dX3_isThere_0 rfl ?_
  refine z_if_lt (pc := 1) (tgt := 16) O dX3_isThere_1 (by decide) (fun h1 => ?_) (fun h1 => ?_)
  · refine z_iconst (pc := 16) (v := 0) O dX3_isThere_16 (by decide) ?_
    refine z_zret (pc := 17) O dX3_isThere_17 rfl ?_
    refine ⟨?_, rfl⟩
    first
      | exact rb0 (by simp only [Int32.lt_iff_toInt_lt, Int32.le_iff_toInt_le, ← Int32.toInt_inj, Int32.reduceToInt] at *; omega)
      | exact rb1 (by simp only [Int32.lt_iff_toInt_lt, Int32.le_iff_toInt_le, ← Int32.toInt_inj, Int32.reduceToInt] at *; omega)
  · refine z_iload_n (pc := 4) O dX3_isThere_4 rfl ?_
    refine z_aload_n (pc := 5) O dX3_isThere_5 rfl ?_
    refine z_getI (pc := 6) O fl_X3_31 rfl (jo_9 J) dX3_isThere_6 ?_
    refine z_icmp_ge (pc := 9) (tgt := 16) O dX3_isThere_9 (by decide) (fun h9 => ?_) (fun h9 => ?_)
    · refine z_iconst (pc := 16) (v := 0) O dX3_isThere_16 (by decide) ?_
      refine z_zret (pc := 17) O dX3_isThere_17 rfl ?_
      refine ⟨?_, rfl⟩
      first
        | exact rb0 (by simp only [Int32.lt_iff_toInt_lt, Int32.le_iff_toInt_le, ← Int32.toInt_inj, Int32.reduceToInt] at *; omega)
        | exact rb1 (by simp only [Int32.lt_iff_toInt_lt, Int32.le_iff_toInt_le, ← Int32.toInt_inj, Int32.reduceToInt] at *; omega)
    · refine z_iconst (pc := 12) (v := 1) O dX3_isThere_12 (by decide) ?_
      refine z_goto (pc := 13) (tgt := 17) O dX3_isThere_13 (by decide) ?_
      refine z_zret (pc := 17) O dX3_isThere_17 rfl ?_
      refine ⟨?_, rfl⟩
      first
        | exact rb0 (by simp only [Int32.lt_iff_toInt_lt, Int32.le_iff_toInt_le, ← Int32.toInt_inj, Int32.reduceToInt] at *; omega)
        | exact rb1 (by simp only [Int32.lt_iff_toInt_lt, Int32.le_iff_toInt_le, ← Int32.toInt_inj, Int32.reduceToInt] at *; omega)
theorem ct_X3_isThere0 (l : Launch) (σ : VH) (F : Fr σ) (x : Int32) : Ct l yX3_isThere cX3_isThere 2 (some .boolean) 0 0 0 [.ref 9, .int x] σ (fun r τ => r = some (.int 0) ∧ τ = σ) := (ct_X3_isThere l σ F.1 x).imp (fun r τ h => by
  obtain ⟨rfl, rfl⟩ := h
  rw [fr0 F 9 7 (by decide) (by decide) (by decide)]
  refine ⟨(rb0 ?_).symm, rfl⟩
  simp only [Int32.lt_iff_toInt_lt, Int32.le_iff_toInt_le, ← Int32.toInt_inj, Int32.reduceToInt] at *
  omega)
set_option maxHeartbeats 4000000 in
set_option maxRecDepth 20000 in
theorem p1_canBeParent (l : Launch) (σ : VH) (F : Fr σ) (x : Int32)  : Ct l yX3_canBeParent cX3_canBeParent 2 (some .boolean) 1 0 0 [.ref 9, .int x] σ (fun r τ => r = some (.int (bI (decide (x = -1)))) ∧ τ = σ) := by
  refine Ct.enter rfl (Nat.le_of_ble_eq_true rfl) ?_
  intro κ γ hκ O hrc hrs
  subst hκ
  refine z_iload_n (pc := 0) O dX3_canBeParent_0 rfl ?_
  refine z_iconst (pc := 1) (v := -1) O dX3_canBeParent_1 (by decide) ?_
  refine z_icmp_eq (pc := 2) (tgt := 13) O dX3_canBeParent_2 (by decide) (fun h2 => ?_) (fun h2 => ?_)
  · refine z_iconst (pc := 13) (v := 1) O dX3_canBeParent_13 (by decide) ?_
    refine z_goto (pc := 14) (tgt := 18) O dX3_canBeParent_14 (by decide) ?_
    refine z_zret (pc := 18) O dX3_canBeParent_18 rfl ?_
    refine ⟨?_, rfl⟩
    first
      | exact rb0 (by simp only [Int32.lt_iff_toInt_lt, Int32.le_iff_toInt_le, ← Int32.toInt_inj, Int32.reduceToInt] at *; omega)
      | exact rb1 (by simp only [Int32.lt_iff_toInt_lt, Int32.le_iff_toInt_le, ← Int32.toInt_inj, Int32.reduceToInt] at *; omega)
  · refine z_aload_n (pc := 5) O dX3_canBeParent_5 rfl ?_
    refine z_iload_n (pc := 6) O dX3_canBeParent_6 rfl ?_
    refine z_callV (pc := 7) O cl_X3_35 (ct_X3_isThere0 _ _ F _) (by decide) (jo_9 F.1) kc_3 rfl rfl (Nat.le_of_ble_eq_true rfl) ⟨Nat.zero_le _, Nat.zero_le _⟩ dX3_canBeParent_7 (fun r τ hp => ?_)
    obtain ⟨rfl, rfl⟩ := hp
    refine z_if_eq (pc := 10) (tgt := 17) O dX3_canBeParent_10 (by decide) (fun _ => ?_) (fun h => absurd h (by decide))
    refine z_iconst (pc := 17) (v := 0) O dX3_canBeParent_17 (by decide) ?_
    refine z_zret (pc := 18) O dX3_canBeParent_18 rfl ?_
    refine ⟨?_, rfl⟩
    first
      | exact rb0 (by simp only [Int32.lt_iff_toInt_lt, Int32.le_iff_toInt_le, ← Int32.toInt_inj, Int32.reduceToInt] at *; omega)
      | exact rb1 (by simp only [Int32.lt_iff_toInt_lt, Int32.le_iff_toInt_le, ← Int32.toInt_inj, Int32.reduceToInt] at *; omega)
set_option maxHeartbeats 4000000 in
set_option maxRecDepth 20000 in
theorem p1_X3_add (l : Launch) (σ : VH) (F : Fr σ) (f m p : Int32)  : Ct l yX3_add cX3_add 4 (some .int) 0 0 0 [.ref 9, .int f, .int m, .int p] σ (fun r τ => r = some (.int 0) ∧ FrM τ) := by
  refine Ct.enter rfl (Nat.le_of_ble_eq_true rfl) ?_
  intro κ γ hκ O hrc hrs
  subst hκ
  refine z_aload_n (pc := 0) O dX3_add_0 rfl ?_
  refine z_getIv (pc := 1) (x := 0) O fl_X3_31 rfl (jo_9 F.1) (fr0 F 9 7 (by decide) (by decide) (by decide)) dX3_add_1 ?_
  refine z_bipush (pc := 4) (v := 20) O dX3_add_4 (by decide) ?_
  refine z_icmp_lt (pc := 6) (tgt := 11) O dX3_add_6 (by decide) (fun _ => ?_) (fun h => absurd h (by decide))
  refine z_aload_n (pc := 11) O dX3_add_11 rfl ?_
  refine z_getR (pc := 12) 10 O fl_X3_9 rfl (jo_9 F.1) (jr_9_0 F.1) dX3_add_12 ?_
  refine z_aload_n (pc := 15) O dX3_add_15 rfl ?_
  refine z_getIv (pc := 16) (x := 0) O fl_X3_31 rfl (jo_9 F.1) (fr0 F 9 7 (by decide) (by decide) (by decide)) dX3_add_16 ?_
  refine z_iload_n (pc := 19) O dX3_add_19 rfl ?_
  refine z_iast (pc := 20) 0 O (ja_10 F.1) rfl (by decide) (by decide) dX3_add_20 ?_
  refine z_aload_n (pc := 21) O dX3_add_21 rfl ?_
  refine z_getR (pc := 22) 11 O fl_X3_15 rfl (jo_9 F.1) (jr_9_1 F.1) dX3_add_22 ?_
  refine z_aload_n (pc := 25) O dX3_add_25 rfl ?_
  refine z_getIv (pc := 26) (x := 0) O fl_X3_31 rfl (jo_9 F.1) (fr0 F 9 7 (by decide) (by decide) (by decide)) dX3_add_26 ?_
  refine z_iload_n (pc := 29) O dX3_add_29 rfl ?_
  refine z_iast (pc := 30) 0 O (ja_11 F.1) rfl (by decide) (by decide) dX3_add_30 ?_
  refine z_aload_n (pc := 31) O dX3_add_31 rfl ?_
  refine z_getR (pc := 32) 12 O fl_X3_18 rfl (jo_9 F.1) (jr_9_2 F.1) dX3_add_32 ?_
  refine z_aload_n (pc := 35) O dX3_add_35 rfl ?_
  refine z_getIv (pc := 36) (x := 0) O fl_X3_31 rfl (jo_9 F.1) (fr0 F 9 7 (by decide) (by decide) (by decide)) dX3_add_36 ?_
  refine z_iload_n (pc := 39) O dX3_add_39 rfl ?_
  refine z_iast (pc := 40) 0 O (ja_12 F.1) rfl (by decide) (by decide) dX3_add_40 ?_
  refine z_aload_n (pc := 41) O dX3_add_41 rfl ?_
  refine z_getR (pc := 42) 13 O fl_X3_21 rfl (jo_9 F.1) (jr_9_3 F.1) dX3_add_42 ?_
  refine z_aload_n (pc := 45) O dX3_add_45 rfl ?_
  refine z_getIv (pc := 46) (x := 0) O fl_X3_31 rfl (jo_9 F.1) (fr0 F 9 7 (by decide) (by decide) (by decide)) dX3_add_46 ?_
  refine z_iconst (pc := 49) (v := -1) O dX3_add_49 (by decide) ?_
  refine z_iast (pc := 50) 0 O (ja_13 F.1) rfl (by decide) (by decide) dX3_add_50 ?_
  refine z_aload_n (pc := 51) O dX3_add_51 rfl ?_
  refine z_dup (pc := 52) O dX3_add_52 rfl ?_
  refine z_getIv (pc := 53) (x := 0) O fl_X3_31 rfl (jo_9 F.1) (fr0 F 9 7 (by decide) (by decide) (by decide)) dX3_add_53 ?_
  refine z_iconst (pc := 56) (v := 1) O dX3_add_56 (by decide) ?_
  refine z_iadd (pc := 57) O dX3_add_57 ?_
  refine z_topv (pc := 58) (1) (by decide) ?_
  refine z_putI (pc := 58) O fl_X3_31 rfl ⟨rfl, rfl⟩ (jo_9 F.1) dX3_add_58 ?_
  refine z_aload_n (pc := 61) O dX3_add_61 rfl ?_
  refine z_getIv (pc := 62) (x := 1) O fl_X3_31 rfl (jo_9 F.1) rfl dX3_add_62 ?_
  refine z_iconst (pc := 65) (v := 1) O dX3_add_65 (by decide) ?_
  refine z_isub (pc := 66) O dX3_add_66 ?_
  refine z_topv (pc := 67) (0) (by decide) ?_
  refine z_iret (pc := 67) O dX3_add_67 ?_
  exact ⟨rfl, (by repeat (first | with_reducible exact F.m | with_reducible refine FrM.pI (by decide) ?_ | with_reducible refine FrM.pL ?_ | with_reducible refine FrM.new ?_ | with_reducible refine FrM.pR (Or.inl (by decide)) ?_))⟩
set_option maxHeartbeats 4000000 in
set_option maxRecDepth 20000 in
theorem p1_X7_add (l : Launch) (σ : VH) (F : Fr σ) (a b f t : Int32)  : Ct l yX7_add cX7_add 5 (some .int) 0 0 0 [.ref 21, .int a, .int b, .int f, .int t] σ (fun r τ => r = some (.int 1) ∧ FrM τ) := by
  refine Ct.enter rfl (Nat.le_of_ble_eq_true rfl) ?_
  intro κ γ hκ O hrc hrs
  subst hκ
  refine z_aload_n (pc := 0) O dX7_add_0 rfl ?_
  refine z_getIv (pc := 1) (x := 0) O fl_X7_24 rfl (jo_21 F.1) (fr0 F 21 4 (by decide) (by decide) (by decide)) dX7_add_1 ?_
  refine z_bipush (pc := 4) (v := 10) O dX7_add_4 (by decide) ?_
  refine z_icmp_lt (pc := 6) (tgt := 11) O dX7_add_6 (by decide) (fun _ => ?_) (fun h => absurd h (by decide))
  refine z_aload_n (pc := 11) O dX7_add_11 rfl ?_
  refine z_getR (pc := 12) 22 O fl_X7_9 rfl (jo_21 F.1) (jr_21_0 F.1) dX7_add_12 ?_
  refine z_aload_n (pc := 15) O dX7_add_15 rfl ?_
  refine z_getIv (pc := 16) (x := 0) O fl_X7_24 rfl (jo_21 F.1) (fr0 F 21 4 (by decide) (by decide) (by decide)) dX7_add_16 ?_
  refine z_iload_n (pc := 19) O dX7_add_19 rfl ?_
  refine z_iast (pc := 20) 0 O (ja_22 F.1) rfl (by decide) (by decide) dX7_add_20 ?_
  refine z_aload_n (pc := 21) O dX7_add_21 rfl ?_
  refine z_getR (pc := 22) 23 O fl_X7_15 rfl (jo_21 F.1) (jr_21_1 F.1) dX7_add_22 ?_
  refine z_aload_n (pc := 25) O dX7_add_25 rfl ?_
  refine z_getIv (pc := 26) (x := 0) O fl_X7_24 rfl (jo_21 F.1) (fr0 F 21 4 (by decide) (by decide) (by decide)) dX7_add_26 ?_
  refine z_iload_n (pc := 29) O dX7_add_29 rfl ?_
  refine z_iast (pc := 30) 0 O (ja_23 F.1) rfl (by decide) (by decide) dX7_add_30 ?_
  refine z_aload_n (pc := 31) O dX7_add_31 rfl ?_
  refine z_getR (pc := 32) 24 O fl_X7_18 rfl (jo_21 F.1) (jr_21_2 F.1) dX7_add_32 ?_
  refine z_aload_n (pc := 35) O dX7_add_35 rfl ?_
  refine z_getIv (pc := 36) (x := 0) O fl_X7_24 rfl (jo_21 F.1) (fr0 F 21 4 (by decide) (by decide) (by decide)) dX7_add_36 ?_
  refine z_iload_n (pc := 39) O dX7_add_39 rfl ?_
  refine z_iast (pc := 40) 0 O (ja_24 F.1) rfl (by decide) (by decide) dX7_add_40 ?_
  refine z_aload_n (pc := 41) O dX7_add_41 rfl ?_
  refine z_getR (pc := 42) 25 O fl_X7_21 rfl (jo_21 F.1) (jr_21_3 F.1) dX7_add_42 ?_
  refine z_aload_n (pc := 45) O dX7_add_45 rfl ?_
  refine z_getIv (pc := 46) (x := 0) O fl_X7_24 rfl (jo_21 F.1) (fr0 F 21 4 (by decide) (by decide) (by decide)) dX7_add_46 ?_
  refine z_iload (pc := 49) O dX7_add_49 rfl ?_
  refine z_iast (pc := 51) 0 O (ja_25 F.1) rfl (by decide) (by decide) dX7_add_51 ?_
  refine z_aload_n (pc := 52) O dX7_add_52 rfl ?_
  refine z_dup (pc := 53) O dX7_add_53 rfl ?_
  refine z_getIv (pc := 54) (x := 0) O fl_X7_24 rfl (jo_21 F.1) (fr0 F 21 4 (by decide) (by decide) (by decide)) dX7_add_54 ?_
  refine z_iconst (pc := 57) (v := 1) O dX7_add_57 (by decide) ?_
  refine z_iadd (pc := 58) O dX7_add_58 ?_
  refine z_topv (pc := 59) (1) (by decide) ?_
  refine z_putI (pc := 59) O fl_X7_24 rfl ⟨rfl, rfl⟩ (jo_21 F.1) dX7_add_59 ?_
  refine z_aload_n (pc := 62) O dX7_add_62 rfl ?_
  refine z_getIv (pc := 63) (x := 1) O fl_X7_24 rfl (jo_21 F.1) rfl dX7_add_63 ?_
  refine z_iret (pc := 66) O dX7_add_66 ?_
  exact ⟨rfl, (by repeat (first | with_reducible exact F.m | with_reducible refine FrM.pI (by decide) ?_ | with_reducible refine FrM.pL ?_ | with_reducible refine FrM.new ?_ | with_reducible refine FrM.pR (Or.inl (by decide)) ?_))⟩
set_option maxHeartbeats 4000000 in
set_option maxRecDepth 20000 in
theorem p1_stepsBetween (l : Launch) (σ : VH) (F : Fr σ) (a b : Int32)  : Ct l yX3_stepsBetween cX3_stepsBetween 3 (some .int) 1 0 0 [.ref 9, .int a, .int b] σ (fun r τ => r = some (.int (-1)) ∧ τ = σ) := by
  refine Ct.enter rfl (Nat.le_of_ble_eq_true rfl) ?_
  intro κ γ hκ O hrc hrs
  subst hκ
  refine z_aload_n (pc := 0) O dX3_stepsBetween_0 rfl ?_
  refine z_iload_n (pc := 1) O dX3_stepsBetween_1 rfl ?_
  refine z_callV (pc := 2) O cl_X3_35 (ct_X3_isThere0 _ _ F _) (by decide) (jo_9 F.1) kc_3 rfl rfl (Nat.le_of_ble_eq_true rfl) ⟨Nat.zero_le _, Nat.zero_le _⟩ dX3_stepsBetween_2 (fun r τ hp => ?_)
  obtain ⟨rfl, rfl⟩ := hp
  refine z_if_eq (pc := 5) (tgt := 16) O dX3_stepsBetween_5 (by decide) (fun _ => ?_) (fun h => absurd h (by decide))
  refine z_iconst (pc := 16) (v := -1) O dX3_stepsBetween_16 (by decide) ?_
  refine z_iret (pc := 17) O dX3_stepsBetween_17 ?_
  exact ⟨rfl, rfl⟩
set_option maxHeartbeats 4000000 in
set_option maxRecDepth 20000 in
theorem p1_bury (l : Launch) (σ : VH) (F : Fr σ) (a b : Int32)  : Ct l yX3_bury cX3_bury 3 (some .boolean) 1 0 0 [.ref 9, .int a, .int b] σ (fun r τ => r = some (.int 0) ∧ τ = σ) := by
  refine Ct.enter rfl (Nat.le_of_ble_eq_true rfl) ?_
  intro κ γ hκ O hrc hrs
  subst hκ
  refine z_aload_n (pc := 0) O dX3_bury_0 rfl ?_
  refine z_iload_n (pc := 1) O dX3_bury_1 rfl ?_
  refine z_callV (pc := 2) O cl_X3_35 (ct_X3_isThere0 _ _ F _) (by decide) (jo_9 F.1) kc_3 rfl rfl (Nat.le_of_ble_eq_true rfl) ⟨Nat.zero_le _, Nat.zero_le _⟩ dX3_bury_2 (fun r τ hp => ?_)
  obtain ⟨rfl, rfl⟩ := hp
  refine z_if_eq (pc := 5) (tgt := 18) O dX3_bury_5 (by decide) (fun _ => ?_) (fun h => absurd h (by decide))
  refine z_iconst (pc := 18) (v := 0) O dX3_bury_18 (by decide) ?_
  refine z_zret (pc := 19) O dX3_bury_19 rfl ?_
  exact ⟨rfl, rfl⟩
set_option maxHeartbeats 4000000 in
set_option maxRecDepth 20000 in
theorem p1_caseAt (l : Launch) (σ : VH) (F : Fr σ) (w : Int32)  : Ct l yX8_caseAt cX8_caseAt 2 (some (.object "BloodPrice$Case")) 0 0 0 [.ref 2, .int w] σ (fun r τ => r = some .null ∧ τ = σ) := by
  refine Ct.enter rfl (Nat.le_of_ble_eq_true rfl) ?_
  intro κ γ hκ O hrc hrs
  subst hκ
  refine z_iload_n (pc := 0) O dX8_caseAt_0 rfl ?_
  refine z_if_lt (pc := 1) (tgt := 21) O dX8_caseAt_1 (by decide) (fun h1 => ?_) (fun h1 => ?_)
  · refine z_null (pc := 21) O dX8_caseAt_21 ?_
    refine z_aret (pc := 22) (x := none) O dX8_caseAt_22 ?_
    exact ⟨rfl, rfl⟩
  · refine z_iload_n (pc := 4) O dX8_caseAt_4 rfl ?_
    refine z_aload_n (pc := 5) O dX8_caseAt_5 rfl ?_
    refine z_getIv (pc := 6) (x := 0) O fl_X8_152 rfl (jo_2 F.1) (fr0 F 2 12 (by decide) (by decide) (by decide)) dX8_caseAt_6 ?_
    refine z_icmp_ge (pc := 9) (tgt := 21) O dX8_caseAt_9 (by decide) (fun h9 => ?_) (fun h9 => ?_)
    · refine z_null (pc := 21) O dX8_caseAt_21 ?_
      refine z_aret (pc := 22) (x := none) O dX8_caseAt_22 ?_
      exact ⟨rfl, rfl⟩
    · exact absurd (show (0 : Int32) ≤ w by simp only [Int32.lt_iff_toInt_lt, Int32.le_iff_toInt_le, ← Int32.toInt_inj, Int32.reduceToInt] at *; omega) h9
set_option maxHeartbeats 4000000 in
set_option maxRecDepth 20000 in
theorem p1x_fault (l : Launch) (σ : VH) (F : Fr σ) (w : Int32)  : Ct l yX8_fault cX8_fault 2 (some .int) 0 0 0 [.ref 2, .int w] σ (fun r τ => r = some (.int (a_fault w)) ∧ FrM τ) := by
  refine Ct.enter rfl (Nat.le_of_ble_eq_true rfl) ?_
  intro κ γ hκ O hrc hrs
  subst hκ
  refine z_iload_n (pc := 0) O dX8_fault_0 rfl ?_
  refine z_if_ne (pc := 1) (tgt := 9) O dX8_fault_1 (by decide) (fun h1 => ?_) (fun h1 => ?_)
  · refine z_iload_n (pc := 9) O dX8_fault_9 rfl ?_
    refine z_iconst (pc := 10) (v := 1) O dX8_fault_10 (by decide) ?_
    refine z_icmp_ne (pc := 11) (tgt := 21) O dX8_fault_11 (by decide) (fun h11 => ?_) (fun h11 => ?_)
    · refine z_iconst (pc := 21) (v := -1) O dX8_fault_21 (by decide) ?_
      refine z_iret (pc := 22) O dX8_fault_22 ?_
      refine ⟨congrArg (fun z => some (Value.int z)) ?_, (by repeat (first | with_reducible exact F.m | with_reducible refine FrM.pI (by decide) ?_ | with_reducible refine FrM.pL ?_ | with_reducible refine FrM.new ?_ | with_reducible refine FrM.pR (Or.inl (by decide)) ?_))⟩
      (try simp only [bI_0, decide_eq_false_iff_not, Decidable.not_not] at *)
      unfold a_fault
      split <;> (simp only [Int32.lt_iff_toInt_lt, Int32.le_iff_toInt_le, ← Int32.toInt_inj, Int32.reduceToInt] at * <;> omega)
    · refine z_aload_n (pc := 14) O dX8_fault_14 rfl ?_
      refine z_getIv (pc := 15) (x := -1) O fl_X8_30 rfl (jo_2 F.1) (fr1 F 2 6 (by decide) (by decide) (by decide)) dX8_fault_15 ?_
      refine z_goto (pc := 18) (tgt := 22) O dX8_fault_18 (by decide) ?_
      refine z_iret (pc := 22) O dX8_fault_22 ?_
      refine ⟨congrArg (fun z => some (Value.int z)) ?_, (by repeat (first | with_reducible exact F.m | with_reducible refine FrM.pI (by decide) ?_ | with_reducible refine FrM.pL ?_ | with_reducible refine FrM.new ?_ | with_reducible refine FrM.pR (Or.inl (by decide)) ?_))⟩
      (try simp only [bI_0, decide_eq_false_iff_not, Decidable.not_not] at *)
      unfold a_fault
      split <;> (simp only [Int32.lt_iff_toInt_lt, Int32.le_iff_toInt_le, ← Int32.toInt_inj, Int32.reduceToInt] at * <;> omega)
  · refine z_aload_n (pc := 4) O dX8_fault_4 rfl ?_
    refine z_getIv (pc := 5) (x := 0) O fl_X8_110 rfl (jo_2 F.1) (fr0 F 2 5 (by decide) (by decide) (by decide)) dX8_fault_5 ?_
    refine z_iret (pc := 8) O dX8_fault_8 ?_
    refine ⟨congrArg (fun z => some (Value.int z)) ?_, (by repeat (first | with_reducible exact F.m | with_reducible refine FrM.pI (by decide) ?_ | with_reducible refine FrM.pL ?_ | with_reducible refine FrM.new ?_ | with_reducible refine FrM.pR (Or.inl (by decide)) ?_))⟩
    (try simp only [bI_0, decide_eq_false_iff_not, Decidable.not_not] at *)
    unfold a_fault
    split <;> (simp only [Int32.lt_iff_toInt_lt, Int32.le_iff_toInt_le, ← Int32.toInt_inj, Int32.reduceToInt] at * <;> omega)
set_option maxHeartbeats 4000000 in
set_option maxRecDepth 20000 in
theorem p1x_end (l : Launch) (σ : VH) (F : Fr σ) (n : Int32)  : Ct l yX8_end cX8_end 2 (some .int) 0 0 0 [.ref 2, .int n] σ (fun r τ => r = some (.int (a_end n)) ∧ FrM τ) := by
  refine Ct.enter rfl (Nat.le_of_ble_eq_true rfl) ?_
  intro κ γ hκ O hrc hrs
  subst hκ
  refine z_iload_n (pc := 0) O dX8_end_0 rfl ?_
  refine z_if_lt (pc := 1) (tgt := 12) O dX8_end_1 (by decide) (fun h1 => ?_) (fun h1 => ?_)
  · refine z_iconst (pc := 12) (v := -1) O dX8_end_12 (by decide) ?_
    refine z_iret (pc := 13) O dX8_end_13 ?_
    refine ⟨congrArg (fun z => some (Value.int z)) ?_, (by repeat (first | with_reducible exact F.m | with_reducible refine FrM.pI (by decide) ?_ | with_reducible refine FrM.pL ?_ | with_reducible refine FrM.new ?_ | with_reducible refine FrM.pR (Or.inl (by decide)) ?_))⟩
    (try simp only [bI_0, decide_eq_false_iff_not, Decidable.not_not] at *)
    unfold a_end
    split <;> (simp only [Int32.lt_iff_toInt_lt, Int32.le_iff_toInt_le, ← Int32.toInt_inj, Int32.reduceToInt] at * <;> omega)
  · refine z_iload_n (pc := 4) O dX8_end_4 rfl ?_
    refine z_aload_n (pc := 5) O dX8_end_5 rfl ?_
    refine z_getIv (pc := 6) (x := 0) O fl_X8_74 rfl (jo_2 F.1) (fr0 F 2 1 (by decide) (by decide) (by decide)) dX8_end_6 ?_
    refine z_icmp_le (pc := 9) (tgt := 14) O dX8_end_9 (by decide) (fun h9 => ?_) (fun h9 => ?_)
    · refine z_aload_n (pc := 14) O dX8_end_14 rfl ?_
      refine z_iload_n (pc := 15) O dX8_end_15 rfl ?_
      refine z_putI (pc := 16) O fl_X8_74 rfl ⟨rfl, rfl⟩ (jo_2 F.1) dX8_end_16 ?_
      refine z_iload_n (pc := 19) O dX8_end_19 rfl ?_
      refine z_iret (pc := 20) O dX8_end_20 ?_
      refine ⟨congrArg (fun z => some (Value.int z)) ?_, (by repeat (first | with_reducible exact F.m | with_reducible refine FrM.pI (by decide) ?_ | with_reducible refine FrM.pL ?_ | with_reducible refine FrM.new ?_ | with_reducible refine FrM.pR (Or.inl (by decide)) ?_))⟩
      (try simp only [bI_0, decide_eq_false_iff_not, Decidable.not_not] at *)
      unfold a_end
      split <;> (simp only [Int32.lt_iff_toInt_lt, Int32.le_iff_toInt_le, ← Int32.toInt_inj, Int32.reduceToInt] at * <;> omega)
    · refine z_iconst (pc := 12) (v := -1) O dX8_end_12 (by decide) ?_
      refine z_iret (pc := 13) O dX8_end_13 ?_
      refine ⟨congrArg (fun z => some (Value.int z)) ?_, (by repeat (first | with_reducible exact F.m | with_reducible refine FrM.pI (by decide) ?_ | with_reducible refine FrM.pL ?_ | with_reducible refine FrM.new ?_ | with_reducible refine FrM.pR (Or.inl (by decide)) ?_))⟩
      (try simp only [bI_0, decide_eq_false_iff_not, Decidable.not_not] at *)
      unfold a_end
      split <;> (simp only [Int32.lt_iff_toInt_lt, Int32.le_iff_toInt_le, ← Int32.toInt_inj, Int32.reduceToInt] at * <;> omega)
set_option maxHeartbeats 4000000 in
set_option maxRecDepth 20000 in
theorem p1x_degree (l : Launch) (σ : VH) (F : Fr σ) (a : Int32) (b : Int32)  : Ct l yX8_degree cX8_degree 3 (some .int) 2 0 0 [.ref 2, .int a, .int b] σ (fun r τ => r = some (.int (-1)) ∧ FrM τ) := by
  refine Ct.enter rfl (Nat.le_of_ble_eq_true rfl) ?_
  intro κ γ hκ O hrc hrs
  subst hκ
  refine z_aload_n (pc := 0) O dX8_degree_0 rfl ?_
  refine z_getR (pc := 1) 9 O fl_X8_37 rfl (jo_2 F.1) (jr_2_8 F.1) dX8_degree_1 ?_
  refine z_iload_n (pc := 4) O dX8_degree_4 rfl ?_
  refine z_iload_n (pc := 5) O dX8_degree_5 rfl ?_
  refine z_callV (pc := 6) O cl_X8_126 (p1_stepsBetween _ _ F _ _) (by decide) (jo_9 F.1) kc_3 rfl rfl (Nat.le_of_ble_eq_true rfl) ⟨Nat.zero_le _, Nat.zero_le _⟩ dX8_degree_6 (fun r τ hp => ?_)
  obtain ⟨rfl, rfl⟩ := hp
  refine z_iret (pc := 9) O dX8_degree_9 ?_
  exact ⟨rfl, (by repeat (first | with_reducible exact F.m | with_reducible refine FrM.pI (by decide) ?_ | with_reducible refine FrM.pL ?_ | with_reducible refine FrM.new ?_ | with_reducible refine FrM.pR (Or.inl (by decide)) ?_))⟩
set_option maxHeartbeats 4000000 in
set_option maxRecDepth 20000 in
theorem p1x_rank (l : Launch) (σ : VH) (F : Fr σ) (p : Int32) (r : Int32) (d : Int32)  : Ct l yX8_rank cX8_rank 4 (some .int) 1 0 0 [.ref 2, .int p, .int r, .int d] σ (fun r τ => r = some (.int (-1)) ∧ FrM τ) := by
  refine Ct.enter rfl (Nat.le_of_ble_eq_true rfl) ?_
  intro κ γ hκ O hrc hrs
  subst hκ
  refine z_aload_n (pc := 0) O dX8_rank_0 rfl ?_
  refine z_getR (pc := 1) 9 O fl_X8_37 rfl (jo_2 F.1) (jr_2_8 F.1) dX8_rank_1 ?_
  refine z_iload_n (pc := 4) O dX8_rank_4 rfl ?_
  refine z_callV (pc := 5) O cl_X8_130 (ct_X3_isThere0 _ _ F _) (by decide) (jo_9 F.1) kc_3 rfl rfl (Nat.le_of_ble_eq_true rfl) ⟨Nat.zero_le _, Nat.zero_le _⟩ dX8_rank_5 (fun r τ hp => ?_)
  obtain ⟨rfl, rfl⟩ := hp
  refine z_if_eq (pc := 8) (tgt := 27) O dX8_rank_8 (by decide) (fun _ => ?_) (fun h => absurd h (by decide))
  refine z_iconst (pc := 27) (v := -1) O dX8_rank_27 (by decide) ?_
  refine z_iret (pc := 28) O dX8_rank_28 ?_
  exact ⟨rfl, (by repeat (first | with_reducible exact F.m | with_reducible refine FrM.pI (by decide) ?_ | with_reducible refine FrM.pL ?_ | with_reducible refine FrM.new ?_ | with_reducible refine FrM.pR (Or.inl (by decide)) ?_))⟩
set_option maxHeartbeats 4000000 in
set_option maxRecDepth 20000 in
theorem p1x_ranked (l : Launch) (σ : VH) (F : Fr σ) (p : Int32) (d : Int32) (k : Int32)  : Ct l yX8_ranked cX8_ranked 4 (some .int) 1 0 0 [.ref 2, .int p, .int d, .int k] σ (fun r τ => r = some (.int (-1)) ∧ FrM τ) := by
  refine Ct.enter rfl (Nat.le_of_ble_eq_true rfl) ?_
  intro κ γ hκ O hrc hrs
  subst hκ
  refine z_aload_n (pc := 0) O dX8_ranked_0 rfl ?_
  refine z_getR (pc := 1) 9 O fl_X8_37 rfl (jo_2 F.1) (jr_2_8 F.1) dX8_ranked_1 ?_
  refine z_iload_n (pc := 4) O dX8_ranked_4 rfl ?_
  refine z_callV (pc := 5) O cl_X8_130 (ct_X3_isThere0 _ _ F _) (by decide) (jo_9 F.1) kc_3 rfl rfl (Nat.le_of_ble_eq_true rfl) ⟨Nat.zero_le _, Nat.zero_le _⟩ dX8_ranked_5 (fun r τ hp => ?_)
  obtain ⟨rfl, rfl⟩ := hp
  refine z_if_eq (pc := 8) (tgt := 24) O dX8_ranked_8 (by decide) (fun _ => ?_) (fun h => absurd h (by decide))
  refine z_iconst (pc := 24) (v := -1) O dX8_ranked_24 (by decide) ?_
  refine z_iret (pc := 25) O dX8_ranked_25 ?_
  exact ⟨rfl, (by repeat (first | with_reducible exact F.m | with_reducible refine FrM.pI (by decide) ?_ | with_reducible refine FrM.pL ?_ | with_reducible refine FrM.new ?_ | with_reducible refine FrM.pR (Or.inl (by decide)) ?_))⟩
set_option maxHeartbeats 4000000 in
set_option maxRecDepth 20000 in
theorem p1x_dead (l : Launch) (σ : VH) (F : Fr σ) (p : Int32) (d : Int32)  : Ct l yX8_dead cX8_dead 3 (some .boolean) 2 0 0 [.ref 2, .int p, .int d] σ (fun r τ => r = some (.int 0) ∧ FrM τ) := by
  refine Ct.enter rfl (Nat.le_of_ble_eq_true rfl) ?_
  intro κ γ hκ O hrc hrs
  subst hκ
  refine z_iload_n (pc := 0) O dX8_dead_0 rfl ?_
  refine z_callS (pc := 1) O cl_X8_85 (ct_X8_isDay _ _ _) (by decide) rfl rfl (Nat.le_of_ble_eq_true rfl) ⟨Nat.zero_le _, Nat.zero_le _⟩ dX8_dead_1 (fun r τ hp => ?_)
  obtain ⟨rfl, rfl⟩ := hp
  refine z_if_eq (pc := 4) (tgt := 23) O dX8_dead_4 (by decide) (fun h4 => ?_) (fun h4 => ?_)
  · refine z_iconst (pc := 23) (v := 0) O dX8_dead_23 (by decide) ?_
    refine z_zret (pc := 24) O dX8_dead_24 rfl ?_
    exact ⟨rfl, (by repeat (first | with_reducible exact F.m | with_reducible refine FrM.pI (by decide) ?_ | with_reducible refine FrM.pL ?_ | with_reducible refine FrM.new ?_ | with_reducible refine FrM.pR (Or.inl (by decide)) ?_))⟩
  · refine z_aload_n (pc := 7) O dX8_dead_7 rfl ?_
    refine z_getR (pc := 8) 9 O fl_X8_37 rfl (jo_2 F.1) (jr_2_8 F.1) dX8_dead_8 ?_
    refine z_iload_n (pc := 11) O dX8_dead_11 rfl ?_
    refine z_iload_n (pc := 12) O dX8_dead_12 rfl ?_
    refine z_callV (pc := 13) O cl_X8_142 (p1_bury _ _ F _ _) (by decide) (jo_9 F.1) kc_3 rfl rfl (Nat.le_of_ble_eq_true rfl) ⟨Nat.zero_le _, Nat.zero_le _⟩ dX8_dead_13 (fun r τ hp => ?_)
    obtain ⟨rfl, rfl⟩ := hp
    refine z_if_eq (pc := 16) (tgt := 23) O dX8_dead_16 (by decide) (fun _ => ?_) (fun h => absurd h (by decide))
    refine z_iconst (pc := 23) (v := 0) O dX8_dead_23 (by decide) ?_
    refine z_zret (pc := 24) O dX8_dead_24 rfl ?_
    exact ⟨rfl, (by repeat (first | with_reducible exact F.m | with_reducible refine FrM.pI (by decide) ?_ | with_reducible refine FrM.pL ?_ | with_reducible refine FrM.new ?_ | with_reducible refine FrM.pR (Or.inl (by decide)) ?_))⟩
set_option maxHeartbeats 4000000 in
set_option maxRecDepth 20000 in
theorem p1x_hurt (l : Launch) (σ : VH) (F : Fr σ) (b : Int32) (o : Int32) (nm : Int64) (d : Int32) (p : Int32) (n : Int32)  : Ct l yX8_hurt cX8_hurt 8 (some .int) 1 0 0 [.ref 2, .int b, .int o, .long nm, .int d, .int p, .int n] σ (fun r τ => r = some (.int (-1)) ∧ FrM τ) := by
  refine Ct.enter rfl (Nat.le_of_ble_eq_true rfl) ?_
  intro κ γ hκ O hrc hrs
  subst hκ
  refine z_aload_n (pc := 0) O dX8_hurt_0 rfl ?_
  refine z_getR (pc := 1) 9 O fl_X8_37 rfl (jo_2 F.1) (jr_2_8 F.1) dX8_hurt_1 ?_
  refine z_iload_n (pc := 4) O dX8_hurt_4 rfl ?_
  refine z_callV (pc := 5) O cl_X8_130 (ct_X3_isThere0 _ _ F _) (by decide) (jo_9 F.1) kc_3 rfl rfl (Nat.le_of_ble_eq_true rfl) ⟨Nat.zero_le _, Nat.zero_le _⟩ dX8_hurt_5 (fun r τ hp => ?_)
  obtain ⟨rfl, rfl⟩ := hp
  refine z_if_eq (pc := 8) (tgt := 34) O dX8_hurt_8 (by decide) (fun _ => ?_) (fun h => absurd h (by decide))
  refine z_iconst (pc := 34) (v := -1) O dX8_hurt_34 (by decide) ?_
  refine z_iret (pc := 35) O dX8_hurt_35 ?_
  exact ⟨rfl, (by repeat (first | with_reducible exact F.m | with_reducible refine FrM.pI (by decide) ?_ | with_reducible refine FrM.pL ?_ | with_reducible refine FrM.new ?_ | with_reducible refine FrM.pR (Or.inl (by decide)) ?_))⟩
set_option maxHeartbeats 4000000 in
set_option maxRecDepth 20000 in
theorem p1x_sum (l : Launch) (σ : VH) (F : Fr σ) (w : Int32) (k : Int32)  : Ct l yX8_sum cX8_sum 4 (some .int) 1 0 0 [.ref 2, .int w, .int k] σ (fun r τ => r = some (.int (-1)) ∧ FrM τ) := by
  refine Ct.enter rfl (Nat.le_of_ble_eq_true rfl) ?_
  intro κ γ hκ O hrc hrs
  subst hκ
  refine z_aload_n (pc := 0) O dX8_sum_0 rfl ?_
  refine z_iload_n (pc := 1) O dX8_sum_1 rfl ?_
  refine z_callV (pc := 2) O cl_X8_158 (p1_caseAt _ _ F _) (by decide) (jo_2 F.1) kc_8 rfl rfl (Nat.le_of_ble_eq_true rfl) ⟨Nat.zero_le _, Nat.zero_le _⟩ dX8_sum_2 (fun r τ hp => ?_)
  obtain ⟨rfl, rfl⟩ := hp
  refine z_astore_nN (pc := 5) _ O dX8_sum_5 (by decide) rfl ?_
  refine z_aload_nN (pc := 6) O dX8_sum_6 rfl ?_
  refine z_ifnonnullN (pc := 7) O dX8_sum_7 ?_
  refine z_iconst (pc := 10) (v := -1) O dX8_sum_10 (by decide) ?_
  refine z_goto (pc := 11) (tgt := 20) O dX8_sum_11 (by decide) ?_
  refine z_iret (pc := 20) O dX8_sum_20 ?_
  exact ⟨rfl, (by repeat (first | with_reducible exact F.m | with_reducible refine FrM.pI (by decide) ?_ | with_reducible refine FrM.pL ?_ | with_reducible refine FrM.new ?_ | with_reducible refine FrM.pR (Or.inl (by decide)) ?_))⟩
set_option maxHeartbeats 4000000 in
set_option maxRecDepth 20000 in
theorem p1x_oath (l : Launch) (σ : VH) (F : Fr σ) (w : Int32) (h : Int32)  : Ct l yX8_oath cX8_oath 5 (some .int) 1 0 0 [.ref 2, .int w, .int h] σ (fun r τ => r = some (.int (-1)) ∧ FrM τ) := by
  refine Ct.enter rfl (Nat.le_of_ble_eq_true rfl) ?_
  intro κ γ hκ O hrc hrs
  subst hκ
  refine z_aload_n (pc := 0) O dX8_oath_0 rfl ?_
  refine z_iload_n (pc := 1) O dX8_oath_1 rfl ?_
  refine z_callV (pc := 2) O cl_X8_158 (p1_caseAt _ _ F _) (by decide) (jo_2 F.1) kc_8 rfl rfl (Nat.le_of_ble_eq_true rfl) ⟨Nat.zero_le _, Nat.zero_le _⟩ dX8_oath_2 (fun r τ hp => ?_)
  obtain ⟨rfl, rfl⟩ := hp
  refine z_astore_nN (pc := 5) _ O dX8_oath_5 (by decide) rfl ?_
  refine z_aload_nN (pc := 6) O dX8_oath_6 rfl ?_
  refine z_ifnullN (pc := 7) (tgt := 26) O dX8_oath_7 (by decide) ?_
  refine z_iconst (pc := 26) (v := -1) O dX8_oath_26 (by decide) ?_
  refine z_iret (pc := 27) O dX8_oath_27 ?_
  exact ⟨rfl, (by repeat (first | with_reducible exact F.m | with_reducible refine FrM.pI (by decide) ?_ | with_reducible refine FrM.pL ?_ | with_reducible refine FrM.new ?_ | with_reducible refine FrM.pR (Or.inl (by decide)) ?_))⟩
set_option maxHeartbeats 4000000 in
set_option maxRecDepth 20000 in
theorem p1x_of (l : Launch) (σ : VH) (F : Fr σ) (w : Int32) (k : Int32)  : Ct l yX8_of cX8_of 4 (some .int) 1 0 0 [.ref 2, .int w, .int k] σ (fun r τ => r = some (.int (-1)) ∧ FrM τ) := by
  refine Ct.enter rfl (Nat.le_of_ble_eq_true rfl) ?_
  intro κ γ hκ O hrc hrs
  subst hκ
  refine z_aload_n (pc := 0) O dX8_of_0 rfl ?_
  refine z_iload_n (pc := 1) O dX8_of_1 rfl ?_
  refine z_callV (pc := 2) O cl_X8_158 (p1_caseAt _ _ F _) (by decide) (jo_2 F.1) kc_8 rfl rfl (Nat.le_of_ble_eq_true rfl) ⟨Nat.zero_le _, Nat.zero_le _⟩ dX8_of_2 (fun r τ hp => ?_)
  obtain ⟨rfl, rfl⟩ := hp
  refine z_astore_nN (pc := 5) _ O dX8_of_5 (by decide) rfl ?_
  refine z_aload_nN (pc := 6) O dX8_of_6 rfl ?_
  refine z_ifnonnullN (pc := 7) O dX8_of_7 ?_
  refine z_iconst (pc := 10) (v := -1) O dX8_of_10 (by decide) ?_
  refine z_iret (pc := 11) O dX8_of_11 ?_
  exact ⟨rfl, (by repeat (first | with_reducible exact F.m | with_reducible refine FrM.pI (by decide) ?_ | with_reducible refine FrM.pL ?_ | with_reducible refine FrM.new ?_ | with_reducible refine FrM.pR (Or.inl (by decide)) ?_))⟩
set_option maxHeartbeats 4000000 in
set_option maxRecDepth 20000 in
theorem p1x_pays (l : Launch) (σ : VH) (F : Fr σ) (w : Int32) (p : Int32) (k : Int32)  : Ct l yX8_pays cX8_pays 5 (some .int) 1 0 0 [.ref 2, .int w, .int p, .int k] σ (fun r τ => r = some (.int (-1)) ∧ FrM τ) := by
  refine Ct.enter rfl (Nat.le_of_ble_eq_true rfl) ?_
  intro κ γ hκ O hrc hrs
  subst hκ
  refine z_aload_n (pc := 0) O dX8_pays_0 rfl ?_
  refine z_iload_n (pc := 1) O dX8_pays_1 rfl ?_
  refine z_callV (pc := 2) O cl_X8_158 (p1_caseAt _ _ F _) (by decide) (jo_2 F.1) kc_8 rfl rfl (Nat.le_of_ble_eq_true rfl) ⟨Nat.zero_le _, Nat.zero_le _⟩ dX8_pays_2 (fun r τ hp => ?_)
  obtain ⟨rfl, rfl⟩ := hp
  refine z_astoreN (pc := 5) _ O dX8_pays_5 (by decide) rfl ?_
  refine z_aloadN (pc := 7) O dX8_pays_7 rfl ?_
  refine z_ifnonnullN (pc := 9) O dX8_pays_9 ?_
  refine z_iconst (pc := 12) (v := -1) O dX8_pays_12 (by decide) ?_
  refine z_goto (pc := 13) (tgt := 34) O dX8_pays_13 (by decide) ?_
  refine z_iret (pc := 34) O dX8_pays_34 ?_
  exact ⟨rfl, (by repeat (first | with_reducible exact F.m | with_reducible refine FrM.pI (by decide) ?_ | with_reducible refine FrM.pL ?_ | with_reducible refine FrM.new ?_ | with_reducible refine FrM.pR (Or.inl (by decide)) ?_))⟩
set_option maxHeartbeats 4000000 in
set_option maxRecDepth 20000 in
theorem p1x_has (l : Launch) (σ : VH) (F : Fr σ) (w : Int32) (p : Int32) (k : Int32)  : Ct l yX8_has cX8_has 5 (some .int) 1 0 0 [.ref 2, .int w, .int p, .int k] σ (fun r τ => r = some (.int (-1)) ∧ FrM τ) := by
  refine Ct.enter rfl (Nat.le_of_ble_eq_true rfl) ?_
  intro κ γ hκ O hrc hrs
  subst hκ
  refine z_aload_n (pc := 0) O dX8_has_0 rfl ?_
  refine z_iload_n (pc := 1) O dX8_has_1 rfl ?_
  refine z_callV (pc := 2) O cl_X8_158 (p1_caseAt _ _ F _) (by decide) (jo_2 F.1) kc_8 rfl rfl (Nat.le_of_ble_eq_true rfl) ⟨Nat.zero_le _, Nat.zero_le _⟩ dX8_has_2 (fun r τ hp => ?_)
  obtain ⟨rfl, rfl⟩ := hp
  refine z_astoreN (pc := 5) _ O dX8_has_5 (by decide) rfl ?_
  refine z_aloadN (pc := 7) O dX8_has_7 rfl ?_
  refine z_ifnonnullN (pc := 9) O dX8_has_9 ?_
  refine z_iconst (pc := 12) (v := -1) O dX8_has_12 (by decide) ?_
  refine z_goto (pc := 13) (tgt := 34) O dX8_has_13 (by decide) ?_
  refine z_iret (pc := 34) O dX8_has_34 ?_
  exact ⟨rfl, (by repeat (first | with_reducible exact F.m | with_reducible refine FrM.pI (by decide) ?_ | with_reducible refine FrM.pL ?_ | with_reducible refine FrM.new ?_ | with_reducible refine FrM.pR (Or.inl (by decide)) ?_))⟩
set_option maxHeartbeats 4000000 in
set_option maxRecDepth 20000 in
theorem p1x_judge (l : Launch) (σ : VH) (F : Fr σ) (w : Int32)  : Ct l yX8_judge cX8_judge 5 (some .int) 1 0 0 [.ref 2, .int w] σ (fun r τ => r = some (.int (-1)) ∧ FrM τ) := by
  refine Ct.enter rfl (Nat.le_of_ble_eq_true rfl) ?_
  intro κ γ hκ O hrc hrs
  subst hκ
  refine z_aload_n (pc := 0) O dX8_judge_0 rfl ?_
  refine z_iload_n (pc := 1) O dX8_judge_1 rfl ?_
  refine z_callV (pc := 2) O cl_X8_158 (p1_caseAt _ _ F _) (by decide) (jo_2 F.1) kc_8 rfl rfl (Nat.le_of_ble_eq_true rfl) ⟨Nat.zero_le _, Nat.zero_le _⟩ dX8_judge_2 (fun r τ hp => ?_)
  obtain ⟨rfl, rfl⟩ := hp
  refine z_astore_nN (pc := 5) _ O dX8_judge_5 (by decide) rfl ?_
  refine z_aload_nN (pc := 6) O dX8_judge_6 rfl ?_
  refine z_ifnullN (pc := 7) (tgt := 18) O dX8_judge_7 (by decide) ?_
  refine z_iconst (pc := 18) (v := -1) O dX8_judge_18 (by decide) ?_
  refine z_iret (pc := 19) O dX8_judge_19 ?_
  exact ⟨rfl, (by repeat (first | with_reducible exact F.m | with_reducible refine FrM.pI (by decide) ?_ | with_reducible refine FrM.pL ?_ | with_reducible refine FrM.new ?_ | with_reducible refine FrM.pR (Or.inl (by decide)) ?_))⟩
set_option maxHeartbeats 4000000 in
set_option maxRecDepth 20000 in
theorem p1x_pay (l : Launch) (σ : VH) (F : Fr σ) (w : Int32) (k : Int32) (b : Int32)  : Ct l yX8_pay cX8_pay 5 (some .int) 1 0 0 [.ref 2, .int w, .int k, .int b] σ (fun r τ => r = some (.int (-1)) ∧ FrM τ) := by
  refine Ct.enter rfl (Nat.le_of_ble_eq_true rfl) ?_
  intro κ γ hκ O hrc hrs
  subst hκ
  refine z_aload_n (pc := 0) O dX8_pay_0 rfl ?_
  refine z_iload_n (pc := 1) O dX8_pay_1 rfl ?_
  refine z_callV (pc := 2) O cl_X8_158 (p1_caseAt _ _ F _) (by decide) (jo_2 F.1) kc_8 rfl rfl (Nat.le_of_ble_eq_true rfl) ⟨Nat.zero_le _, Nat.zero_le _⟩ dX8_pay_2 (fun r τ hp => ?_)
  obtain ⟨rfl, rfl⟩ := hp
  refine z_astoreN (pc := 5) _ O dX8_pay_5 (by decide) rfl ?_
  refine z_aloadN (pc := 7) O dX8_pay_7 rfl ?_
  refine z_ifnullN (pc := 9) (tgt := 21) O dX8_pay_9 (by decide) ?_
  refine z_iconst (pc := 21) (v := -1) O dX8_pay_21 (by decide) ?_
  refine z_iret (pc := 22) O dX8_pay_22 ?_
  exact ⟨rfl, (by repeat (first | with_reducible exact F.m | with_reducible refine FrM.pI (by decide) ?_ | with_reducible refine FrM.pL ?_ | with_reducible refine FrM.new ?_ | with_reducible refine FrM.pR (Or.inl (by decide)) ?_))⟩
set_option maxHeartbeats 4000000 in
set_option maxRecDepth 20000 in
theorem p1x_owed (l : Launch) (σ : VH) (F : Fr σ) (w : Int32) (d : Int32)  : Ct l yX8_owed cX8_owed 4 (some .int) 1 0 0 [.ref 2, .int w, .int d] σ (fun r τ => r = some (.int (-2000000001)) ∧ FrM τ) := by
  refine Ct.enter rfl (Nat.le_of_ble_eq_true rfl) ?_
  intro κ γ hκ O hrc hrs
  subst hκ
  refine z_aload_n (pc := 0) O dX8_owed_0 rfl ?_
  refine z_iload_n (pc := 1) O dX8_owed_1 rfl ?_
  refine z_callV (pc := 2) O cl_X8_158 (p1_caseAt _ _ F _) (by decide) (jo_2 F.1) kc_8 rfl rfl (Nat.le_of_ble_eq_true rfl) ⟨Nat.zero_le _, Nat.zero_le _⟩ dX8_owed_2 (fun r τ hp => ?_)
  obtain ⟨rfl, rfl⟩ := hp
  refine z_astore_nN (pc := 5) _ O dX8_owed_5 (by decide) rfl ?_
  refine z_aload_nN (pc := 6) O dX8_owed_6 rfl ?_
  refine z_ifnullN (pc := 7) (tgt := 34) O dX8_owed_7 (by decide) ?_
  refine z_ldc (pc := 34) O tw_736 dX8_owed_34 ?_
  refine z_iret (pc := 36) O dX8_owed_36 ?_
  exact ⟨rfl, (by repeat (first | with_reducible exact F.m | with_reducible refine FrM.pI (by decide) ?_ | with_reducible refine FrM.pL ?_ | with_reducible refine FrM.new ?_ | with_reducible refine FrM.pR (Or.inl (by decide)) ?_))⟩
set_option maxHeartbeats 4000000 in
set_option maxRecDepth 20000 in
theorem p1x_truce (l : Launch) (σ : VH) (F : Fr σ) (a : Int32) (b : Int32) (f : Int32) (t : Int32)  : Ct l yX8_truce cX8_truce 5 (some .int) 1 0 0 [.ref 2, .int a, .int b, .int f, .int t] σ (fun r τ => r = some (.int (a_truce a b f t)) ∧ FrM τ) := by
  refine Ct.enter rfl (Nat.le_of_ble_eq_true rfl) ?_
  intro κ γ hκ O hrc hrs
  subst hκ
  refine z_iload_n (pc := 0) O dX8_truce_0 rfl ?_
  refine z_callS (pc := 1) O cl_X8_81 (ct_X8_isFolk _ _ _) (by decide) rfl rfl (Nat.le_of_ble_eq_true rfl) ⟨Nat.zero_le _, Nat.zero_le _⟩ dX8_truce_1 (fun r τ hp => ?_)
  obtain ⟨rfl, rfl⟩ := hp
  refine z_if_eq (pc := 4) (tgt := 35) O dX8_truce_4 (by decide) (fun h4 => ?_) (fun h4 => ?_)
  · refine z_iconst (pc := 35) (v := -1) O dX8_truce_35 (by decide) ?_
    refine z_iret (pc := 36) O dX8_truce_36 ?_
    refine ⟨congrArg (fun z => some (Value.int z)) ?_, (by first | exact F.m | exact hp.2)⟩
    (try simp only [bI_0, decide_eq_false_iff_not, Decidable.not_not] at *)
    unfold a_truce
    split <;> (simp only [Int32.lt_iff_toInt_lt, Int32.le_iff_toInt_le, ← Int32.toInt_inj, Int32.reduceToInt] at * <;> omega)
  · refine z_iload_n (pc := 7) O dX8_truce_7 rfl ?_
    refine z_callS (pc := 8) O cl_X8_81 (ct_X8_isFolk _ _ _) (by decide) rfl rfl (Nat.le_of_ble_eq_true rfl) ⟨Nat.zero_le _, Nat.zero_le _⟩ dX8_truce_8 (fun r τ hp => ?_)
    obtain ⟨rfl, rfl⟩ := hp
    refine z_if_eq (pc := 11) (tgt := 35) O dX8_truce_11 (by decide) (fun h11 => ?_) (fun h11 => ?_)
    · refine z_iconst (pc := 35) (v := -1) O dX8_truce_35 (by decide) ?_
      refine z_iret (pc := 36) O dX8_truce_36 ?_
      refine ⟨congrArg (fun z => some (Value.int z)) ?_, (by first | exact F.m | exact hp.2)⟩
      (try simp only [bI_0, decide_eq_false_iff_not, Decidable.not_not] at *)
      unfold a_truce
      split <;> (simp only [Int32.lt_iff_toInt_lt, Int32.le_iff_toInt_le, ← Int32.toInt_inj, Int32.reduceToInt] at * <;> omega)
    · refine z_iload_n (pc := 14) O dX8_truce_14 rfl ?_
      refine z_callS (pc := 15) O cl_X8_85 (ct_X8_isDay _ _ _) (by decide) rfl rfl (Nat.le_of_ble_eq_true rfl) ⟨Nat.zero_le _, Nat.zero_le _⟩ dX8_truce_15 (fun r τ hp => ?_)
      obtain ⟨rfl, rfl⟩ := hp
      refine z_if_eq (pc := 18) (tgt := 35) O dX8_truce_18 (by decide) (fun h18 => ?_) (fun h18 => ?_)
      · refine z_iconst (pc := 35) (v := -1) O dX8_truce_35 (by decide) ?_
        refine z_iret (pc := 36) O dX8_truce_36 ?_
        refine ⟨congrArg (fun z => some (Value.int z)) ?_, (by first | exact F.m | exact hp.2)⟩
        (try simp only [bI_0, decide_eq_false_iff_not, Decidable.not_not] at *)
        unfold a_truce
        split <;> (simp only [Int32.lt_iff_toInt_lt, Int32.le_iff_toInt_le, ← Int32.toInt_inj, Int32.reduceToInt] at * <;> omega)
      · refine z_iload (pc := 21) O dX8_truce_21 rfl ?_
        refine z_callS (pc := 23) O cl_X8_85 (ct_X8_isDay _ _ _) (by decide) rfl rfl (Nat.le_of_ble_eq_true rfl) ⟨Nat.zero_le _, Nat.zero_le _⟩ dX8_truce_23 (fun r τ hp => ?_)
        obtain ⟨rfl, rfl⟩ := hp
        refine z_if_eq (pc := 26) (tgt := 35) O dX8_truce_26 (by decide) (fun h26 => ?_) (fun h26 => ?_)
        · refine z_iconst (pc := 35) (v := -1) O dX8_truce_35 (by decide) ?_
          refine z_iret (pc := 36) O dX8_truce_36 ?_
          refine ⟨congrArg (fun z => some (Value.int z)) ?_, (by first | exact F.m | exact hp.2)⟩
          (try simp only [bI_0, decide_eq_false_iff_not, Decidable.not_not] at *)
          unfold a_truce
          split <;> (simp only [Int32.lt_iff_toInt_lt, Int32.le_iff_toInt_le, ← Int32.toInt_inj, Int32.reduceToInt] at * <;> omega)
        · refine z_iload_n (pc := 29) O dX8_truce_29 rfl ?_
          refine z_iload (pc := 30) O dX8_truce_30 rfl ?_
          refine z_icmp_le (pc := 32) (tgt := 37) O dX8_truce_32 (by decide) (fun h32 => ?_) (fun h32 => ?_)
          · refine z_aload_n (pc := 37) O dX8_truce_37 rfl ?_
            refine z_getR (pc := 38) 21 O fl_X8_51 rfl (jo_2 F.1) (jr_2_10 F.1) dX8_truce_38 ?_
            refine z_iload_n (pc := 41) O dX8_truce_41 rfl ?_
            refine z_iload_n (pc := 42) O dX8_truce_42 rfl ?_
            refine z_iload_n (pc := 43) O dX8_truce_43 rfl ?_
            refine z_iload (pc := 44) O dX8_truce_44 rfl ?_
            refine z_callV (pc := 46) O cl_X8_146 (p1_X7_add _ _ F _ _ _ _) (by decide) (jo_21 F.1) kc_7 rfl rfl (Nat.le_of_ble_eq_true rfl) ⟨Nat.zero_le _, Nat.zero_le _⟩ dX8_truce_46 (fun r τ hp => ?_)
            obtain ⟨rfl, hp2⟩ := hp
            have hp : True ∧ FrM τ := ⟨trivial, hp2⟩
            refine z_iret (pc := 49) O dX8_truce_49 ?_
            refine ⟨congrArg (fun z => some (Value.int z)) ?_, (by first | exact F.m | exact hp.2)⟩
            (try simp only [bI_0, decide_eq_false_iff_not, Decidable.not_not] at *)
            unfold a_truce
            split <;> (simp only [Int32.lt_iff_toInt_lt, Int32.le_iff_toInt_le, ← Int32.toInt_inj, Int32.reduceToInt] at * <;> omega)
          · refine z_iconst (pc := 35) (v := -1) O dX8_truce_35 (by decide) ?_
            refine z_iret (pc := 36) O dX8_truce_36 ?_
            refine ⟨congrArg (fun z => some (Value.int z)) ?_, (by first | exact F.m | exact hp.2)⟩
            (try simp only [bI_0, decide_eq_false_iff_not, Decidable.not_not] at *)
            unfold a_truce
            split <;> (simp only [Int32.lt_iff_toInt_lt, Int32.le_iff_toInt_le, ← Int32.toInt_inj, Int32.reduceToInt] at * <;> omega)
set_option maxHeartbeats 4000000 in
set_option maxRecDepth 20000 in
theorem p1x_person (l : Launch) (σ : VH) (F : Fr σ) (f : Int32) (m : Int32) (p : Int32)  : Ct l yX8_person cX8_person 4 (some .int) 2 0 0 [.ref 2, .int f, .int m, .int p] σ (fun r τ => r = some (.int (a_person f m p)) ∧ FrM τ) := by
  refine Ct.enter rfl (Nat.le_of_ble_eq_true rfl) ?_
  intro κ γ hκ O hrc hrs
  subst hκ
  refine z_iload_n (pc := 0) O dX8_person_0 rfl ?_
  refine z_callS (pc := 1) O cl_X8_81 (ct_X8_isFolk _ _ _) (by decide) rfl rfl (Nat.le_of_ble_eq_true rfl) ⟨Nat.zero_le _, Nat.zero_le _⟩ dX8_person_1 (fun r τ hp => ?_)
  obtain ⟨rfl, rfl⟩ := hp
  refine z_if_eq (pc := 4) (tgt := 29) O dX8_person_4 (by decide) (fun h4 => ?_) (fun h4 => ?_)
  · refine z_iconst (pc := 29) (v := -1) O dX8_person_29 (by decide) ?_
    refine z_iret (pc := 30) O dX8_person_30 ?_
    refine ⟨congrArg (fun z => some (Value.int z)) ?_, (by first | exact F.m | exact hp.2)⟩
    (try simp only [bI_0, decide_eq_false_iff_not, Decidable.not_not] at *)
    unfold a_person
    split <;> (simp only [Int32.lt_iff_toInt_lt, Int32.le_iff_toInt_le, ← Int32.toInt_inj, Int32.reduceToInt] at * <;> omega)
  · refine z_aload_n (pc := 7) O dX8_person_7 rfl ?_
    refine z_getR (pc := 8) 9 O fl_X8_37 rfl (jo_2 F.1) (jr_2_8 F.1) dX8_person_8 ?_
    refine z_iload_n (pc := 11) O dX8_person_11 rfl ?_
    refine z_callV (pc := 12) O cl_X8_119 (p1_canBeParent _ _ F _) (by decide) (jo_9 F.1) kc_3 rfl rfl (Nat.le_of_ble_eq_true rfl) ⟨Nat.zero_le _, Nat.zero_le _⟩ dX8_person_12 (fun r τ hp => ?_)
    obtain ⟨rfl, rfl⟩ := hp
    refine z_if_eq (pc := 15) (tgt := 29) O dX8_person_15 (by decide) (fun h15 => ?_) (fun h15 => ?_)
    · refine z_iconst (pc := 29) (v := -1) O dX8_person_29 (by decide) ?_
      refine z_iret (pc := 30) O dX8_person_30 ?_
      refine ⟨congrArg (fun z => some (Value.int z)) ?_, (by first | exact F.m | exact hp.2)⟩
      (try simp only [bI_0, decide_eq_false_iff_not, Decidable.not_not] at *)
      unfold a_person
      split <;> (simp only [Int32.lt_iff_toInt_lt, Int32.le_iff_toInt_le, ← Int32.toInt_inj, Int32.reduceToInt] at * <;> omega)
    · refine z_aload_n (pc := 18) O dX8_person_18 rfl ?_
      refine z_getR (pc := 19) 9 O fl_X8_37 rfl (jo_2 F.1) (jr_2_8 F.1) dX8_person_19 ?_
      refine z_iload_n (pc := 22) O dX8_person_22 rfl ?_
      refine z_callV (pc := 23) O cl_X8_119 (p1_canBeParent _ _ F _) (by decide) (jo_9 F.1) kc_3 rfl rfl (Nat.le_of_ble_eq_true rfl) ⟨Nat.zero_le _, Nat.zero_le _⟩ dX8_person_23 (fun r τ hp => ?_)
      obtain ⟨rfl, rfl⟩ := hp
      refine z_if_ne (pc := 26) (tgt := 31) O dX8_person_26 (by decide) (fun h26 => ?_) (fun h26 => ?_)
      · refine z_aload_n (pc := 31) O dX8_person_31 rfl ?_
        refine z_getR (pc := 32) 9 O fl_X8_37 rfl (jo_2 F.1) (jr_2_8 F.1) dX8_person_32 ?_
        refine z_iload_n (pc := 35) O dX8_person_35 rfl ?_
        refine z_iload_n (pc := 36) O dX8_person_36 rfl ?_
        refine z_iload_n (pc := 37) O dX8_person_37 rfl ?_
        refine z_callV (pc := 38) O cl_X8_122 (p1_X3_add _ _ F _ _ _) (by decide) (jo_9 F.1) kc_3 rfl rfl (Nat.le_of_ble_eq_true rfl) ⟨Nat.zero_le _, Nat.zero_le _⟩ dX8_person_38 (fun r τ hp => ?_)
        obtain ⟨rfl, hp2⟩ := hp
        have hp : True ∧ FrM τ := ⟨trivial, hp2⟩
        refine z_iret (pc := 41) O dX8_person_41 ?_
        refine ⟨congrArg (fun z => some (Value.int z)) ?_, (by first | exact F.m | exact hp.2)⟩
        (try simp only [bI_0, decide_eq_false_iff_not, Decidable.not_not] at *)
        unfold a_person
        split <;> (simp only [Int32.lt_iff_toInt_lt, Int32.le_iff_toInt_le, ← Int32.toInt_inj, Int32.reduceToInt] at * <;> omega)
      · refine z_iconst (pc := 29) (v := -1) O dX8_person_29 (by decide) ?_
        refine z_iret (pc := 30) O dX8_person_30 ?_
        refine ⟨congrArg (fun z => some (Value.int z)) ?_, (by first | exact F.m | exact hp.2)⟩
        (try simp only [bI_0, decide_eq_false_iff_not, Decidable.not_not] at *)
        unfold a_person
        split <;> (simp only [Int32.lt_iff_toInt_lt, Int32.le_iff_toInt_le, ← Int32.toInt_inj, Int32.reduceToInt] at * <;> omega)
set_option maxHeartbeats 4000000 in
set_option maxRecDepth 20000 in
theorem p1x_later (l : Launch) (σ : VH) (F : Fr σ) (d : Int32)  : Ct l yX8_later cX8_later 2 (some .int) 0 0 0 [.ref 2, .int d] σ (fun r τ => r = some (.int (a_later d)) ∧ FrM τ) := by
  refine Ct.enter rfl (Nat.le_of_ble_eq_true rfl) ?_
  intro κ γ hκ O hrc hrs
  subst hκ
  refine z_iload_n (pc := 0) O dX8_later_0 rfl ?_
  refine z_if_lt (pc := 1) (tgt := 22) O dX8_later_1 (by decide) (fun h1 => ?_) (fun h1 => ?_)
  · refine z_iconst (pc := 22) (v := -1) O dX8_later_22 (by decide) ?_
    refine z_iret (pc := 23) O dX8_later_23 ?_
    have e0 : hI σ 2 7 = 0 := fr0 F 2 7 (by decide) (by decide) (by decide)
    (try simp only [e0, Int32.zero_add] at *)
    refine ⟨congrArg (fun z => some (Value.int z)) ?_, (by repeat (first | with_reducible exact F.m | with_reducible refine FrM.pI (by decide) ?_ | with_reducible refine FrM.pL ?_ | with_reducible refine FrM.new ?_ | with_reducible refine FrM.pR (Or.inl (by decide)) ?_))⟩
    (try simp only [bI_0, decide_eq_false_iff_not, Decidable.not_not] at *)
    unfold a_later
    split <;> (simp only [Int32.lt_iff_toInt_lt, Int32.le_iff_toInt_le, ← Int32.toInt_inj, Int32.reduceToInt] at * <;> omega)
  · refine z_iload_n (pc := 4) O dX8_later_4 rfl ?_
    refine z_sipush (pc := 5) (v := 1000) O dX8_later_5 (by decide) ?_
    refine z_icmp_gt (pc := 8) (tgt := 22) O dX8_later_8 (by decide) (fun h8 => ?_) (fun h8 => ?_)
    · refine z_iconst (pc := 22) (v := -1) O dX8_later_22 (by decide) ?_
      refine z_iret (pc := 23) O dX8_later_23 ?_
      have e0 : hI σ 2 7 = 0 := fr0 F 2 7 (by decide) (by decide) (by decide)
      (try simp only [e0, Int32.zero_add] at *)
      refine ⟨congrArg (fun z => some (Value.int z)) ?_, (by repeat (first | with_reducible exact F.m | with_reducible refine FrM.pI (by decide) ?_ | with_reducible refine FrM.pL ?_ | with_reducible refine FrM.new ?_ | with_reducible refine FrM.pR (Or.inl (by decide)) ?_))⟩
      (try simp only [bI_0, decide_eq_false_iff_not, Decidable.not_not] at *)
      unfold a_later
      split <;> (simp only [Int32.lt_iff_toInt_lt, Int32.le_iff_toInt_le, ← Int32.toInt_inj, Int32.reduceToInt] at * <;> omega)
    · refine z_aload_n (pc := 11) O dX8_later_11 rfl ?_
      refine z_getIv (pc := 12) (x := 0) O fl_X8_133 rfl (jo_2 F.1) (fr0 F 2 7 (by decide) (by decide) (by decide)) dX8_later_12 ?_
      refine z_iload_n (pc := 15) O dX8_later_15 rfl ?_
      refine z_iadd (pc := 16) O dX8_later_16 ?_
      refine z_ldc (pc := 17) O tw_227 dX8_later_17 ?_
      refine z_icmp_le (pc := 19) (tgt := 24) O dX8_later_19 (by decide) (fun h19 => ?_) (fun h19 => ?_)
      · refine z_aload_n (pc := 24) O dX8_later_24 rfl ?_
        refine z_dup (pc := 25) O dX8_later_25 rfl ?_
        refine z_getIv (pc := 26) (x := 0) O fl_X8_133 rfl (jo_2 F.1) (fr0 F 2 7 (by decide) (by decide) (by decide)) dX8_later_26 ?_
        refine z_iload_n (pc := 29) O dX8_later_29 rfl ?_
        refine z_iadd (pc := 30) O dX8_later_30 ?_
        refine z_putI (pc := 31) O fl_X8_133 rfl ⟨rfl, rfl⟩ (jo_2 F.1) dX8_later_31 ?_
        refine z_aload_n (pc := 34) O dX8_later_34 rfl ?_
        refine z_getI (pc := 35) O fl_X8_133 rfl (jo_2 F.1) dX8_later_35 ?_
        refine z_iret (pc := 38) O dX8_later_38 ?_
        have e0 : hI σ 2 7 = 0 := fr0 F 2 7 (by decide) (by decide) (by decide)
        (try simp only [e0, Int32.zero_add] at *)
        refine ⟨congrArg (fun z => some (Value.int z)) ?_, (by repeat (first | with_reducible exact F.m | with_reducible refine FrM.pI (by decide) ?_ | with_reducible refine FrM.pL ?_ | with_reducible refine FrM.new ?_ | with_reducible refine FrM.pR (Or.inl (by decide)) ?_))⟩
        show d = a_later d
        unfold a_later
        rw [if_pos]
        simp only [Int32.lt_iff_toInt_lt, Int32.le_iff_toInt_le, ← Int32.toInt_inj, Int32.reduceToInt] at *
        omega
      · refine z_iconst (pc := 22) (v := -1) O dX8_later_22 (by decide) ?_
        refine z_iret (pc := 23) O dX8_later_23 ?_
        have e0 : hI σ 2 7 = 0 := fr0 F 2 7 (by decide) (by decide) (by decide)
        (try simp only [e0, Int32.zero_add] at *)
        refine ⟨congrArg (fun z => some (Value.int z)) ?_, (by repeat (first | with_reducible exact F.m | with_reducible refine FrM.pI (by decide) ?_ | with_reducible refine FrM.pL ?_ | with_reducible refine FrM.new ?_ | with_reducible refine FrM.pR (Or.inl (by decide)) ?_))⟩
        (try simp only [bI_0, decide_eq_false_iff_not, Decidable.not_not] at *)
        unfold a_later
        split <;> (simp only [Int32.lt_iff_toInt_lt, Int32.le_iff_toInt_le, ← Int32.toInt_inj, Int32.reduceToInt] at * <;> omega)
set_option maxHeartbeats 4000000 in
set_option maxRecDepth 20000 in
theorem p1x_rate (l : Launch) (σ : VH) (F : Fr σ) (k : Int32) (w : Int32)  : Ct l yX8_rate cX8_rate 3 (some .boolean) 1 0 0 [.ref 2, .int k, .int w] σ (fun r τ => r = some (.int (a_rate k w)) ∧ FrM τ) := by
  refine Ct.enter rfl (Nat.le_of_ble_eq_true rfl) ?_
  intro κ γ hκ O hrc hrs
  subst hκ
  refine z_iload_n (pc := 0) O dX8_rate_0 rfl ?_
  refine z_callS (pc := 1) O cl_X8_208 (ct_X8_isKind _ _ _) (by decide) rfl rfl (Nat.le_of_ble_eq_true rfl) ⟨Nat.zero_le _, Nat.zero_le _⟩ dX8_rate_1 (fun r τ hp => ?_)
  obtain ⟨rfl, rfl⟩ := hp
  refine z_if_eq (pc := 4) (tgt := 27) O dX8_rate_4 (by decide) (fun h4 => ?_) (fun h4 => ?_)
  · refine z_iconst (pc := 27) (v := 0) O dX8_rate_27 (by decide) ?_
    refine z_zret (pc := 28) O dX8_rate_28 rfl ?_
    refine ⟨congrArg (fun z => some (Value.int z)) ?_, (by repeat (first | with_reducible exact F.m | with_reducible refine FrM.pI (by decide) ?_ | with_reducible refine FrM.pL ?_ | with_reducible refine FrM.new ?_ | with_reducible refine FrM.pR (Or.inl (by decide)) ?_))⟩
    (try simp only [bI_0, decide_eq_false_iff_not, Decidable.not_not] at *)
    unfold a_rate
    split <;> (simp only [Int32.lt_iff_toInt_lt, Int32.le_iff_toInt_le, ← Int32.toInt_inj, Int32.reduceToInt] at * <;> omega)
  · refine z_iload_n (pc := 7) O dX8_rate_7 rfl ?_
    refine z_if_lt (pc := 8) (tgt := 27) O dX8_rate_8 (by decide) (fun h8 => ?_) (fun h8 => ?_)
    · refine z_iconst (pc := 27) (v := 0) O dX8_rate_27 (by decide) ?_
      refine z_zret (pc := 28) O dX8_rate_28 rfl ?_
      refine ⟨congrArg (fun z => some (Value.int z)) ?_, (by repeat (first | with_reducible exact F.m | with_reducible refine FrM.pI (by decide) ?_ | with_reducible refine FrM.pL ?_ | with_reducible refine FrM.new ?_ | with_reducible refine FrM.pR (Or.inl (by decide)) ?_))⟩
      (try simp only [bI_0, decide_eq_false_iff_not, Decidable.not_not] at *)
      unfold a_rate
      split <;> (simp only [Int32.lt_iff_toInt_lt, Int32.le_iff_toInt_le, ← Int32.toInt_inj, Int32.reduceToInt] at * <;> omega)
    · refine z_iload_n (pc := 11) O dX8_rate_11 rfl ?_
      refine z_sipush (pc := 12) (v := 1000) O dX8_rate_12 (by decide) ?_
      refine z_icmp_gt (pc := 15) (tgt := 27) O dX8_rate_15 (by decide) (fun h15 => ?_) (fun h15 => ?_)
      · refine z_iconst (pc := 27) (v := 0) O dX8_rate_27 (by decide) ?_
        refine z_zret (pc := 28) O dX8_rate_28 rfl ?_
        refine ⟨congrArg (fun z => some (Value.int z)) ?_, (by repeat (first | with_reducible exact F.m | with_reducible refine FrM.pI (by decide) ?_ | with_reducible refine FrM.pL ?_ | with_reducible refine FrM.new ?_ | with_reducible refine FrM.pR (Or.inl (by decide)) ?_))⟩
        (try simp only [bI_0, decide_eq_false_iff_not, Decidable.not_not] at *)
        unfold a_rate
        split <;> (simp only [Int32.lt_iff_toInt_lt, Int32.le_iff_toInt_le, ← Int32.toInt_inj, Int32.reduceToInt] at * <;> omega)
      · refine z_aload_n (pc := 18) O dX8_rate_18 rfl ?_
        refine z_getIv (pc := 19) (x := 0) O fl_X8_211 rfl (jo_2 F.1) (fr0 F 2 15 (by decide) (by decide) (by decide)) dX8_rate_19 ?_
        refine z_bipush (pc := 22) (v := 100) O dX8_rate_22 (by decide) ?_
        refine z_icmp_lt (pc := 24) (tgt := 29) O dX8_rate_24 (by decide) (fun _ => ?_) (fun h => absurd h (by decide))
        obtain ⟨j, hj, rfl⟩ := ix4 (show 0 ≤ k ∧ k < 4 by simp only [bI_0, decide_eq_false_iff_not, Decidable.not_not] at *; simp only [Int32.lt_iff_toInt_lt, Int32.le_iff_toInt_le, ← Int32.toInt_inj, Int32.reduceToInt] at *; omega)
        refine z_aload_n (pc := 29) O dX8_rate_29 rfl ?_
        refine z_getR (pc := 30) 31 O fl_X8_68 rfl (jo_2 F.1) (jr_2_14 F.1) dX8_rate_30 ?_
        refine z_iload_n (pc := 33) O dX8_rate_33 rfl ?_
        refine z_iload_n (pc := 34) O dX8_rate_34 rfl ?_
        refine z_iast (pc := 35) j O (ja_31 F.1) rfl hj (by decide) dX8_rate_35 ?_
        refine z_aload_n (pc := 36) O dX8_rate_36 rfl ?_
        refine z_dup (pc := 37) O dX8_rate_37 rfl ?_
        refine z_getIv (pc := 38) (x := 0) O fl_X8_211 rfl (jo_2 F.1) (fr0 F 2 15 (by decide) (by decide) (by decide)) dX8_rate_38 ?_
        refine z_iconst (pc := 41) (v := 1) O dX8_rate_41 (by decide) ?_
        refine z_iadd (pc := 42) O dX8_rate_42 ?_
        refine z_topv (pc := 43) (1) (by decide) ?_
        refine z_putI (pc := 43) O fl_X8_211 rfl ⟨rfl, rfl⟩ (jo_2 F.1) dX8_rate_43 ?_
        refine z_iconst (pc := 46) (v := 1) O dX8_rate_46 (by decide) ?_
        refine z_zret (pc := 47) O dX8_rate_47 rfl ?_
        refine ⟨congrArg (fun z => some (Value.int z)) ?_, (by repeat (first | with_reducible exact F.m | with_reducible refine FrM.pI (by decide) ?_ | with_reducible refine FrM.pL ?_ | with_reducible refine FrM.new ?_ | with_reducible refine FrM.pR (Or.inl (by decide)) ?_))⟩
        (try simp only [bI_0, decide_eq_false_iff_not, Decidable.not_not] at *)
        unfold a_rate
        split <;> (simp only [Int32.lt_iff_toInt_lt, Int32.le_iff_toInt_le, ← Int32.toInt_inj, Int32.reduceToInt] at * <;> omega)
