set_option maxHeartbeats 4000000 in
set_option maxRecDepth 20000 in
theorem ct_X9_isPerson (l : Launch) (σ : VH) (J : Lay σ) (x : Int32)  : Ct l yX9_isPerson cX9_isPerson 2 (some .boolean) 0 0 0 [.ref 33, .int x] σ (fun r τ => r = some (.int (bI (decide (0 ≤ x ∧ x < hI σ 33 52)))) ∧ τ = σ) := by
  refine Ct.enter rfl (Nat.le_of_ble_eq_true rfl) ?_
  intro κ γ hκ O hrc hrs
  subst hκ
  refine z_iload_n (pc := 0) O dX9_isPerson_0 rfl ?_
  refine z_if_lt (pc := 1) (tgt := 16) O dX9_isPerson_1 (by decide) (fun h1 => ?_) (fun h1 => ?_)
  · refine z_iconst (pc := 16) (v := 0) O dX9_isPerson_16 (by decide) ?_
    refine z_zret (pc := 17) O dX9_isPerson_17 rfl ?_
    refine ⟨?_, rfl⟩
    first
      | exact rb0 (by simp only [Int32.lt_iff_toInt_lt, Int32.le_iff_toInt_le, ← Int32.toInt_inj, Int32.reduceToInt] at *; omega)
      | exact rb1 (by simp only [Int32.lt_iff_toInt_lt, Int32.le_iff_toInt_le, ← Int32.toInt_inj, Int32.reduceToInt] at *; omega)
  · refine z_iload_n (pc := 4) O dX9_isPerson_4 rfl ?_
    refine z_aload_n (pc := 5) O dX9_isPerson_5 rfl ?_
    refine z_getI (pc := 6) O fl_X9_353 rfl (jo_33 J) dX9_isPerson_6 ?_
    refine z_icmp_ge (pc := 9) (tgt := 16) O dX9_isPerson_9 (by decide) (fun h9 => ?_) (fun h9 => ?_)
    · refine z_iconst (pc := 16) (v := 0) O dX9_isPerson_16 (by decide) ?_
      refine z_zret (pc := 17) O dX9_isPerson_17 rfl ?_
      refine ⟨?_, rfl⟩
      first
        | exact rb0 (by simp only [Int32.lt_iff_toInt_lt, Int32.le_iff_toInt_le, ← Int32.toInt_inj, Int32.reduceToInt] at *; omega)
        | exact rb1 (by simp only [Int32.lt_iff_toInt_lt, Int32.le_iff_toInt_le, ← Int32.toInt_inj, Int32.reduceToInt] at *; omega)
    · refine z_iconst (pc := 12) (v := 1) O dX9_isPerson_12 (by decide) ?_
      refine z_goto (pc := 13) (tgt := 17) O dX9_isPerson_13 (by decide) ?_
      refine z_zret (pc := 17) O dX9_isPerson_17 rfl ?_
      refine ⟨?_, rfl⟩
      first
        | exact rb0 (by simp only [Int32.lt_iff_toInt_lt, Int32.le_iff_toInt_le, ← Int32.toInt_inj, Int32.reduceToInt] at *; omega)
        | exact rb1 (by simp only [Int32.lt_iff_toInt_lt, Int32.le_iff_toInt_le, ← Int32.toInt_inj, Int32.reduceToInt] at *; omega)
theorem p1_isPerson (l : Launch) (σ : VH) (F : FrM σ) (x : Int32) : Ct l yX9_isPerson cX9_isPerson 2 (some .boolean) 0 0 0 [.ref 33, .int x] σ (fun r τ => r = some (.int 0) ∧ τ = σ) := (ct_X9_isPerson l σ F.1 x).imp (fun r τ h => by
  obtain ⟨rfl, rfl⟩ := h
  rw [frm0 F 33 52 (by decide) (by decide) (by decide)]
  refine ⟨(rb0 ?_).symm, rfl⟩
  simp only [Int32.lt_iff_toInt_lt, Int32.le_iff_toInt_le, ← Int32.toInt_inj, Int32.reduceToInt] at *
  omega)
set_option maxHeartbeats 4000000 in
set_option maxRecDepth 20000 in
theorem ct_X9_isCase (l : Launch) (σ : VH) (J : Lay σ) (x : Int32)  : Ct l yX9_isCase cX9_isCase 2 (some .boolean) 0 0 0 [.ref 33, .int x] σ (fun r τ => r = some (.int (bI (decide (0 ≤ x ∧ x < hI σ 33 66)))) ∧ τ = σ) := by
  refine Ct.enter rfl (Nat.le_of_ble_eq_true rfl) ?_
  intro κ γ hκ O hrc hrs
  subst hκ
  refine z_iload_n (pc := 0) O dX9_isCase_0 rfl ?_
  refine z_if_lt (pc := 1) (tgt := 16) O dX9_isCase_1 (by decide) (fun h1 => ?_) (fun h1 => ?_)
  · refine z_iconst (pc := 16) (v := 0) O dX9_isCase_16 (by decide) ?_
    refine z_zret (pc := 17) O dX9_isCase_17 rfl ?_
    refine ⟨?_, rfl⟩
    first
      | exact rb0 (by simp only [Int32.lt_iff_toInt_lt, Int32.le_iff_toInt_le, ← Int32.toInt_inj, Int32.reduceToInt] at *; omega)
      | exact rb1 (by simp only [Int32.lt_iff_toInt_lt, Int32.le_iff_toInt_le, ← Int32.toInt_inj, Int32.reduceToInt] at *; omega)
  · refine z_iload_n (pc := 4) O dX9_isCase_4 rfl ?_
    refine z_aload_n (pc := 5) O dX9_isCase_5 rfl ?_
    refine z_getI (pc := 6) O fl_X9_371 rfl (jo_33 J) dX9_isCase_6 ?_
    refine z_icmp_ge (pc := 9) (tgt := 16) O dX9_isCase_9 (by decide) (fun h9 => ?_) (fun h9 => ?_)
    · refine z_iconst (pc := 16) (v := 0) O dX9_isCase_16 (by decide) ?_
      refine z_zret (pc := 17) O dX9_isCase_17 rfl ?_
      refine ⟨?_, rfl⟩
      first
        | exact rb0 (by simp only [Int32.lt_iff_toInt_lt, Int32.le_iff_toInt_le, ← Int32.toInt_inj, Int32.reduceToInt] at *; omega)
        | exact rb1 (by simp only [Int32.lt_iff_toInt_lt, Int32.le_iff_toInt_le, ← Int32.toInt_inj, Int32.reduceToInt] at *; omega)
    · refine z_iconst (pc := 12) (v := 1) O dX9_isCase_12 (by decide) ?_
      refine z_goto (pc := 13) (tgt := 17) O dX9_isCase_13 (by decide) ?_
      refine z_zret (pc := 17) O dX9_isCase_17 rfl ?_
      refine ⟨?_, rfl⟩
      first
        | exact rb0 (by simp only [Int32.lt_iff_toInt_lt, Int32.le_iff_toInt_le, ← Int32.toInt_inj, Int32.reduceToInt] at *; omega)
        | exact rb1 (by simp only [Int32.lt_iff_toInt_lt, Int32.le_iff_toInt_le, ← Int32.toInt_inj, Int32.reduceToInt] at *; omega)
theorem p1_isCase (l : Launch) (σ : VH) (F : FrM σ) (x : Int32) : Ct l yX9_isCase cX9_isCase 2 (some .boolean) 0 0 0 [.ref 33, .int x] σ (fun r τ => r = some (.int 0) ∧ τ = σ) := (ct_X9_isCase l σ F.1 x).imp (fun r τ h => by
  obtain ⟨rfl, rfl⟩ := h
  rw [frm0 F 33 66 (by decide) (by decide) (by decide)]
  refine ⟨(rb0 ?_).symm, rfl⟩
  simp only [Int32.lt_iff_toInt_lt, Int32.le_iff_toInt_le, ← Int32.toInt_inj, Int32.reduceToInt] at *
  omega)
set_option maxHeartbeats 4000000 in
set_option maxRecDepth 20000 in
theorem p1m_fault (l : Launch) (σ : VH) (F : FrM σ) (w : Int32)  : Ct l yX9_fault cX9_fault 2 (some .int) 0 0 0 [.ref 33, .int w] σ (fun r τ => r = some (.int (a_fault w))) := by
  refine Ct.enter rfl (Nat.le_of_ble_eq_true rfl) ?_
  intro κ γ hκ O hrc hrs
  subst hκ
  refine z_iload_n (pc := 0) O dX9_fault_0 rfl ?_
  refine z_if_ne (pc := 1) (tgt := 11) O dX9_fault_1 (by decide) (fun h1 => ?_) (fun h1 => ?_)
  · refine z_iload_n (pc := 11) O dX9_fault_11 rfl ?_
    refine z_iconst (pc := 12) (v := 1) O dX9_fault_12 (by decide) ?_
    refine z_icmp_ne (pc := 13) (tgt := 23) O dX9_fault_13 (by decide) (fun h13 => ?_) (fun h13 => ?_)
    · refine z_iconst (pc := 23) (v := -1) O dX9_fault_23 (by decide) ?_
      refine z_iret (pc := 24) O dX9_fault_24 ?_
      refine congrArg (fun z => some (Value.int z)) ?_
      (try simp only [bI_0, decide_eq_false_iff_not, Decidable.not_not] at *)
      unfold a_fault
      split <;> (simp only [Int32.lt_iff_toInt_lt, Int32.le_iff_toInt_le, ← Int32.toInt_inj, Int32.reduceToInt] at * <;> omega)
    · refine z_aload_n (pc := 16) O dX9_fault_16 rfl ?_
      refine z_getIv (pc := 17) (x := -1) O fl_X9_16 rfl (jo_33 F.1) (frm1 F 33 5 (by decide) (by decide) (by decide)) dX9_fault_17 ?_
      refine z_goto (pc := 20) (tgt := 24) O dX9_fault_20 (by decide) ?_
      refine z_iret (pc := 24) O dX9_fault_24 ?_
      refine congrArg (fun z => some (Value.int z)) ?_
      (try simp only [bI_0, decide_eq_false_iff_not, Decidable.not_not] at *)
      unfold a_fault
      split <;> (simp only [Int32.lt_iff_toInt_lt, Int32.le_iff_toInt_le, ← Int32.toInt_inj, Int32.reduceToInt] at * <;> omega)
  · refine z_aload_n (pc := 4) O dX9_fault_4 rfl ?_
    refine z_getIv (pc := 5) (x := 0) O fl_X9_179 rfl (jo_33 F.1) (frm0 F 33 4 (by decide) (by decide) (by decide)) dX9_fault_5 ?_
    refine z_goto (pc := 8) (tgt := 24) O dX9_fault_8 (by decide) ?_
    refine z_iret (pc := 24) O dX9_fault_24 ?_
    refine congrArg (fun z => some (Value.int z)) ?_
    (try simp only [bI_0, decide_eq_false_iff_not, Decidable.not_not] at *)
    unfold a_fault
    split <;> (simp only [Int32.lt_iff_toInt_lt, Int32.le_iff_toInt_le, ← Int32.toInt_inj, Int32.reduceToInt] at * <;> omega)
set_option maxHeartbeats 4000000 in
set_option maxRecDepth 20000 in
theorem p1m_end (l : Launch) (σ : VH) (F : FrM σ) (n : Int32)  : Ct l yX9_end cX9_end 2 (some .int) 0 0 0 [.ref 33, .int n] σ (fun r τ => r = some (.int (a_end n))) := by
  refine Ct.enter rfl (Nat.le_of_ble_eq_true rfl) ?_
  intro κ γ hκ O hrc hrs
  subst hκ
  refine z_iload_n (pc := 0) O dX9_end_0 rfl ?_
  refine z_if_lt (pc := 1) (tgt := 12) O dX9_end_1 (by decide) (fun h1 => ?_) (fun h1 => ?_)
  · refine z_iconst (pc := 12) (v := -1) O dX9_end_12 (by decide) ?_
    refine z_iret (pc := 13) O dX9_end_13 ?_
    refine congrArg (fun z => some (Value.int z)) ?_
    (try simp only [bI_0, decide_eq_false_iff_not, Decidable.not_not] at *)
    unfold a_end
    split <;> (simp only [Int32.lt_iff_toInt_lt, Int32.le_iff_toInt_le, ← Int32.toInt_inj, Int32.reduceToInt] at * <;> omega)
  · refine z_iload_n (pc := 4) O dX9_end_4 rfl ?_
    refine z_aload_n (pc := 5) O dX9_end_5 rfl ?_
    refine z_getIv (pc := 6) (x := 0) O fl_X9_277 rfl (jo_33 F.1) (frm0 F 33 2 (by decide) (by decide) (by decide)) dX9_end_6 ?_
    refine z_icmp_le (pc := 9) (tgt := 14) O dX9_end_9 (by decide) (fun h9 => ?_) (fun h9 => ?_)
    · refine z_aload_n (pc := 14) O dX9_end_14 rfl ?_
      refine z_iload_n (pc := 15) O dX9_end_15 rfl ?_
      refine z_putI (pc := 16) O fl_X9_277 rfl ⟨rfl, rfl⟩ (jo_33 F.1) dX9_end_16 ?_
      refine z_iload_n (pc := 19) O dX9_end_19 rfl ?_
      refine z_iret (pc := 20) O dX9_end_20 ?_
      refine congrArg (fun z => some (Value.int z)) ?_
      (try simp only [bI_0, decide_eq_false_iff_not, Decidable.not_not] at *)
      unfold a_end
      split <;> (simp only [Int32.lt_iff_toInt_lt, Int32.le_iff_toInt_le, ← Int32.toInt_inj, Int32.reduceToInt] at * <;> omega)
    · refine z_iconst (pc := 12) (v := -1) O dX9_end_12 (by decide) ?_
      refine z_iret (pc := 13) O dX9_end_13 ?_
      refine congrArg (fun z => some (Value.int z)) ?_
      (try simp only [bI_0, decide_eq_false_iff_not, Decidable.not_not] at *)
      unfold a_end
      split <;> (simp only [Int32.lt_iff_toInt_lt, Int32.le_iff_toInt_le, ← Int32.toInt_inj, Int32.reduceToInt] at * <;> omega)
set_option maxHeartbeats 4000000 in
set_option maxRecDepth 20000 in
theorem p1m_later (l : Launch) (σ : VH) (F : FrM σ) (d : Int32)  : Ct l yX9_later cX9_later 2 (some .int) 0 0 0 [.ref 33, .int d] σ (fun r τ => r = some (.int (a_later d))) := by
  refine Ct.enter rfl (Nat.le_of_ble_eq_true rfl) ?_
  intro κ γ hκ O hrc hrs
  subst hκ
  refine z_iload_n (pc := 0) O dX9_later_0 rfl ?_
  refine z_if_lt (pc := 1) (tgt := 23) O dX9_later_1 (by decide) (fun h1 => ?_) (fun h1 => ?_)
  · refine z_iconst (pc := 23) (v := -1) O dX9_later_23 (by decide) ?_
    refine z_iret (pc := 24) O dX9_later_24 ?_
    have e0 : hI σ 33 6 = 0 := frm0 F 33 6 (by decide) (by decide) (by decide)
    (try simp only [e0, Int32.zero_add] at *)
    refine congrArg (fun z => some (Value.int z)) ?_
    (try simp only [bI_0, decide_eq_false_iff_not, Decidable.not_not] at *)
    unfold a_later
    split <;> (simp only [Int32.lt_iff_toInt_lt, Int32.le_iff_toInt_le, ← Int32.toInt_inj, Int32.reduceToInt] at * <;> omega)
  · refine z_iload_n (pc := 4) O dX9_later_4 rfl ?_
    refine z_sipush (pc := 5) (v := 1000) O dX9_later_5 (by decide) ?_
    refine z_icmp_gt (pc := 8) (tgt := 23) O dX9_later_8 (by decide) (fun h8 => ?_) (fun h8 => ?_)
    · refine z_iconst (pc := 23) (v := -1) O dX9_later_23 (by decide) ?_
      refine z_iret (pc := 24) O dX9_later_24 ?_
      have e0 : hI σ 33 6 = 0 := frm0 F 33 6 (by decide) (by decide) (by decide)
      (try simp only [e0, Int32.zero_add] at *)
      refine congrArg (fun z => some (Value.int z)) ?_
      (try simp only [bI_0, decide_eq_false_iff_not, Decidable.not_not] at *)
      unfold a_later
      split <;> (simp only [Int32.lt_iff_toInt_lt, Int32.le_iff_toInt_le, ← Int32.toInt_inj, Int32.reduceToInt] at * <;> omega)
    · refine z_aload_n (pc := 11) O dX9_later_11 rfl ?_
      refine z_getIv (pc := 12) (x := 0) O fl_X9_365 rfl (jo_33 F.1) (frm0 F 33 6 (by decide) (by decide) (by decide)) dX9_later_12 ?_
      refine z_iload_n (pc := 15) O dX9_later_15 rfl ?_
      refine z_iadd (pc := 16) O dX9_later_16 ?_
      refine z_ldcw (pc := 17) O tw_989 dX9_later_17 ?_
      refine z_icmp_le (pc := 20) (tgt := 25) O dX9_later_20 (by decide) (fun h20 => ?_) (fun h20 => ?_)
      · refine z_aload_n (pc := 25) O dX9_later_25 rfl ?_
        refine z_dup (pc := 26) O dX9_later_26 rfl ?_
        refine z_getIv (pc := 27) (x := 0) O fl_X9_365 rfl (jo_33 F.1) (frm0 F 33 6 (by decide) (by decide) (by decide)) dX9_later_27 ?_
        refine z_iload_n (pc := 30) O dX9_later_30 rfl ?_
        refine z_iadd (pc := 31) O dX9_later_31 ?_
        refine z_putI (pc := 32) O fl_X9_365 rfl ⟨rfl, rfl⟩ (jo_33 F.1) dX9_later_32 ?_
        refine z_aload_n (pc := 35) O dX9_later_35 rfl ?_
        refine z_getI (pc := 36) O fl_X9_365 rfl (jo_33 F.1) dX9_later_36 ?_
        refine z_iret (pc := 39) O dX9_later_39 ?_
        have e0 : hI σ 33 6 = 0 := frm0 F 33 6 (by decide) (by decide) (by decide)
        (try simp only [e0, Int32.zero_add] at *)
        refine congrArg (fun z => some (Value.int z)) ?_
        show d = a_later d
        unfold a_later
        rw [if_pos]
        simp only [Int32.lt_iff_toInt_lt, Int32.le_iff_toInt_le, ← Int32.toInt_inj, Int32.reduceToInt] at *
        omega
      · refine z_iconst (pc := 23) (v := -1) O dX9_later_23 (by decide) ?_
        refine z_iret (pc := 24) O dX9_later_24 ?_
        have e0 : hI σ 33 6 = 0 := frm0 F 33 6 (by decide) (by decide) (by decide)
        (try simp only [e0, Int32.zero_add] at *)
        refine congrArg (fun z => some (Value.int z)) ?_
        (try simp only [bI_0, decide_eq_false_iff_not, Decidable.not_not] at *)
        unfold a_later
        split <;> (simp only [Int32.lt_iff_toInt_lt, Int32.le_iff_toInt_le, ← Int32.toInt_inj, Int32.reduceToInt] at * <;> omega)
set_option maxHeartbeats 4000000 in
set_option maxRecDepth 20000 in
theorem p1m_rate (l : Launch) (σ : VH) (F : FrM σ) (k : Int32) (w : Int32)  : Ct l yX9_rate cX9_rate 3 (some .boolean) 0 0 0 [.ref 33, .int k, .int w] σ (fun r τ => r = some (.int (a_rate k w))) := by
  refine Ct.enter rfl (Nat.le_of_ble_eq_true rfl) ?_
  intro κ γ hκ O hrc hrs
  subst hκ
  refine z_iload_n (pc := 0) O dX9_rate_0 rfl ?_
  refine z_if_lt (pc := 1) (tgt := 29) O dX9_rate_1 (by decide) (fun h1 => ?_) (fun h1 => ?_)
  · refine z_iconst (pc := 29) (v := 0) O dX9_rate_29 (by decide) ?_
    refine z_zret (pc := 30) O dX9_rate_30 rfl ?_
    refine congrArg (fun z => some (Value.int z)) ?_
    (try simp only [bI_0, decide_eq_false_iff_not, Decidable.not_not] at *)
    unfold a_rate
    split <;> (simp only [Int32.lt_iff_toInt_lt, Int32.le_iff_toInt_le, ← Int32.toInt_inj, Int32.reduceToInt] at * <;> omega)
  · refine z_iload_n (pc := 4) O dX9_rate_4 rfl ?_
    refine z_iconst (pc := 5) (v := 3) O dX9_rate_5 (by decide) ?_
    refine z_icmp_gt (pc := 6) (tgt := 29) O dX9_rate_6 (by decide) (fun h6 => ?_) (fun h6 => ?_)
    · refine z_iconst (pc := 29) (v := 0) O dX9_rate_29 (by decide) ?_
      refine z_zret (pc := 30) O dX9_rate_30 rfl ?_
      refine congrArg (fun z => some (Value.int z)) ?_
      (try simp only [bI_0, decide_eq_false_iff_not, Decidable.not_not] at *)
      unfold a_rate
      split <;> (simp only [Int32.lt_iff_toInt_lt, Int32.le_iff_toInt_le, ← Int32.toInt_inj, Int32.reduceToInt] at * <;> omega)
    · refine z_iload_n (pc := 9) O dX9_rate_9 rfl ?_
      refine z_if_lt (pc := 10) (tgt := 29) O dX9_rate_10 (by decide) (fun h10 => ?_) (fun h10 => ?_)
      · refine z_iconst (pc := 29) (v := 0) O dX9_rate_29 (by decide) ?_
        refine z_zret (pc := 30) O dX9_rate_30 rfl ?_
        refine congrArg (fun z => some (Value.int z)) ?_
        (try simp only [bI_0, decide_eq_false_iff_not, Decidable.not_not] at *)
        unfold a_rate
        split <;> (simp only [Int32.lt_iff_toInt_lt, Int32.le_iff_toInt_le, ← Int32.toInt_inj, Int32.reduceToInt] at * <;> omega)
      · refine z_iload_n (pc := 13) O dX9_rate_13 rfl ?_
        refine z_sipush (pc := 14) (v := 1000) O dX9_rate_14 (by decide) ?_
        refine z_icmp_gt (pc := 17) (tgt := 29) O dX9_rate_17 (by decide) (fun h17 => ?_) (fun h17 => ?_)
        · refine z_iconst (pc := 29) (v := 0) O dX9_rate_29 (by decide) ?_
          refine z_zret (pc := 30) O dX9_rate_30 rfl ?_
          refine congrArg (fun z => some (Value.int z)) ?_
          (try simp only [bI_0, decide_eq_false_iff_not, Decidable.not_not] at *)
          unfold a_rate
          split <;> (simp only [Int32.lt_iff_toInt_lt, Int32.le_iff_toInt_le, ← Int32.toInt_inj, Int32.reduceToInt] at * <;> omega)
        · refine z_aload_n (pc := 20) O dX9_rate_20 rfl ?_
          refine z_getIv (pc := 21) (x := 0) O fl_X9_428 rfl (jo_33 F.1) (frm0 F 33 73 (by decide) (by decide) (by decide)) dX9_rate_21 ?_
          refine z_bipush (pc := 24) (v := 100) O dX9_rate_24 (by decide) ?_
          refine z_icmp_ne (pc := 26) (tgt := 31) O dX9_rate_26 (by decide) (fun _ => ?_) (fun h => absurd h (by decide))
          obtain ⟨j, hj, rfl⟩ := ix4 (show 0 ≤ k ∧ k < 4 by simp only [Int32.lt_iff_toInt_lt, Int32.le_iff_toInt_le, ← Int32.toInt_inj, Int32.reduceToInt] at *; omega)
          refine z_aload_n (pc := 31) O dX9_rate_31 rfl ?_
          refine z_getR (pc := 32) 83 O fl_X9_164 rfl (jo_33 F.1) (jr_33_69 F.1) dX9_rate_32 ?_
          refine z_iload_n (pc := 35) O dX9_rate_35 rfl ?_
          refine z_iload_n (pc := 36) O dX9_rate_36 rfl ?_
          refine z_iast (pc := 37) j O (ja_83 F.1) rfl hj (by decide) dX9_rate_37 ?_
          refine z_aload_n (pc := 38) O dX9_rate_38 rfl ?_
          refine z_dup (pc := 39) O dX9_rate_39 rfl ?_
          refine z_getIv (pc := 40) (x := 0) O fl_X9_428 rfl (jo_33 F.1) (frm0 F 33 73 (by decide) (by decide) (by decide)) dX9_rate_40 ?_
          refine z_iconst (pc := 43) (v := 1) O dX9_rate_43 (by decide) ?_
          refine z_iadd (pc := 44) O dX9_rate_44 ?_
          refine z_topv (pc := 45) (1) (by decide) ?_
          refine z_putI (pc := 45) O fl_X9_428 rfl ⟨rfl, rfl⟩ (jo_33 F.1) dX9_rate_45 ?_
          refine z_iconst (pc := 48) (v := 1) O dX9_rate_48 (by decide) ?_
          refine z_zret (pc := 49) O dX9_rate_49 rfl ?_
          refine congrArg (fun z => some (Value.int z)) ?_
          (try simp only [bI_0, decide_eq_false_iff_not, Decidable.not_not] at *)
          unfold a_rate
          split <;> (simp only [Int32.lt_iff_toInt_lt, Int32.le_iff_toInt_le, ← Int32.toInt_inj, Int32.reduceToInt] at * <;> omega)
set_option maxHeartbeats 4000000 in
set_option maxRecDepth 20000 in
theorem p1m_person (l : Launch) (σ : VH) (F : FrM σ) (f : Int32) (m : Int32) (p : Int32)  : Ct l yX9_person cX9_person 4 (some .int) 0 0 0 [.ref 33, .int f, .int m, .int p] σ (fun r τ => r = some (.int (a_person f m p))) := by
  refine Ct.enter rfl (Nat.le_of_ble_eq_true rfl) ?_
  intro κ γ hκ O hrc hrs
  subst hκ
  refine z_iload_n (pc := 0) O dX9_person_0 rfl ?_
  refine z_if_lt (pc := 1) (tgt := 44) O dX9_person_1 (by decide) (fun h1 => ?_) (fun h1 => ?_)
  · refine z_iconst (pc := 44) (v := -1) O dX9_person_44 (by decide) ?_
    refine z_iret (pc := 45) O dX9_person_45 ?_
    refine congrArg (fun z => some (Value.int z)) ?_
    (try simp only [bI_0, decide_eq_false_iff_not, Decidable.not_not] at *)
    unfold a_person
    split <;> (simp only [Int32.lt_iff_toInt_lt, Int32.le_iff_toInt_le, ← Int32.toInt_inj, Int32.reduceToInt] at * <;> omega)
  · refine z_iload_n (pc := 4) O dX9_person_4 rfl ?_
    refine z_iconst (pc := 5) (v := 4) O dX9_person_5 (by decide) ?_
    refine z_icmp_ge (pc := 6) (tgt := 44) O dX9_person_6 (by decide) (fun h6 => ?_) (fun h6 => ?_)
    · refine z_iconst (pc := 44) (v := -1) O dX9_person_44 (by decide) ?_
      refine z_iret (pc := 45) O dX9_person_45 ?_
      refine congrArg (fun z => some (Value.int z)) ?_
      (try simp only [bI_0, decide_eq_false_iff_not, Decidable.not_not] at *)
      unfold a_person
      split <;> (simp only [Int32.lt_iff_toInt_lt, Int32.le_iff_toInt_le, ← Int32.toInt_inj, Int32.reduceToInt] at * <;> omega)
    · refine z_iload_n (pc := 9) O dX9_person_9 rfl ?_
      refine z_iconst (pc := 10) (v := -1) O dX9_person_10 (by decide) ?_
      refine z_icmp_lt (pc := 11) (tgt := 44) O dX9_person_11 (by decide) (fun h11 => ?_) (fun h11 => ?_)
      · refine z_iconst (pc := 44) (v := -1) O dX9_person_44 (by decide) ?_
        refine z_iret (pc := 45) O dX9_person_45 ?_
        refine congrArg (fun z => some (Value.int z)) ?_
        (try simp only [bI_0, decide_eq_false_iff_not, Decidable.not_not] at *)
        unfold a_person
        split <;> (simp only [Int32.lt_iff_toInt_lt, Int32.le_iff_toInt_le, ← Int32.toInt_inj, Int32.reduceToInt] at * <;> omega)
      · refine z_iload_n (pc := 14) O dX9_person_14 rfl ?_
        refine z_aload_n (pc := 15) O dX9_person_15 rfl ?_
        refine z_getIv (pc := 16) (x := 0) O fl_X9_353 rfl (jo_33 F.1) (frm0 F 33 52 (by decide) (by decide) (by decide)) dX9_person_16 ?_
        refine z_icmp_ge (pc := 19) (tgt := 44) O dX9_person_19 (by decide) (fun h19 => ?_) (fun h19 => ?_)
        · refine z_iconst (pc := 44) (v := -1) O dX9_person_44 (by decide) ?_
          refine z_iret (pc := 45) O dX9_person_45 ?_
          refine congrArg (fun z => some (Value.int z)) ?_
          (try simp only [bI_0, decide_eq_false_iff_not, Decidable.not_not] at *)
          unfold a_person
          split <;> (simp only [Int32.lt_iff_toInt_lt, Int32.le_iff_toInt_le, ← Int32.toInt_inj, Int32.reduceToInt] at * <;> omega)
        · refine z_iload_n (pc := 22) O dX9_person_22 rfl ?_
          refine z_iconst (pc := 23) (v := -1) O dX9_person_23 (by decide) ?_
          refine z_icmp_lt (pc := 24) (tgt := 44) O dX9_person_24 (by decide) (fun h24 => ?_) (fun h24 => ?_)
          · refine z_iconst (pc := 44) (v := -1) O dX9_person_44 (by decide) ?_
            refine z_iret (pc := 45) O dX9_person_45 ?_
            refine congrArg (fun z => some (Value.int z)) ?_
            (try simp only [bI_0, decide_eq_false_iff_not, Decidable.not_not] at *)
            unfold a_person
            split <;> (simp only [Int32.lt_iff_toInt_lt, Int32.le_iff_toInt_le, ← Int32.toInt_inj, Int32.reduceToInt] at * <;> omega)
          · refine z_iload_n (pc := 27) O dX9_person_27 rfl ?_
            refine z_aload_n (pc := 28) O dX9_person_28 rfl ?_
            refine z_getIv (pc := 29) (x := 0) O fl_X9_353 rfl (jo_33 F.1) (frm0 F 33 52 (by decide) (by decide) (by decide)) dX9_person_29 ?_
            refine z_icmp_ge (pc := 32) (tgt := 44) O dX9_person_32 (by decide) (fun h32 => ?_) (fun h32 => ?_)
            · refine z_iconst (pc := 44) (v := -1) O dX9_person_44 (by decide) ?_
              refine z_iret (pc := 45) O dX9_person_45 ?_
              refine congrArg (fun z => some (Value.int z)) ?_
              (try simp only [bI_0, decide_eq_false_iff_not, Decidable.not_not] at *)
              unfold a_person
              split <;> (simp only [Int32.lt_iff_toInt_lt, Int32.le_iff_toInt_le, ← Int32.toInt_inj, Int32.reduceToInt] at * <;> omega)
            · refine z_aload_n (pc := 35) O dX9_person_35 rfl ?_
              refine z_getIv (pc := 36) (x := 0) O fl_X9_353 rfl (jo_33 F.1) (frm0 F 33 52 (by decide) (by decide) (by decide)) dX9_person_36 ?_
              refine z_bipush (pc := 39) (v := 20) O dX9_person_39 (by decide) ?_
              refine z_icmp_ne (pc := 41) (tgt := 46) O dX9_person_41 (by decide) (fun _ => ?_) (fun h => absurd h (by decide))
              refine z_aload_n (pc := 46) O dX9_person_46 rfl ?_
              refine z_getR (pc := 47) 58 O fl_X9_89 rfl (jo_33 F.1) (jr_33_40 F.1) dX9_person_47 ?_
              refine z_aload_n (pc := 50) O dX9_person_50 rfl ?_
              refine z_getIv (pc := 51) (x := 0) O fl_X9_353 rfl (jo_33 F.1) (frm0 F 33 52 (by decide) (by decide) (by decide)) dX9_person_51 ?_
              refine z_iload_n (pc := 54) O dX9_person_54 rfl ?_
              refine z_iast (pc := 55) 0 O (ja_58 F.1) rfl (by decide) (by decide) dX9_person_55 ?_
              refine z_aload_n (pc := 56) O dX9_person_56 rfl ?_
              refine z_getR (pc := 57) 59 O fl_X9_92 rfl (jo_33 F.1) (jr_33_41 F.1) dX9_person_57 ?_
              refine z_aload_n (pc := 60) O dX9_person_60 rfl ?_
              refine z_getIv (pc := 61) (x := 0) O fl_X9_353 rfl (jo_33 F.1) (frm0 F 33 52 (by decide) (by decide) (by decide)) dX9_person_61 ?_
              refine z_iload_n (pc := 64) O dX9_person_64 rfl ?_
              refine z_iast (pc := 65) 0 O (ja_59 F.1) rfl (by decide) (by decide) dX9_person_65 ?_
              refine z_aload_n (pc := 66) O dX9_person_66 rfl ?_
              refine z_getR (pc := 67) 60 O fl_X9_95 rfl (jo_33 F.1) (jr_33_42 F.1) dX9_person_67 ?_
              refine z_aload_n (pc := 70) O dX9_person_70 rfl ?_
              refine z_getIv (pc := 71) (x := 0) O fl_X9_353 rfl (jo_33 F.1) (frm0 F 33 52 (by decide) (by decide) (by decide)) dX9_person_71 ?_
              refine z_iload_n (pc := 74) O dX9_person_74 rfl ?_
              refine z_iast (pc := 75) 0 O (ja_60 F.1) rfl (by decide) (by decide) dX9_person_75 ?_
              refine z_aload_n (pc := 76) O dX9_person_76 rfl ?_
              refine z_getR (pc := 77) 61 O fl_X9_98 rfl (jo_33 F.1) (jr_33_43 F.1) dX9_person_77 ?_
              refine z_aload_n (pc := 80) O dX9_person_80 rfl ?_
              refine z_getIv (pc := 81) (x := 0) O fl_X9_353 rfl (jo_33 F.1) (frm0 F 33 52 (by decide) (by decide) (by decide)) dX9_person_81 ?_
              refine z_iconst (pc := 84) (v := -1) O dX9_person_84 (by decide) ?_
              refine z_iast (pc := 85) 0 O (ja_61 F.1) rfl (by decide) (by decide) dX9_person_85 ?_
              refine z_aload_n (pc := 86) O dX9_person_86 rfl ?_
              refine z_dup (pc := 87) O dX9_person_87 rfl ?_
              refine z_getIv (pc := 88) (x := 0) O fl_X9_353 rfl (jo_33 F.1) (frm0 F 33 52 (by decide) (by decide) (by decide)) dX9_person_88 ?_
              refine z_iconst (pc := 91) (v := 1) O dX9_person_91 (by decide) ?_
              refine z_iadd (pc := 92) O dX9_person_92 ?_
              refine z_topv (pc := 93) (1) (by decide) ?_
              refine z_putI (pc := 93) O fl_X9_353 rfl ⟨rfl, rfl⟩ (jo_33 F.1) dX9_person_93 ?_
              refine z_aload_n (pc := 96) O dX9_person_96 rfl ?_
              refine z_getIv (pc := 97) (x := 1) O fl_X9_353 rfl (jo_33 F.1) rfl dX9_person_97 ?_
              refine z_iconst (pc := 100) (v := 1) O dX9_person_100 (by decide) ?_
              refine z_isub (pc := 101) O dX9_person_101 ?_
              refine z_topv (pc := 102) (0) (by decide) ?_
              refine z_iret (pc := 102) O dX9_person_102 ?_
              refine congrArg (fun z => some (Value.int z)) ?_
              (try simp only [bI_0, decide_eq_false_iff_not, Decidable.not_not] at *)
              unfold a_person
              split <;> (simp only [Int32.lt_iff_toInt_lt, Int32.le_iff_toInt_le, ← Int32.toInt_inj, Int32.reduceToInt] at * <;> omega)
set_option maxHeartbeats 4000000 in
set_option maxRecDepth 20000 in
theorem p1m_degree (l : Launch) (σ : VH) (F : FrM σ) (a : Int32) (b : Int32)  : Ct l yX9_degree cX9_degree 5 (some .int) 1 0 0 [.ref 33, .int a, .int b] σ (fun r τ => r = some (.int (-1))) := by
  refine Ct.enter rfl (Nat.le_of_ble_eq_true rfl) ?_
  intro κ γ hκ O hrc hrs
  subst hκ
  refine z_aload_n (pc := 0) O dX9_degree_0 rfl ?_
  refine z_iload_n (pc := 1) O dX9_degree_1 rfl ?_
  refine z_callV (pc := 2) O cl_X9_356 (p1_isPerson _ _ F _) (by decide) (jo_33 F.1) kc_9 rfl rfl (Nat.le_of_ble_eq_true rfl) ⟨Nat.zero_le _, Nat.zero_le _⟩ dX9_degree_2 (fun r τ hp => ?_)
  obtain ⟨rfl, rfl⟩ := hp
  refine z_if_eq (pc := 5) (tgt := 16) O dX9_degree_5 (by decide) (fun _ => ?_) (fun h => absurd h (by decide))
  refine z_iconst (pc := 16) (v := -1) O dX9_degree_16 (by decide) ?_
  refine z_iret (pc := 17) O dX9_degree_17 ?_
  exact rfl
set_option maxHeartbeats 4000000 in
set_option maxRecDepth 20000 in
theorem p1m_rank (l : Launch) (σ : VH) (F : FrM σ) (p : Int32) (r : Int32) (d : Int32)  : Ct l yX9_rank cX9_rank 4 (some .int) 1 0 0 [.ref 33, .int p, .int r, .int d] σ (fun r τ => r = some (.int (-1))) := by
  refine Ct.enter rfl (Nat.le_of_ble_eq_true rfl) ?_
  intro κ γ hκ O hrc hrs
  subst hκ
  refine z_aload_n (pc := 0) O dX9_rank_0 rfl ?_
  refine z_iload_n (pc := 1) O dX9_rank_1 rfl ?_
  refine z_callV (pc := 2) O cl_X9_356 (p1_isPerson _ _ F _) (by decide) (jo_33 F.1) kc_9 rfl rfl (Nat.le_of_ble_eq_true rfl) ⟨Nat.zero_le _, Nat.zero_le _⟩ dX9_rank_2 (fun r τ hp => ?_)
  obtain ⟨rfl, rfl⟩ := hp
  refine z_if_eq (pc := 5) (tgt := 37) O dX9_rank_5 (by decide) (fun _ => ?_) (fun h => absurd h (by decide))
  refine z_iconst (pc := 37) (v := -1) O dX9_rank_37 (by decide) ?_
  refine z_iret (pc := 38) O dX9_rank_38 ?_
  exact rfl
set_option maxHeartbeats 4000000 in
set_option maxRecDepth 20000 in
theorem p1m_ranked (l : Launch) (σ : VH) (F : FrM σ) (p : Int32) (d : Int32) (k : Int32)  : Ct l yX9_ranked cX9_ranked 6 (some .int) 1 0 0 [.ref 33, .int p, .int d, .int k] σ (fun r τ => r = some (.int (-1))) := by
  refine Ct.enter rfl (Nat.le_of_ble_eq_true rfl) ?_
  intro κ γ hκ O hrc hrs
  subst hκ
  refine z_aload_n (pc := 0) O dX9_ranked_0 rfl ?_
  refine z_iload_n (pc := 1) O dX9_ranked_1 rfl ?_
  refine z_callV (pc := 2) O cl_X9_356 (p1_isPerson _ _ F _) (by decide) (jo_33 F.1) kc_9 rfl rfl (Nat.le_of_ble_eq_true rfl) ⟨Nat.zero_le _, Nat.zero_le _⟩ dX9_ranked_2 (fun r τ hp => ?_)
  obtain ⟨rfl, rfl⟩ := hp
  refine z_if_ne (pc := 5) (tgt := 10) O dX9_ranked_5 (by decide) (fun h => absurd h (by decide)) (fun _ => ?_)
  refine z_iconst (pc := 8) (v := -1) O dX9_ranked_8 (by decide) ?_
  refine z_iret (pc := 9) O dX9_ranked_9 ?_
  exact rfl
set_option maxHeartbeats 4000000 in
set_option maxRecDepth 20000 in
theorem p1m_dead (l : Launch) (σ : VH) (F : FrM σ) (p : Int32) (d : Int32)  : Ct l yX9_dead cX9_dead 3 (some .boolean) 1 0 0 [.ref 33, .int p, .int d] σ (fun r τ => r = some (.int 0)) := by
  refine Ct.enter rfl (Nat.le_of_ble_eq_true rfl) ?_
  intro κ γ hκ O hrc hrs
  subst hκ
  refine z_aload_n (pc := 0) O dX9_dead_0 rfl ?_
  refine z_iload_n (pc := 1) O dX9_dead_1 rfl ?_
  refine z_callV (pc := 2) O cl_X9_356 (p1_isPerson _ _ F _) (by decide) (jo_33 F.1) kc_9 rfl rfl (Nat.le_of_ble_eq_true rfl) ⟨Nat.zero_le _, Nat.zero_le _⟩ dX9_dead_2 (fun r τ hp => ?_)
  obtain ⟨rfl, rfl⟩ := hp
  refine z_if_eq (pc := 5) (tgt := 28) O dX9_dead_5 (by decide) (fun _ => ?_) (fun h => absurd h (by decide))
  refine z_iconst (pc := 28) (v := 0) O dX9_dead_28 (by decide) ?_
  refine z_zret (pc := 29) O dX9_dead_29 rfl ?_
  exact rfl
set_option maxHeartbeats 4000000 in
set_option maxRecDepth 20000 in
theorem p1m_truce (l : Launch) (σ : VH) (F : FrM σ) (a : Int32) (b : Int32) (f : Int32) (t : Int32)  : Ct l yX9_truce cX9_truce 5 (some .int) 0 0 0 [.ref 33, .int a, .int b, .int f, .int t] σ (fun r τ => r = some (.int (a_truce a b f t))) := by
  refine Ct.enter rfl (Nat.le_of_ble_eq_true rfl) ?_
  intro κ γ hκ O hrc hrs
  subst hκ
  refine z_iload_n (pc := 0) O dX9_truce_0 rfl ?_
  refine z_if_lt (pc := 1) (tgt := 45) O dX9_truce_1 (by decide) (fun h1 => ?_) (fun h1 => ?_)
  · refine z_iconst (pc := 45) (v := -1) O dX9_truce_45 (by decide) ?_
    refine z_iret (pc := 46) O dX9_truce_46 ?_
    refine congrArg (fun z => some (Value.int z)) ?_
    (try simp only [bI_0, decide_eq_false_iff_not, Decidable.not_not] at *)
    unfold a_truce
    split <;> (simp only [Int32.lt_iff_toInt_lt, Int32.le_iff_toInt_le, ← Int32.toInt_inj, Int32.reduceToInt] at * <;> omega)
  · refine z_iload_n (pc := 4) O dX9_truce_4 rfl ?_
    refine z_iconst (pc := 5) (v := 4) O dX9_truce_5 (by decide) ?_
    refine z_icmp_ge (pc := 6) (tgt := 45) O dX9_truce_6 (by decide) (fun h6 => ?_) (fun h6 => ?_)
    · refine z_iconst (pc := 45) (v := -1) O dX9_truce_45 (by decide) ?_
      refine z_iret (pc := 46) O dX9_truce_46 ?_
      refine congrArg (fun z => some (Value.int z)) ?_
      (try simp only [bI_0, decide_eq_false_iff_not, Decidable.not_not] at *)
      unfold a_truce
      split <;> (simp only [Int32.lt_iff_toInt_lt, Int32.le_iff_toInt_le, ← Int32.toInt_inj, Int32.reduceToInt] at * <;> omega)
    · refine z_iload_n (pc := 9) O dX9_truce_9 rfl ?_
      refine z_if_lt (pc := 10) (tgt := 45) O dX9_truce_10 (by decide) (fun h10 => ?_) (fun h10 => ?_)
      · refine z_iconst (pc := 45) (v := -1) O dX9_truce_45 (by decide) ?_
        refine z_iret (pc := 46) O dX9_truce_46 ?_
        refine congrArg (fun z => some (Value.int z)) ?_
        (try simp only [bI_0, decide_eq_false_iff_not, Decidable.not_not] at *)
        unfold a_truce
        split <;> (simp only [Int32.lt_iff_toInt_lt, Int32.le_iff_toInt_le, ← Int32.toInt_inj, Int32.reduceToInt] at * <;> omega)
      · refine z_iload_n (pc := 13) O dX9_truce_13 rfl ?_
        refine z_iconst (pc := 14) (v := 4) O dX9_truce_14 (by decide) ?_
        refine z_icmp_ge (pc := 15) (tgt := 45) O dX9_truce_15 (by decide) (fun h15 => ?_) (fun h15 => ?_)
        · refine z_iconst (pc := 45) (v := -1) O dX9_truce_45 (by decide) ?_
          refine z_iret (pc := 46) O dX9_truce_46 ?_
          refine congrArg (fun z => some (Value.int z)) ?_
          (try simp only [bI_0, decide_eq_false_iff_not, Decidable.not_not] at *)
          unfold a_truce
          split <;> (simp only [Int32.lt_iff_toInt_lt, Int32.le_iff_toInt_le, ← Int32.toInt_inj, Int32.reduceToInt] at * <;> omega)
        · refine z_iload_n (pc := 18) O dX9_truce_18 rfl ?_
          refine z_if_lt (pc := 19) (tgt := 45) O dX9_truce_19 (by decide) (fun h19 => ?_) (fun h19 => ?_)
          · refine z_iconst (pc := 45) (v := -1) O dX9_truce_45 (by decide) ?_
            refine z_iret (pc := 46) O dX9_truce_46 ?_
            refine congrArg (fun z => some (Value.int z)) ?_
            (try simp only [bI_0, decide_eq_false_iff_not, Decidable.not_not] at *)
            unfold a_truce
            split <;> (simp only [Int32.lt_iff_toInt_lt, Int32.le_iff_toInt_le, ← Int32.toInt_inj, Int32.reduceToInt] at * <;> omega)
          · refine z_iload_n (pc := 22) O dX9_truce_22 rfl ?_
            refine z_iload (pc := 23) O dX9_truce_23 rfl ?_
            refine z_icmp_gt (pc := 25) (tgt := 45) O dX9_truce_25 (by decide) (fun h25 => ?_) (fun h25 => ?_)
            · refine z_iconst (pc := 45) (v := -1) O dX9_truce_45 (by decide) ?_
              refine z_iret (pc := 46) O dX9_truce_46 ?_
              refine congrArg (fun z => some (Value.int z)) ?_
              (try simp only [bI_0, decide_eq_false_iff_not, Decidable.not_not] at *)
              unfold a_truce
              split <;> (simp only [Int32.lt_iff_toInt_lt, Int32.le_iff_toInt_le, ← Int32.toInt_inj, Int32.reduceToInt] at * <;> omega)
            · refine z_iload (pc := 28) O dX9_truce_28 rfl ?_
              refine z_ldcw (pc := 30) O tw_989 dX9_truce_30 ?_
              refine z_icmp_gt (pc := 33) (tgt := 45) O dX9_truce_33 (by decide) (fun h33 => ?_) (fun h33 => ?_)
              · refine z_iconst (pc := 45) (v := -1) O dX9_truce_45 (by decide) ?_
                refine z_iret (pc := 46) O dX9_truce_46 ?_
                refine congrArg (fun z => some (Value.int z)) ?_
                (try simp only [bI_0, decide_eq_false_iff_not, Decidable.not_not] at *)
                unfold a_truce
                split <;> (simp only [Int32.lt_iff_toInt_lt, Int32.le_iff_toInt_le, ← Int32.toInt_inj, Int32.reduceToInt] at * <;> omega)
              · refine z_aload_n (pc := 36) O dX9_truce_36 rfl ?_
                refine z_getIv (pc := 37) (x := 0) O fl_X9_368 rfl (jo_33 F.1) (frm0 F 33 54 (by decide) (by decide) (by decide)) dX9_truce_37 ?_
                refine z_bipush (pc := 40) (v := 10) O dX9_truce_40 (by decide) ?_
                refine z_icmp_ne (pc := 42) (tgt := 47) O dX9_truce_42 (by decide) (fun _ => ?_) (fun h => absurd h (by decide))
                refine z_aload_n (pc := 47) O dX9_truce_47 rfl ?_
                refine z_getR (pc := 48) 66 O fl_X9_113 rfl (jo_33 F.1) (jr_33_48 F.1) dX9_truce_48 ?_
                refine z_aload_n (pc := 51) O dX9_truce_51 rfl ?_
                refine z_getIv (pc := 52) (x := 0) O fl_X9_368 rfl (jo_33 F.1) (frm0 F 33 54 (by decide) (by decide) (by decide)) dX9_truce_52 ?_
                refine z_iload_n (pc := 55) O dX9_truce_55 rfl ?_
                refine z_iast (pc := 56) 0 O (ja_66 F.1) rfl (by decide) (by decide) dX9_truce_56 ?_
                refine z_aload_n (pc := 57) O dX9_truce_57 rfl ?_
                refine z_getR (pc := 58) 67 O fl_X9_116 rfl (jo_33 F.1) (jr_33_49 F.1) dX9_truce_58 ?_
                refine z_aload_n (pc := 61) O dX9_truce_61 rfl ?_
                refine z_getIv (pc := 62) (x := 0) O fl_X9_368 rfl (jo_33 F.1) (frm0 F 33 54 (by decide) (by decide) (by decide)) dX9_truce_62 ?_
                refine z_iload_n (pc := 65) O dX9_truce_65 rfl ?_
                refine z_iast (pc := 66) 0 O (ja_67 F.1) rfl (by decide) (by decide) dX9_truce_66 ?_
                refine z_aload_n (pc := 67) O dX9_truce_67 rfl ?_
                refine z_getR (pc := 68) 68 O fl_X9_119 rfl (jo_33 F.1) (jr_33_50 F.1) dX9_truce_68 ?_
                refine z_aload_n (pc := 71) O dX9_truce_71 rfl ?_
                refine z_getIv (pc := 72) (x := 0) O fl_X9_368 rfl (jo_33 F.1) (frm0 F 33 54 (by decide) (by decide) (by decide)) dX9_truce_72 ?_
                refine z_iload_n (pc := 75) O dX9_truce_75 rfl ?_
                refine z_iast (pc := 76) 0 O (ja_68 F.1) rfl (by decide) (by decide) dX9_truce_76 ?_
                refine z_aload_n (pc := 77) O dX9_truce_77 rfl ?_
                refine z_getR (pc := 78) 69 O fl_X9_122 rfl (jo_33 F.1) (jr_33_51 F.1) dX9_truce_78 ?_
                refine z_aload_n (pc := 81) O dX9_truce_81 rfl ?_
                refine z_getIv (pc := 82) (x := 0) O fl_X9_368 rfl (jo_33 F.1) (frm0 F 33 54 (by decide) (by decide) (by decide)) dX9_truce_82 ?_
                refine z_iload (pc := 85) O dX9_truce_85 rfl ?_
                refine z_iast (pc := 87) 0 O (ja_69 F.1) rfl (by decide) (by decide) dX9_truce_87 ?_
                refine z_aload_n (pc := 88) O dX9_truce_88 rfl ?_
                refine z_dup (pc := 89) O dX9_truce_89 rfl ?_
                refine z_getIv (pc := 90) (x := 0) O fl_X9_368 rfl (jo_33 F.1) (frm0 F 33 54 (by decide) (by decide) (by decide)) dX9_truce_90 ?_
                refine z_iconst (pc := 93) (v := 1) O dX9_truce_93 (by decide) ?_
                refine z_iadd (pc := 94) O dX9_truce_94 ?_
                refine z_topv (pc := 95) (1) (by decide) ?_
                refine z_putI (pc := 95) O fl_X9_368 rfl ⟨rfl, rfl⟩ (jo_33 F.1) dX9_truce_95 ?_
                refine z_aload_n (pc := 98) O dX9_truce_98 rfl ?_
                refine z_getIv (pc := 99) (x := 1) O fl_X9_368 rfl (jo_33 F.1) rfl dX9_truce_99 ?_
                refine z_iret (pc := 102) O dX9_truce_102 ?_
                refine congrArg (fun z => some (Value.int z)) ?_
                (try simp only [bI_0, decide_eq_false_iff_not, Decidable.not_not] at *)
                unfold a_truce
                split <;> (simp only [Int32.lt_iff_toInt_lt, Int32.le_iff_toInt_le, ← Int32.toInt_inj, Int32.reduceToInt] at * <;> omega)
set_option maxHeartbeats 4000000 in
set_option maxRecDepth 20000 in
theorem p1m_hurt (l : Launch) (σ : VH) (F : FrM σ) (b : Int32) (o : Int32) (nm : Int64) (d : Int32) (p : Int32) (n : Int32)  : Ct l yX9_hurt cX9_hurt 8 (some .int) 1 0 0 [.ref 33, .int b, .int o, .long nm, .int d, .int p, .int n] σ (fun r τ => r = some (.int (-1))) := by
  refine Ct.enter rfl (Nat.le_of_ble_eq_true rfl) ?_
  intro κ γ hκ O hrc hrs
  subst hκ
  refine z_aload_n (pc := 0) O dX9_hurt_0 rfl ?_
  refine z_iload_n (pc := 1) O dX9_hurt_1 rfl ?_
  refine z_callV (pc := 2) O cl_X9_356 (p1_isPerson _ _ F _) (by decide) (jo_33 F.1) kc_9 rfl rfl (Nat.le_of_ble_eq_true rfl) ⟨Nat.zero_le _, Nat.zero_le _⟩ dX9_hurt_2 (fun r τ hp => ?_)
  obtain ⟨rfl, rfl⟩ := hp
  refine z_if_eq (pc := 5) (tgt := 62) O dX9_hurt_5 (by decide) (fun _ => ?_) (fun h => absurd h (by decide))
  refine z_iconst (pc := 62) (v := -1) O dX9_hurt_62 (by decide) ?_
  refine z_iret (pc := 63) O dX9_hurt_63 ?_
  exact rfl
set_option maxHeartbeats 4000000 in
set_option maxRecDepth 20000 in
theorem p1m_sum (l : Launch) (σ : VH) (F : FrM σ) (w : Int32) (k : Int32)  : Ct l yX9_sum cX9_sum 3 (some .int) 1 0 0 [.ref 33, .int w, .int k] σ (fun r τ => r = some (.int (-1))) := by
  refine Ct.enter rfl (Nat.le_of_ble_eq_true rfl) ?_
  intro κ γ hκ O hrc hrs
  subst hκ
  refine z_aload_n (pc := 0) O dX9_sum_0 rfl ?_
  refine z_iload_n (pc := 1) O dX9_sum_1 rfl ?_
  refine z_callV (pc := 2) O cl_X9_410 (p1_isCase _ _ F _) (by decide) (jo_33 F.1) kc_9 rfl rfl (Nat.le_of_ble_eq_true rfl) ⟨Nat.zero_le _, Nat.zero_le _⟩ dX9_sum_2 (fun r τ hp => ?_)
  obtain ⟨rfl, rfl⟩ := hp
  refine z_if_eq (pc := 5) (tgt := 17) O dX9_sum_5 (by decide) (fun _ => ?_) (fun h => absurd h (by decide))
  refine z_iconst (pc := 17) (v := -1) O dX9_sum_17 (by decide) ?_
  refine z_iret (pc := 18) O dX9_sum_18 ?_
  exact rfl
set_option maxHeartbeats 4000000 in
set_option maxRecDepth 20000 in
theorem p1m_oath (l : Launch) (σ : VH) (F : FrM σ) (w : Int32) (h : Int32)  : Ct l yX9_oath cX9_oath 7 (some .int) 1 0 0 [.ref 33, .int w, .int h] σ (fun r τ => r = some (.int (-1))) := by
  refine Ct.enter rfl (Nat.le_of_ble_eq_true rfl) ?_
  intro κ γ hκ O hrc hrs
  subst hκ
  refine z_aload_n (pc := 0) O dX9_oath_0 rfl ?_
  refine z_iload_n (pc := 1) O dX9_oath_1 rfl ?_
  refine z_callV (pc := 2) O cl_X9_410 (p1_isCase _ _ F _) (by decide) (jo_33 F.1) kc_9 rfl rfl (Nat.le_of_ble_eq_true rfl) ⟨Nat.zero_le _, Nat.zero_le _⟩ dX9_oath_2 (fun r τ hp => ?_)
  obtain ⟨rfl, rfl⟩ := hp
  refine z_if_eq (pc := 5) (tgt := 34) O dX9_oath_5 (by decide) (fun _ => ?_) (fun h => absurd h (by decide))
  refine z_iconst (pc := 34) (v := -1) O dX9_oath_34 (by decide) ?_
  refine z_iret (pc := 35) O dX9_oath_35 ?_
  exact rfl
set_option maxHeartbeats 4000000 in
set_option maxRecDepth 20000 in
theorem p1m_of (l : Launch) (σ : VH) (F : FrM σ) (w : Int32) (k : Int32)  : Ct l yX9_of cX9_of 3 (some .int) 1 0 0 [.ref 33, .int w, .int k] σ (fun r τ => r = some (.int (-1))) := by
  refine Ct.enter rfl (Nat.le_of_ble_eq_true rfl) ?_
  intro κ γ hκ O hrc hrs
  subst hκ
  refine z_aload_n (pc := 0) O dX9_of_0 rfl ?_
  refine z_iload_n (pc := 1) O dX9_of_1 rfl ?_
  refine z_callV (pc := 2) O cl_X9_410 (p1_isCase _ _ F _) (by decide) (jo_33 F.1) kc_9 rfl rfl (Nat.le_of_ble_eq_true rfl) ⟨Nat.zero_le _, Nat.zero_le _⟩ dX9_of_2 (fun r τ hp => ?_)
  obtain ⟨rfl, rfl⟩ := hp
  refine z_if_ne (pc := 5) (tgt := 10) O dX9_of_5 (by decide) (fun h => absurd h (by decide)) (fun _ => ?_)
  refine z_iconst (pc := 8) (v := -1) O dX9_of_8 (by decide) ?_
  refine z_iret (pc := 9) O dX9_of_9 ?_
  exact rfl
set_option maxHeartbeats 4000000 in
set_option maxRecDepth 20000 in
theorem p1m_pays (l : Launch) (σ : VH) (F : FrM σ) (w : Int32) (p : Int32) (k : Int32)  : Ct l yX9_pays cX9_pays 5 (some .int) 1 0 0 [.ref 33, .int w, .int p, .int k] σ (fun r τ => r = some (.int (-1))) := by
  refine Ct.enter rfl (Nat.le_of_ble_eq_true rfl) ?_
  intro κ γ hκ O hrc hrs
  subst hκ
  refine z_aload_n (pc := 0) O dX9_pays_0 rfl ?_
  refine z_iload_n (pc := 1) O dX9_pays_1 rfl ?_
  refine z_callV (pc := 2) O cl_X9_410 (p1_isCase _ _ F _) (by decide) (jo_33 F.1) kc_9 rfl rfl (Nat.le_of_ble_eq_true rfl) ⟨Nat.zero_le _, Nat.zero_le _⟩ dX9_pays_2 (fun r τ hp => ?_)
  obtain ⟨rfl, rfl⟩ := hp
  refine z_if_eq (pc := 5) (tgt := 16) O dX9_pays_5 (by decide) (fun _ => ?_) (fun h => absurd h (by decide))
  refine z_iconst (pc := 16) (v := -1) O dX9_pays_16 (by decide) ?_
  refine z_iret (pc := 17) O dX9_pays_17 ?_
  exact rfl
set_option maxHeartbeats 4000000 in
set_option maxRecDepth 20000 in
theorem p1m_has (l : Launch) (σ : VH) (F : FrM σ) (w : Int32) (p : Int32) (k : Int32)  : Ct l yX9_has cX9_has 5 (some .int) 1 0 0 [.ref 33, .int w, .int p, .int k] σ (fun r τ => r = some (.int (-1))) := by
  refine Ct.enter rfl (Nat.le_of_ble_eq_true rfl) ?_
  intro κ γ hκ O hrc hrs
  subst hκ
  refine z_aload_n (pc := 0) O dX9_has_0 rfl ?_
  refine z_iload_n (pc := 1) O dX9_has_1 rfl ?_
  refine z_callV (pc := 2) O cl_X9_410 (p1_isCase _ _ F _) (by decide) (jo_33 F.1) kc_9 rfl rfl (Nat.le_of_ble_eq_true rfl) ⟨Nat.zero_le _, Nat.zero_le _⟩ dX9_has_2 (fun r τ hp => ?_)
  obtain ⟨rfl, rfl⟩ := hp
  refine z_if_eq (pc := 5) (tgt := 16) O dX9_has_5 (by decide) (fun _ => ?_) (fun h => absurd h (by decide))
  refine z_iconst (pc := 16) (v := -1) O dX9_has_16 (by decide) ?_
  refine z_iret (pc := 17) O dX9_has_17 ?_
  exact rfl
set_option maxHeartbeats 4000000 in
set_option maxRecDepth 20000 in
theorem p1m_judge (l : Launch) (σ : VH) (F : FrM σ) (w : Int32)  : Ct l yX9_judge cX9_judge 3 (some .int) 1 0 0 [.ref 33, .int w] σ (fun r τ => r = some (.int (-1))) := by
  refine Ct.enter rfl (Nat.le_of_ble_eq_true rfl) ?_
  intro κ γ hκ O hrc hrs
  subst hκ
  refine z_aload_n (pc := 0) O dX9_judge_0 rfl ?_
  refine z_iload_n (pc := 1) O dX9_judge_1 rfl ?_
  refine z_callV (pc := 2) O cl_X9_410 (p1_isCase _ _ F _) (by decide) (jo_33 F.1) kc_9 rfl rfl (Nat.le_of_ble_eq_true rfl) ⟨Nat.zero_le _, Nat.zero_le _⟩ dX9_judge_2 (fun r τ hp => ?_)
  obtain ⟨rfl, rfl⟩ := hp
  refine z_if_eq (pc := 5) (tgt := 17) O dX9_judge_5 (by decide) (fun _ => ?_) (fun h => absurd h (by decide))
  refine z_iconst (pc := 17) (v := -1) O dX9_judge_17 (by decide) ?_
  refine z_iret (pc := 18) O dX9_judge_18 ?_
  exact rfl
set_option maxHeartbeats 4000000 in
set_option maxRecDepth 20000 in
theorem p1m_pay (l : Launch) (σ : VH) (F : FrM σ) (w : Int32) (k : Int32) (b : Int32)  : Ct l yX9_pay cX9_pay 4 (some .int) 1 0 0 [.ref 33, .int w, .int k, .int b] σ (fun r τ => r = some (.int (-1))) := by
  refine Ct.enter rfl (Nat.le_of_ble_eq_true rfl) ?_
  intro κ γ hκ O hrc hrs
  subst hκ
  refine z_aload_n (pc := 0) O dX9_pay_0 rfl ?_
  refine z_iload_n (pc := 1) O dX9_pay_1 rfl ?_
  refine z_callV (pc := 2) O cl_X9_410 (p1_isCase _ _ F _) (by decide) (jo_33 F.1) kc_9 rfl rfl (Nat.le_of_ble_eq_true rfl) ⟨Nat.zero_le _, Nat.zero_le _⟩ dX9_pay_2 (fun r τ hp => ?_)
  obtain ⟨rfl, rfl⟩ := hp
  refine z_if_eq (pc := 5) (tgt := 47) O dX9_pay_5 (by decide) (fun _ => ?_) (fun h => absurd h (by decide))
  refine z_iconst (pc := 47) (v := -1) O dX9_pay_47 (by decide) ?_
  refine z_iret (pc := 48) O dX9_pay_48 ?_
  exact rfl
set_option maxHeartbeats 4000000 in
set_option maxRecDepth 20000 in
theorem p1m_owed (l : Launch) (σ : VH) (F : FrM σ) (w : Int32) (d : Int32)  : Ct l yX9_owed cX9_owed 9 (some .int) 1 0 0 [.ref 33, .int w, .int d] σ (fun r τ => r = some (.int (-2000000001))) := by
  refine Ct.enter rfl (Nat.le_of_ble_eq_true rfl) ?_
  intro κ γ hκ O hrc hrs
  subst hκ
  refine z_aload_n (pc := 0) O dX9_owed_0 rfl ?_
  refine z_iload_n (pc := 1) O dX9_owed_1 rfl ?_
  refine z_callV (pc := 2) O cl_X9_410 (p1_isCase _ _ F _) (by decide) (jo_33 F.1) kc_9 rfl rfl (Nat.le_of_ble_eq_true rfl) ⟨Nat.zero_le _, Nat.zero_le _⟩ dX9_owed_2 (fun r τ hp => ?_)
  obtain ⟨rfl, rfl⟩ := hp
  refine z_if_eq (pc := 5) (tgt := 35) O dX9_owed_5 (by decide) (fun _ => ?_) (fun h => absurd h (by decide))
  refine z_ldcw (pc := 35) O tw_1250 dX9_owed_35 ?_
  refine z_iret (pc := 38) O dX9_owed_38 ?_
  exact rfl
set_option maxHeartbeats 4000000 in
set_option maxRecDepth 20000 in
theorem p1m_about (l : Launch) (σ : VH) (F : FrM σ) (w : Int32)  : Ct l yX9_about cX9_about 2 (some .int) 0 0 0 [.ref 33, .int w] σ (fun r τ => r = some (.int (a_about w))) := by
  refine Ct.enter rfl (Nat.le_of_ble_eq_true rfl) ?_
  intro κ γ hκ O hrc hrs
  subst hκ
  refine z_iload_n (pc := 0) O dX9_about_0 rfl ?_
  by_cases hsw : w.toInt < 0 ∨ 7 < w.toInt
  · refine z_tableOut (pc := 1) (tgt := 88) O dX9_about_1 hsw (by decide) ?_
    refine z_iload_n (pc := 88) O dX9_about_88 rfl ?_
    refine z_bipush (pc := 89) (v := 10) O dX9_about_89 (by decide) ?_
    refine z_icmp_lt (pc := 91) (tgt := 100) O dX9_about_91 (by decide) (fun h91 => ?_) (fun h91 => ?_)
    · refine z_iconst (pc := 100) (v := -1) O dX9_about_100 (by decide) ?_
      refine z_goto (pc := 101) (tgt := 113) O dX9_about_101 (by decide) ?_
      refine z_iret (pc := 113) O dX9_about_113 ?_
      refine congrArg (fun z => some (Value.int z)) ?_
      unfold a_about
      rw [if_neg]
      simp only [Int32.lt_iff_toInt_lt, Int32.le_iff_toInt_le, ← Int32.toInt_inj, Int32.reduceToInt] at *
      omega
    · refine z_iload_n (pc := 94) O dX9_about_94 rfl ?_
      refine z_bipush (pc := 95) (v := 14) O dX9_about_95 (by decide) ?_
      refine z_icmp_lt (pc := 97) (tgt := 104) O dX9_about_97 (by decide) (fun h97 => ?_) (fun h97 => ?_)
      · have e1 : (w - 10).toInt = w.toInt - 10 := subI (by have := rngI w; simp only [Int32.lt_iff_toInt_lt, Int32.le_iff_toInt_le, ← Int32.toInt_inj, Int32.reduceToInt] at *; omega) (by have := rngI w; simp only [Int32.lt_iff_toInt_lt, Int32.le_iff_toInt_le, ← Int32.toInt_inj, Int32.reduceToInt] at *; omega)
        obtain ⟨j, hj, hjw⟩ := ix4 (x := w - 10) (by simp only [Int32.lt_iff_toInt_lt, Int32.le_iff_toInt_le, ← Int32.toInt_inj, Int32.reduceToInt, e1] at *; omega)
        refine z_aload_n (pc := 104) O dX9_about_104 rfl ?_
        refine z_getR (pc := 105) 38 O fl_X9_27 rfl (jo_33 F.1) (jr_33_14 F.1) dX9_about_105 ?_
        refine z_iload_n (pc := 108) O dX9_about_108 rfl ?_
        refine z_bipush (pc := 109) (v := 10) O dX9_about_109 (by decide) ?_
        refine z_isub (pc := 111) O dX9_about_111 ?_
        refine z_ialdv (pc := 112) (x := 0) j O (ja_38 F.1) (frm0 F 38 j (by decide) (by decide) (by omega)) hjw hj (by decide) dX9_about_112 ?_
        refine z_iret (pc := 113) O dX9_about_113 ?_
        refine congrArg (fun z => some (Value.int z)) ?_
        unfold a_about
        rw [if_pos]
        right
        simp only [Int32.lt_iff_toInt_lt, Int32.le_iff_toInt_le, ← Int32.toInt_inj, Int32.reduceToInt] at *
        omega
      · refine z_iconst (pc := 100) (v := -1) O dX9_about_100 (by decide) ?_
        refine z_goto (pc := 101) (tgt := 113) O dX9_about_101 (by decide) ?_
        refine z_iret (pc := 113) O dX9_about_113 ?_
        refine congrArg (fun z => some (Value.int z)) ?_
        unfold a_about
        rw [if_neg]
        simp only [Int32.lt_iff_toInt_lt, Int32.le_iff_toInt_le, ← Int32.toInt_inj, Int32.reduceToInt] at *
        omega
  · obtain ⟨hs1, hs2⟩ := not_or.mp hsw
    have hsx : w.toInt = 0 ∨ w.toInt = 1 ∨ w.toInt = 2 ∨ w.toInt = 3 ∨ w.toInt = 4 ∨ w.toInt = 5 ∨ w.toInt = 6 ∨ w.toInt = 7 := by omega
    rcases hsx with hsx | hsx | hsx | hsx | hsx | hsx | hsx | hsx
    · refine z_tableIn (pc := 1) (tgt := 48) O dX9_about_1 hs1 hs2 (by rw [hsx]; rfl) (by decide) ?_
      refine z_aload_n (pc := 48) O dX9_about_48 rfl ?_
      refine z_getIv (pc := 49) (x := 0) O fl_X9_365 rfl (jo_33 F.1) (frm0 F 33 6 (by decide) (by decide) (by decide)) dX9_about_49 ?_
      refine z_iret (pc := 52) O dX9_about_52 ?_
      refine congrArg (fun z => some (Value.int z)) ?_
      unfold a_about
      rw [if_pos]
      left
      simp only [Int32.lt_iff_toInt_lt, Int32.le_iff_toInt_le, ← Int32.toInt_inj, Int32.reduceToInt]
      omega
    · refine z_tableIn (pc := 1) (tgt := 53) O dX9_about_1 hs1 hs2 (by rw [hsx]; rfl) (by decide) ?_
      refine z_aload_n (pc := 53) O dX9_about_53 rfl ?_
      refine z_getIv (pc := 54) (x := 0) O fl_X9_353 rfl (jo_33 F.1) (frm0 F 33 52 (by decide) (by decide) (by decide)) dX9_about_54 ?_
      refine z_iret (pc := 57) O dX9_about_57 ?_
      refine congrArg (fun z => some (Value.int z)) ?_
      unfold a_about
      rw [if_pos]
      left
      simp only [Int32.lt_iff_toInt_lt, Int32.le_iff_toInt_le, ← Int32.toInt_inj, Int32.reduceToInt]
      omega
    · refine z_tableIn (pc := 1) (tgt := 58) O dX9_about_1 hs1 hs2 (by rw [hsx]; rfl) (by decide) ?_
      refine z_aload_n (pc := 58) O dX9_about_58 rfl ?_
      refine z_getIv (pc := 59) (x := 0) O fl_X9_362 rfl (jo_33 F.1) (frm0 F 33 53 (by decide) (by decide) (by decide)) dX9_about_59 ?_
      refine z_iret (pc := 62) O dX9_about_62 ?_
      refine congrArg (fun z => some (Value.int z)) ?_
      unfold a_about
      rw [if_pos]
      left
      simp only [Int32.lt_iff_toInt_lt, Int32.le_iff_toInt_le, ← Int32.toInt_inj, Int32.reduceToInt]
      omega
    · refine z_tableIn (pc := 1) (tgt := 63) O dX9_about_1 hs1 hs2 (by rw [hsx]; rfl) (by decide) ?_
      refine z_aload_n (pc := 63) O dX9_about_63 rfl ?_
      refine z_getIv (pc := 64) (x := 0) O fl_X9_368 rfl (jo_33 F.1) (frm0 F 33 54 (by decide) (by decide) (by decide)) dX9_about_64 ?_
      refine z_iret (pc := 67) O dX9_about_67 ?_
      refine congrArg (fun z => some (Value.int z)) ?_
      unfold a_about
      rw [if_pos]
      left
      simp only [Int32.lt_iff_toInt_lt, Int32.le_iff_toInt_le, ← Int32.toInt_inj, Int32.reduceToInt]
      omega
    · refine z_tableIn (pc := 1) (tgt := 68) O dX9_about_1 hs1 hs2 (by rw [hsx]; rfl) (by decide) ?_
      refine z_aload_n (pc := 68) O dX9_about_68 rfl ?_
      refine z_getIv (pc := 69) (x := 0) O fl_X9_371 rfl (jo_33 F.1) (frm0 F 33 66 (by decide) (by decide) (by decide)) dX9_about_69 ?_
      refine z_iret (pc := 72) O dX9_about_72 ?_
      refine congrArg (fun z => some (Value.int z)) ?_
      unfold a_about
      rw [if_pos]
      left
      simp only [Int32.lt_iff_toInt_lt, Int32.le_iff_toInt_le, ← Int32.toInt_inj, Int32.reduceToInt]
      omega
    · refine z_tableIn (pc := 1) (tgt := 73) O dX9_about_1 hs1 hs2 (by rw [hsx]; rfl) (by decide) ?_
      refine z_aload_n (pc := 73) O dX9_about_73 rfl ?_
      refine z_getIv (pc := 74) (x := 0) O fl_X9_431 rfl (jo_33 F.1) (frm0 F 33 74 (by decide) (by decide) (by decide)) dX9_about_74 ?_
      refine z_iret (pc := 77) O dX9_about_77 ?_
      refine congrArg (fun z => some (Value.int z)) ?_
      unfold a_about
      rw [if_pos]
      left
      simp only [Int32.lt_iff_toInt_lt, Int32.le_iff_toInt_le, ← Int32.toInt_inj, Int32.reduceToInt]
      omega
    · refine z_tableIn (pc := 1) (tgt := 78) O dX9_about_1 hs1 hs2 (by rw [hsx]; rfl) (by decide) ?_
      refine z_aload_n (pc := 78) O dX9_about_78 rfl ?_
      refine z_getIv (pc := 79) (x := 0) O fl_X9_428 rfl (jo_33 F.1) (frm0 F 33 73 (by decide) (by decide) (by decide)) dX9_about_79 ?_
      refine z_iret (pc := 82) O dX9_about_82 ?_
      refine congrArg (fun z => some (Value.int z)) ?_
      unfold a_about
      rw [if_pos]
      left
      simp only [Int32.lt_iff_toInt_lt, Int32.le_iff_toInt_le, ← Int32.toInt_inj, Int32.reduceToInt]
      omega
    · refine z_tableIn (pc := 1) (tgt := 83) O dX9_about_1 hs1 hs2 (by rw [hsx]; rfl) (by decide) ?_
      refine z_aload_n (pc := 83) O dX9_about_83 rfl ?_
      refine z_getIv (pc := 84) (x := 0) O fl_X9_277 rfl (jo_33 F.1) (frm0 F 33 2 (by decide) (by decide) (by decide)) dX9_about_84 ?_
      refine z_iret (pc := 87) O dX9_about_87 ?_
      refine congrArg (fun z => some (Value.int z)) ?_
      unfold a_about
      rw [if_pos]
      left
      simp only [Int32.lt_iff_toInt_lt, Int32.le_iff_toInt_le, ← Int32.toInt_inj, Int32.reduceToInt]
      omega
set_option maxHeartbeats 4000000 in
set_option maxRecDepth 20000 in
theorem p1_lawFor (l : Launch) (σ : VH) (F : FrM σ) (f d : Int32)  : Ct l yX9_lawFor cX9_lawFor 5 (some .int) 0 0 0 [.ref 33, .int f, .int d] σ (fun r τ => r = some (.int (-1)) ∧ τ = σ) := by
  refine Ct.enter rfl (Nat.le_of_ble_eq_true rfl) ?_
  intro κ γ hκ O hrc hrs
  subst hκ
  refine z_iconst (pc := 0) (v := -1) O dX9_lawFor_0 (by decide) ?_
  refine z_istore_n (pc := 1) _ O dX9_lawFor_1 (by decide) rfl ?_
  refine z_iconst (pc := 2) (v := 0) O dX9_lawFor_2 (by decide) ?_
  refine z_istore (pc := 3) _ O dX9_lawFor_3 (by decide) rfl ?_
  refine z_iload (pc := 5) O dX9_lawFor_5 rfl ?_
  refine z_aload_n (pc := 7) O dX9_lawFor_7 rfl ?_
  refine z_getIv (pc := 8) (x := 0) O fl_X9_280 rfl (jo_33 F.1) (frm0 F 33 33 (by decide) (by decide) (by decide)) dX9_lawFor_8 ?_
  refine z_icmp_ge (pc := 11) (tgt := 65) O dX9_lawFor_11 (by decide) (fun _ => ?_) (fun h => absurd h (by decide))
  refine z_iload_n (pc := 65) O dX9_lawFor_65 rfl ?_
  refine z_iret (pc := 66) O dX9_lawFor_66 ?_
  exact ⟨rfl, rfl⟩
set_option maxHeartbeats 4000000 in
set_option maxRecDepth 20000 in
theorem p1m_lawOn (l : Launch) (σ : VH) (F : FrM σ) (f : Int32) (d : Int32)  : Ct l yX9_lawOn cX9_lawOn 6 (some .int) 1 0 0 [.ref 33, .int f, .int d] σ (fun r τ => r = some (.int (-1))) := by
  refine Ct.enter rfl (Nat.le_of_ble_eq_true rfl) ?_
  intro κ γ hκ O hrc hrs
  subst hκ
  refine z_iload_n (pc := 0) O dX9_lawOn_0 rfl ?_
  refine z_if_lt (pc := 1) (tgt := 9) O dX9_lawOn_1 (by decide) (fun h1 => ?_) (fun h1 => ?_)
  · refine z_iconst (pc := 9) (v := -1) O dX9_lawOn_9 (by decide) ?_
    refine z_goto (pc := 10) (tgt := 19) O dX9_lawOn_10 (by decide) ?_
    refine z_istore_n (pc := 19) _ O dX9_lawOn_19 (by decide) rfl ?_
    refine z_iconst (pc := 20) (v := -1) O dX9_lawOn_20 (by decide) ?_
    refine z_istore (pc := 21) _ O dX9_lawOn_21 (by decide) rfl ?_
    refine z_iconst (pc := 23) (v := 0) O dX9_lawOn_23 (by decide) ?_
    refine z_istore (pc := 24) _ O dX9_lawOn_24 (by decide) rfl ?_
    refine z_iload (pc := 26) O dX9_lawOn_26 rfl ?_
    refine z_iload_n (pc := 28) O dX9_lawOn_28 rfl ?_
    refine z_icmp_gt (pc := 29) (tgt := 59) O dX9_lawOn_29 (by decide) (fun _ => ?_) (fun h => absurd h (by decide))
    refine z_iload (pc := 59) O dX9_lawOn_59 rfl ?_
    refine z_iret (pc := 61) O dX9_lawOn_61 ?_
    exact rfl
  · refine z_iload_n (pc := 4) O dX9_lawOn_4 rfl ?_
    refine z_iconst (pc := 5) (v := 4) O dX9_lawOn_5 (by decide) ?_
    refine z_icmp_lt (pc := 6) (tgt := 13) O dX9_lawOn_6 (by decide) (fun h6 => ?_) (fun h6 => ?_)
    · refine z_aload_n (pc := 13) O dX9_lawOn_13 rfl ?_
      refine z_iload_n (pc := 14) O dX9_lawOn_14 rfl ?_
      refine z_iload_n (pc := 15) O dX9_lawOn_15 rfl ?_
      refine z_callV (pc := 16) O cl_X9_350 (p1_lawFor _ _ F _ _) (by decide) (jo_33 F.1) kc_9 rfl rfl (Nat.le_of_ble_eq_true rfl) ⟨Nat.zero_le _, Nat.zero_le _⟩ dX9_lawOn_16 (fun r τ hp => ?_)
      obtain ⟨rfl, rfl⟩ := hp
      refine z_istore_n (pc := 19) _ O dX9_lawOn_19 (by decide) rfl ?_
      refine z_iconst (pc := 20) (v := -1) O dX9_lawOn_20 (by decide) ?_
      refine z_istore (pc := 21) _ O dX9_lawOn_21 (by decide) rfl ?_
      refine z_iconst (pc := 23) (v := 0) O dX9_lawOn_23 (by decide) ?_
      refine z_istore (pc := 24) _ O dX9_lawOn_24 (by decide) rfl ?_
      refine z_iload (pc := 26) O dX9_lawOn_26 rfl ?_
      refine z_iload_n (pc := 28) O dX9_lawOn_28 rfl ?_
      refine z_icmp_gt (pc := 29) (tgt := 59) O dX9_lawOn_29 (by decide) (fun _ => ?_) (fun h => absurd h (by decide))
      refine z_iload (pc := 59) O dX9_lawOn_59 rfl ?_
      refine z_iret (pc := 61) O dX9_lawOn_61 ?_
      exact rfl
    · refine z_iconst (pc := 9) (v := -1) O dX9_lawOn_9 (by decide) ?_
      refine z_goto (pc := 10) (tgt := 19) O dX9_lawOn_10 (by decide) ?_
      refine z_istore_n (pc := 19) _ O dX9_lawOn_19 (by decide) rfl ?_
      refine z_iconst (pc := 20) (v := -1) O dX9_lawOn_20 (by decide) ?_
      refine z_istore (pc := 21) _ O dX9_lawOn_21 (by decide) rfl ?_
      refine z_iconst (pc := 23) (v := 0) O dX9_lawOn_23 (by decide) ?_
      refine z_istore (pc := 24) _ O dX9_lawOn_24 (by decide) rfl ?_
      refine z_iload (pc := 26) O dX9_lawOn_26 rfl ?_
      refine z_iload_n (pc := 28) O dX9_lawOn_28 rfl ?_
      refine z_icmp_gt (pc := 29) (tgt := 59) O dX9_lawOn_29 (by decide) (fun _ => ?_) (fun h => absurd h (by decide))
      refine z_iload (pc := 59) O dX9_lawOn_59 rfl ?_
      refine z_iret (pc := 61) O dX9_lawOn_61 ?_
      exact rfl
set_option maxHeartbeats 4000000 in
set_option maxRecDepth 20000 in
theorem p1m_feed (l : Launch) (σ : VH) (F : FrM σ) (a b c d e : Int32) : Ct l yX9_feed cX9_feed 8 (some .int) 0 0 0 [.ref 33, .int a, .int b, .int c, .int d, .int e] σ (fun r τ => r = some (.int 20)) := by
  refine Ct.enter rfl (Nat.le_of_ble_eq_true rfl) ?_
  intro κ γ hκ O hrc hrs
  subst hκ
  have loop : ∀ (n k : Nat) (ρ : VH), k + n = 20 → Lay ρ → hI ρ 33 2 = 0 → Z κ γ 8 ρ 0 0 (QM κ γ (fun r τ => r = some (.int 20)) 0 0) 18 [(0, .ref 33), (1, .int a), (2, .int b), (3, .int c), (4, .int d), (5, .int e), (6, .int (nI k))] [] := by
    intro n
    induction n with
    | zero =>
      intro k ρ hk J h2
      obtain rfl : k = 20 := by omega
      refine z_iload (pc := 18) O dX9_feed_18 rfl ?_
      refine z_bipush (pc := 20) (v := 20) O dX9_feed_20 (by decide) ?_
      refine z_icmp_ge (pc := 22) (tgt := 105) O dX9_feed_22 (by decide) (fun _ => ?_) (fun h => absurd h (by decide))
      refine z_aload_n (pc := 105) O dX9_feed_105 rfl ?_
      refine z_dup (pc := 106) O dX9_feed_106 rfl ?_
      refine z_getIv (pc := 107) (x := 0) O fl_X9_277 rfl (jo_33 J) h2 dX9_feed_107 ?_
      refine z_bipush (pc := 110) (v := 20) O dX9_feed_110 (by decide) ?_
      refine z_iadd (pc := 112) O dX9_feed_112 ?_
      refine z_topv (pc := 113) (20) (by decide) ?_
      refine z_putI (pc := 113) O fl_X9_277 rfl ⟨rfl, rfl⟩ (jo_33 J) dX9_feed_113 ?_
      refine z_aload_n (pc := 116) O dX9_feed_116 rfl ?_
      refine z_getIv (pc := 117) (x := 20) O fl_X9_277 rfl (jo_33 J) rfl dX9_feed_117 ?_
      refine z_iret (pc := 120) O dX9_feed_120 ?_
      exact rfl
    | succ n ih =>
      intro k ρ hk J h2
      have hlt : k < 20 := by omega
      have j71 : ∀ x : Int32, Z κ γ 8 ρ 0 0 (QM κ γ (fun r τ => r = some (.int 20)) 0 0) 71 [(0, .ref 33), (1, .int a), (2, .int b), (3, .int c), (4, .int d), (5, .int e), (6, .int (nI k))] [.int x] := by
        intro x
        refine z_istore (pc := 71) _ O dX9_feed_71 (by decide) rfl ?_
        refine z_aload_n (pc := 73) O dX9_feed_73 rfl ?_
        refine z_getR (pc := 74) 34 O fl_X9_7 rfl (jo_33 J) (jr_33_0 J) dX9_feed_74 ?_
        refine z_aload_n (pc := 77) O dX9_feed_77 rfl ?_
        refine z_getIv (pc := 78) (x := 0) O fl_X9_277 rfl (jo_33 J) h2 dX9_feed_78 ?_
        refine z_iload (pc := 81) O dX9_feed_81 rfl ?_
        refine z_iadd (pc := 83) O dX9_feed_83 ?_
        refine z_iload (pc := 84) O dX9_feed_84 rfl ?_
        refine z_bipush (pc := 86) (v := 24) O dX9_feed_86 (by decide) ?_
        refine z_bipush (pc := 88) (v := 8) O dX9_feed_88 (by decide) ?_
        refine z_iload (pc := 90) O dX9_feed_90 rfl ?_
        refine z_iconst (pc := 92) (v := 3) O dX9_feed_92 (by decide) ?_
        refine z_iand (pc := 93) O dX9_feed_93 ?_
        refine z_imul (pc := 94) O dX9_feed_94 ?_
        refine z_isub (pc := 95) O dX9_feed_95 ?_
        refine z_ishr (pc := 96) O dX9_feed_96 ?_
        refine z_i2b (pc := 97) O dX9_feed_97 ?_
        refine z_bast (pc := 98) k O (ja_34 J) (Int32.zero_add _) (by omega) (by decide) dX9_feed_98 ?_
        refine z_iinc (pc := 99) (nI (k + 1)) _ O dX9_feed_99 rfl (nI_1 k) (by decide) rfl ?_
        refine z_goto (pc := 102) (tgt := 18) O dX9_feed_102 (by decide) ?_
        exact z_lk [(0, .ref 33), (1, .int a), (2, .int b), (3, .int c), (4, .int d), (5, .int e), (6, .int (nI (k + 1)))] ⟨rfl, rfl, rfl, rfl, rfl, rfl, rfl, trivial⟩ (ih (k + 1) _ (by omega) J h2)
      refine z_iload (pc := 18) O dX9_feed_18 rfl ?_
      refine z_bipush (pc := 20) (v := 20) O dX9_feed_20 (by decide) ?_
      refine z_icmp_ge (pc := 22) (tgt := 105) O dX9_feed_22 (by decide) (fun h22 => ?_) (fun h22 => ?_)
      · exact absurd h22 (nI_ge hlt (by decide))
      · refine z_iload (pc := 25) O dX9_feed_25 rfl ?_
        refine z_iconst (pc := 27) (v := 4) O dX9_feed_27 (by decide) ?_
        refine z_icmp_ge (pc := 28) (tgt := 35) O dX9_feed_28 (by decide) (fun h28 => ?_) (fun h28 => ?_)
        · refine z_iload (pc := 35) O dX9_feed_35 rfl ?_
          refine z_bipush (pc := 37) (v := 8) O dX9_feed_37 (by decide) ?_
          refine z_icmp_ge (pc := 39) (tgt := 46) O dX9_feed_39 (by decide) (fun h39 => ?_) (fun h39 => ?_)
          · refine z_iload (pc := 46) O dX9_feed_46 rfl ?_
            refine z_bipush (pc := 48) (v := 12) O dX9_feed_48 (by decide) ?_
            refine z_icmp_ge (pc := 50) (tgt := 57) O dX9_feed_50 (by decide) (fun h50 => ?_) (fun h50 => ?_)
            · refine z_iload (pc := 57) O dX9_feed_57 rfl ?_
              refine z_bipush (pc := 59) (v := 16) O dX9_feed_59 (by decide) ?_
              refine z_icmp_ge (pc := 61) (tgt := 69) O dX9_feed_61 (by decide) (fun h61 => ?_) (fun h61 => ?_)
              · refine z_iload (pc := 69) O dX9_feed_69 rfl ?_
                exact j71 _
              · refine z_iload (pc := 64) O dX9_feed_64 rfl ?_
                refine z_goto (pc := 66) (tgt := 71) O dX9_feed_66 (by decide) ?_
                exact j71 _
            · refine z_iload_n (pc := 53) O dX9_feed_53 rfl ?_
              refine z_goto (pc := 54) (tgt := 71) O dX9_feed_54 (by decide) ?_
              exact j71 _
          · refine z_iload_n (pc := 42) O dX9_feed_42 rfl ?_
            refine z_goto (pc := 43) (tgt := 71) O dX9_feed_43 (by decide) ?_
            exact j71 _
        · refine z_iload_n (pc := 31) O dX9_feed_31 rfl ?_
          refine z_goto (pc := 32) (tgt := 71) O dX9_feed_32 (by decide) ?_
          exact j71 _
  refine z_aload_n (pc := 0) O dX9_feed_0 rfl ?_
  refine z_getIv (pc := 1) (x := 0) O fl_X9_277 rfl (jo_33 F.1) (frm0 F 33 2 (by decide) (by decide) (by decide)) dX9_feed_1 ?_
  refine z_bipush (pc := 4) (v := 20) O dX9_feed_4 (by decide) ?_
  refine z_iadd (pc := 6) O dX9_feed_6 ?_
  refine z_topv (pc := 7) (20) (by decide) ?_
  refine z_sipush (pc := 7) (v := 700) O dX9_feed_7 (by decide) ?_
  refine z_icmp_le (pc := 10) (tgt := 15) O dX9_feed_10 (by decide) (fun _ => ?_) (fun h => absurd h (by decide))
  refine z_iconst (pc := 15) (v := 0) O dX9_feed_15 (by decide) ?_
  refine z_istore (pc := 16) _ O dX9_feed_16 (by decide) rfl ?_
  exact loop 20 0 σ rfl F.1 (frm0 F 33 2 (by decide) (by decide) (by decide))
set_option maxHeartbeats 4000000 in
set_option maxRecDepth 20000 in
theorem p1_sign (l : Launch) (σ : VH) (J : Lay σ) (h3 : hI σ 33 3 = 0)  : Ct l yX9_sign cX9_sign 2 (some .int) 0 0 0 [.ref 33, .int 0] σ (fun r τ => r = some (.int 0) ∧ τ = σ) := by
  refine Ct.enter rfl (Nat.le_of_ble_eq_true rfl) ?_
  intro κ γ hκ O hrc hrs
  subst hκ
  refine z_iload_n (pc := 0) O dX9_sign_0 rfl ?_
  refine z_aload_n (pc := 1) O dX9_sign_1 rfl ?_
  refine z_getIv (pc := 2) (x := 0) O fl_X9_176 rfl (jo_33 J) h3 dX9_sign_2 ?_
  refine z_icmp_ge (pc := 5) (tgt := 21) O dX9_sign_5 (by decide) (fun _ => ?_) (fun h => absurd h (by decide))
  refine z_iconst (pc := 21) (v := 0) O dX9_sign_21 (by decide) ?_
  refine z_iret (pc := 22) O dX9_sign_22 ?_
  exact ⟨rfl, rfl⟩
set_option maxHeartbeats 4000000 in
set_option maxRecDepth 20000 in
theorem p1_isGood (l : Launch) (σ : VH) (J : Lay σ) (h4 : hI σ 33 4 = 0)  : Ct l yX9_isGood cX9_isGood 1 (some .boolean) 0 0 0 [.ref 33] σ (fun r τ => r = some (.int 1) ∧ τ = σ) := by
  refine Ct.enter rfl (Nat.le_of_ble_eq_true rfl) ?_
  intro κ γ hκ O hrc hrs
  subst hκ
  refine z_aload_n (pc := 0) O dX9_isGood_0 rfl ?_
  refine z_getIv (pc := 1) (x := 0) O fl_X9_179 rfl (jo_33 J) h4 dX9_isGood_1 ?_
  refine z_if_ne (pc := 4) (tgt := 11) O dX9_isGood_4 (by decide) (fun h => absurd h (by decide)) (fun _ => ?_)
  refine z_iconst (pc := 7) (v := 1) O dX9_isGood_7 (by decide) ?_
  refine z_goto (pc := 8) (tgt := 12) O dX9_isGood_8 (by decide) ?_
  refine z_zret (pc := 12) O dX9_isGood_12 rfl ?_
  exact ⟨rfl, rfl⟩
set_option maxHeartbeats 4000000 in
set_option maxRecDepth 20000 in
theorem p1_next (l : Launch) (σ : VH) (J : Lay σ) (h3 : hI σ 33 3 = 0) (h8 : hI σ 33 8 = 0)  : Ct l yX9_next cX9_next 3 none 1 0 0 [.ref 33] σ (fun r τ => r = none ∧ τ = (sI (sI (sI (sI (sI σ 33 7 0) 33 8 1) 33 9 0) 33 7 0) 33 8 0)) := by
  refine Ct.enter rfl (Nat.le_of_ble_eq_true rfl) ?_
  intro κ γ hκ O hrc hrs
  subst hκ
  refine z_aload_n (pc := 0) O dX9_next_0 rfl ?_
  refine z_aload_n (pc := 1) O dX9_next_1 rfl ?_
  refine z_getIv (pc := 2) (x := 0) O fl_X9_228 rfl (jo_33 J) h8 dX9_next_2 ?_
  refine z_putI (pc := 5) O fl_X9_231 rfl ⟨rfl, rfl⟩ (jo_33 J) dX9_next_5 ?_
  refine z_aload_n (pc := 8) O dX9_next_8 rfl ?_
  refine z_getIv (pc := 9) (x := 0) O fl_X9_231 rfl (jo_33 J) rfl dX9_next_9 ?_
  refine z_aload_n (pc := 12) O dX9_next_12 rfl ?_
  refine z_getIv (pc := 13) (x := 0) O fl_X9_176 rfl (jo_33 J) h3 dX9_next_13 ?_
  refine z_icmp_ge (pc := 16) (tgt := 58) O dX9_next_16 (by decide) (fun _ => ?_) (fun h => absurd h (by decide))
  refine z_aload_n (pc := 58) O dX9_next_58 rfl ?_
  refine z_aload_n (pc := 59) O dX9_next_59 rfl ?_
  refine z_getIv (pc := 60) (x := 0) O fl_X9_231 rfl (jo_33 J) rfl dX9_next_60 ?_
  refine z_callV (pc := 63) O cl_X9_234 (p1_sign _ _ J h3) (by decide) (jo_33 J) kc_9 rfl rfl (Nat.le_of_ble_eq_true rfl) ⟨Nat.zero_le _, Nat.zero_le _⟩ dX9_next_63 (fun r τ hp => ?_)
  obtain ⟨rfl, rfl⟩ := hp
  refine z_istore_n (pc := 66) _ O dX9_next_66 (by decide) rfl ?_
  refine z_aload_n (pc := 67) O dX9_next_67 rfl ?_
  refine z_aload_n (pc := 68) O dX9_next_68 rfl ?_
  refine z_getIv (pc := 69) (x := 0) O fl_X9_231 rfl (jo_33 J) rfl dX9_next_69 ?_
  refine z_iconst (pc := 72) (v := 1) O dX9_next_72 (by decide) ?_
  refine z_iadd (pc := 73) O dX9_next_73 ?_
  refine z_topv (pc := 74) (1) (by decide) ?_
  refine z_putI (pc := 74) O fl_X9_228 rfl ⟨rfl, rfl⟩ (jo_33 J) dX9_next_74 ?_
  refine z_aload_n (pc := 77) O dX9_next_77 rfl ?_
  refine z_getIv (pc := 78) (x := 0) O fl_X9_231 rfl (jo_33 J) rfl dX9_next_78 ?_
  refine z_aload_n (pc := 81) O dX9_next_81 rfl ?_
  refine z_getIv (pc := 82) (x := 0) O fl_X9_176 rfl (jo_33 J) h3 dX9_next_82 ?_
  refine z_icmp_lt (pc := 85) (tgt := 112) O dX9_next_85 (by decide) (fun h => absurd h (by decide)) (fun _ => ?_)
  refine z_aload_n (pc := 88) O dX9_next_88 rfl ?_
  refine z_iconst (pc := 89) (v := 0) O dX9_next_89 (by decide) ?_
  refine z_putI (pc := 90) O fl_X9_238 rfl ⟨rfl, rfl⟩ (jo_33 J) dX9_next_90 ?_
  refine z_aload_n (pc := 93) O dX9_next_93 rfl ?_
  refine z_aload_n (pc := 94) O dX9_next_94 rfl ?_
  refine z_getIv (pc := 95) (x := 0) O fl_X9_176 rfl (jo_33 J) h3 dX9_next_95 ?_
  refine z_putI (pc := 98) O fl_X9_231 rfl ⟨rfl, rfl⟩ (jo_33 J) dX9_next_98 ?_
  refine z_aload_n (pc := 101) O dX9_next_101 rfl ?_
  refine z_aload_n (pc := 102) O dX9_next_102 rfl ?_
  refine z_getIv (pc := 103) (x := 0) O fl_X9_176 rfl (jo_33 J) h3 dX9_next_103 ?_
  refine z_putI (pc := 106) O fl_X9_228 rfl ⟨rfl, rfl⟩ (jo_33 J) dX9_next_106 ?_
  refine z_goto (pc := 109) (tgt := 408) O dX9_next_109 (by decide) ?_
  refine z_vret (pc := 408) O dX9_next_408 ?_
  exact ⟨rfl, rfl⟩
