def Fr (σ : VH) : Prop := Lay σ ∧ ∀ v k, 2 ≤ v → v < 87 → hI σ v k = if (v = 2 ∧ k = 6) ∨ (v = 33 ∧ k = 5) then -1 else 0
def FrM (σ : VH) : Prop := Lay σ ∧ ∀ v k, 33 ≤ v → v < 87 → hI σ v k = if (v = 2 ∧ k = 6) ∨ (v = 33 ∧ k = 5) then -1 else 0
theorem Fr.m {σ : VH} (h : Fr σ) : FrM σ := ⟨h.1, fun v k h1 h2 => h.2 v k (by omega) h2⟩
theorem fr0 {σ : VH} (h : Fr σ) (v k : Nat) (h1 : 2 ≤ v) (h2 : v < 87) (h3 : ¬ ((v = 2 ∧ k = 6) ∨ (v = 33 ∧ k = 5))) : hI σ v k = 0 := by rw [h.2 v k h1 h2, if_neg h3]
theorem fr1 {σ : VH} (h : Fr σ) (v k : Nat) (h1 : 2 ≤ v) (h2 : v < 87) (h3 : (v = 2 ∧ k = 6) ∨ (v = 33 ∧ k = 5)) : hI σ v k = -1 := by rw [h.2 v k h1 h2, if_pos h3]
theorem frm0 {σ : VH} (h : FrM σ) (v k : Nat) (h1 : 33 ≤ v) (h2 : v < 87) (h3 : ¬ ((v = 2 ∧ k = 6) ∨ (v = 33 ∧ k = 5))) : hI σ v k = 0 := by rw [h.2 v k h1 h2, if_neg h3]
theorem frm1 {σ : VH} (h : FrM σ) (v k : Nat) (h1 : 33 ≤ v) (h2 : v < 87) (h3 : (v = 2 ∧ k = 6) ∨ (v = 33 ∧ k = 5)) : hI σ v k = -1 := by rw [h.2 v k h1 h2, if_pos h3]
theorem FrM.pI {σ : VH} {a k : Nat} {x : Int32} (ha : a < 33) (h : FrM σ) : FrM (sI σ a k x) := ⟨h.1, fun v j h1 h2 => by rw [hI_sI, if_neg (fun e => by omega)]; exact h.2 v j h1 h2⟩
theorem FrM.pL {σ : VH} {a k : Nat} {x : Int64} (h : FrM σ) : FrM (sL σ a k x) := ⟨h.1, h.2⟩
theorem Lay.new {σ : VH} {sh : Nat × Nat} (h : Lay σ) : Lay (sN σ sh) := by
  obtain ⟨h1, h2, h3⟩ := h
  refine ⟨by rw [hN_sN]; omega, fun v hv => by rw [hS_sN, if_neg (by omega)]; exact h2 v hv, fun q hq => ?_⟩
  rw [hR_sN, if_neg]
  · exact h3 q hq
  · have h9 : fixR.all (fun q => decide (q.1.1 < 87)) = true := by decide
    have := List.all_eq_true.mp h9 q hq
    simp at this
    omega
theorem FrM.new {σ : VH} {sh : Nat × Nat} (h : FrM σ) : FrM (sN σ sh) := ⟨h.1.new, fun v j h1 h2 => by have := h.1.1; rw [hI_sN, if_neg (by omega)]; exact h.2 v j h1 h2⟩
theorem Lay.pR {σ : VH} {a k : Nat} {r : Option Nat} (ha : fixR.all (fun q => decide (q.1.1 ≠ a)) = true ∨ 87 ≤ a) (h : Lay σ) : Lay (sR σ a k r) := by
  obtain ⟨h1, h2, h3⟩ := h
  refine ⟨h1, h2, fun q hq => ?_⟩
  rw [hR_sR, if_neg]
  · exact h3 q hq
  · intro e
    rcases ha with ha | ha
    · have := List.all_eq_true.mp ha q hq
      simp at this
      exact this e.1
    · have h9 : fixR.all (fun q => decide (q.1.1 < 87)) = true := by decide
      have := List.all_eq_true.mp h9 q hq
      simp at this
      omega
theorem FrM.pR {σ : VH} {a k : Nat} {r : Option Nat} (ha : fixR.all (fun q => decide (q.1.1 ≠ a)) = true ∨ 87 ≤ a) (h : FrM σ) : FrM (sR σ a k r) := ⟨h.1.pR ha, h.2⟩
set_option maxHeartbeats 4000000 in
set_option maxRecDepth 20000 in
theorem ct_X8_isFolk (l : Launch) (σ : VH) (x : Int32)  : Ct l yX8_isFolk cX8_isFolk 1 (some .boolean) 0 0 0 [.int x] σ (fun r τ => r = some (.int (bI (decide (0 ≤ x ∧ x < 4)))) ∧ τ = σ) := by
  refine Ct.enter rfl (Nat.le_of_ble_eq_true rfl) ?_
  intro κ γ hκ O hrc hrs
  subst hκ
  refine z_iload_n (pc := 0) O dX8_isFolk_0 rfl ?_
  refine z_if_lt (pc := 1) (tgt := 13) O dX8_isFolk_1 (by decide) (fun h1 => ?_) (fun h1 => ?_)
  · refine z_iconst (pc := 13) (v := 0) O dX8_isFolk_13 (by decide) ?_
    refine z_zret (pc := 14) O dX8_isFolk_14 rfl ?_
    refine ⟨?_, rfl⟩
    first
      | exact rb0 (by simp only [Int32.lt_iff_toInt_lt, Int32.le_iff_toInt_le, ← Int32.toInt_inj, Int32.reduceToInt] at *; omega)
      | exact rb1 (by simp only [Int32.lt_iff_toInt_lt, Int32.le_iff_toInt_le, ← Int32.toInt_inj, Int32.reduceToInt] at *; omega)
  · refine z_iload_n (pc := 4) O dX8_isFolk_4 rfl ?_
    refine z_iconst (pc := 5) (v := 4) O dX8_isFolk_5 (by decide) ?_
    refine z_icmp_ge (pc := 6) (tgt := 13) O dX8_isFolk_6 (by decide) (fun h6 => ?_) (fun h6 => ?_)
    · refine z_iconst (pc := 13) (v := 0) O dX8_isFolk_13 (by decide) ?_
      refine z_zret (pc := 14) O dX8_isFolk_14 rfl ?_
      refine ⟨?_, rfl⟩
      first
        | exact rb0 (by simp only [Int32.lt_iff_toInt_lt, Int32.le_iff_toInt_le, ← Int32.toInt_inj, Int32.reduceToInt] at *; omega)
        | exact rb1 (by simp only [Int32.lt_iff_toInt_lt, Int32.le_iff_toInt_le, ← Int32.toInt_inj, Int32.reduceToInt] at *; omega)
    · refine z_iconst (pc := 9) (v := 1) O dX8_isFolk_9 (by decide) ?_
      refine z_goto (pc := 10) (tgt := 14) O dX8_isFolk_10 (by decide) ?_
      refine z_zret (pc := 14) O dX8_isFolk_14 rfl ?_
      refine ⟨?_, rfl⟩
      first
        | exact rb0 (by simp only [Int32.lt_iff_toInt_lt, Int32.le_iff_toInt_le, ← Int32.toInt_inj, Int32.reduceToInt] at *; omega)
        | exact rb1 (by simp only [Int32.lt_iff_toInt_lt, Int32.le_iff_toInt_le, ← Int32.toInt_inj, Int32.reduceToInt] at *; omega)
set_option maxHeartbeats 4000000 in
set_option maxRecDepth 20000 in
theorem ct_X8_isDay (l : Launch) (σ : VH) (x : Int32)  : Ct l yX8_isDay cX8_isDay 1 (some .boolean) 0 0 0 [.int x] σ (fun r τ => r = some (.int (bI (decide (0 ≤ x ∧ x ≤ 100000)))) ∧ τ = σ) := by
  refine Ct.enter rfl (Nat.le_of_ble_eq_true rfl) ?_
  intro κ γ hκ O hrc hrs
  subst hκ
  refine z_iload_n (pc := 0) O dX8_isDay_0 rfl ?_
  refine z_if_lt (pc := 1) (tgt := 14) O dX8_isDay_1 (by decide) (fun h1 => ?_) (fun h1 => ?_)
  · refine z_iconst (pc := 14) (v := 0) O dX8_isDay_14 (by decide) ?_
    refine z_zret (pc := 15) O dX8_isDay_15 rfl ?_
    refine ⟨?_, rfl⟩
    first
      | exact rb0 (by simp only [Int32.lt_iff_toInt_lt, Int32.le_iff_toInt_le, ← Int32.toInt_inj, Int32.reduceToInt] at *; omega)
      | exact rb1 (by simp only [Int32.lt_iff_toInt_lt, Int32.le_iff_toInt_le, ← Int32.toInt_inj, Int32.reduceToInt] at *; omega)
  · refine z_iload_n (pc := 4) O dX8_isDay_4 rfl ?_
    refine z_ldc (pc := 5) O tw_227 dX8_isDay_5 ?_
    refine z_icmp_gt (pc := 7) (tgt := 14) O dX8_isDay_7 (by decide) (fun h7 => ?_) (fun h7 => ?_)
    · refine z_iconst (pc := 14) (v := 0) O dX8_isDay_14 (by decide) ?_
      refine z_zret (pc := 15) O dX8_isDay_15 rfl ?_
      refine ⟨?_, rfl⟩
      first
        | exact rb0 (by simp only [Int32.lt_iff_toInt_lt, Int32.le_iff_toInt_le, ← Int32.toInt_inj, Int32.reduceToInt] at *; omega)
        | exact rb1 (by simp only [Int32.lt_iff_toInt_lt, Int32.le_iff_toInt_le, ← Int32.toInt_inj, Int32.reduceToInt] at *; omega)
    · refine z_iconst (pc := 10) (v := 1) O dX8_isDay_10 (by decide) ?_
      refine z_goto (pc := 11) (tgt := 15) O dX8_isDay_11 (by decide) ?_
      refine z_zret (pc := 15) O dX8_isDay_15 rfl ?_
      refine ⟨?_, rfl⟩
      first
        | exact rb0 (by simp only [Int32.lt_iff_toInt_lt, Int32.le_iff_toInt_le, ← Int32.toInt_inj, Int32.reduceToInt] at *; omega)
        | exact rb1 (by simp only [Int32.lt_iff_toInt_lt, Int32.le_iff_toInt_le, ← Int32.toInt_inj, Int32.reduceToInt] at *; omega)
set_option maxHeartbeats 4000000 in
set_option maxRecDepth 20000 in
theorem ct_X8_isKind (l : Launch) (σ : VH) (x : Int32)  : Ct l yX8_isKind cX8_isKind 1 (some .boolean) 0 0 0 [.int x] σ (fun r τ => r = some (.int (bI (decide (0 ≤ x ∧ x < 4)))) ∧ τ = σ) := by
  refine Ct.enter rfl (Nat.le_of_ble_eq_true rfl) ?_
  intro κ γ hκ O hrc hrs
  subst hκ
  refine z_iload_n (pc := 0) O dX8_isKind_0 rfl ?_
  refine z_if_lt (pc := 1) (tgt := 13) O dX8_isKind_1 (by decide) (fun h1 => ?_) (fun h1 => ?_)
  · refine z_iconst (pc := 13) (v := 0) O dX8_isKind_13 (by decide) ?_
    refine z_zret (pc := 14) O dX8_isKind_14 rfl ?_
    refine ⟨?_, rfl⟩
    first
      | exact rb0 (by simp only [Int32.lt_iff_toInt_lt, Int32.le_iff_toInt_le, ← Int32.toInt_inj, Int32.reduceToInt] at *; omega)
      | exact rb1 (by simp only [Int32.lt_iff_toInt_lt, Int32.le_iff_toInt_le, ← Int32.toInt_inj, Int32.reduceToInt] at *; omega)
  · refine z_iload_n (pc := 4) O dX8_isKind_4 rfl ?_
    refine z_iconst (pc := 5) (v := 4) O dX8_isKind_5 (by decide) ?_
    refine z_icmp_ge (pc := 6) (tgt := 13) O dX8_isKind_6 (by decide) (fun h6 => ?_) (fun h6 => ?_)
    · refine z_iconst (pc := 13) (v := 0) O dX8_isKind_13 (by decide) ?_
      refine z_zret (pc := 14) O dX8_isKind_14 rfl ?_
      refine ⟨?_, rfl⟩
      first
        | exact rb0 (by simp only [Int32.lt_iff_toInt_lt, Int32.le_iff_toInt_le, ← Int32.toInt_inj, Int32.reduceToInt] at *; omega)
        | exact rb1 (by simp only [Int32.lt_iff_toInt_lt, Int32.le_iff_toInt_le, ← Int32.toInt_inj, Int32.reduceToInt] at *; omega)
    · refine z_iconst (pc := 9) (v := 1) O dX8_isKind_9 (by decide) ?_
      refine z_goto (pc := 10) (tgt := 14) O dX8_isKind_10 (by decide) ?_
      refine z_zret (pc := 14) O dX8_isKind_14 rfl ?_
      refine ⟨?_, rfl⟩
      first
        | exact rb0 (by simp only [Int32.lt_iff_toInt_lt, Int32.le_iff_toInt_le, ← Int32.toInt_inj, Int32.reduceToInt] at *; omega)
        | exact rb1 (by simp only [Int32.lt_iff_toInt_lt, Int32.le_iff_toInt_le, ← Int32.toInt_inj, Int32.reduceToInt] at *; omega)
