set_option maxHeartbeats 4000000 in
set_option maxRecDepth 20000 in
theorem k8_writeNumber3 (l : Launch) (σ : VH) (n : Int) (rn : (-2147483648 ≤ n ∧ n < 2147483648)) (J : Lay σ) (htp : 0 ≤ gI σ 2 1 ∧ gI σ 2 1 ≤ 700) (h4 : gI σ 2 1 + 4 ≤ 700) : Ct l yX8_writeNumber cX8_writeNumber 3 none 0 0 0 [.ref 2, .int (iz n)] σ (fun r τ => r = none ∧ (Fr [(3, 99999), (2, 1)] σ τ) ∧ (0 ≤ gI τ 2 1 ∧ gI τ 2 1 ≤ 700) ∧ (700 < gI σ 2 1 + 4 ∨ gI τ 2 1 = gI σ 2 1 + 4) ∧ (FdK (hI σ 3) (hI τ 3) (gI σ 2 1) 4 (Wb n))) := by
  refine Ct.enter rfl (Nat.le_of_ble_eq_true rfl) ?_
  intro κ γ hκ O hrc hrs
  subst hκ
  refine z_bipush (pc := 0) (v := iz (24)) O dX8_writeNumber_0 (by decide) ?_
  refine z_istore_n (pc := 2) [(0, .ref 2), (1, .int (iz n)), (2, .int (iz 24))] O dX8_writeNumber_2 (by decide) rfl ?_
  have cut3 : ∀ (mu3 : Nat) (s : Int) (ρ3 : VH), (mu3 = (s + 8).toNat) → (-2147483648 ≤ s ∧ s < 2147483648) → (-8 ≤ s ∧ s ≤ 24) → (0 ≤ gI ρ3 2 1 ∧ gI ρ3 2 1 ≤ 700) → (700 < gI σ 2 1 + 4 ∨ 8 * gI ρ3 2 1 + s = 8 * gI σ 2 1 + 24) → (s = 24 ∨ s = 16 ∨ s = 8 ∨ s = 0 ∨ s = -8) → (FdK (hI σ 3) (hI ρ3 3) (gI σ 2 1) (gI ρ3 2 1 - gI σ 2 1) (Wb n)) → (Fr [(3, 99999), (2, 1)] σ ρ3) → Z κ γ 3 ρ3 0 0 (QM κ γ (fun r τ => r = none ∧ (Fr [(3, 99999), (2, 1)] σ τ) ∧ (0 ≤ gI τ 2 1 ∧ gI τ 2 1 ≤ 700) ∧ (700 < gI σ 2 1 + 4 ∨ gI τ 2 1 = gI σ 2 1 + 4) ∧ (FdK (hI σ 3) (hI τ 3) (gI σ 2 1) 4 (Wb n))) 0 0) 3 [(0, .ref 2), (1, .int (iz n)), (2, .int (iz s))] [] := by
    intro mu3
    induction mu3 using Nat.strongRecOn with
    | ind mu3 ih3 =>
    intro s ρ3 hmu3 rr3_0 ff3_0 ff3_1 ff3_2 ff3_3 ff3_4 frρ3
    refine z_iload_n (pc := 3) O dX8_writeNumber_3 rfl ?_
    refine zi_if_lt (pc := 4) (tgt := 48) O dX8_writeNumber_4 (by decide) (by omega) (fun h4 => ?_) (fun h4 => ?_)
    · refine z_vret (pc := 48) O dX8_writeNumber_48 ?_
      exact ⟨rfl, frρ3, (by omega), (by omega), (by have e9 : gI ρ3 2 1 - gI σ 2 1 = 4 := (by omega); rw [e9] at ff3_4; exact ff3_4)⟩
    · refine z_aload_n (pc := 7) O dX8_writeNumber_7 rfl ?_
      refine zi_getv (pc := 8) (gI ρ3 2 1) O fl_X8_74 rfl (jo_2 (frρ3.lay J)) (izg ρ3 2 1) dX8_writeNumber_8 ?_
      have := rgI ρ3 2 1
      refine z_aload_n (pc := 11) O dX8_writeNumber_11 rfl ?_
      refine z_getR (pc := 12) 3 O fl_X8_9 rfl (jo_2 (frρ3.lay J)) (jr_2_0 (frρ3.lay J)) dX8_writeNumber_12 ?_
      refine z_alen (pc := 15) (t0 := 1) (n := iz 700) O (ja_3 (frρ3.lay J)) (by decide) rfl (by decide) dX8_writeNumber_15 ?_
      refine zi_icmp_ge (pc := 16) (tgt := 42) O dX8_writeNumber_16 (by decide) (by omega) (by decide) (fun h16 => ?_) (fun h16 => ?_)
      · exfalso; omega
      · refine z_aload_n (pc := 19) O dX8_writeNumber_19 rfl ?_
        refine z_getR (pc := 20) 3 O fl_X8_9 rfl (jo_2 (frρ3.lay J)) (jr_2_0 (frρ3.lay J)) dX8_writeNumber_20 ?_
        refine z_aload_n (pc := 23) O dX8_writeNumber_23 rfl ?_
        refine zi_getv (pc := 24) (gI ρ3 2 1) O fl_X8_74 rfl (jo_2 (frρ3.lay J)) (izg ρ3 2 1) dX8_writeNumber_24 ?_
        refine z_iload_n (pc := 27) O dX8_writeNumber_27 rfl ?_
        refine z_iload_n (pc := 28) O dX8_writeNumber_28 rfl ?_
        refine z_iushr (pc := 29) O dX8_writeNumber_29 ?_
        refine zi_any (fun z1 rz1 ez1 => ?_)
        have esh := ez1
        refine z_i2b (pc := 30) O dX8_writeNumber_30 ?_
        refine zi_any (fun z2 rz2 ez2 => ?_)
        have ebb := ez2
        refine zi_bast (pc := 31) ((gI ρ3 2 1).toNat) O (ja_3 (frρ3.lay J)) (by omega) (by omega) (by omega) dX8_writeNumber_31 ?_
        refine z_aload_n (pc := 32) O dX8_writeNumber_32 rfl ?_
        refine z_dup (pc := 33) O dX8_writeNumber_33 rfl ?_
        refine zi_getv (pc := 34) (gI ρ3 2 1) O fl_X8_74 rfl (jo_2 (frρ3.lay J)) (sk1t (by decide) (izg ρ3 2 1)) dX8_writeNumber_34 ?_
        refine z_iconst (pc := 37) (v := iz (1)) O dX8_writeNumber_37 (by decide) ?_
        refine zi_iadd (pc := 38) O dX8_writeNumber_38 ?_
        refine z_putI (pc := 39) O fl_X8_74 rfl ⟨rfl, rfl⟩ (jo_2 (frρ3.lay J)) dX8_writeNumber_39 ?_
        refine zi_iinc (pc := 42) (s - 8) [(0, .ref 2), (1, .int (iz n)), (2, .int (iz (s - 8)))] O dX8_writeNumber_42 rfl (by omega) (by decide) rfl ?_
        refine z_goto (pc := 45) (tgt := 3) O dX8_writeNumber_45 (by decide) ?_
        refine z_lk [(0, .ref 2), (1, .int (iz n)), (2, .int (iz (s - 8)))] ⟨rfl, rfl, rfl, trivial⟩ ?_
        exact ih3 _ (by omega) (s - 8) (sI (sI ρ3 3 ((gI ρ3 2 1).toNat) ((iz z2).toInt8.toInt32)) 2 1 (iz ((gI ρ3 2 1) + 1))) rfl (by omega) (by omega) (by have : gI (sI (sI ρ3 3 ((gI ρ3 2 1).toNat) ((iz z2).toInt8.toInt32)) 2 1 (iz ((gI ρ3 2 1) + 1))) 2 1 = (gI ρ3 2 1) + 1 := gI_iz (hI_at _ _ _ _) (by omega); omega) (by have : gI (sI (sI ρ3 3 ((gI ρ3 2 1).toNat) ((iz z2).toInt8.toInt32)) 2 1 (iz ((gI ρ3 2 1) + 1))) 2 1 = (gI ρ3 2 1) + 1 := gI_iz (hI_at _ _ _ _) (by omega); omega) (by omega) (FdK.snoc ff3_4 (by omega) (by omega) (by have : gI (sI (sI ρ3 3 ((gI ρ3 2 1).toNat) ((iz z2).toInt8.toInt32)) 2 1 (iz ((gI ρ3 2 1) + 1))) 2 1 = (gI ρ3 2 1) + 1 := gI_iz (hI_at _ _ _ _) (by omega); omega) ((gI ρ3 2 1).toNat) (by omega) (fun i hi => by show hI (sI (sI ρ3 3 ((gI ρ3 2 1).toNat) ((iz z2).toInt8.toInt32)) 2 1 (iz ((gI ρ3 2 1) + 1))) 3 i = hI ρ3 3 i; rw [hI_sI, if_neg (fun e => absurd e.1 (by decide)), hI_sI, if_neg (fun e => hi e.2)]) (by show hI (sI (sI ρ3 3 ((gI ρ3 2 1).toNat) ((iz z2).toInt8.toInt32)) 2 1 (iz ((gI ρ3 2 1) + 1))) 3 ((gI ρ3 2 1).toNat) &&& 255 = _; rw [hI_sI, if_neg (fun e => absurd e.1 (by decide)), hI_sI, if_pos ⟨rfl, rfl⟩]; exact wbC esh ebb (by omega) (by omega))) ((frρ3.pI rfl).pI rfl)
  refine z_lk [(0, .ref 2), (1, .int (iz n)), (2, .int (iz 24))] ⟨rfl, rfl, rfl, trivial⟩ ?_
  exact cut3 _ 24 σ rfl (by omega) (by omega) (by omega) (by omega) (by omega) (FdK.nil (by omega) (fun _ => rfl)) (Fr.rf [(3, 99999), (2, 1)] σ)
set_option maxHeartbeats 4000000 in
set_option maxRecDepth 20000 in
theorem k8_feed3 (l : Launch) (σ : VH) (a : Int) (ra : (-2147483648 ≤ a ∧ a < 2147483648)) (b : Int) (rb : (-2147483648 ≤ b ∧ b < 2147483648)) (c : Int) (rc : (-2147483648 ≤ c ∧ c < 2147483648)) (d : Int) (rd : (-2147483648 ≤ d ∧ d < 2147483648)) (e : Int) (re : (-2147483648 ≤ e ∧ e < 2147483648)) (I : InvX σ) : Ct l yX8_feed cX8_feed 6 (some .int) 1 0 0 [.ref 2, .int (iz a), .int (iz b), .int (iz c), .int (iz d), .int (iz e)] σ (fun r τ => ∃ z : Int, r = some (.int (iz z)) ∧ (-2147483648 ≤ z ∧ z < 2147483648) ∧ ((z = -1 ∧ 700 < gI σ 2 1 + 20) ∨ (z = gI σ 2 1 + 20 ∧ gI σ 2 1 + 20 ≤ 700)) ∧ (Fr [(3, 99999), (2, 1)] σ τ) ∧ (InvX τ) ∧ ((z = -1 ∧ gI τ 2 1 = gI σ 2 1) ∨ (0 ≤ z ∧ gI τ 2 1 = z)) ∧ (FdP (hI σ 3) (hI τ 3) (gI σ 2 1) (Fdd a b c d e))) := by
  refine Ct.enter rfl (Nat.le_of_ble_eq_true rfl) ?_
  intro κ γ hκ O hrc hrs
  subst hκ
  have i1 := I.2.1
  unfold InvX1 at i1
  refine z_aload_n (pc := 0) O dX8_feed_0 rfl ?_
  refine zi_getv (pc := 1) (gI σ 2 1) O fl_X8_74 rfl (jo_2 I.1) (izg σ 2 1) dX8_feed_1 ?_
  have := rgI σ 2 1
  refine z_bipush (pc := 4) (v := iz (20)) O dX8_feed_4 (by decide) ?_
  refine zi_iadd (pc := 6) O dX8_feed_6 ?_
  refine z_sipush (pc := 7) (v := iz (700)) O dX8_feed_7 (by decide) ?_
  refine zi_icmp_le (pc := 10) (tgt := 15) O dX8_feed_10 (by decide) (by omega) (by decide) (fun h10 => ?_) (fun h10 => ?_)
  · refine z_aload_n (pc := 15) O dX8_feed_15 rfl ?_
    refine z_iload_n (pc := 16) O dX8_feed_16 rfl ?_
    refine z_callV (pc := 17) O cl_X8_77 (k8_writeNumber3 _ _ a (by omega) I.1 (by omega) (by omega)) (by decide) (jo_2 I.1) kc_8 rfl rfl (Nat.le_of_ble_eq_true rfl) ⟨Nat.zero_le _, Nat.zero_le _⟩ dX8_feed_17 (fun r τ1 hp => ?_)
    obtain ⟨rfl, frτ1, eτ1_0, eτ1_1, eτ1_2⟩ := hp
    refine z_aload_n (pc := 20) O dX8_feed_20 rfl ?_
    refine z_iload_n (pc := 21) O dX8_feed_21 rfl ?_
    refine z_callV (pc := 22) O cl_X8_77 (k8_writeNumber3 _ _ b (by omega) (frτ1.lay I.1) (by omega) (by omega)) (by decide) (jo_2 (frτ1.lay I.1)) kc_8 rfl rfl (Nat.le_of_ble_eq_true rfl) ⟨Nat.zero_le _, Nat.zero_le _⟩ dX8_feed_22 (fun r τ3 hp => ?_)
    obtain ⟨rfl, frτ3, eτ3_0, eτ3_1, eτ3_2⟩ := hp
    refine z_aload_n (pc := 25) O dX8_feed_25 rfl ?_
    refine z_iload_n (pc := 26) O dX8_feed_26 rfl ?_
    refine z_callV (pc := 27) O cl_X8_77 (k8_writeNumber3 _ _ c (by omega) (frτ3.lay (frτ1.lay I.1)) (by omega) (by omega)) (by decide) (jo_2 (frτ3.lay (frτ1.lay I.1))) kc_8 rfl rfl (Nat.le_of_ble_eq_true rfl) ⟨Nat.zero_le _, Nat.zero_le _⟩ dX8_feed_27 (fun r τ5 hp => ?_)
    obtain ⟨rfl, frτ5, eτ5_0, eτ5_1, eτ5_2⟩ := hp
    refine z_aload_n (pc := 30) O dX8_feed_30 rfl ?_
    refine z_iload (pc := 31) O dX8_feed_31 rfl ?_
    refine z_callV (pc := 33) O cl_X8_77 (k8_writeNumber3 _ _ d (by omega) (frτ5.lay (frτ3.lay (frτ1.lay I.1))) (by omega) (by omega)) (by decide) (jo_2 (frτ5.lay (frτ3.lay (frτ1.lay I.1)))) kc_8 rfl rfl (Nat.le_of_ble_eq_true rfl) ⟨Nat.zero_le _, Nat.zero_le _⟩ dX8_feed_33 (fun r τ7 hp => ?_)
    obtain ⟨rfl, frτ7, eτ7_0, eτ7_1, eτ7_2⟩ := hp
    refine z_aload_n (pc := 36) O dX8_feed_36 rfl ?_
    refine z_iload (pc := 37) O dX8_feed_37 rfl ?_
    refine z_callV (pc := 39) O cl_X8_77 (k8_writeNumber3 _ _ e (by omega) (frτ7.lay (frτ5.lay (frτ3.lay (frτ1.lay I.1)))) (by omega) (by omega)) (by decide) (jo_2 (frτ7.lay (frτ5.lay (frτ3.lay (frτ1.lay I.1))))) kc_8 rfl rfl (Nat.le_of_ble_eq_true rfl) ⟨Nat.zero_le _, Nat.zero_le _⟩ dX8_feed_39 (fun r τ9 hp => ?_)
    obtain ⟨rfl, frτ9, eτ9_0, eτ9_1, eτ9_2⟩ := hp
    refine z_aload_n (pc := 42) O dX8_feed_42 rfl ?_
    refine zi_getv (pc := 43) (gI τ9 2 1) O fl_X8_74 rfl (jo_2 (frτ9.lay (frτ7.lay (frτ5.lay (frτ3.lay (frτ1.lay I.1)))))) (izg τ9 2 1) dX8_feed_43 ?_
    have := rgI τ9 2 1
    refine z_iret (pc := 46) O dX8_feed_46 ?_
    exact ⟨(gI τ9 2 1), rfl, (by omega), (by omega), ((((frτ1.tr frτ3).tr frτ5).tr frτ7).tr frτ9), (InvX.fr ((((frτ1.tr frτ3).tr frτ5).tr frτ7).tr frτ9) I (by unfold InvX1; have : gI τ9 9 7 = gI σ 9 7 := gI_iz (Fr.it frτ9 rfl (Fr.it frτ7 rfl (Fr.it frτ5 rfl (Fr.it frτ3 rfl (Fr.it frτ1 rfl (izg σ 9 7)))))) (rgI _ _ _); have : gI τ9 16 4 = gI σ 16 4 := gI_iz (Fr.it frτ9 rfl (Fr.it frτ7 rfl (Fr.it frτ5 rfl (Fr.it frτ3 rfl (Fr.it frτ1 rfl (izg σ 16 4)))))) (rgI _ _ _); have : gI τ9 21 4 = gI σ 21 4 := gI_iz (Fr.it frτ9 rfl (Fr.it frτ7 rfl (Fr.it frτ5 rfl (Fr.it frτ3 rfl (Fr.it frτ1 rfl (izg σ 21 4)))))) (rgI _ _ _); have : gI τ9 2 12 = gI σ 2 12 := gI_iz (Fr.it frτ9 rfl (Fr.it frτ7 rfl (Fr.it frτ5 rfl (Fr.it frτ3 rfl (Fr.it frτ1 rfl (izg σ 2 12)))))) (rgI _ _ _); have : gI τ9 27 3 = gI σ 27 3 := gI_iz (Fr.it frτ9 rfl (Fr.it frτ7 rfl (Fr.it frτ5 rfl (Fr.it frτ3 rfl (Fr.it frτ1 rfl (izg σ 27 3)))))) (rgI _ _ _); have : gI τ9 2 15 = gI σ 2 15 := gI_iz (Fr.it frτ9 rfl (Fr.it frτ7 rfl (Fr.it frτ5 rfl (Fr.it frτ3 rfl (Fr.it frτ1 rfl (izg σ 2 15)))))) (rgI _ _ _); have : gI τ9 2 7 = gI σ 2 7 := gI_iz (Fr.it frτ9 rfl (Fr.it frτ7 rfl (Fr.it frτ5 rfl (Fr.it frτ3 rfl (Fr.it frτ1 rfl (izg σ 2 7)))))) (rgI _ _ _); omega) (fun _ => rfl)), (by omega), (Or.inr ⟨by omega, fd5 eτ1_2 eτ3_2 eτ5_2 eτ7_2 eτ9_2 (by omega) (by omega) (by omega) (by omega)⟩)⟩
  · refine z_iconst (pc := 13) (v := iz (-1)) O dX8_feed_13 (by decide) ?_
    refine z_iret (pc := 14) O dX8_feed_14 ?_
    exact ⟨(-1), rfl, (by decide), (by omega), (Fr.rf [(3, 99999), (2, 1)] σ), I, (by omega), (Or.inl ⟨by omega, fun _ => rfl⟩)⟩
set_option maxHeartbeats 4000000 in
set_option maxRecDepth 20000 in
theorem k8_fault3 (l : Launch) (σ : VH) (w : Int) (rw : (-2147483648 ≤ w ∧ w < 2147483648)) (I : InvX σ) : Ct l yX8_fault cX8_fault 2 (some .int) 0 0 0 [.ref 2, .int (iz w)] σ (fun r τ => ∃ z : Int, r = some (.int (iz z)) ∧ (-2147483648 ≤ z ∧ z < 2147483648) ∧ ((w = 0 ∧ z = gI σ 2 5) ∨ (w = 1 ∧ z = gI σ 2 6) ∨ (¬ (w = 0 ∨ w = 1) ∧ z = -1)) ∧ (Fr [] σ τ) ∧ (InvX τ)) := by
  refine Ct.enter rfl (Nat.le_of_ble_eq_true rfl) ?_
  intro κ γ hκ O hrc hrs
  subst hκ
  have i1 := I.2.1
  unfold InvX1 at i1
  refine z_iload_n (pc := 0) O dX8_fault_0 rfl ?_
  refine zi_if_ne (pc := 1) (tgt := 9) O dX8_fault_1 (by decide) (by omega) (fun h1 => ?_) (fun h1 => ?_)
  · refine z_iload_n (pc := 9) O dX8_fault_9 rfl ?_
    refine z_iconst (pc := 10) (v := iz (1)) O dX8_fault_10 (by decide) ?_
    refine zi_icmp_ne (pc := 11) (tgt := 21) O dX8_fault_11 (by decide) (by omega) (by decide) (fun h11 => ?_) (fun h11 => ?_)
    · refine z_iconst (pc := 21) (v := iz (-1)) O dX8_fault_21 (by decide) ?_
      refine z_iret (pc := 22) O dX8_fault_22 ?_
      exact ⟨(-1), rfl, (by decide), (by omega), (Fr.rf [] σ), I⟩
    · refine z_aload_n (pc := 14) O dX8_fault_14 rfl ?_
      refine zi_getv (pc := 15) (gI σ 2 6) O fl_X8_30 rfl (jo_2 I.1) (izg σ 2 6) dX8_fault_15 ?_
      have := rgI σ 2 6
      refine z_goto (pc := 18) (tgt := 22) O dX8_fault_18 (by decide) ?_
      refine z_iret (pc := 22) O dX8_fault_22 ?_
      exact ⟨(gI σ 2 6), rfl, (by omega), (by omega), (Fr.rf [] σ), I⟩
  · refine z_aload_n (pc := 4) O dX8_fault_4 rfl ?_
    refine zi_getv (pc := 5) (gI σ 2 5) O fl_X8_110 rfl (jo_2 I.1) (izg σ 2 5) dX8_fault_5 ?_
    have := rgI σ 2 5
    refine z_iret (pc := 8) O dX8_fault_8 ?_
    exact ⟨(gI σ 2 5), rfl, (by omega), (by omega), (Fr.rf [] σ), I⟩
