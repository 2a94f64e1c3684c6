set_option maxHeartbeats 4000000 in
set_option maxRecDepth 20000 in
theorem k8_degree (l : Launch) (σ : VH) (a : Int) (ra : (-2147483648 ≤ a ∧ a < 2147483648)) (b : Int) (rb : (-2147483648 ≤ b ∧ b < 2147483648)) (I : InvX σ) : Ct l yX8_degree cX8_degree 3 (some .int) 4 0 0 [.ref 2, .int (iz a), .int (iz b)] σ (fun r τ => ∃ z : Int, r = some (.int (iz z)) ∧ (-2147483648 ≤ z ∧ z < 2147483648) ∧ (Fr [(14, 99999)] σ τ) ∧ (InvX τ)) := by
  refine Ct.enter rfl (Nat.le_of_ble_eq_true rfl) ?_
  intro κ γ hκ O hrc hrs
  subst hκ
  have i1 := I.2.1
  unfold InvX1 at i1
  refine z_aload_n (pc := 0) O dX8_degree_0 rfl ?_
  refine z_getR (pc := 1) 9 O fl_X8_37 rfl (jo_2 I.1) (jr_2_8 I.1) dX8_degree_1 ?_
  refine z_iload_n (pc := 4) O dX8_degree_4 rfl ?_
  refine z_iload_n (pc := 5) O dX8_degree_5 rfl ?_
  refine z_callV (pc := 6) O cl_X8_126 (k3_stepsBetween _ _ a (by omega) b (by omega) I.1 (by omega)) (by decide) (jo_9 I.1) kc_3 rfl rfl (Nat.le_of_ble_eq_true rfl) ⟨Nat.zero_le _, Nat.zero_le _⟩ dX8_degree_6 (fun r τ1 hp => ?_)
  obtain ⟨z2, rfl, fτ1_0, frτ1⟩ := hp
  refine z_iret (pc := 9) O dX8_degree_9 ?_
  exact ⟨z2, rfl, (by omega), frτ1, (InvX.fr frτ1 I (by unfold InvX1; have : gI τ1 2 1 = gI σ 2 1 := gI_iz (Fr.it frτ1 rfl (izg σ 2 1)) (rgI _ _ _); have : gI τ1 9 7 = gI σ 9 7 := gI_iz (Fr.it frτ1 rfl (izg σ 9 7)) (rgI _ _ _); have : gI τ1 16 4 = gI σ 16 4 := gI_iz (Fr.it frτ1 rfl (izg σ 16 4)) (rgI _ _ _); have : gI τ1 21 4 = gI σ 21 4 := gI_iz (Fr.it frτ1 rfl (izg σ 21 4)) (rgI _ _ _); have : gI τ1 2 12 = gI σ 2 12 := gI_iz (Fr.it frτ1 rfl (izg σ 2 12)) (rgI _ _ _); have : gI τ1 27 3 = gI σ 27 3 := gI_iz (Fr.it frτ1 rfl (izg σ 27 3)) (rgI _ _ _); have : gI τ1 2 15 = gI σ 2 15 := gI_iz (Fr.it frτ1 rfl (izg σ 2 15)) (rgI _ _ _); have : gI τ1 2 7 = gI σ 2 7 := gI_iz (Fr.it frτ1 rfl (izg σ 2 7)) (rgI _ _ _); omega) (fun _ => rfl))⟩
set_option maxHeartbeats 4000000 in
set_option maxRecDepth 20000 in
theorem k8_rank (l : Launch) (σ : VH) (p : Int) (rp : (-2147483648 ≤ p ∧ p < 2147483648)) (e : Int) (re : (-2147483648 ≤ e ∧ e < 2147483648)) (d : Int) (rd : (-2147483648 ≤ d ∧ d < 2147483648)) (I : InvX σ) : Ct l yX8_rank cX8_rank 4 (some .int) 1 0 0 [.ref 2, .int (iz p), .int (iz e), .int (iz d)] σ (fun r τ => ∃ z : Int, r = some (.int (iz z)) ∧ (-2147483648 ≤ z ∧ z < 2147483648) ∧ ((z = -1 ∧ ¬ ((0 ≤ p ∧ p < gI σ 9 7) ∧ (0 ≤ e ∧ e ≤ 3) ∧ (0 ≤ d ∧ d ≤ 100000) ∧ gI σ 16 4 < 60)) ∨ (z = gI σ 16 4 + 1 ∧ ((0 ≤ p ∧ p < gI σ 9 7) ∧ (0 ≤ e ∧ e ≤ 3) ∧ (0 ≤ d ∧ d ≤ 100000) ∧ gI σ 16 4 < 60))) ∧ (Fr [(17, 99999), (18, 99999), (19, 99999), (20, 99999), (16, 4)] σ τ) ∧ (InvX τ) ∧ ((z = -1 ∧ gI τ 16 4 = gI σ 16 4) ∨ (0 ≤ z ∧ gI τ 16 4 = z))) := by
  refine Ct.enter rfl (Nat.le_of_ble_eq_true rfl) ?_
  intro κ γ hκ O hrc hrs
  subst hκ
  have i1 := I.2.1
  unfold InvX1 at i1
  refine z_aload_n (pc := 0) O dX8_rank_0 rfl ?_
  refine z_getR (pc := 1) 9 O fl_X8_37 rfl (jo_2 I.1) (jr_2_8 I.1) dX8_rank_1 ?_
  refine z_iload_n (pc := 4) O dX8_rank_4 rfl ?_
  refine z_callV (pc := 5) O cl_X8_130 (k3_isThere _ _ p (by omega) I.1) (by decide) (jo_9 I.1) kc_3 rfl rfl (Nat.le_of_ble_eq_true rfl) ⟨Nat.zero_le _, Nat.zero_le _⟩ dX8_rank_5 (fun r τ1 hp => ?_)
  obtain ⟨z2, rfl, fτ1_0, fτ1_1, rfl⟩ := hp
  refine zi_if_eq (pc := 8) (tgt := 27) O dX8_rank_8 (by decide) (by omega) (fun h8 => ?_) (fun h8 => ?_)
  · refine z_iconst (pc := 27) (v := iz (-1)) O dX8_rank_27 (by decide) ?_
    refine z_iret (pc := 28) O dX8_rank_28 ?_
    exact ⟨(-1), rfl, (by decide), (by omega), (Fr.rf [(17, 99999), (18, 99999), (19, 99999), (20, 99999), (16, 4)] σ), I, (by omega)⟩
  · refine z_iload_n (pc := 11) O dX8_rank_11 rfl ?_
    refine zi_if_lt (pc := 12) (tgt := 27) O dX8_rank_12 (by decide) (by omega) (fun h12 => ?_) (fun h12 => ?_)
    · refine z_iconst (pc := 27) (v := iz (-1)) O dX8_rank_27 (by decide) ?_
      refine z_iret (pc := 28) O dX8_rank_28 ?_
      exact ⟨(-1), rfl, (by decide), (by omega), (Fr.rf [(17, 99999), (18, 99999), (19, 99999), (20, 99999), (16, 4)] σ), I, (by omega)⟩
    · refine z_iload_n (pc := 15) O dX8_rank_15 rfl ?_
      refine z_iconst (pc := 16) (v := iz (3)) O dX8_rank_16 (by decide) ?_
      refine zi_icmp_gt (pc := 17) (tgt := 27) O dX8_rank_17 (by decide) (by omega) (by decide) (fun h17 => ?_) (fun h17 => ?_)
      · refine z_iconst (pc := 27) (v := iz (-1)) O dX8_rank_27 (by decide) ?_
        refine z_iret (pc := 28) O dX8_rank_28 ?_
        exact ⟨(-1), rfl, (by decide), (by omega), (Fr.rf [(17, 99999), (18, 99999), (19, 99999), (20, 99999), (16, 4)] σ), I, (by omega)⟩
      · refine z_iload_n (pc := 20) O dX8_rank_20 rfl ?_
        refine z_callS (pc := 21) O cl_X8_85 (k8_isDay _ _ d (by omega)) (by decide) rfl rfl (Nat.le_of_ble_eq_true rfl) ⟨Nat.zero_le _, Nat.zero_le _⟩ dX8_rank_21 (fun r τ3 hp => ?_)
        obtain ⟨z4, rfl, fτ3_0, fτ3_1, rfl⟩ := hp
        refine zi_if_ne (pc := 24) (tgt := 29) O dX8_rank_24 (by decide) (by omega) (fun h24 => ?_) (fun h24 => ?_)
        · refine z_aload_n (pc := 29) O dX8_rank_29 rfl ?_
          refine z_getR (pc := 30) 16 O fl_X8_44 rfl (jo_2 I.1) (jr_2_9 I.1) dX8_rank_30 ?_
          refine z_iload_n (pc := 33) O dX8_rank_33 rfl ?_
          refine z_iload_n (pc := 34) O dX8_rank_34 rfl ?_
          refine z_iload_n (pc := 35) O dX8_rank_35 rfl ?_
          refine z_aload_n (pc := 36) O dX8_rank_36 rfl ?_
          refine zi_getv (pc := 37) (gI σ 2 7) O fl_X8_133 rfl (jo_2 I.1) (izg σ 2 7) dX8_rank_37 ?_
          have := rgI σ 2 7
          refine z_callV (pc := 40) O cl_X8_136 (k6_add _ _ p (by omega) e (by omega) d (by omega) (gI σ 2 7) (by omega) I.1 (by omega)) (by decide) (jo_16 I.1) kc_6 rfl rfl (Nat.le_of_ble_eq_true rfl) ⟨Nat.zero_le _, Nat.zero_le _⟩ dX8_rank_40 (fun r τ5 hp => ?_)
          obtain ⟨z6, rfl, fτ5_0, fτ5_1, frτ5, eτ5_0⟩ := hp
          refine z_iret (pc := 43) O dX8_rank_43 ?_
          exact ⟨z6, rfl, (by omega), (by omega), frτ5, (InvX.fr frτ5 I (by unfold InvX1; have : gI τ5 2 1 = gI σ 2 1 := gI_iz (Fr.it frτ5 rfl (izg σ 2 1)) (rgI _ _ _); have : gI τ5 9 7 = gI σ 9 7 := gI_iz (Fr.it frτ5 rfl (izg σ 9 7)) (rgI _ _ _); have : gI τ5 21 4 = gI σ 21 4 := gI_iz (Fr.it frτ5 rfl (izg σ 21 4)) (rgI _ _ _); have : gI τ5 2 12 = gI σ 2 12 := gI_iz (Fr.it frτ5 rfl (izg σ 2 12)) (rgI _ _ _); have : gI τ5 27 3 = gI σ 27 3 := gI_iz (Fr.it frτ5 rfl (izg σ 27 3)) (rgI _ _ _); have : gI τ5 2 15 = gI σ 2 15 := gI_iz (Fr.it frτ5 rfl (izg σ 2 15)) (rgI _ _ _); have : gI τ5 2 7 = gI σ 2 7 := gI_iz (Fr.it frτ5 rfl (izg σ 2 7)) (rgI _ _ _); omega) (fun _ => rfl)), (by omega)⟩
        · refine z_iconst (pc := 27) (v := iz (-1)) O dX8_rank_27 (by decide) ?_
          refine z_iret (pc := 28) O dX8_rank_28 ?_
          exact ⟨(-1), rfl, (by decide), (by omega), (Fr.rf [(17, 99999), (18, 99999), (19, 99999), (20, 99999), (16, 4)] σ), I, (by omega)⟩
set_option maxHeartbeats 4000000 in
set_option maxRecDepth 20000 in
theorem k8_ranked (l : Launch) (σ : VH) (p : Int) (rp : (-2147483648 ≤ p ∧ p < 2147483648)) (d : Int) (rd : (-2147483648 ≤ d ∧ d < 2147483648)) (y : Int) (ry : (-2147483648 ≤ y ∧ y < 2147483648)) (I : InvX σ) : Ct l yX8_ranked cX8_ranked 4 (some .int) 1 0 0 [.ref 2, .int (iz p), .int (iz d), .int (iz y)] σ (fun r τ => ∃ z : Int, r = some (.int (iz z)) ∧ (-2147483648 ≤ z ∧ z < 2147483648) ∧ (Fr [] σ τ) ∧ (InvX τ)) := by
  refine Ct.enter rfl (Nat.le_of_ble_eq_true rfl) ?_
  intro κ γ hκ O hrc hrs
  subst hκ
  have i1 := I.2.1
  unfold InvX1 at i1
  refine z_aload_n (pc := 0) O dX8_ranked_0 rfl ?_
  refine z_getR (pc := 1) 9 O fl_X8_37 rfl (jo_2 I.1) (jr_2_8 I.1) dX8_ranked_1 ?_
  refine z_iload_n (pc := 4) O dX8_ranked_4 rfl ?_
  refine z_callV (pc := 5) O cl_X8_130 (k3_isThere _ _ p (by omega) I.1) (by decide) (jo_9 I.1) kc_3 rfl rfl (Nat.le_of_ble_eq_true rfl) ⟨Nat.zero_le _, Nat.zero_le _⟩ dX8_ranked_5 (fun r τ1 hp => ?_)
  obtain ⟨z2, rfl, fτ1_0, fτ1_1, rfl⟩ := hp
  refine zi_if_eq (pc := 8) (tgt := 24) O dX8_ranked_8 (by decide) (by omega) (fun h8 => ?_) (fun h8 => ?_)
  · refine z_iconst (pc := 24) (v := iz (-1)) O dX8_ranked_24 (by decide) ?_
    refine z_iret (pc := 25) O dX8_ranked_25 ?_
    exact ⟨(-1), rfl, (by decide), (Fr.rf [] σ), I⟩
  · refine z_aload_n (pc := 11) O dX8_ranked_11 rfl ?_
    refine z_getR (pc := 12) 16 O fl_X8_44 rfl (jo_2 I.1) (jr_2_9 I.1) dX8_ranked_12 ?_
    refine z_iload_n (pc := 15) O dX8_ranked_15 rfl ?_
    refine z_iload_n (pc := 16) O dX8_ranked_16 rfl ?_
    refine z_iload_n (pc := 17) O dX8_ranked_17 rfl ?_
    refine z_callV (pc := 18) O cl_X8_139 (k6_rankAsKnown _ _ p (by omega) d (by omega) y (by omega) I.1 (by omega)) (by decide) (jo_16 I.1) kc_6 rfl rfl (Nat.le_of_ble_eq_true rfl) ⟨Nat.zero_le _, Nat.zero_le _⟩ dX8_ranked_18 (fun r τ3 hp => ?_)
    obtain ⟨z4, rfl, fτ3_0, rfl⟩ := hp
    refine z_goto (pc := 21) (tgt := 25) O dX8_ranked_21 (by decide) ?_
    refine z_iret (pc := 25) O dX8_ranked_25 ?_
    exact ⟨z4, rfl, (by omega), (Fr.rf [] σ), I⟩
set_option maxHeartbeats 4000000 in
set_option maxRecDepth 20000 in
theorem k8_dead (l : Launch) (σ : VH) (p : Int) (rp : (-2147483648 ≤ p ∧ p < 2147483648)) (d : Int) (rd : (-2147483648 ≤ d ∧ d < 2147483648)) (I : InvX σ) : Ct l yX8_dead cX8_dead 3 (some .boolean) 2 0 0 [.ref 2, .int (iz p), .int (iz d)] σ (fun r τ => ∃ z : Int, r = some (.int (iz z)) ∧ (z = 0 ∨ z = 1) ∧ (Fr [(13, 99999)] σ τ) ∧ (InvX τ)) := by
  refine Ct.enter rfl (Nat.le_of_ble_eq_true rfl) ?_
  intro κ γ hκ O hrc hrs
  subst hκ
  have i1 := I.2.1
  unfold InvX1 at i1
  refine z_iload_n (pc := 0) O dX8_dead_0 rfl ?_
  refine z_callS (pc := 1) O cl_X8_85 (k8_isDay _ _ d (by omega)) (by decide) rfl rfl (Nat.le_of_ble_eq_true rfl) ⟨Nat.zero_le _, Nat.zero_le _⟩ dX8_dead_1 (fun r τ1 hp => ?_)
  obtain ⟨z2, rfl, fτ1_0, fτ1_1, rfl⟩ := hp
  refine zi_if_eq (pc := 4) (tgt := 23) O dX8_dead_4 (by decide) (by omega) (fun h4 => ?_) (fun h4 => ?_)
  · refine z_iconst (pc := 23) (v := iz (0)) O dX8_dead_23 (by decide) ?_
    refine z_zret (pc := 24) O dX8_dead_24 rfl ?_
    exact ⟨0, rfl, (by decide), (Fr.rf [(13, 99999)] σ), I⟩
  · refine z_aload_n (pc := 7) O dX8_dead_7 rfl ?_
    refine z_getR (pc := 8) 9 O fl_X8_37 rfl (jo_2 I.1) (jr_2_8 I.1) dX8_dead_8 ?_
    refine z_iload_n (pc := 11) O dX8_dead_11 rfl ?_
    refine z_iload_n (pc := 12) O dX8_dead_12 rfl ?_
    refine z_callV (pc := 13) O cl_X8_142 (k3_bury _ _ p (by omega) d (by omega) I.1 (by omega)) (by decide) (jo_9 I.1) kc_3 rfl rfl (Nat.le_of_ble_eq_true rfl) ⟨Nat.zero_le _, Nat.zero_le _⟩ dX8_dead_13 (fun r τ3 hp => ?_)
    obtain ⟨z4, rfl, fτ3_0, frτ3⟩ := hp
    refine zi_if_eq (pc := 16) (tgt := 23) O dX8_dead_16 (by decide) (by omega) (fun h16 => ?_) (fun h16 => ?_)
    · refine z_iconst (pc := 23) (v := iz (0)) O dX8_dead_23 (by decide) ?_
      refine z_zret (pc := 24) O dX8_dead_24 rfl ?_
      exact ⟨0, rfl, (by decide), frτ3, (InvX.fr frτ3 I (by unfold InvX1; have : gI τ3 2 1 = gI σ 2 1 := gI_iz (Fr.it frτ3 rfl (izg σ 2 1)) (rgI _ _ _); have : gI τ3 9 7 = gI σ 9 7 := gI_iz (Fr.it frτ3 rfl (izg σ 9 7)) (rgI _ _ _); have : gI τ3 16 4 = gI σ 16 4 := gI_iz (Fr.it frτ3 rfl (izg σ 16 4)) (rgI _ _ _); have : gI τ3 21 4 = gI σ 21 4 := gI_iz (Fr.it frτ3 rfl (izg σ 21 4)) (rgI _ _ _); have : gI τ3 2 12 = gI σ 2 12 := gI_iz (Fr.it frτ3 rfl (izg σ 2 12)) (rgI _ _ _); have : gI τ3 27 3 = gI σ 27 3 := gI_iz (Fr.it frτ3 rfl (izg σ 27 3)) (rgI _ _ _); have : gI τ3 2 15 = gI σ 2 15 := gI_iz (Fr.it frτ3 rfl (izg σ 2 15)) (rgI _ _ _); have : gI τ3 2 7 = gI σ 2 7 := gI_iz (Fr.it frτ3 rfl (izg σ 2 7)) (rgI _ _ _); omega) (fun _ => rfl))⟩
    · refine z_iconst (pc := 19) (v := iz (1)) O dX8_dead_19 (by decide) ?_
      refine z_goto (pc := 20) (tgt := 24) O dX8_dead_20 (by decide) ?_
      refine z_zret (pc := 24) O dX8_dead_24 rfl ?_
      exact ⟨1, rfl, (by decide), frτ3, (InvX.fr frτ3 I (by unfold InvX1; have : gI τ3 2 1 = gI σ 2 1 := gI_iz (Fr.it frτ3 rfl (izg σ 2 1)) (rgI _ _ _); have : gI τ3 9 7 = gI σ 9 7 := gI_iz (Fr.it frτ3 rfl (izg σ 9 7)) (rgI _ _ _); have : gI τ3 16 4 = gI σ 16 4 := gI_iz (Fr.it frτ3 rfl (izg σ 16 4)) (rgI _ _ _); have : gI τ3 21 4 = gI σ 21 4 := gI_iz (Fr.it frτ3 rfl (izg σ 21 4)) (rgI _ _ _); have : gI τ3 2 12 = gI σ 2 12 := gI_iz (Fr.it frτ3 rfl (izg σ 2 12)) (rgI _ _ _); have : gI τ3 27 3 = gI σ 27 3 := gI_iz (Fr.it frτ3 rfl (izg σ 27 3)) (rgI _ _ _); have : gI τ3 2 15 = gI σ 2 15 := gI_iz (Fr.it frτ3 rfl (izg σ 2 15)) (rgI _ _ _); have : gI τ3 2 7 = gI σ 2 7 := gI_iz (Fr.it frτ3 rfl (izg σ 2 7)) (rgI _ _ _); omega) (fun _ => rfl))⟩
set_option maxHeartbeats 4000000 in
set_option maxRecDepth 20000 in
theorem k8_truce (l : Launch) (σ : VH) (a : Int) (ra : (-2147483648 ≤ a ∧ a < 2147483648)) (b : Int) (rb : (-2147483648 ≤ b ∧ b < 2147483648)) (f : Int) (rf : (-2147483648 ≤ f ∧ f < 2147483648)) (t : Int) (rt : (-2147483648 ≤ t ∧ t < 2147483648)) (I : InvX σ) : Ct l yX8_truce cX8_truce 5 (some .int) 1 0 0 [.ref 2, .int (iz a), .int (iz b), .int (iz f), .int (iz t)] σ (fun r τ => ∃ z : Int, r = some (.int (iz z)) ∧ (-2147483648 ≤ z ∧ z < 2147483648) ∧ ((z = -1 ∧ ¬ ((0 ≤ a ∧ a < 4) ∧ (0 ≤ b ∧ b < 4) ∧ 0 ≤ f ∧ f ≤ t ∧ t ≤ 100000 ∧ gI σ 21 4 < 10)) ∨ (z = gI σ 21 4 + 1 ∧ ((0 ≤ a ∧ a < 4) ∧ (0 ≤ b ∧ b < 4) ∧ 0 ≤ f ∧ f ≤ t ∧ t ≤ 100000 ∧ gI σ 21 4 < 10))) ∧ (Fr [(22, 99999), (23, 99999), (24, 99999), (25, 99999), (21, 4)] σ τ) ∧ (InvX τ) ∧ ((z = -1 ∧ gI τ 21 4 = gI σ 21 4) ∨ (0 ≤ z ∧ gI τ 21 4 = z))) := by
  refine Ct.enter rfl (Nat.le_of_ble_eq_true rfl) ?_
  intro κ γ hκ O hrc hrs
  subst hκ
  have i1 := I.2.1
  unfold InvX1 at i1
  refine z_iload_n (pc := 0) O dX8_truce_0 rfl ?_
  refine z_callS (pc := 1) O cl_X8_81 (k8_isFolk _ _ a (by omega)) (by decide) rfl rfl (Nat.le_of_ble_eq_true rfl) ⟨Nat.zero_le _, Nat.zero_le _⟩ dX8_truce_1 (fun r τ1 hp => ?_)
  obtain ⟨z2, rfl, fτ1_0, fτ1_1, rfl⟩ := hp
  refine zi_if_eq (pc := 4) (tgt := 35) O dX8_truce_4 (by decide) (by omega) (fun h4 => ?_) (fun h4 => ?_)
  · refine z_iconst (pc := 35) (v := iz (-1)) O dX8_truce_35 (by decide) ?_
    refine z_iret (pc := 36) O dX8_truce_36 ?_
    exact ⟨(-1), rfl, (by decide), (by omega), (Fr.rf [(22, 99999), (23, 99999), (24, 99999), (25, 99999), (21, 4)] σ), I, (by omega)⟩
  · refine z_iload_n (pc := 7) O dX8_truce_7 rfl ?_
    refine z_callS (pc := 8) O cl_X8_81 (k8_isFolk _ _ b (by omega)) (by decide) rfl rfl (Nat.le_of_ble_eq_true rfl) ⟨Nat.zero_le _, Nat.zero_le _⟩ dX8_truce_8 (fun r τ3 hp => ?_)
    obtain ⟨z4, rfl, fτ3_0, fτ3_1, rfl⟩ := hp
    refine zi_if_eq (pc := 11) (tgt := 35) O dX8_truce_11 (by decide) (by omega) (fun h11 => ?_) (fun h11 => ?_)
    · refine z_iconst (pc := 35) (v := iz (-1)) O dX8_truce_35 (by decide) ?_
      refine z_iret (pc := 36) O dX8_truce_36 ?_
      exact ⟨(-1), rfl, (by decide), (by omega), (Fr.rf [(22, 99999), (23, 99999), (24, 99999), (25, 99999), (21, 4)] σ), I, (by omega)⟩
    · refine z_iload_n (pc := 14) O dX8_truce_14 rfl ?_
      refine z_callS (pc := 15) O cl_X8_85 (k8_isDay _ _ f (by omega)) (by decide) rfl rfl (Nat.le_of_ble_eq_true rfl) ⟨Nat.zero_le _, Nat.zero_le _⟩ dX8_truce_15 (fun r τ5 hp => ?_)
      obtain ⟨z6, rfl, fτ5_0, fτ5_1, rfl⟩ := hp
      refine zi_if_eq (pc := 18) (tgt := 35) O dX8_truce_18 (by decide) (by omega) (fun h18 => ?_) (fun h18 => ?_)
      · refine z_iconst (pc := 35) (v := iz (-1)) O dX8_truce_35 (by decide) ?_
        refine z_iret (pc := 36) O dX8_truce_36 ?_
        exact ⟨(-1), rfl, (by decide), (by omega), (Fr.rf [(22, 99999), (23, 99999), (24, 99999), (25, 99999), (21, 4)] σ), I, (by omega)⟩
      · refine z_iload (pc := 21) O dX8_truce_21 rfl ?_
        refine z_callS (pc := 23) O cl_X8_85 (k8_isDay _ _ t (by omega)) (by decide) rfl rfl (Nat.le_of_ble_eq_true rfl) ⟨Nat.zero_le _, Nat.zero_le _⟩ dX8_truce_23 (fun r τ7 hp => ?_)
        obtain ⟨z8, rfl, fτ7_0, fτ7_1, rfl⟩ := hp
        refine zi_if_eq (pc := 26) (tgt := 35) O dX8_truce_26 (by decide) (by omega) (fun h26 => ?_) (fun h26 => ?_)
        · refine z_iconst (pc := 35) (v := iz (-1)) O dX8_truce_35 (by decide) ?_
          refine z_iret (pc := 36) O dX8_truce_36 ?_
          exact ⟨(-1), rfl, (by decide), (by omega), (Fr.rf [(22, 99999), (23, 99999), (24, 99999), (25, 99999), (21, 4)] σ), I, (by omega)⟩
        · refine z_iload_n (pc := 29) O dX8_truce_29 rfl ?_
          refine z_iload (pc := 30) O dX8_truce_30 rfl ?_
          refine zi_icmp_le (pc := 32) (tgt := 37) O dX8_truce_32 (by decide) (by omega) (by omega) (fun h32 => ?_) (fun h32 => ?_)
          · refine z_aload_n (pc := 37) O dX8_truce_37 rfl ?_
            refine z_getR (pc := 38) 21 O fl_X8_51 rfl (jo_2 I.1) (jr_2_10 I.1) dX8_truce_38 ?_
            refine z_iload_n (pc := 41) O dX8_truce_41 rfl ?_
            refine z_iload_n (pc := 42) O dX8_truce_42 rfl ?_
            refine z_iload_n (pc := 43) O dX8_truce_43 rfl ?_
            refine z_iload (pc := 44) O dX8_truce_44 rfl ?_
            refine z_callV (pc := 46) O cl_X8_146 (k7_add _ _ a (by omega) b (by omega) f (by omega) t (by omega) I.1 (by omega)) (by decide) (jo_21 I.1) kc_7 rfl rfl (Nat.le_of_ble_eq_true rfl) ⟨Nat.zero_le _, Nat.zero_le _⟩ dX8_truce_46 (fun r τ9 hp => ?_)
            obtain ⟨z10, rfl, fτ9_0, fτ9_1, frτ9, eτ9_0⟩ := hp
            refine z_iret (pc := 49) O dX8_truce_49 ?_
            exact ⟨z10, rfl, (by omega), (by omega), frτ9, (InvX.fr frτ9 I (by unfold InvX1; have : gI τ9 2 1 = gI σ 2 1 := gI_iz (Fr.it frτ9 rfl (izg σ 2 1)) (rgI _ _ _); have : gI τ9 9 7 = gI σ 9 7 := gI_iz (Fr.it frτ9 rfl (izg σ 9 7)) (rgI _ _ _); have : gI τ9 16 4 = gI σ 16 4 := gI_iz (Fr.it frτ9 rfl (izg σ 16 4)) (rgI _ _ _); have : gI τ9 2 12 = gI σ 2 12 := gI_iz (Fr.it frτ9 rfl (izg σ 2 12)) (rgI _ _ _); have : gI τ9 27 3 = gI σ 27 3 := gI_iz (Fr.it frτ9 rfl (izg σ 27 3)) (rgI _ _ _); have : gI τ9 2 15 = gI σ 2 15 := gI_iz (Fr.it frτ9 rfl (izg σ 2 15)) (rgI _ _ _); have : gI τ9 2 7 = gI σ 2 7 := gI_iz (Fr.it frτ9 rfl (izg σ 2 7)) (rgI _ _ _); omega) (fun _ => rfl)), (by omega)⟩
          · refine z_iconst (pc := 35) (v := iz (-1)) O dX8_truce_35 (by decide) ?_
            refine z_iret (pc := 36) O dX8_truce_36 ?_
            exact ⟨(-1), rfl, (by decide), (by omega), (Fr.rf [(22, 99999), (23, 99999), (24, 99999), (25, 99999), (21, 4)] σ), I, (by omega)⟩
set_option maxHeartbeats 4000000 in
set_option maxRecDepth 20000 in
theorem k8_person (l : Launch) (σ : VH) (f : Int) (rf : (-2147483648 ≤ f ∧ f < 2147483648)) (m : Int) (rm : (-2147483648 ≤ m ∧ m < 2147483648)) (p : Int) (rp : (-2147483648 ≤ p ∧ p < 2147483648)) (I : InvX σ) : Ct l yX8_person cX8_person 4 (some .int) 2 0 0 [.ref 2, .int (iz f), .int (iz m), .int (iz p)] σ (fun r τ => ∃ z : Int, r = some (.int (iz z)) ∧ (-2147483648 ≤ z ∧ z < 2147483648) ∧ ((z = -1 ∧ ¬ ((0 ≤ f ∧ f < 4) ∧ (-1 ≤ m ∧ m < gI σ 9 7) ∧ (-1 ≤ p ∧ p < gI σ 9 7) ∧ gI σ 9 7 < 20)) ∨ (z = gI σ 9 7 ∧ ((0 ≤ f ∧ f < 4) ∧ (-1 ≤ m ∧ m < gI σ 9 7) ∧ (-1 ≤ p ∧ p < gI σ 9 7) ∧ gI σ 9 7 < 20))) ∧ (Fr [(10, 99999), (11, 99999), (12, 99999), (13, 99999), (9, 7)] σ τ) ∧ (InvX τ) ∧ ((z = -1 ∧ gI τ 9 7 = gI σ 9 7) ∨ (0 ≤ z ∧ gI τ 9 7 = z + 1))) := by
  refine Ct.enter rfl (Nat.le_of_ble_eq_true rfl) ?_
  intro κ γ hκ O hrc hrs
  subst hκ
  have i1 := I.2.1
  unfold InvX1 at i1
  refine z_iload_n (pc := 0) O dX8_person_0 rfl ?_
  refine z_callS (pc := 1) O cl_X8_81 (k8_isFolk _ _ f (by omega)) (by decide) rfl rfl (Nat.le_of_ble_eq_true rfl) ⟨Nat.zero_le _, Nat.zero_le _⟩ dX8_person_1 (fun r τ1 hp => ?_)
  obtain ⟨z2, rfl, fτ1_0, fτ1_1, rfl⟩ := hp
  refine zi_if_eq (pc := 4) (tgt := 29) O dX8_person_4 (by decide) (by omega) (fun h4 => ?_) (fun h4 => ?_)
  · refine z_iconst (pc := 29) (v := iz (-1)) O dX8_person_29 (by decide) ?_
    refine z_iret (pc := 30) O dX8_person_30 ?_
    exact ⟨(-1), rfl, (by decide), (by omega), (Fr.rf [(10, 99999), (11, 99999), (12, 99999), (13, 99999), (9, 7)] σ), I, (by omega)⟩
  · refine z_aload_n (pc := 7) O dX8_person_7 rfl ?_
    refine z_getR (pc := 8) 9 O fl_X8_37 rfl (jo_2 I.1) (jr_2_8 I.1) dX8_person_8 ?_
    refine z_iload_n (pc := 11) O dX8_person_11 rfl ?_
    refine z_callV (pc := 12) O cl_X8_119 (k3_canBeParent _ _ m (by omega) I.1) (by decide) (jo_9 I.1) kc_3 rfl rfl (Nat.le_of_ble_eq_true rfl) ⟨Nat.zero_le _, Nat.zero_le _⟩ dX8_person_12 (fun r τ3 hp => ?_)
    obtain ⟨z4, rfl, fτ3_0, fτ3_1, rfl⟩ := hp
    refine zi_if_eq (pc := 15) (tgt := 29) O dX8_person_15 (by decide) (by omega) (fun h15 => ?_) (fun h15 => ?_)
    · refine z_iconst (pc := 29) (v := iz (-1)) O dX8_person_29 (by decide) ?_
      refine z_iret (pc := 30) O dX8_person_30 ?_
      exact ⟨(-1), rfl, (by decide), (by omega), (Fr.rf [(10, 99999), (11, 99999), (12, 99999), (13, 99999), (9, 7)] σ), I, (by omega)⟩
    · refine z_aload_n (pc := 18) O dX8_person_18 rfl ?_
      refine z_getR (pc := 19) 9 O fl_X8_37 rfl (jo_2 I.1) (jr_2_8 I.1) dX8_person_19 ?_
      refine z_iload_n (pc := 22) O dX8_person_22 rfl ?_
      refine z_callV (pc := 23) O cl_X8_119 (k3_canBeParent _ _ p (by omega) I.1) (by decide) (jo_9 I.1) kc_3 rfl rfl (Nat.le_of_ble_eq_true rfl) ⟨Nat.zero_le _, Nat.zero_le _⟩ dX8_person_23 (fun r τ5 hp => ?_)
      obtain ⟨z6, rfl, fτ5_0, fτ5_1, rfl⟩ := hp
      refine zi_if_ne (pc := 26) (tgt := 31) O dX8_person_26 (by decide) (by omega) (fun h26 => ?_) (fun h26 => ?_)
      · refine z_aload_n (pc := 31) O dX8_person_31 rfl ?_
        refine z_getR (pc := 32) 9 O fl_X8_37 rfl (jo_2 I.1) (jr_2_8 I.1) dX8_person_32 ?_
        refine z_iload_n (pc := 35) O dX8_person_35 rfl ?_
        refine z_iload_n (pc := 36) O dX8_person_36 rfl ?_
        refine z_iload_n (pc := 37) O dX8_person_37 rfl ?_
        refine z_callV (pc := 38) O cl_X8_122 (k3_add _ _ f (by omega) m (by omega) p (by omega) I.1 (by omega)) (by decide) (jo_9 I.1) kc_3 rfl rfl (Nat.le_of_ble_eq_true rfl) ⟨Nat.zero_le _, Nat.zero_le _⟩ dX8_person_38 (fun r τ7 hp => ?_)
        obtain ⟨z8, rfl, fτ7_0, fτ7_1, frτ7, eτ7_0, eτ7_1⟩ := hp
        refine z_iret (pc := 41) O dX8_person_41 ?_
        exact ⟨z8, rfl, (by omega), (by omega), frτ7, (InvX.fr frτ7 I (by unfold InvX1; have : gI τ7 2 1 = gI σ 2 1 := gI_iz (Fr.it frτ7 rfl (izg σ 2 1)) (rgI _ _ _); have : gI τ7 16 4 = gI σ 16 4 := gI_iz (Fr.it frτ7 rfl (izg σ 16 4)) (rgI _ _ _); have : gI τ7 21 4 = gI σ 21 4 := gI_iz (Fr.it frτ7 rfl (izg σ 21 4)) (rgI _ _ _); have : gI τ7 2 12 = gI σ 2 12 := gI_iz (Fr.it frτ7 rfl (izg σ 2 12)) (rgI _ _ _); have : gI τ7 27 3 = gI σ 27 3 := gI_iz (Fr.it frτ7 rfl (izg σ 27 3)) (rgI _ _ _); have : gI τ7 2 15 = gI σ 2 15 := gI_iz (Fr.it frτ7 rfl (izg σ 2 15)) (rgI _ _ _); have : gI τ7 2 7 = gI σ 2 7 := gI_iz (Fr.it frτ7 rfl (izg σ 2 7)) (rgI _ _ _); omega) (fun _ => rfl)), (by omega)⟩
      · refine z_iconst (pc := 29) (v := iz (-1)) O dX8_person_29 (by decide) ?_
        refine z_iret (pc := 30) O dX8_person_30 ?_
        exact ⟨(-1), rfl, (by decide), (by omega), (Fr.rf [(10, 99999), (11, 99999), (12, 99999), (13, 99999), (9, 7)] σ), I, (by omega)⟩
