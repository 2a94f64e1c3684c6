set_option maxHeartbeats 4000000 in
set_option maxRecDepth 20000 in
theorem k9_hurtOf (l : Launch) (σ : VH) (b : Int) (rb : (-2147483648 ≤ b ∧ b < 2147483648)) (v : Int64) (J : Lay σ) (hb : 0 ≤ b ∧ b < 17) (hh : 0 ≤ gI σ 39 (b.toNat) ∧ gI σ 39 (b.toNat) ≤ 12) : Ct l yX9_hurtOf cX9_hurtOf 5 (some .int) 0 0 0 [.ref 33, .int (iz b), .long v] σ (fun r τ => ∃ z : Int, r = some (.int (iz z)) ∧ (-2147483648 ≤ z ∧ z < 2147483648) ∧ (z = -1 ∨ (12 * b ≤ z ∧ z < 12 * b + 12)) ∧ (σ = τ)) := by
  refine Ct.enter rfl (Nat.le_of_ble_eq_true rfl) ?_
  intro κ γ hκ O hrc hrs
  subst hκ
  refine z_iconst (pc := 0) (v := iz (0)) O dX9_hurtOf_0 (by decide) ?_
  refine z_istore (pc := 1) [(0, .ref 33), (1, .int (iz b)), (2, .long v), (4, .int (iz 0))] O dX9_hurtOf_1 (by decide) rfl ?_
  have cut3 : ∀ (mu3 : Nat) (k : Int), (mu3 = (12 - k).toNat) → (-2147483648 ≤ k ∧ k < 2147483648) → (0 ≤ k ∧ k ≤ 12) → Z κ γ 5 σ 0 0 (QM κ γ (fun r τ => ∃ z : Int, r = some (.int (iz z)) ∧ (-2147483648 ≤ z ∧ z < 2147483648) ∧ (z = -1 ∨ (12 * b ≤ z ∧ z < 12 * b + 12)) ∧ (σ = τ)) 0 0) 3 [(0, .ref 33), (1, .int (iz b)), (2, .long v), (4, .int (iz k))] [] := by
    intro mu3
    induction mu3 using Nat.strongRecOn with
    | ind mu3 ih3 =>
    intro k hmu3 rr3_0 ff3_0
    refine z_iload (pc := 3) O dX9_hurtOf_3 rfl ?_
    refine z_aload_n (pc := 5) O dX9_hurtOf_5 rfl ?_
    refine z_getR (pc := 6) 39 O fl_X9_30 rfl (jo_33 J) (jr_33_15 J) dX9_hurtOf_6 ?_
    refine z_iload_n (pc := 9) O dX9_hurtOf_9 rfl ?_
    refine zi_ialdv (pc := 10) (b.toNat) (gI σ 39 (b.toNat)) O (ja_39 J) (by omega) (by omega) (by omega) (izg σ 39 (b.toNat)) dX9_hurtOf_10 ?_
    have := rgI σ 39 (b.toNat)
    refine zi_icmp_ge (pc := 11) (tgt := 45) O dX9_hurtOf_11 (by decide) (by omega) (by omega) (fun h11 => ?_) (fun h11 => ?_)
    · refine z_iconst (pc := 45) (v := iz (-1)) O dX9_hurtOf_45 (by decide) ?_
      refine z_iret (pc := 46) O dX9_hurtOf_46 ?_
      exact ⟨(-1), rfl, (by decide), (by omega), rfl⟩
    · refine z_aload_n (pc := 14) O dX9_hurtOf_14 rfl ?_
      refine z_getR (pc := 15) 53 O fl_X9_72 rfl (jo_33 J) (jr_33_29 J) dX9_hurtOf_15 ?_
      refine z_bipush (pc := 18) (v := iz (12)) O dX9_hurtOf_18 (by decide) ?_
      refine z_iload_n (pc := 20) O dX9_hurtOf_20 rfl ?_
      refine zi_imul (pc := 21) O dX9_hurtOf_21 ?_
      refine z_iload (pc := 22) O dX9_hurtOf_22 rfl ?_
      refine zi_iadd (pc := 24) O dX9_hurtOf_24 ?_
      refine zi_lald (pc := 25) (((12 * b) + k).toNat) O (Or.inl (ja_53 J)) (by omega) (by omega) (by omega) dX9_hurtOf_25 ?_
      refine z_lload_n (pc := 26) O dX9_hurtOf_26 rfl ?_
      refine z_lcmp (pc := 27) O dX9_hurtOf_27 ?_
      refine zi_lc_ne (pc := 28) (tgt := 39) O dX9_hurtOf_28 (by decide) (fun h28 => ?_) (fun h28 => ?_)
      · refine zi_iinc (pc := 39) (k + 1) [(0, .ref 33), (1, .int (iz b)), (2, .long v), (4, .int (iz (k + 1)))] O dX9_hurtOf_39 rfl (by omega) (by decide) rfl ?_
        refine z_goto (pc := 42) (tgt := 3) O dX9_hurtOf_42 (by decide) ?_
        refine z_lk [(0, .ref 33), (1, .int (iz b)), (2, .long v), (4, .int (iz (k + 1)))] ⟨rfl, rfl, rfl, rfl, trivial⟩ ?_
        exact ih3 _ (by omega) (k + 1) rfl (by omega) (by omega)
      · refine z_bipush (pc := 31) (v := iz (12)) O dX9_hurtOf_31 (by decide) ?_
        refine z_iload_n (pc := 33) O dX9_hurtOf_33 rfl ?_
        refine zi_imul (pc := 34) O dX9_hurtOf_34 ?_
        refine z_iload (pc := 35) O dX9_hurtOf_35 rfl ?_
        refine zi_iadd (pc := 37) O dX9_hurtOf_37 ?_
        refine z_iret (pc := 38) O dX9_hurtOf_38 ?_
        exact ⟨((12 * b) + k), rfl, (by omega), (by omega), rfl⟩
  refine z_lk [(0, .ref 33), (1, .int (iz b)), (2, .long v), (4, .int (iz 0))] ⟨rfl, rfl, rfl, rfl, trivial⟩ ?_
  exact cut3 _ 0 rfl (by omega) (by omega)
set_option maxHeartbeats 4000000 in
set_option maxRecDepth 20000 in
theorem k9_wider (l : Launch) (σ : VH) (s : Int) (rs : (-2147483648 ≤ s ∧ s < 2147483648)) (J : Lay σ) (hpe : 0 ≤ gI σ 33 52 ∧ gI σ 33 52 ≤ 20) : Ct l yX9_wider cX9_wider 5 (some .int) 0 0 0 [.ref 33, .int (iz s)] σ (fun r τ => ∃ z : Int, r = some (.int (iz z)) ∧ (-2147483648 ≤ z ∧ z < 2147483648) ∧ (σ = τ)) := by
  refine Ct.enter rfl (Nat.le_of_ble_eq_true rfl) ?_
  intro κ γ hκ O hrc hrs
  subst hκ
  refine z_iload_n (pc := 0) O dX9_wider_0 rfl ?_
  refine z_istore_n (pc := 1) [(0, .ref 33), (1, .int (iz s)), (2, .int (iz s))] O dX9_wider_1 (by decide) rfl ?_
  refine z_iconst (pc := 2) (v := iz (0)) O dX9_wider_2 (by decide) ?_
  refine z_istore_n (pc := 3) [(0, .ref 33), (1, .int (iz s)), (2, .int (iz s)), (3, .int (iz 0))] O dX9_wider_3 (by decide) rfl ?_
  have cut4 : ∀ (mu4 : Nat) (m : Int) (k : Int), (mu4 = (gI σ 33 52 - k).toNat) → (-2147483648 ≤ m ∧ m < 2147483648) → (-2147483648 ≤ k ∧ k < 2147483648) → (0 ≤ k ∧ k ≤ gI σ 33 52) → Z κ γ 5 σ 0 0 (QM κ γ (fun r τ => ∃ z : Int, r = some (.int (iz z)) ∧ (-2147483648 ≤ z ∧ z < 2147483648) ∧ (σ = τ)) 0 0) 4 [(0, .ref 33), (1, .int (iz s)), (2, .int (iz m)), (3, .int (iz k))] [] := by
    intro mu4
    induction mu4 using Nat.strongRecOn with
    | ind mu4 ih4 =>
    intro m k hmu4 rr4_0 rr4_1 ff4_0
    refine z_iload_n (pc := 4) O dX9_wider_4 rfl ?_
    refine z_aload_n (pc := 5) O dX9_wider_5 rfl ?_
    refine zi_getv (pc := 6) (gI σ 33 52) O fl_X9_353 rfl (jo_33 J) (izg σ 33 52) dX9_wider_6 ?_
    have := rgI σ 33 52
    refine zi_icmp_ge (pc := 9) (tgt := 90) O dX9_wider_9 (by decide) (by omega) (by omega) (fun h9 => ?_) (fun h9 => ?_)
    · refine z_iload_n (pc := 90) O dX9_wider_90 rfl ?_
      refine z_iret (pc := 91) O dX9_wider_91 ?_
      exact ⟨m, rfl, (by omega), rfl⟩
    · have cut33 : ∀ (x1 : Int), (-2147483648 ≤ x1 ∧ x1 < 2147483648) → Z κ γ 5 σ 0 0 (QM κ γ (fun r τ => ∃ z : Int, r = some (.int (iz z)) ∧ (-2147483648 ≤ z ∧ z < 2147483648) ∧ (σ = τ)) 0 0) 33 [(0, .ref 33), (1, .int (iz s)), (2, .int (iz m)), (3, .int (iz k))] [.int (iz x1)] := by
        intro x1 rr33_0
        have cut54 : ∀ (x2 : Int), (-2147483648 ≤ x2 ∧ x2 < 2147483648) → Z κ γ 5 σ 0 0 (QM κ γ (fun r τ => ∃ z : Int, r = some (.int (iz z)) ∧ (-2147483648 ≤ z ∧ z < 2147483648) ∧ (σ = τ)) 0 0) 54 [(0, .ref 33), (1, .int (iz s)), (2, .int (iz m)), (3, .int (iz k))] [.int (iz x2), .int (iz x1)] := by
          intro x2 rr54_0
          refine z_ior (pc := 54) O dX9_wider_54 ?_
          refine zi_any (fun z1 rz1 ez1 => ?_)
          refine z_istore (pc := 55) [(0, .ref 33), (1, .int (iz s)), (2, .int (iz m)), (3, .int (iz k)), (4, .int (iz z1))] O dX9_wider_55 (by decide) rfl ?_
          have cut71 : ∀ (m1 : Int), (-2147483648 ≤ m1 ∧ m1 < 2147483648) → Z κ γ 5 σ 0 0 (QM κ γ (fun r τ => ∃ z : Int, r = some (.int (iz z)) ∧ (-2147483648 ≤ z ∧ z < 2147483648) ∧ (σ = τ)) 0 0) 71 [(0, .ref 33), (1, .int (iz s)), (2, .int (iz m1)), (3, .int (iz k)), (4, .int (iz z1))] [] := by
            intro m1 rr71_0
            have cut84 : ∀ (m2 : Int), (-2147483648 ≤ m2 ∧ m2 < 2147483648) → Z κ γ 5 σ 0 0 (QM κ γ (fun r τ => ∃ z : Int, r = some (.int (iz z)) ∧ (-2147483648 ≤ z ∧ z < 2147483648) ∧ (σ = τ)) 0 0) 84 [(0, .ref 33), (1, .int (iz s)), (2, .int (iz m2)), (3, .int (iz k)), (4, .int (iz z1))] [] := by
              intro m2 rr84_0
              refine zi_iinc (pc := 84) (k + 1) [(0, .ref 33), (1, .int (iz s)), (2, .int (iz m2)), (3, .int (iz (k + 1))), (4, .int (iz z1))] O dX9_wider_84 rfl (by omega) (by decide) rfl ?_
              refine z_goto (pc := 87) (tgt := 4) O dX9_wider_87 (by decide) ?_
              refine z_lk [(0, .ref 33), (1, .int (iz s)), (2, .int (iz m2)), (3, .int (iz (k + 1)))] ⟨rfl, rfl, rfl, rfl, trivial⟩ ?_
              exact ih4 _ (by omega) m2 (k + 1) rfl (by omega) (by omega) (by omega)
            refine z_iload_n (pc := 71) O dX9_wider_71 rfl ?_
            refine z_iload (pc := 72) O dX9_wider_72 rfl ?_
            refine z_iand (pc := 74) O dX9_wider_74 ?_
            refine zi_any (fun z2 rz2 ez2 => ?_)
            refine zi_if_eq (pc := 75) (tgt := 84) O dX9_wider_75 (by decide) (by omega) (fun h75 => ?_) (fun h75 => ?_)
            · refine z_lk [(0, .ref 33), (1, .int (iz s)), (2, .int (iz m1)), (3, .int (iz k)), (4, .int (iz z1))] ⟨rfl, rfl, rfl, rfl, rfl, trivial⟩ ?_
              exact cut84 m1 (by omega)
            · refine z_iload_n (pc := 78) O dX9_wider_78 rfl ?_
              refine z_iconst (pc := 79) (v := iz (1)) O dX9_wider_79 (by decide) ?_
              refine z_iload_n (pc := 80) O dX9_wider_80 rfl ?_
              refine z_ishl (pc := 81) O dX9_wider_81 ?_
              refine zi_any (fun z3 rz3 ez3 => ?_)
              refine z_ior (pc := 82) O dX9_wider_82 ?_
              refine zi_any (fun z4 rz4 ez4 => ?_)
              refine z_istore_n (pc := 83) [(0, .ref 33), (1, .int (iz s)), (2, .int (iz z4)), (3, .int (iz k)), (4, .int (iz z1))] O dX9_wider_83 (by decide) rfl ?_
              refine z_lk [(0, .ref 33), (1, .int (iz s)), (2, .int (iz z4)), (3, .int (iz k)), (4, .int (iz z1))] ⟨rfl, rfl, rfl, rfl, rfl, trivial⟩ ?_
              exact cut84 z4 (by omega)
          refine z_iload_n (pc := 57) O dX9_wider_57 rfl ?_
          refine z_iload_n (pc := 58) O dX9_wider_58 rfl ?_
          refine z_ishr (pc := 59) O dX9_wider_59 ?_
          refine zi_any (fun z5 rz5 ez5 => ?_)
          refine z_iconst (pc := 60) (v := iz (1)) O dX9_wider_60 (by decide) ?_
          refine z_iand (pc := 61) O dX9_wider_61 ?_
          refine zi_any (fun z6 rz6 ez6 => ?_)
          refine z_iconst (pc := 62) (v := iz (1)) O dX9_wider_62 (by decide) ?_
          refine zi_icmp_ne (pc := 63) (tgt := 71) O dX9_wider_63 (by decide) (by omega) (by decide) (fun h63 => ?_) (fun h63 => ?_)
          · refine z_lk [(0, .ref 33), (1, .int (iz s)), (2, .int (iz m)), (3, .int (iz k)), (4, .int (iz z1))] ⟨rfl, rfl, rfl, rfl, rfl, trivial⟩ ?_
            exact cut71 m (by omega)
          · refine z_iload_n (pc := 66) O dX9_wider_66 rfl ?_
            refine z_iload (pc := 67) O dX9_wider_67 rfl ?_
            refine z_ior (pc := 69) O dX9_wider_69 ?_
            refine zi_any (fun z7 rz7 ez7 => ?_)
            refine z_istore_n (pc := 70) [(0, .ref 33), (1, .int (iz s)), (2, .int (iz z7)), (3, .int (iz k)), (4, .int (iz z1))] O dX9_wider_70 (by decide) rfl ?_
            refine z_lk [(0, .ref 33), (1, .int (iz s)), (2, .int (iz z7)), (3, .int (iz k)), (4, .int (iz z1))] ⟨rfl, rfl, rfl, rfl, rfl, trivial⟩ ?_
            exact cut71 z7 (by omega)
        refine z_aload_n (pc := 33) O dX9_wider_33 rfl ?_
        refine z_getR (pc := 34) 60 O fl_X9_95 rfl (jo_33 J) (jr_33_42 J) dX9_wider_34 ?_
        refine z_iload_n (pc := 37) O dX9_wider_37 rfl ?_
        refine zi_ialdv (pc := 38) (k.toNat) (gI σ 60 (k.toNat)) O (ja_60 J) (by omega) (by omega) (by omega) (izg σ 60 (k.toNat)) dX9_wider_38 ?_
        have := rgI σ 60 (k.toNat)
        refine zi_if_ge (pc := 39) (tgt := 46) O dX9_wider_39 (by decide) (by omega) (fun h39 => ?_) (fun h39 => ?_)
        · refine z_iconst (pc := 46) (v := iz (1)) O dX9_wider_46 (by decide) ?_
          refine z_aload_n (pc := 47) O dX9_wider_47 rfl ?_
          refine z_getR (pc := 48) 60 O fl_X9_95 rfl (jo_33 J) (jr_33_42 J) dX9_wider_48 ?_
          refine z_iload_n (pc := 51) O dX9_wider_51 rfl ?_
          refine zi_ialdv (pc := 52) (k.toNat) (gI σ 60 (k.toNat)) O (ja_60 J) (by omega) (by omega) (by omega) (izg σ 60 (k.toNat)) dX9_wider_52 ?_
          refine z_ishl (pc := 53) O dX9_wider_53 ?_
          refine zi_any (fun z8 rz8 ez8 => ?_)
          refine z_lk [(0, .ref 33), (1, .int (iz s)), (2, .int (iz m)), (3, .int (iz k))] ⟨rfl, rfl, rfl, rfl, trivial⟩ ?_
          exact cut54 z8 (by omega)
        · refine z_iconst (pc := 42) (v := iz (0)) O dX9_wider_42 (by decide) ?_
          refine z_goto (pc := 43) (tgt := 54) O dX9_wider_43 (by decide) ?_
          refine z_lk [(0, .ref 33), (1, .int (iz s)), (2, .int (iz m)), (3, .int (iz k))] ⟨rfl, rfl, rfl, rfl, trivial⟩ ?_
          exact cut54 0 (by omega)
      refine z_aload_n (pc := 12) O dX9_wider_12 rfl ?_
      refine z_getR (pc := 13) 59 O fl_X9_92 rfl (jo_33 J) (jr_33_41 J) dX9_wider_13 ?_
      refine z_iload_n (pc := 16) O dX9_wider_16 rfl ?_
      refine zi_ialdv (pc := 17) (k.toNat) (gI σ 59 (k.toNat)) O (ja_59 J) (by omega) (by omega) (by omega) (izg σ 59 (k.toNat)) dX9_wider_17 ?_
      have := rgI σ 59 (k.toNat)
      refine zi_if_ge (pc := 18) (tgt := 25) O dX9_wider_18 (by decide) (by omega) (fun h18 => ?_) (fun h18 => ?_)
      · refine z_iconst (pc := 25) (v := iz (1)) O dX9_wider_25 (by decide) ?_
        refine z_aload_n (pc := 26) O dX9_wider_26 rfl ?_
        refine z_getR (pc := 27) 59 O fl_X9_92 rfl (jo_33 J) (jr_33_41 J) dX9_wider_27 ?_
        refine z_iload_n (pc := 30) O dX9_wider_30 rfl ?_
        refine zi_ialdv (pc := 31) (k.toNat) (gI σ 59 (k.toNat)) O (ja_59 J) (by omega) (by omega) (by omega) (izg σ 59 (k.toNat)) dX9_wider_31 ?_
        refine z_ishl (pc := 32) O dX9_wider_32 ?_
        refine zi_any (fun z9 rz9 ez9 => ?_)
        refine z_lk [(0, .ref 33), (1, .int (iz s)), (2, .int (iz m)), (3, .int (iz k))] ⟨rfl, rfl, rfl, rfl, trivial⟩ ?_
        exact cut33 z9 (by omega)
      · refine z_iconst (pc := 21) (v := iz (0)) O dX9_wider_21 (by decide) ?_
        refine z_goto (pc := 22) (tgt := 33) O dX9_wider_22 (by decide) ?_
        refine z_lk [(0, .ref 33), (1, .int (iz s)), (2, .int (iz m)), (3, .int (iz k))] ⟨rfl, rfl, rfl, rfl, trivial⟩ ?_
        exact cut33 0 (by omega)
  refine z_lk [(0, .ref 33), (1, .int (iz s)), (2, .int (iz s)), (3, .int (iz 0))] ⟨rfl, rfl, rfl, rfl, trivial⟩ ?_
  exact cut4 _ s 0 rfl (by omega) (by omega) (by omega)
set_option maxHeartbeats 4000000 in
set_option maxRecDepth 20000 in
theorem k9_degree (l : Launch) (σ : VH) (a : Int) (ra : (-2147483648 ≤ a ∧ a < 2147483648)) (b : Int) (rb : (-2147483648 ≤ b ∧ b < 2147483648)) (J : Lay σ) (hpe : 0 ≤ gI σ 33 52 ∧ gI σ 33 52 ≤ 20) : Ct l yX9_degree cX9_degree 5 (some .int) 1 0 0 [.ref 33, .int (iz a), .int (iz b)] σ (fun r τ => ∃ z : Int, r = some (.int (iz z)) ∧ (-2147483648 ≤ z ∧ z < 2147483648) ∧ (-1 ≤ z ∧ z ≤ 20) ∧ (σ = τ)) := by
  refine Ct.enter rfl (Nat.le_of_ble_eq_true rfl) ?_
  intro κ γ hκ O hrc hrs
  subst hκ
  refine z_aload_n (pc := 0) O dX9_degree_0 rfl ?_
  refine z_iload_n (pc := 1) O dX9_degree_1 rfl ?_
  refine z_callV (pc := 2) O cl_X9_356 (k9_isPerson _ _ a (by omega) J) (by decide) (jo_33 J) kc_9 rfl rfl (Nat.le_of_ble_eq_true rfl) ⟨Nat.zero_le _, Nat.zero_le _⟩ dX9_degree_2 (fun r τ1 hp => ?_)
  obtain ⟨z2, rfl, fτ1_0, fτ1_1, rfl⟩ := hp
  refine zi_if_eq (pc := 5) (tgt := 16) O dX9_degree_5 (by decide) (by omega) (fun h5 => ?_) (fun h5 => ?_)
  · refine z_iconst (pc := 16) (v := iz (-1)) O dX9_degree_16 (by decide) ?_
    refine z_iret (pc := 17) O dX9_degree_17 ?_
    exact ⟨(-1), rfl, (by decide), (by omega), rfl⟩
  · refine z_aload_n (pc := 8) O dX9_degree_8 rfl ?_
    refine z_iload_n (pc := 9) O dX9_degree_9 rfl ?_
    refine z_callV (pc := 10) O cl_X9_356 (k9_isPerson _ _ b (by omega) J) (by decide) (jo_33 J) kc_9 rfl rfl (Nat.le_of_ble_eq_true rfl) ⟨Nat.zero_le _, Nat.zero_le _⟩ dX9_degree_10 (fun r τ3 hp => ?_)
    obtain ⟨z4, rfl, fτ3_0, fτ3_1, rfl⟩ := hp
    refine zi_if_ne (pc := 13) (tgt := 18) O dX9_degree_13 (by decide) (by omega) (fun h13 => ?_) (fun h13 => ?_)
    · refine z_iconst (pc := 18) (v := iz (1)) O dX9_degree_18 (by decide) ?_
      refine z_iload_n (pc := 19) O dX9_degree_19 rfl ?_
      refine z_ishl (pc := 20) O dX9_degree_20 ?_
      refine zi_any (fun z5 rz5 ez5 => ?_)
      refine z_istore_n (pc := 21) [(0, .ref 33), (1, .int (iz a)), (2, .int (iz b)), (3, .int (iz z5))] O dX9_degree_21 (by decide) rfl ?_
      refine z_iconst (pc := 22) (v := iz (0)) O dX9_degree_22 (by decide) ?_
      refine z_istore (pc := 23) [(0, .ref 33), (1, .int (iz a)), (2, .int (iz b)), (3, .int (iz z5)), (4, .int (iz 0))] O dX9_degree_23 (by decide) rfl ?_
      have cut25 : ∀ (mu25 : Nat) (s : Int) (k : Int), (mu25 = (gI σ 33 52 + 1 - k).toNat) → (-2147483648 ≤ s ∧ s < 2147483648) → (-2147483648 ≤ k ∧ k < 2147483648) → (0 ≤ k ∧ k ≤ gI σ 33 52 + 1) → Z κ γ 5 σ 0 0 (QM κ γ (fun r τ => ∃ z : Int, r = some (.int (iz z)) ∧ (-2147483648 ≤ z ∧ z < 2147483648) ∧ (-1 ≤ z ∧ z ≤ 20) ∧ (σ = τ)) 0 0) 25 [(0, .ref 33), (1, .int (iz a)), (2, .int (iz b)), (3, .int (iz s)), (4, .int (iz k))] [] := by
        intro mu25
        induction mu25 using Nat.strongRecOn with
        | ind mu25 ih25 =>
        intro s k hmu25 rr25_0 rr25_1 ff25_0
        refine z_iload (pc := 25) O dX9_degree_25 rfl ?_
        refine z_aload_n (pc := 27) O dX9_degree_27 rfl ?_
        refine zi_getv (pc := 28) (gI σ 33 52) O fl_X9_353 rfl (jo_33 J) (izg σ 33 52) dX9_degree_28 ?_
        have := rgI σ 33 52
        refine zi_icmp_gt (pc := 31) (tgt := 58) O dX9_degree_31 (by decide) (by omega) (by omega) (fun h31 => ?_) (fun h31 => ?_)
        · refine z_iconst (pc := 58) (v := iz (-1)) O dX9_degree_58 (by decide) ?_
          refine z_iret (pc := 59) O dX9_degree_59 ?_
          exact ⟨(-1), rfl, (by decide), (by omega), rfl⟩
        · refine z_iload_n (pc := 34) O dX9_degree_34 rfl ?_
          refine z_iload_n (pc := 35) O dX9_degree_35 rfl ?_
          refine z_ishr (pc := 36) O dX9_degree_36 ?_
          refine zi_any (fun z6 rz6 ez6 => ?_)
          refine z_iconst (pc := 37) (v := iz (1)) O dX9_degree_37 (by decide) ?_
          refine z_iand (pc := 38) O dX9_degree_38 ?_
          refine zi_any (fun z7 rz7 ez7 => ?_)
          refine z_iconst (pc := 39) (v := iz (1)) O dX9_degree_39 (by decide) ?_
          refine zi_icmp_ne (pc := 40) (tgt := 46) O dX9_degree_40 (by decide) (by omega) (by decide) (fun h40 => ?_) (fun h40 => ?_)
          · refine z_aload_n (pc := 46) O dX9_degree_46 rfl ?_
            refine z_iload_n (pc := 47) O dX9_degree_47 rfl ?_
            refine z_callV (pc := 48) O cl_X9_359 (k9_wider _ _ s (by omega) J (by omega)) (by decide) (jo_33 J) kc_9 rfl rfl (Nat.le_of_ble_eq_true rfl) ⟨Nat.zero_le _, Nat.zero_le _⟩ dX9_degree_48 (fun r τ8 hp => ?_)
            obtain ⟨z9, rfl, fτ8_0, rfl⟩ := hp
            refine z_istore_n (pc := 51) [(0, .ref 33), (1, .int (iz a)), (2, .int (iz b)), (3, .int (iz z9)), (4, .int (iz k))] O dX9_degree_51 (by decide) rfl ?_
            refine zi_iinc (pc := 52) (k + 1) [(0, .ref 33), (1, .int (iz a)), (2, .int (iz b)), (3, .int (iz z9)), (4, .int (iz (k + 1)))] O dX9_degree_52 rfl (by omega) (by decide) rfl ?_
            refine z_goto (pc := 55) (tgt := 25) O dX9_degree_55 (by decide) ?_
            refine z_lk [(0, .ref 33), (1, .int (iz a)), (2, .int (iz b)), (3, .int (iz z9)), (4, .int (iz (k + 1)))] ⟨rfl, rfl, rfl, rfl, rfl, trivial⟩ ?_
            exact ih25 _ (by omega) z9 (k + 1) rfl (by omega) (by omega) (by omega)
          · refine z_iload (pc := 43) O dX9_degree_43 rfl ?_
            refine z_iret (pc := 45) O dX9_degree_45 ?_
            exact ⟨k, rfl, (by omega), (by omega), rfl⟩
      refine z_lk [(0, .ref 33), (1, .int (iz a)), (2, .int (iz b)), (3, .int (iz z5)), (4, .int (iz 0))] ⟨rfl, rfl, rfl, rfl, rfl, trivial⟩ ?_
      exact cut25 _ z5 0 rfl (by omega) (by omega) (by omega)
    · refine z_iconst (pc := 16) (v := iz (-1)) O dX9_degree_16 (by decide) ?_
      refine z_iret (pc := 17) O dX9_degree_17 ?_
      exact ⟨(-1), rfl, (by decide), (by omega), rfl⟩
