set_option maxHeartbeats 4000000 in
set_option maxRecDepth 20000 in
theorem k9_wider2 (l : Launch) (σ : VH) (s : Int) (rs : (-2147483648 ≤ s ∧ s < 2147483648)) (J : Lay σ) (hpe : 0 ≤ gI σ 33 52 ∧ gI σ 33 52 ≤ 20) (hbd : BD (gI σ 33 52) (gI σ 59) (gI σ 60)) : Ct l yX9_wider cX9_wider 5 (some .int) 0 0 0 [.ref 33, .int (iz s)] σ (fun r τ => ∃ z : Int, r = some (.int (iz z)) ∧ (-2147483648 ≤ z ∧ z < 2147483648) ∧ (WdB (gI σ 33 52) (gI σ 59) (gI σ 60) (iz s) (iz z)) ∧ (σ = τ)) := by
  refine Ct.enter rfl (Nat.le_of_ble_eq_true rfl) ?_
  intro κ γ hκ O hrc hrs
  subst hκ
  refine z_iload_n (pc := 0) O dX9_wider_0 rfl ?_
  refine z_istore_n (pc := 1) [(0, .ref 33), (1, .int (iz s)), (2, .int (iz s))] O dX9_wider_1 (by decide) rfl ?_
  refine z_iconst (pc := 2) (v := iz (0)) O dX9_wider_2 (by decide) ?_
  refine z_istore_n (pc := 3) [(0, .ref 33), (1, .int (iz s)), (2, .int (iz s)), (3, .int (iz 0))] O dX9_wider_3 (by decide) rfl ?_
  have cut4 : ∀ (mu4 : Nat) (m : Int) (k : Int), (mu4 = (gI σ 33 52 - k).toNat) → (-2147483648 ≤ m ∧ m < 2147483648) → (-2147483648 ≤ k ∧ k < 2147483648) → (0 ≤ k ∧ k ≤ gI σ 33 52) → (WdB k (gI σ 59) (gI σ 60) (iz s) (iz m)) → Z κ γ 5 σ 0 0 (QM κ γ (fun r τ => ∃ z : Int, r = some (.int (iz z)) ∧ (-2147483648 ≤ z ∧ z < 2147483648) ∧ (WdB (gI σ 33 52) (gI σ 59) (gI σ 60) (iz s) (iz z)) ∧ (σ = τ)) 0 0) 4 [(0, .ref 33), (1, .int (iz s)), (2, .int (iz m)), (3, .int (iz k))] [] := by
    intro mu4
    induction mu4 using Nat.strongRecOn with
    | ind mu4 ih4 =>
    intro m k hmu4 rr4_0 rr4_1 ff4_0 ff4_1
    refine z_iload_n (pc := 4) O dX9_wider_4 rfl ?_
    refine z_aload_n (pc := 5) O dX9_wider_5 rfl ?_
    refine zi_getv (pc := 6) (gI σ 33 52) O fl_X9_353 rfl (jo_33 J) (izg σ 33 52) dX9_wider_6 ?_
    have := rgI σ 33 52
    refine zi_icmp_ge (pc := 9) (tgt := 90) O dX9_wider_9 (by decide) (by omega) (by omega) (fun h9 => ?_) (fun h9 => ?_)
    · refine z_iload_n (pc := 90) O dX9_wider_90 rfl ?_
      refine z_iret (pc := 91) O dX9_wider_91 ?_
      exact ⟨m, rfl, (by omega), ((show k = gI σ 33 52 by omega) ▸ ff4_1), rfl⟩
    · have cut33 : ∀ (x1 : Int), (-2147483648 ≤ x1 ∧ x1 < 2147483648) → (UB (gI σ 59 (k.toNat)) (iz x1)) → Z κ γ 5 σ 0 0 (QM κ γ (fun r τ => ∃ z : Int, r = some (.int (iz z)) ∧ (-2147483648 ≤ z ∧ z < 2147483648) ∧ (WdB (gI σ 33 52) (gI σ 59) (gI σ 60) (iz s) (iz z)) ∧ (σ = τ)) 0 0) 33 [(0, .ref 33), (1, .int (iz s)), (2, .int (iz m)), (3, .int (iz k))] [.int (iz x1)] := by
        intro x1 rr33_0 ff33_0
        have cut54 : ∀ (x2 : Int), (-2147483648 ≤ x2 ∧ x2 < 2147483648) → (UB (gI σ 60 (k.toNat)) (iz x2)) → Z κ γ 5 σ 0 0 (QM κ γ (fun r τ => ∃ z : Int, r = some (.int (iz z)) ∧ (-2147483648 ≤ z ∧ z < 2147483648) ∧ (WdB (gI σ 33 52) (gI σ 59) (gI σ 60) (iz s) (iz z)) ∧ (σ = τ)) 0 0) 54 [(0, .ref 33), (1, .int (iz s)), (2, .int (iz m)), (3, .int (iz k))] [.int (iz x2), .int (iz x1)] := by
          intro x2 rr54_0 ff54_0
          refine z_ior (pc := 54) O dX9_wider_54 ?_
          refine zi_any (fun z1 rz1 ez1 => ?_)
          have hb54 := ub_or ff33_0 ff54_0 ez1
          refine z_istore (pc := 55) [(0, .ref 33), (1, .int (iz s)), (2, .int (iz m)), (3, .int (iz k)), (4, .int (iz z1))] O dX9_wider_55 (by decide) rfl ?_
          have cut71 : ∀ (m1 : Int), (-2147483648 ≤ m1 ∧ m1 < 2147483648) → (∀ q : Nat, q < 32 → (bt (iz m1) q = true ↔ (bt (iz m) q = true ∨ (bt (iz s) k.toNat = true ∧ bt (iz z1) q = true)))) → Z κ γ 5 σ 0 0 (QM κ γ (fun r τ => ∃ z : Int, r = some (.int (iz z)) ∧ (-2147483648 ≤ z ∧ z < 2147483648) ∧ (WdB (gI σ 33 52) (gI σ 59) (gI σ 60) (iz s) (iz z)) ∧ (σ = τ)) 0 0) 71 [(0, .ref 33), (1, .int (iz s)), (2, .int (iz m1)), (3, .int (iz k)), (4, .int (iz z1))] [] := by
            intro m1 rr71_0 ff71_0
            have cut84 : ∀ (m2 : Int), (-2147483648 ≤ m2 ∧ m2 < 2147483648) → (∀ q : Nat, q < 32 → (bt (iz m2) q = true ↔ (bt (iz m1) q = true ∨ ((q : Int) = k ∧ ∃ r : Nat, r < 32 ∧ bt (iz s) r = true ∧ bt (iz z1) r = true)))) → Z κ γ 5 σ 0 0 (QM κ γ (fun r τ => ∃ z : Int, r = some (.int (iz z)) ∧ (-2147483648 ≤ z ∧ z < 2147483648) ∧ (WdB (gI σ 33 52) (gI σ 59) (gI σ 60) (iz s) (iz z)) ∧ (σ = τ)) 0 0) 84 [(0, .ref 33), (1, .int (iz s)), (2, .int (iz m2)), (3, .int (iz k)), (4, .int (iz z1))] [] := by
              intro m2 rr84_0 ff84_0
              refine zi_iinc (pc := 84) (k + 1) [(0, .ref 33), (1, .int (iz s)), (2, .int (iz m2)), (3, .int (iz (k + 1))), (4, .int (iz z1))] O dX9_wider_84 rfl (by omega) (by decide) rfl ?_
              refine z_goto (pc := 87) (tgt := 4) O dX9_wider_87 (by decide) ?_
              refine z_lk [(0, .ref 33), (1, .int (iz s)), (2, .int (iz m2)), (3, .int (iz (k + 1)))] ⟨rfl, rfl, rfl, rfl, trivial⟩ ?_
              exact ih4 _ (by omega) m2 (k + 1) rfl (by omega) (by omega) (by omega) (WdB.step (by omega) ff4_1 hb54 ff71_0 ff84_0)
            refine z_iload_n (pc := 71) O dX9_wider_71 rfl ?_
            refine z_iload (pc := 72) O dX9_wider_72 rfl ?_
            refine z_iand (pc := 74) O dX9_wider_74 ?_
            refine zi_any (fun z2 rz2 ez2 => ?_)
            have hb74 := and0 (by omega) ez2
            refine zi_if_eq (pc := 75) (tgt := 84) O dX9_wider_75 (by decide) (by omega) (fun h75 => ?_) (fun h75 => ?_)
            · refine z_lk [(0, .ref 33), (1, .int (iz s)), (2, .int (iz m1)), (3, .int (iz k)), (4, .int (iz z1))] ⟨rfl, rfl, rfl, rfl, rfl, trivial⟩ ?_
              exact cut84 m1 (by omega) (fun q hq => ⟨Or.inl, fun h9 => h9.elim id (fun h8 => absurd h8.2 (hb74.mp h75))⟩)
            · refine z_iload_n (pc := 78) O dX9_wider_78 rfl ?_
              refine z_iconst (pc := 79) (v := iz (1)) O dX9_wider_79 (by decide) ?_
              refine z_iload_n (pc := 80) O dX9_wider_80 rfl ?_
              refine z_ishl (pc := 81) O dX9_wider_81 ?_
              refine zi_any (fun z3 rz3 ez3 => ?_)
              have hb81 : UB k (iz z3) := ub1 (by omega) ez3
              refine z_ior (pc := 82) O dX9_wider_82 ?_
              refine zi_any (fun z4 rz4 ez4 => ?_)
              refine z_istore_n (pc := 83) [(0, .ref 33), (1, .int (iz s)), (2, .int (iz z4)), (3, .int (iz k)), (4, .int (iz z1))] O dX9_wider_83 (by decide) rfl ?_
              refine z_lk [(0, .ref 33), (1, .int (iz s)), (2, .int (iz z4)), (3, .int (iz k)), (4, .int (iz z1))] ⟨rfl, rfl, rfl, rfl, rfl, trivial⟩ ?_
              exact cut84 z4 (by omega) (fun q hq => by rw [← ez4, b_or, Bool.or_eq_true, hb81 q hq]; exact ⟨fun h9 => h9.elim Or.inl (fun h8 => Or.inr ⟨h8.symm, Classical.byContradiction fun h7 => h75 (hb74.mpr h7)⟩), fun h9 => h9.elim Or.inl (fun h8 => Or.inr h8.1.symm)⟩)
          refine z_iload_n (pc := 57) O dX9_wider_57 rfl ?_
          refine z_iload_n (pc := 58) O dX9_wider_58 rfl ?_
          refine z_ishr (pc := 59) O dX9_wider_59 ?_
          refine zi_any (fun z5 rz5 ez5 => ?_)
          refine z_iconst (pc := 60) (v := iz (1)) O dX9_wider_60 (by decide) ?_
          refine z_iand (pc := 61) O dX9_wider_61 ?_
          refine zi_any (fun z6 rz6 ez6 => ?_)
          have hb61 : z6 = 1 ↔ bt (iz s) k.toNat = true := bit1 (by omega) (by omega) ez5 ez6
          refine z_iconst (pc := 62) (v := iz (1)) O dX9_wider_62 (by decide) ?_
          refine zi_icmp_ne (pc := 63) (tgt := 71) O dX9_wider_63 (by decide) (by omega) (by decide) (fun h63 => ?_) (fun h63 => ?_)
          · refine z_lk [(0, .ref 33), (1, .int (iz s)), (2, .int (iz m)), (3, .int (iz k)), (4, .int (iz z1))] ⟨rfl, rfl, rfl, rfl, rfl, trivial⟩ ?_
            exact cut71 m (by omega) (fun q hq => ⟨Or.inl, fun h9 => h9.elim id (fun h8 => absurd (hb61.mpr h8.1) h63)⟩)
          · refine z_iload_n (pc := 66) O dX9_wider_66 rfl ?_
            refine z_iload (pc := 67) O dX9_wider_67 rfl ?_
            refine z_ior (pc := 69) O dX9_wider_69 ?_
            refine zi_any (fun z7 rz7 ez7 => ?_)
            refine z_istore_n (pc := 70) [(0, .ref 33), (1, .int (iz s)), (2, .int (iz z7)), (3, .int (iz k)), (4, .int (iz z1))] O dX9_wider_70 (by decide) rfl ?_
            refine z_lk [(0, .ref 33), (1, .int (iz s)), (2, .int (iz z7)), (3, .int (iz k)), (4, .int (iz z1))] ⟨rfl, rfl, rfl, rfl, rfl, trivial⟩ ?_
            exact cut71 z7 (by omega) (fun q hq => by rw [← ez7, b_or, Bool.or_eq_true]; exact ⟨fun h9 => h9.elim Or.inl (fun h8 => Or.inr ⟨hb61.mp h63, h8⟩), fun h9 => h9.elim Or.inl (fun h8 => Or.inr h8.2)⟩)
        have hb9 := hbd k.toNat (by omega)
        refine z_aload_n (pc := 33) O dX9_wider_33 rfl ?_
        refine z_getR (pc := 34) 60 O fl_X9_95 rfl (jo_33 J) (jr_33_42 J) dX9_wider_34 ?_
        refine z_iload_n (pc := 37) O dX9_wider_37 rfl ?_
        refine zi_ialdv (pc := 38) (k.toNat) (gI σ 60 (k.toNat)) O (ja_60 J) (by omega) (by omega) (by omega) (izg σ 60 (k.toNat)) dX9_wider_38 ?_
        have := rgI σ 60 (k.toNat)
        refine zi_if_ge (pc := 39) (tgt := 46) O dX9_wider_39 (by decide) (by omega) (fun h39 => ?_) (fun h39 => ?_)
        · refine z_iconst (pc := 46) (v := iz (1)) O dX9_wider_46 (by decide) ?_
          refine z_aload_n (pc := 47) O dX9_wider_47 rfl ?_
          refine z_getR (pc := 48) 60 O fl_X9_95 rfl (jo_33 J) (jr_33_42 J) dX9_wider_48 ?_
          refine z_iload_n (pc := 51) O dX9_wider_51 rfl ?_
          refine zi_ialdv (pc := 52) (k.toNat) (gI σ 60 (k.toNat)) O (ja_60 J) (by omega) (by omega) (by omega) (izg σ 60 (k.toNat)) dX9_wider_52 ?_
          refine z_ishl (pc := 53) O dX9_wider_53 ?_
          refine zi_any (fun z8 rz8 ez8 => ?_)
          have hb53 : UB (gI σ 60 (k.toNat)) (iz z8) := ub1 (by omega) ez8
          refine z_lk [(0, .ref 33), (1, .int (iz s)), (2, .int (iz m)), (3, .int (iz k))] ⟨rfl, rfl, rfl, rfl, trivial⟩ ?_
          exact cut54 z8 (by omega) (by first | exact hb53 | exact ub0 (by omega))
        · refine z_iconst (pc := 42) (v := iz (0)) O dX9_wider_42 (by decide) ?_
          refine z_goto (pc := 43) (tgt := 54) O dX9_wider_43 (by decide) ?_
          refine z_lk [(0, .ref 33), (1, .int (iz s)), (2, .int (iz m)), (3, .int (iz k))] ⟨rfl, rfl, rfl, rfl, trivial⟩ ?_
          exact cut54 0 (by omega) (by first | exact hb53 | exact ub0 (by omega))
      have hb9 := hbd k.toNat (by omega)
      refine z_aload_n (pc := 12) O dX9_wider_12 rfl ?_
      refine z_getR (pc := 13) 59 O fl_X9_92 rfl (jo_33 J) (jr_33_41 J) dX9_wider_13 ?_
      refine z_iload_n (pc := 16) O dX9_wider_16 rfl ?_
      refine zi_ialdv (pc := 17) (k.toNat) (gI σ 59 (k.toNat)) O (ja_59 J) (by omega) (by omega) (by omega) (izg σ 59 (k.toNat)) dX9_wider_17 ?_
      have := rgI σ 59 (k.toNat)
      refine zi_if_ge (pc := 18) (tgt := 25) O dX9_wider_18 (by decide) (by omega) (fun h18 => ?_) (fun h18 => ?_)
      · refine z_iconst (pc := 25) (v := iz (1)) O dX9_wider_25 (by decide) ?_
        refine z_aload_n (pc := 26) O dX9_wider_26 rfl ?_
        refine z_getR (pc := 27) 59 O fl_X9_92 rfl (jo_33 J) (jr_33_41 J) dX9_wider_27 ?_
        refine z_iload_n (pc := 30) O dX9_wider_30 rfl ?_
        refine zi_ialdv (pc := 31) (k.toNat) (gI σ 59 (k.toNat)) O (ja_59 J) (by omega) (by omega) (by omega) (izg σ 59 (k.toNat)) dX9_wider_31 ?_
        refine z_ishl (pc := 32) O dX9_wider_32 ?_
        refine zi_any (fun z9 rz9 ez9 => ?_)
        have hb32 : UB (gI σ 59 (k.toNat)) (iz z9) := ub1 (by omega) ez9
        refine z_lk [(0, .ref 33), (1, .int (iz s)), (2, .int (iz m)), (3, .int (iz k))] ⟨rfl, rfl, rfl, rfl, trivial⟩ ?_
        exact cut33 z9 (by omega) (by first | exact hb32 | exact ub0 (by omega))
      · refine z_iconst (pc := 21) (v := iz (0)) O dX9_wider_21 (by decide) ?_
        refine z_goto (pc := 22) (tgt := 33) O dX9_wider_22 (by decide) ?_
        refine z_lk [(0, .ref 33), (1, .int (iz s)), (2, .int (iz m)), (3, .int (iz k))] ⟨rfl, rfl, rfl, rfl, trivial⟩ ?_
        exact cut33 0 (by omega) (by first | exact hb32 | exact ub0 (by omega))
  refine z_lk [(0, .ref 33), (1, .int (iz s)), (2, .int (iz s)), (3, .int (iz 0))] ⟨rfl, rfl, rfl, rfl, trivial⟩ ?_
  exact cut4 _ s 0 rfl (by omega) (by omega) (by omega) WdB.zero
set_option maxHeartbeats 4000000 in
set_option maxRecDepth 20000 in
theorem k9_degree2 (l : Launch) (σ : VH) (a : Int) (ra : (-2147483648 ≤ a ∧ a < 2147483648)) (b : Int) (rb : (-2147483648 ≤ b ∧ b < 2147483648)) (J : Lay σ) (hpe : 0 ≤ gI σ 33 52 ∧ gI σ 33 52 ≤ 20) (hbd : BD (gI σ 33 52) (gI σ 59) (gI σ 60)) : Ct l yX9_degree cX9_degree 5 (some .int) 1 0 0 [.ref 33, .int (iz a), .int (iz b)] σ (fun r τ => ∃ z : Int, r = some (.int (iz z)) ∧ (-2147483648 ≤ z ∧ z < 2147483648) ∧ ((z = -1 ∧ ¬ ((0 ≤ a ∧ a < gI σ 33 52) ∧ (0 ≤ b ∧ b < gI σ 33 52))) ∨ (((0 ≤ a ∧ a < gI σ 33 52) ∧ (0 ≤ b ∧ b < gI σ 33 52)) ∧ DV (gI σ 33 52) (gI σ 59) (gI σ 60) a.toNat (gI σ 33 52).toNat b.toNat z)) ∧ (σ = τ)) := by
  refine Ct.enter rfl (Nat.le_of_ble_eq_true rfl) ?_
  intro κ γ hκ O hrc hrs
  subst hκ
  refine z_aload_n (pc := 0) O dX9_degree_0 rfl ?_
  refine z_iload_n (pc := 1) O dX9_degree_1 rfl ?_
  refine z_callV (pc := 2) O cl_X9_356 (k9_isPerson _ _ a (by omega) J) (by decide) (jo_33 J) kc_9 rfl rfl (Nat.le_of_ble_eq_true rfl) ⟨Nat.zero_le _, Nat.zero_le _⟩ dX9_degree_2 (fun r τ1 hp => ?_)
  obtain ⟨z2, rfl, fτ1_0, fτ1_1, rfl⟩ := hp
  refine zi_if_eq (pc := 5) (tgt := 16) O dX9_degree_5 (by decide) (by omega) (fun h5 => ?_) (fun h5 => ?_)
  · refine z_iconst (pc := 16) (v := iz (-1)) O dX9_degree_16 (by decide) ?_
    refine z_iret (pc := 17) O dX9_degree_17 ?_
    exact ⟨(-1), rfl, (by decide), (Or.inl (by omega)), rfl⟩
  · refine z_aload_n (pc := 8) O dX9_degree_8 rfl ?_
    refine z_iload_n (pc := 9) O dX9_degree_9 rfl ?_
    refine z_callV (pc := 10) O cl_X9_356 (k9_isPerson _ _ b (by omega) J) (by decide) (jo_33 J) kc_9 rfl rfl (Nat.le_of_ble_eq_true rfl) ⟨Nat.zero_le _, Nat.zero_le _⟩ dX9_degree_10 (fun r τ3 hp => ?_)
    obtain ⟨z4, rfl, fτ3_0, fτ3_1, rfl⟩ := hp
    refine zi_if_ne (pc := 13) (tgt := 18) O dX9_degree_13 (by decide) (by omega) (fun h13 => ?_) (fun h13 => ?_)
    · refine z_iconst (pc := 18) (v := iz (1)) O dX9_degree_18 (by decide) ?_
      refine z_iload_n (pc := 19) O dX9_degree_19 rfl ?_
      refine z_ishl (pc := 20) O dX9_degree_20 ?_
      refine zi_any (fun z5 rz5 ez5 => ?_)
      have hb20 : SB (gI σ 33 52) (gI σ 59) (gI σ 60) a.toNat 0 (iz z5) := SB.zero (by omega) ez5
      refine z_istore_n (pc := 21) [(0, .ref 33), (1, .int (iz a)), (2, .int (iz b)), (3, .int (iz z5))] O dX9_degree_21 (by decide) rfl ?_
      refine z_iconst (pc := 22) (v := iz (0)) O dX9_degree_22 (by decide) ?_
      refine z_istore (pc := 23) [(0, .ref 33), (1, .int (iz a)), (2, .int (iz b)), (3, .int (iz z5)), (4, .int (iz 0))] O dX9_degree_23 (by decide) rfl ?_
      have cut25 : ∀ (mu25 : Nat) (s : Int) (k : Int), (mu25 = (gI σ 33 52 + 1 - k).toNat) → (-2147483648 ≤ s ∧ s < 2147483648) → (-2147483648 ≤ k ∧ k < 2147483648) → (0 ≤ k ∧ k ≤ gI σ 33 52 + 1) → (SB (gI σ 33 52) (gI σ 59) (gI σ 60) a.toNat k.toNat (iz s)) → (∀ m : Nat, m < k.toNat → ¬ Sn (gI σ 33 52) (gI σ 59) (gI σ 60) a.toNat m b.toNat) → Z κ γ 5 σ 0 0 (QM κ γ (fun r τ => ∃ z : Int, r = some (.int (iz z)) ∧ (-2147483648 ≤ z ∧ z < 2147483648) ∧ ((z = -1 ∧ ¬ ((0 ≤ a ∧ a < gI σ 33 52) ∧ (0 ≤ b ∧ b < gI σ 33 52))) ∨ (((0 ≤ a ∧ a < gI σ 33 52) ∧ (0 ≤ b ∧ b < gI σ 33 52)) ∧ DV (gI σ 33 52) (gI σ 59) (gI σ 60) a.toNat (gI σ 33 52).toNat b.toNat z)) ∧ (σ = τ)) 0 0) 25 [(0, .ref 33), (1, .int (iz a)), (2, .int (iz b)), (3, .int (iz s)), (4, .int (iz k))] [] := by
        intro mu25
        induction mu25 using Nat.strongRecOn with
        | ind mu25 ih25 =>
        intro s k hmu25 rr25_0 rr25_1 ff25_0 ff25_1 ff25_2
        refine z_iload (pc := 25) O dX9_degree_25 rfl ?_
        refine z_aload_n (pc := 27) O dX9_degree_27 rfl ?_
        refine zi_getv (pc := 28) (gI σ 33 52) O fl_X9_353 rfl (jo_33 J) (izg σ 33 52) dX9_degree_28 ?_
        have := rgI σ 33 52
        refine zi_icmp_gt (pc := 31) (tgt := 58) O dX9_degree_31 (by decide) (by omega) (by omega) (fun h31 => ?_) (fun h31 => ?_)
        · refine z_iconst (pc := 58) (v := iz (-1)) O dX9_degree_58 (by decide) ?_
          refine z_iret (pc := 59) O dX9_degree_59 ?_
          exact ⟨(-1), rfl, (by decide), (Or.inr ⟨by omega, Or.inl ⟨rfl, ff25_2 _ (by omega)⟩⟩), rfl⟩
        · refine z_iload_n (pc := 34) O dX9_degree_34 rfl ?_
          refine z_iload_n (pc := 35) O dX9_degree_35 rfl ?_
          refine z_ishr (pc := 36) O dX9_degree_36 ?_
          refine zi_any (fun z6 rz6 ez6 => ?_)
          refine z_iconst (pc := 37) (v := iz (1)) O dX9_degree_37 (by decide) ?_
          refine z_iand (pc := 38) O dX9_degree_38 ?_
          refine zi_any (fun z7 rz7 ez7 => ?_)
          have hb38 : z7 = 1 ↔ bt (iz s) b.toNat = true := bit1 (by omega) (by omega) ez6 ez7
          refine z_iconst (pc := 39) (v := iz (1)) O dX9_degree_39 (by decide) ?_
          refine zi_icmp_ne (pc := 40) (tgt := 46) O dX9_degree_40 (by decide) (by omega) (by decide) (fun h40 => ?_) (fun h40 => ?_)
          · refine z_aload_n (pc := 46) O dX9_degree_46 rfl ?_
            refine z_iload_n (pc := 47) O dX9_degree_47 rfl ?_
            refine z_callV (pc := 48) O cl_X9_359 (k9_wider2 _ _ s (by omega) J (by omega) hbd) (by decide) (jo_33 J) kc_9 rfl rfl (Nat.le_of_ble_eq_true rfl) ⟨Nat.zero_le _, Nat.zero_le _⟩ dX9_degree_48 (fun r τ8 hp => ?_)
            obtain ⟨z9, rfl, fτ8_0, fτ8_1, rfl⟩ := hp
            refine z_istore_n (pc := 51) [(0, .ref 33), (1, .int (iz a)), (2, .int (iz b)), (3, .int (iz z9)), (4, .int (iz k))] O dX9_degree_51 (by decide) rfl ?_
            refine zi_iinc (pc := 52) (k + 1) [(0, .ref 33), (1, .int (iz a)), (2, .int (iz b)), (3, .int (iz z9)), (4, .int (iz (k + 1)))] O dX9_degree_52 rfl (by omega) (by decide) rfl ?_
            refine z_goto (pc := 55) (tgt := 25) O dX9_degree_55 (by decide) ?_
            refine z_lk [(0, .ref 33), (1, .int (iz a)), (2, .int (iz b)), (3, .int (iz z9)), (4, .int (iz (k + 1)))] ⟨rfl, rfl, rfl, rfl, rfl, trivial⟩ ?_
            exact ih25 _ (by omega) z9 (k + 1) rfl (by omega) (by omega) (by omega) (by rw [show (k + 1).toNat = k.toNat + 1 by omega]; exact SB.step (by omega) hbd (by omega) ff25_1 (by assumption)) (fun m hm => by by_cases h9 : m = k.toNat; (subst h9; exact fun h8 => h40 (hb38.mpr ((ff25_1 _ (by omega)).mpr h8))); (exact ff25_2 m (by omega)))
          · refine z_iload (pc := 43) O dX9_degree_43 rfl ?_
            refine z_iret (pc := 45) O dX9_degree_45 ?_
            exact ⟨k, rfl, (by omega), (Or.inr ⟨by omega, Or.inr ⟨k.toNat, by omega, by omega, (ff25_1 _ (by omega)).mp (hb38.mp h40), ff25_2⟩⟩), rfl⟩
      refine z_lk [(0, .ref 33), (1, .int (iz a)), (2, .int (iz b)), (3, .int (iz z5)), (4, .int (iz 0))] ⟨rfl, rfl, rfl, rfl, rfl, trivial⟩ ?_
      exact cut25 _ z5 0 rfl (by omega) (by omega) (by omega) hb20 (fun m hm => absurd hm (by omega))
    · refine z_iconst (pc := 16) (v := iz (-1)) O dX9_degree_16 (by decide) ?_
      refine z_iret (pc := 17) O dX9_degree_17 ?_
      exact ⟨(-1), rfl, (by decide), (Or.inl (by omega)), rfl⟩
