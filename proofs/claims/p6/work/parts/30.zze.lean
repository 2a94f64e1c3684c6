set_option maxHeartbeats 4000000 in
set_option maxRecDepth 20000 in
theorem k8_lawOn3 (l : Launch) (σ : VH) (f : Int) (rf : (-2147483648 ≤ f ∧ f < 2147483648)) (d : Int) (rd : (-2147483648 ≤ d ∧ d < 2147483648)) (I : InvX σ) (hls : Opq ((0 ≤ f ∧ f < 4) → ∀ i : Nat, (i : Int) < gI σ 8 (f.toNat) → ¬ hR σ 7 (4 * f.toNat + i) = none)) : Ct l yX8_lawOn cX8_lawOn 7 (some .int) 1 0 0 [.ref 2, .int (iz f), .int (iz d)] σ (fun r τ => ∃ z : Int, r = some (.int (iz z)) ∧ (-2147483648 ≤ z ∧ z < 2147483648) ∧ (z = -1 ∨ ((0 ≤ f ∧ f < 4) ∧ (0 ≤ z ∧ z < 4))) ∧ (LoC σ f d z) ∧ (σ = τ)) := by
  refine Ct.enter rfl (Nat.le_of_ble_eq_true rfl) ?_
  intro κ γ hκ O hrc hrs
  subst hκ
  have i1 := I.2.1
  unfold InvX1 at i1
  refine z_iload_n (pc := 0) O dX8_lawOn_0 rfl ?_
  refine z_callS (pc := 1) O cl_X8_81 (k8_isFolk _ _ f (by omega)) (by decide) rfl rfl (Nat.le_of_ble_eq_true rfl) ⟨Nat.zero_le _, Nat.zero_le _⟩ dX8_lawOn_1 (fun r τ1 hp => ?_)
  obtain ⟨z2, rfl, fτ1_0, fτ1_1, rfl⟩ := hp
  refine zi_if_ne (pc := 4) (tgt := 9) O dX8_lawOn_4 (by decide) (by omega) (fun h4 => ?_) (fun h4 => ?_)
  · have lo := I.2.2.1 f.toNat (by omega)
    refine z_iconst (pc := 9) (v := iz (-1)) O dX8_lawOn_9 (by decide) ?_
    refine z_istore_n (pc := 10) [(0, .ref 2), (1, .int (iz f)), (2, .int (iz d)), (3, .int (iz (-1)))] O dX8_lawOn_10 (by decide) rfl ?_
    refine z_iconst (pc := 11) (v := iz (-1)) O dX8_lawOn_11 (by decide) ?_
    refine z_istore (pc := 12) [(0, .ref 2), (1, .int (iz f)), (2, .int (iz d)), (3, .int (iz (-1))), (4, .int (iz (-1)))] O dX8_lawOn_12 (by decide) rfl ?_
    refine z_iconst (pc := 14) (v := iz (0)) O dX8_lawOn_14 (by decide) ?_
    refine z_istore (pc := 15) [(0, .ref 2), (1, .int (iz f)), (2, .int (iz d)), (3, .int (iz (-1))), (4, .int (iz (-1))), (5, .int (iz 0))] O dX8_lawOn_15 (by decide) rfl ?_
    have cut17 : ∀ (mu17 : Nat) (best : Int) (bf : Int) (k : Int), (mu17 = (4 - k).toNat) → (-2147483648 ≤ best ∧ best < 2147483648) → (-2147483648 ≤ bf ∧ bf < 2147483648) → (-2147483648 ≤ k ∧ k < 2147483648) → (-1 ≤ best ∧ best < 4) → (0 ≤ k ∧ k ≤ 4 ∧ k ≤ gI σ 8 f.toNat) → (best = (bb (dcl σ f.toNat) d k.toNat).1 ∧ bf = (bb (dcl σ f.toNat) d k.toNat).2) → Z κ γ 7 σ 0 0 (QM κ γ (fun r τ => ∃ z : Int, r = some (.int (iz z)) ∧ (-2147483648 ≤ z ∧ z < 2147483648) ∧ (z = -1 ∨ ((0 ≤ f ∧ f < 4) ∧ (0 ≤ z ∧ z < 4))) ∧ (LoC σ f d z) ∧ (σ = τ)) 0 0) 17 [(0, .ref 2), (1, .int (iz f)), (2, .int (iz d)), (3, .int (iz best)), (4, .int (iz bf)), (5, .int (iz k))] [] := by
      intro mu17
      induction mu17 using Nat.strongRecOn with
      | ind mu17 ih17 =>
      intro best bf k hmu17 rr17_0 rr17_1 rr17_2 ff17_0 ff17_1 ff17_2
      refine z_iload (pc := 17) O dX8_lawOn_17 rfl ?_
      refine z_aload_n (pc := 19) O dX8_lawOn_19 rfl ?_
      refine z_getR (pc := 20) 8 O fl_X8_26 rfl (jo_2 I.1) (jr_2_4 I.1) dX8_lawOn_20 ?_
      refine z_iload_n (pc := 23) O dX8_lawOn_23 rfl ?_
      refine zi_ialdv (pc := 24) (f.toNat) (gI σ 8 (f.toNat)) O (ja_8 I.1) (by omega) (by omega) (by omega) (izg σ 8 (f.toNat)) dX8_lawOn_24 ?_
      have := rgI σ 8 (f.toNat)
      refine zi_icmp_ge (pc := 25) (tgt := 81) O dX8_lawOn_25 (by decide) (by omega) (by omega) (fun h25 => ?_) (fun h25 => ?_)
      · refine z_iload_n (pc := 81) O dX8_lawOn_81 rfl ?_
        refine z_iret (pc := 82) O dX8_lawOn_82 ?_
        exact ⟨best, rfl, (by omega), (by omega), (Or.inr ⟨by omega, by have e9 : k.toNat = (gI σ 8 f.toNat).toNat := (by omega); rw [← e9]; exact ff17_2.1⟩), rfl⟩
      · have cut75 : ∀ (best1 : Int) (bf1 : Int), (-2147483648 ≤ best1 ∧ best1 < 2147483648) → (-2147483648 ≤ bf1 ∧ bf1 < 2147483648) → (-1 ≤ best1 ∧ best1 < 4) → (best1 = (bb (dcl σ f.toNat) d (k + 1).toNat).1 ∧ bf1 = (bb (dcl σ f.toNat) d (k + 1).toNat).2) → Z κ γ 7 σ 0 0 (QM κ γ (fun r τ => ∃ z : Int, r = some (.int (iz z)) ∧ (-2147483648 ≤ z ∧ z < 2147483648) ∧ (z = -1 ∨ ((0 ≤ f ∧ f < 4) ∧ (0 ≤ z ∧ z < 4))) ∧ (LoC σ f d z) ∧ (σ = τ)) 0 0) 75 [(0, .ref 2), (1, .int (iz f)), (2, .int (iz d)), (3, .int (iz best1)), (4, .int (iz bf1)), (5, .int (iz k))] [] := by
          intro best1 bf1 rr75_0 rr75_1 ff75_0 ff75_1
          refine zi_iinc (pc := 75) (k + 1) [(0, .ref 2), (1, .int (iz f)), (2, .int (iz d)), (3, .int (iz best1)), (4, .int (iz bf1)), (5, .int (iz (k + 1)))] O dX8_lawOn_75 rfl (by omega) (by decide) rfl ?_
          refine z_goto (pc := 78) (tgt := 17) O dX8_lawOn_78 (by decide) ?_
          refine z_lk [(0, .ref 2), (1, .int (iz f)), (2, .int (iz d)), (3, .int (iz best1)), (4, .int (iz bf1)), (5, .int (iz (k + 1)))] ⟨rfl, rfl, rfl, rfl, rfl, rfl, trivial⟩ ?_
          exact ih17 _ (by omega) best1 bf1 (k + 1) rfl (by omega) (by omega) (by omega) (by omega) (by omega) ff75_1
        refine z_aload_n (pc := 28) O dX8_lawOn_28 rfl ?_
        refine z_getR (pc := 29) 7 O fl_X8_22 rfl (jo_2 I.1) (jr_2_3 I.1) dX8_lawOn_29 ?_
        refine z_iload_n (pc := 32) O dX8_lawOn_32 rfl ?_
        refine z_iconst (pc := 33) (v := iz (4)) O dX8_lawOn_33 (by decide) ?_
        refine zi_imul (pc := 34) O dX8_lawOn_34 ?_
        refine z_iload (pc := 35) O dX8_lawOn_35 rfl ?_
        refine zi_iadd (pc := 37) O dX8_lawOn_37 ?_
        refine zi_aald (pc := 38) (t0 := 4) (4 * f.toNat + k.toNat) O (ja_7 I.1) (by decide) rfl (by omega) (by omega) (by omega) dX8_lawOn_38 ?_
        have hq : hR σ 7 (4 * f.toNat + k.toNat) = none ∨ ∃ b, hR σ 7 (4 * f.toNat + k.toNat) = some b ∧ LawOK σ b := I.2.2.2.1 (4 * f.toNat + k.toNat) (by omega)
        rcases hq with hq | ⟨o3, hq, ho3⟩
        · exact absurd hq (hls.get (by omega) k.toNat (by omega))
        · rw [hq]
          refine z_top (st' := .ref o3 :: _) rfl ?_
          have := ho3.1
          refine z_astore (pc := 39) [(0, .ref 2), (1, .int (iz f)), (2, .int (iz d)), (3, .int (iz best)), (4, .int (iz bf)), (5, .int (iz k)), (6, .ref o3)] O dX8_lawOn_39 (by decide) rfl ?_
          refine z_aload (pc := 41) O dX8_lawOn_41 rfl ?_
          refine z_ifnull (pc := 43) O dX8_lawOn_43 ?_
          refine z_aload (pc := 46) O dX8_lawOn_46 rfl ?_
          refine zi_getv (pc := 48) (gI σ o3 0) O fl_X8_116 rfl (ho3).is (izg _ o3 0) dX8_lawOn_48 ?_
          have := rgI σ o3 0
          refine z_iload_n (pc := 51) O dX8_lawOn_51 rfl ?_
          refine zi_icmp_gt (pc := 52) (tgt := 75) O dX8_lawOn_52 (by decide) (by omega) (by omega) (fun h52 => ?_) (fun h52 => ?_)
          · refine z_lk [(0, .ref 2), (1, .int (iz f)), (2, .int (iz d)), (3, .int (iz best)), (4, .int (iz bf)), (5, .int (iz k))] ⟨rfl, rfl, rfl, rfl, rfl, rfl, trivial⟩ ?_
            exact cut75 best bf (by omega) (by omega) (by omega) (by have q1 := dcl_at (f := f.toNat) (i := k.toNat) hq; rw [bb_step (by omega), q1]; first | (rw [if_pos (by omega)]; exact ⟨rfl, rfl⟩) | (rw [if_neg (by omega)]; exact ff17_2))
          · refine z_aload (pc := 55) O dX8_lawOn_55 rfl ?_
            refine zi_getv (pc := 57) (gI σ o3 0) O fl_X8_116 rfl (ho3).is (izg _ o3 0) dX8_lawOn_57 ?_
            refine z_iload (pc := 60) O dX8_lawOn_60 rfl ?_
            refine zi_icmp_lt (pc := 62) (tgt := 75) O dX8_lawOn_62 (by decide) (by omega) (by omega) (fun h62 => ?_) (fun h62 => ?_)
            · refine z_lk [(0, .ref 2), (1, .int (iz f)), (2, .int (iz d)), (3, .int (iz best)), (4, .int (iz bf)), (5, .int (iz k))] ⟨rfl, rfl, rfl, rfl, rfl, rfl, trivial⟩ ?_
              exact cut75 best bf (by omega) (by omega) (by omega) (by have q1 := dcl_at (f := f.toNat) (i := k.toNat) hq; rw [bb_step (by omega), q1]; first | (rw [if_pos (by omega)]; exact ⟨rfl, rfl⟩) | (rw [if_neg (by omega)]; exact ff17_2))
            · refine z_iload (pc := 65) O dX8_lawOn_65 rfl ?_
              refine z_istore_n (pc := 67) [(0, .ref 2), (1, .int (iz f)), (2, .int (iz d)), (3, .int (iz k)), (4, .int (iz bf)), (5, .int (iz k)), (6, .ref o3)] O dX8_lawOn_67 (by decide) rfl ?_
              refine z_aload (pc := 68) O dX8_lawOn_68 rfl ?_
              refine zi_getv (pc := 70) (gI σ o3 0) O fl_X8_116 rfl (ho3).is (izg _ o3 0) dX8_lawOn_70 ?_
              refine z_istore (pc := 73) [(0, .ref 2), (1, .int (iz f)), (2, .int (iz d)), (3, .int (iz k)), (4, .int (iz (gI σ o3 0))), (5, .int (iz k)), (6, .ref o3)] O dX8_lawOn_73 (by decide) rfl ?_
              refine z_lk [(0, .ref 2), (1, .int (iz f)), (2, .int (iz d)), (3, .int (iz k)), (4, .int (iz (gI σ o3 0))), (5, .int (iz k))] ⟨rfl, rfl, rfl, rfl, rfl, rfl, trivial⟩ ?_
              exact cut75 k (gI σ o3 0) (by omega) (by omega) (by omega) (by have q1 := dcl_at (f := f.toNat) (i := k.toNat) hq; rw [bb_step (by omega), q1]; first | (rw [if_pos (by omega)]; exact ⟨rfl, rfl⟩) | (rw [if_neg (by omega)]; exact ff17_2))
    refine z_lk [(0, .ref 2), (1, .int (iz f)), (2, .int (iz d)), (3, .int (iz (-1))), (4, .int (iz (-1))), (5, .int (iz 0))] ⟨rfl, rfl, rfl, rfl, rfl, rfl, trivial⟩ ?_
    exact cut17 _ (-1) (-1) 0 rfl (by omega) (by omega) (by omega) (by omega) (by omega) ⟨rfl, rfl⟩
  · refine z_iconst (pc := 7) (v := iz (-1)) O dX8_lawOn_7 (by decide) ?_
    refine z_iret (pc := 8) O dX8_lawOn_8 ?_
    exact ⟨(-1), rfl, (by decide), (by omega), (Or.inl ⟨by omega, rfl⟩), rfl⟩
set_option maxHeartbeats 4000000 in
set_option maxRecDepth 20000 in
theorem k9_lawOn3 (l : Launch) (σ : VH) (folk : Int) (rfolk : (-2147483648 ≤ folk ∧ folk < 2147483648)) (day : Int) (rday : (-2147483648 ≤ day ∧ day < 2147483648)) (I : InvM σ) : Ct l yX9_lawOn cX9_lawOn 6 (some .int) 1 0 0 [.ref 33, .int (iz folk), .int (iz day)] σ (fun r τ => ∃ z : Int, r = some (.int (iz z)) ∧ (-2147483648 ≤ z ∧ z < 2147483648) ∧ (LoM σ folk day z) ∧ (Fr [] σ τ) ∧ (InvM τ)) := by
  refine Ct.enter rfl (Nat.le_of_ble_eq_true rfl) ?_
  intro κ γ hκ O hrc hrs
  subst hκ
  have i1 := I.2.1
  unfold InvM1 at i1
  have i2 := I.2.2.1.laws
  have i3 := I.2.2.2.1
  have cut19 : ∀ (best : Int), (-2147483648 ≤ best ∧ best < 2147483648) → (-1 ≤ best ∧ best < 16) → ((¬ (0 ≤ folk ∧ folk < 4) ∧ best = -1) ∨ ((0 ≤ folk ∧ folk < 4) ∧ best = lff (gI σ 36) (gI σ 37) folk day (gI σ 33 33).toNat)) → Z κ γ 6 σ 0 0 (QM κ γ (fun r τ => ∃ z : Int, r = some (.int (iz z)) ∧ (-2147483648 ≤ z ∧ z < 2147483648) ∧ (LoM σ folk day z) ∧ (Fr [] σ τ) ∧ (InvM τ)) 0 0) 19 [(0, .ref 33), (1, .int (iz folk)), (2, .int (iz day))] [.int (iz best)] := by
    intro best rr19_0 ff19_0 ff19_1
    refine z_istore_n (pc := 19) [(0, .ref 33), (1, .int (iz folk)), (2, .int (iz day)), (3, .int (iz best))] O dX9_lawOn_19 (by decide) rfl ?_
    refine z_iconst (pc := 20) (v := iz (-1)) O dX9_lawOn_20 (by decide) ?_
    refine z_istore (pc := 21) [(0, .ref 33), (1, .int (iz folk)), (2, .int (iz day)), (3, .int (iz best)), (4, .int (iz (-1)))] O dX9_lawOn_21 (by decide) rfl ?_
    refine z_iconst (pc := 23) (v := iz (0)) O dX9_lawOn_23 (by decide) ?_
    refine z_istore (pc := 24) [(0, .ref 33), (1, .int (iz folk)), (2, .int (iz day)), (3, .int (iz best)), (4, .int (iz (-1))), (5, .int (iz 0))] O dX9_lawOn_24 (by decide) rfl ?_
    have cut26 : ∀ (mu26 : Nat) (n : Int) (k : Int), (mu26 = (16 - k).toNat) → (-2147483648 ≤ n ∧ n < 2147483648) → (-2147483648 ≤ k ∧ k < 2147483648) → (-1 ≤ n ∧ n < k) → (0 ≤ k ∧ k ≤ 16) → (k ≤ best + 1) → (n = (cf (gI σ 36) folk k.toNat : Int) - 1) → Z κ γ 6 σ 0 0 (QM κ γ (fun r τ => ∃ z : Int, r = some (.int (iz z)) ∧ (-2147483648 ≤ z ∧ z < 2147483648) ∧ (LoM σ folk day z) ∧ (Fr [] σ τ) ∧ (InvM τ)) 0 0) 26 [(0, .ref 33), (1, .int (iz folk)), (2, .int (iz day)), (3, .int (iz best)), (4, .int (iz n)), (5, .int (iz k))] [] := by
      intro mu26
      induction mu26 using Nat.strongRecOn with
      | ind mu26 ih26 =>
      intro n k hmu26 rr26_0 rr26_1 ff26_0 ff26_1 ff26_2 ff26_3
      refine z_iload (pc := 26) O dX9_lawOn_26 rfl ?_
      refine z_iload_n (pc := 28) O dX9_lawOn_28 rfl ?_
      refine zi_icmp_gt (pc := 29) (tgt := 59) O dX9_lawOn_29 (by decide) (by omega) (by omega) (fun h29 => ?_) (fun h29 => ?_)
      · refine z_iload (pc := 59) O dX9_lawOn_59 rfl ?_
        refine z_iret (pc := 61) O dX9_lawOn_61 ?_
        exact ⟨n, rfl, (by omega), (by rcases ff19_1 with q | q; exact Or.inl ⟨q.1, by omega⟩; (have e9 : k.toNat = (lff (gI σ 36) (gI σ 37) folk day (gI σ 33 33).toNat + 1).toNat := (by omega); refine Or.inr ⟨q.1, ?_⟩; rw [← e9]; exact ff26_3)), (Fr.rf [] σ), I⟩
      · refine z_iload (pc := 32) O dX9_lawOn_32 rfl ?_
        refine z_aload_n (pc := 34) O dX9_lawOn_34 rfl ?_
        refine z_getR (pc := 35) 36 O fl_X9_20 rfl (jo_33 I.1) (jr_33_12 I.1) dX9_lawOn_35 ?_
        refine z_iload (pc := 38) O dX9_lawOn_38 rfl ?_
        refine zi_ialdv (pc := 40) (k.toNat) (gI σ 36 (k.toNat)) O (ja_36 I.1) (by omega) (by omega) (by omega) (izg σ 36 (k.toNat)) dX9_lawOn_40 ?_
        have := rgI σ 36 (k.toNat)
        refine z_iload_n (pc := 41) O dX9_lawOn_41 rfl ?_
        refine zi_icmp_ne (pc := 42) (tgt := 49) O dX9_lawOn_42 (by decide) (by omega) (by omega) (fun h42 => ?_) (fun h42 => ?_)
        · refine z_iconst (pc := 49) (v := iz (0)) O dX9_lawOn_49 (by decide) ?_
          refine zi_iadd (pc := 50) O dX9_lawOn_50 ?_
          refine z_istore (pc := 51) [(0, .ref 33), (1, .int (iz folk)), (2, .int (iz day)), (3, .int (iz best)), (4, .int (iz (n + 0))), (5, .int (iz k))] O dX9_lawOn_51 (by decide) rfl ?_
          refine zi_iinc (pc := 53) (k + 1) [(0, .ref 33), (1, .int (iz folk)), (2, .int (iz day)), (3, .int (iz best)), (4, .int (iz (n + 0))), (5, .int (iz (k + 1)))] O dX9_lawOn_53 rfl (by omega) (by decide) rfl ?_
          refine z_goto (pc := 56) (tgt := 26) O dX9_lawOn_56 (by decide) ?_
          refine z_lk [(0, .ref 33), (1, .int (iz folk)), (2, .int (iz day)), (3, .int (iz best)), (4, .int (iz (n + 0))), (5, .int (iz (k + 1)))] ⟨rfl, rfl, rfl, rfl, rfl, rfl, trivial⟩ ?_
          exact ih26 _ (by omega) (n + 0) (k + 1) rfl (by omega) (by omega) (by omega) (by omega) (by omega) (by rw [cf_step (by omega)]; split <;> omega)
        · refine z_iconst (pc := 45) (v := iz (1)) O dX9_lawOn_45 (by decide) ?_
          refine z_goto (pc := 46) (tgt := 50) O dX9_lawOn_46 (by decide) ?_
          refine zi_iadd (pc := 50) O dX9_lawOn_50 ?_
          refine z_istore (pc := 51) [(0, .ref 33), (1, .int (iz folk)), (2, .int (iz day)), (3, .int (iz best)), (4, .int (iz (n + 1))), (5, .int (iz k))] O dX9_lawOn_51 (by decide) rfl ?_
          refine zi_iinc (pc := 53) (k + 1) [(0, .ref 33), (1, .int (iz folk)), (2, .int (iz day)), (3, .int (iz best)), (4, .int (iz (n + 1))), (5, .int (iz (k + 1)))] O dX9_lawOn_53 rfl (by omega) (by decide) rfl ?_
          refine z_goto (pc := 56) (tgt := 26) O dX9_lawOn_56 (by decide) ?_
          refine z_lk [(0, .ref 33), (1, .int (iz folk)), (2, .int (iz day)), (3, .int (iz best)), (4, .int (iz (n + 1))), (5, .int (iz (k + 1)))] ⟨rfl, rfl, rfl, rfl, rfl, rfl, trivial⟩ ?_
          exact ih26 _ (by omega) (n + 1) (k + 1) rfl (by omega) (by omega) (by omega) (by omega) (by omega) (by rw [cf_step (by omega)]; split <;> omega)
    refine z_lk [(0, .ref 33), (1, .int (iz folk)), (2, .int (iz day)), (3, .int (iz best)), (4, .int (iz (-1))), (5, .int (iz 0))] ⟨rfl, rfl, rfl, rfl, rfl, rfl, trivial⟩ ?_
    exact cut26 _ (-1) 0 rfl (by omega) (by omega) (by omega) (by omega) (by omega) (by rfl)
  refine z_iload_n (pc := 0) O dX9_lawOn_0 rfl ?_
  refine zi_if_lt (pc := 1) (tgt := 9) O dX9_lawOn_1 (by decide) (by omega) (fun h1 => ?_) (fun h1 => ?_)
  · refine z_iconst (pc := 9) (v := iz (-1)) O dX9_lawOn_9 (by decide) ?_
    refine z_goto (pc := 10) (tgt := 19) O dX9_lawOn_10 (by decide) ?_
    refine z_lk [(0, .ref 33), (1, .int (iz folk)), (2, .int (iz day))] ⟨rfl, rfl, rfl, trivial⟩ ?_
    exact cut19 (-1) (by omega) (by omega) (by omega)
  · refine z_iload_n (pc := 4) O dX9_lawOn_4 rfl ?_
    refine z_iconst (pc := 5) (v := iz (4)) O dX9_lawOn_5 (by decide) ?_
    refine zi_icmp_lt (pc := 6) (tgt := 13) O dX9_lawOn_6 (by decide) (by omega) (by decide) (fun h6 => ?_) (fun h6 => ?_)
    · refine z_aload_n (pc := 13) O dX9_lawOn_13 rfl ?_
      refine z_iload_n (pc := 14) O dX9_lawOn_14 rfl ?_
      refine z_iload_n (pc := 15) O dX9_lawOn_15 rfl ?_
      refine z_callV (pc := 16) O cl_X9_350 (k9_lawFor _ _ folk (by omega) day (by omega) I.1 (by omega)) (by decide) (jo_33 I.1) kc_9 rfl rfl (Nat.le_of_ble_eq_true rfl) ⟨Nat.zero_le _, Nat.zero_le _⟩ dX9_lawOn_16 (fun r τ1 hp => ?_)
      obtain ⟨z2, rfl, fτ1_0, fτ1_1, fτ1_2, rfl⟩ := hp
      refine z_lk [(0, .ref 33), (1, .int (iz folk)), (2, .int (iz day))] ⟨rfl, rfl, rfl, trivial⟩ ?_
      exact cut19 z2 (by omega) (by omega) (by omega)
    · refine z_iconst (pc := 9) (v := iz (-1)) O dX9_lawOn_9 (by decide) ?_
      refine z_goto (pc := 10) (tgt := 19) O dX9_lawOn_10 (by decide) ?_
      refine z_lk [(0, .ref 33), (1, .int (iz folk)), (2, .int (iz day))] ⟨rfl, rfl, rfl, trivial⟩ ?_
      exact cut19 (-1) (by omega) (by omega) (by omega)
