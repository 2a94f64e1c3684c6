set_option maxHeartbeats 4000000 in
set_option maxRecDepth 20000 in
theorem k3_stepBetween2 (l : Launch) (σ : VH) (c : Int) (rc : (-2147483648 ≤ c ∧ c < 2147483648)) (p : Int) (rp : (-2147483648 ≤ p ∧ p < 2147483648)) (e : Int) (re : (-2147483648 ≤ e ∧ e < 2147483648)) (J : Lay σ) (hpe : 0 ≤ gI σ 9 7 ∧ gI σ 9 7 ≤ 20) (hc : 0 ≤ c ∧ c < 20) (hr : 0 ≤ e ∧ e < 20) : Ct l yX3_stepBetween cX3_stepBetween 4 none 1 0 0 [.ref 9, .int (iz c), .int (iz p), .int (iz e)] σ (fun r τ => r = none ∧ (Fr [(14, 99999)] σ τ) ∧ (∀ k : Nat, gI τ 14 k = stp (gI σ 14) (gI σ 9 7) c p e k)) := by
  refine Ct.enter rfl (Nat.le_of_ble_eq_true rfl) ?_
  intro κ γ hκ O hrc hrs
  subst hκ
  refine z_aload_n (pc := 0) O dX3_stepBetween_0 rfl ?_
  refine z_iload_n (pc := 1) O dX3_stepBetween_1 rfl ?_
  refine z_callV (pc := 2) O cl_X3_35 (k3_isThere _ _ p (by omega) J) (by decide) (jo_9 J) kc_3 rfl rfl (Nat.le_of_ble_eq_true rfl) ⟨Nat.zero_le _, Nat.zero_le _⟩ dX3_stepBetween_2 (fun r τ1 hp => ?_)
  obtain ⟨z2, rfl, fτ1_0, fτ1_1, rfl⟩ := hp
  refine zi_if_ne (pc := 5) (tgt := 9) O dX3_stepBetween_5 (by decide) (by omega) (fun h5 => ?_) (fun h5 => ?_)
  · refine z_aload_n (pc := 9) O dX3_stepBetween_9 rfl ?_
    refine z_getR (pc := 10) 14 O fl_X3_24 rfl (jo_9 J) (jr_9_4 J) dX3_stepBetween_10 ?_
    refine z_iload_n (pc := 13) O dX3_stepBetween_13 rfl ?_
    refine zi_ialdv (pc := 14) (c.toNat) (gI σ 14 (c.toNat)) O (ja_14 J) (by omega) (by omega) (by omega) (izg σ 14 (c.toNat)) dX3_stepBetween_14 ?_
    have := rgI σ 14 (c.toNat)
    refine z_iload_n (pc := 15) O dX3_stepBetween_15 rfl ?_
    refine zi_icmp_ne (pc := 16) (tgt := 41) O dX3_stepBetween_16 (by decide) (by omega) (by omega) (fun h16 => ?_) (fun h16 => ?_)
    · refine z_aload_n (pc := 41) O dX3_stepBetween_41 rfl ?_
      refine z_getR (pc := 42) 14 O fl_X3_24 rfl (jo_9 J) (jr_9_4 J) dX3_stepBetween_42 ?_
      refine z_iload_n (pc := 45) O dX3_stepBetween_45 rfl ?_
      refine zi_ialdv (pc := 46) (p.toNat) (gI σ 14 (p.toNat)) O (ja_14 J) (by omega) (by omega) (by omega) (izg σ 14 (p.toNat)) dX3_stepBetween_46 ?_
      have := rgI σ 14 (p.toNat)
      refine z_iload_n (pc := 47) O dX3_stepBetween_47 rfl ?_
      refine zi_icmp_ne (pc := 48) (tgt := 70) O dX3_stepBetween_48 (by decide) (by omega) (by omega) (fun h48 => ?_) (fun h48 => ?_)
      · refine z_vret (pc := 70) O dX3_stepBetween_70 ?_
        exact ⟨rfl, (Fr.rf [(14, 99999)] σ), (fun k => by unfold stp; rw [if_pos (by omega), if_neg (by omega), if_neg (by omega)])⟩
      · refine z_aload_n (pc := 51) O dX3_stepBetween_51 rfl ?_
        refine z_getR (pc := 52) 14 O fl_X3_24 rfl (jo_9 J) (jr_9_4 J) dX3_stepBetween_52 ?_
        refine z_iload_n (pc := 55) O dX3_stepBetween_55 rfl ?_
        refine zi_ialdv (pc := 56) (c.toNat) (gI σ 14 (c.toNat)) O (ja_14 J) (by omega) (by omega) (by omega) (izg σ 14 (c.toNat)) dX3_stepBetween_56 ?_
        refine z_iconst (pc := 57) (v := iz (-1)) O dX3_stepBetween_57 (by decide) ?_
        refine zi_icmp_ne (pc := 58) (tgt := 70) O dX3_stepBetween_58 (by decide) (by omega) (by decide) (fun h58 => ?_) (fun h58 => ?_)
        · refine z_vret (pc := 70) O dX3_stepBetween_70 ?_
          exact ⟨rfl, (Fr.rf [(14, 99999)] σ), (fun k => by unfold stp; rw [if_pos (by omega), if_neg (by omega), if_neg (by omega)])⟩
        · refine z_aload_n (pc := 61) O dX3_stepBetween_61 rfl ?_
          refine z_getR (pc := 62) 14 O fl_X3_24 rfl (jo_9 J) (jr_9_4 J) dX3_stepBetween_62 ?_
          refine z_iload_n (pc := 65) O dX3_stepBetween_65 rfl ?_
          refine z_iload_n (pc := 66) O dX3_stepBetween_66 rfl ?_
          refine z_iconst (pc := 67) (v := iz (1)) O dX3_stepBetween_67 (by decide) ?_
          refine zi_iadd (pc := 68) O dX3_stepBetween_68 ?_
          refine zi_iast (pc := 69) (c.toNat) O (ja_14 J) (by omega) (by omega) (by omega) dX3_stepBetween_69 ?_
          refine z_vret (pc := 70) O dX3_stepBetween_70 ?_
          exact ⟨rfl, ((Fr.rf [(14, 99999)] σ).pI rfl), (fun k => by unfold stp; rw [if_pos (by omega), if_neg (by omega), if_pos (by omega)]; by_cases hk9 : k = (c.toNat); (rw [if_pos (by omega), hk9]; exact gI_iz (hI_at _ _ _ _) (by omega)); (exact (gI_eq (sk2t hk9 rfl)).trans (if_neg (by omega)).symm))⟩
    · refine z_aload_n (pc := 19) O dX3_stepBetween_19 rfl ?_
      refine z_getR (pc := 20) 14 O fl_X3_24 rfl (jo_9 J) (jr_9_4 J) dX3_stepBetween_20 ?_
      refine z_iload_n (pc := 23) O dX3_stepBetween_23 rfl ?_
      refine zi_ialdv (pc := 24) (p.toNat) (gI σ 14 (p.toNat)) O (ja_14 J) (by omega) (by omega) (by omega) (izg σ 14 (p.toNat)) dX3_stepBetween_24 ?_
      have := rgI σ 14 (p.toNat)
      refine z_iconst (pc := 25) (v := iz (-1)) O dX3_stepBetween_25 (by decide) ?_
      refine zi_icmp_ne (pc := 26) (tgt := 41) O dX3_stepBetween_26 (by decide) (by omega) (by decide) (fun h26 => ?_) (fun h26 => ?_)
      · refine z_aload_n (pc := 41) O dX3_stepBetween_41 rfl ?_
        refine z_getR (pc := 42) 14 O fl_X3_24 rfl (jo_9 J) (jr_9_4 J) dX3_stepBetween_42 ?_
        refine z_iload_n (pc := 45) O dX3_stepBetween_45 rfl ?_
        refine zi_ialdv (pc := 46) (p.toNat) (gI σ 14 (p.toNat)) O (ja_14 J) (by omega) (by omega) (by omega) (izg σ 14 (p.toNat)) dX3_stepBetween_46 ?_
        refine z_iload_n (pc := 47) O dX3_stepBetween_47 rfl ?_
        refine zi_icmp_ne (pc := 48) (tgt := 70) O dX3_stepBetween_48 (by decide) (by omega) (by omega) (fun h48 => ?_) (fun h48 => ?_)
        · refine z_vret (pc := 70) O dX3_stepBetween_70 ?_
          exact ⟨rfl, (Fr.rf [(14, 99999)] σ), (fun k => by unfold stp; rw [if_pos (by omega), if_neg (by omega), if_neg (by omega)])⟩
        · refine z_aload_n (pc := 51) O dX3_stepBetween_51 rfl ?_
          refine z_getR (pc := 52) 14 O fl_X3_24 rfl (jo_9 J) (jr_9_4 J) dX3_stepBetween_52 ?_
          refine z_iload_n (pc := 55) O dX3_stepBetween_55 rfl ?_
          refine zi_ialdv (pc := 56) (c.toNat) (gI σ 14 (c.toNat)) O (ja_14 J) (by omega) (by omega) (by omega) (izg σ 14 (c.toNat)) dX3_stepBetween_56 ?_
          refine z_iconst (pc := 57) (v := iz (-1)) O dX3_stepBetween_57 (by decide) ?_
          refine zi_icmp_ne (pc := 58) (tgt := 70) O dX3_stepBetween_58 (by decide) (by omega) (by decide) (fun h58 => ?_) (fun h58 => ?_)
          · refine z_vret (pc := 70) O dX3_stepBetween_70 ?_
            exact ⟨rfl, (Fr.rf [(14, 99999)] σ), (fun k => by unfold stp; rw [if_pos (by omega), if_neg (by omega), if_neg (by omega)])⟩
          · refine z_aload_n (pc := 61) O dX3_stepBetween_61 rfl ?_
            refine z_getR (pc := 62) 14 O fl_X3_24 rfl (jo_9 J) (jr_9_4 J) dX3_stepBetween_62 ?_
            refine z_iload_n (pc := 65) O dX3_stepBetween_65 rfl ?_
            refine z_iload_n (pc := 66) O dX3_stepBetween_66 rfl ?_
            refine z_iconst (pc := 67) (v := iz (1)) O dX3_stepBetween_67 (by decide) ?_
            refine zi_iadd (pc := 68) O dX3_stepBetween_68 ?_
            refine zi_iast (pc := 69) (c.toNat) O (ja_14 J) (by omega) (by omega) (by omega) dX3_stepBetween_69 ?_
            refine z_vret (pc := 70) O dX3_stepBetween_70 ?_
            exact ⟨rfl, ((Fr.rf [(14, 99999)] σ).pI rfl), (fun k => by unfold stp; rw [if_pos (by omega), if_neg (by omega), if_pos (by omega)]; by_cases hk9 : k = (c.toNat); (rw [if_pos (by omega), hk9]; exact gI_iz (hI_at _ _ _ _) (by omega)); (exact (gI_eq (sk2t hk9 rfl)).trans (if_neg (by omega)).symm))⟩
      · refine z_aload_n (pc := 29) O dX3_stepBetween_29 rfl ?_
        refine z_getR (pc := 30) 14 O fl_X3_24 rfl (jo_9 J) (jr_9_4 J) dX3_stepBetween_30 ?_
        refine z_iload_n (pc := 33) O dX3_stepBetween_33 rfl ?_
        refine z_iload_n (pc := 34) O dX3_stepBetween_34 rfl ?_
        refine z_iconst (pc := 35) (v := iz (1)) O dX3_stepBetween_35 (by decide) ?_
        refine zi_iadd (pc := 36) O dX3_stepBetween_36 ?_
        refine zi_iast (pc := 37) (p.toNat) O (ja_14 J) (by omega) (by omega) (by omega) dX3_stepBetween_37 ?_
        refine z_goto (pc := 38) (tgt := 70) O dX3_stepBetween_38 (by decide) ?_
        refine z_vret (pc := 70) O dX3_stepBetween_70 ?_
        exact ⟨rfl, ((Fr.rf [(14, 99999)] σ).pI rfl), (fun k => by unfold stp; rw [if_pos (by omega), if_pos (by omega)]; by_cases hk9 : k = (p.toNat); (rw [if_pos (by omega), hk9]; exact gI_iz (hI_at _ _ _ _) (by omega)); (exact (gI_eq (sk2t hk9 rfl)).trans (if_neg (by omega)).symm))⟩
  · refine z_vret (pc := 8) O dX3_stepBetween_8 ?_
    exact ⟨rfl, (Fr.rf [(14, 99999)] σ), (fun k => by unfold stp; exact (if_neg (by omega)).symm)⟩
set_option maxHeartbeats 4000000 in
set_option maxRecDepth 20000 in
theorem k3_measureFrom2 (l : Launch) (σ : VH) (s : Int) (rs : (-2147483648 ≤ s ∧ s < 2147483648)) (J : Lay σ) (hpe : 0 ≤ gI σ 9 7 ∧ gI σ 9 7 ≤ 20) (hs : 0 ≤ s ∧ s < gI σ 9 7) (hbd : BD (gI σ 9 7) (gI σ 11) (gI σ 12)) : Ct l yX3_measureFrom cX3_measureFrom 4 none 2 0 0 [.ref 9, .int (iz s)] σ (fun r τ => r = none ∧ (Fr [(14, 99999)] σ τ) ∧ (∀ q : Nat, (q : Int) < gI σ 9 7 → DV (gI σ 9 7) (gI σ 11) (gI σ 12) s.toNat (gI σ 9 7).toNat q (gI τ 14 q))) := by
  refine Ct.enter rfl (Nat.le_of_ble_eq_true rfl) ?_
  intro κ γ hκ O hrc hrs
  subst hκ
  refine z_iconst (pc := 0) (v := iz (0)) O dX3_measureFrom_0 (by decide) ?_
  refine z_istore_n (pc := 1) [(0, .ref 9), (1, .int (iz s)), (2, .int (iz 0))] O dX3_measureFrom_1 (by decide) rfl ?_
  have cut2 : ∀ (mu2 : Nat) (k : Int) (ρ2 : VH), (mu2 = (gI σ 9 7 - k).toNat) → (-2147483648 ≤ k ∧ k < 2147483648) → (0 ≤ k ∧ k ≤ gI σ 9 7) → (∀ q : Nat, (q : Int) < k → gI ρ2 14 q = if (q : Int) = s then 0 else -1) → (Fr [(14, 99999)] σ ρ2) → Z κ γ 4 ρ2 0 0 (QM κ γ (fun r τ => r = none ∧ (Fr [(14, 99999)] σ τ) ∧ (∀ q : Nat, (q : Int) < gI σ 9 7 → DV (gI σ 9 7) (gI σ 11) (gI σ 12) s.toNat (gI σ 9 7).toNat q (gI τ 14 q))) 0 0) 2 [(0, .ref 9), (1, .int (iz s)), (2, .int (iz k))] [] := by
    intro mu2
    induction mu2 using Nat.strongRecOn with
    | ind mu2 ih2 =>
    intro k ρ2 hmu2 rr2_0 ff2_0 ff2_1 frρ2
    refine z_iload_n (pc := 2) O dX3_measureFrom_2 rfl ?_
    refine z_aload_n (pc := 3) O dX3_measureFrom_3 rfl ?_
    refine zi_getv (pc := 4) (gI σ 9 7) O fl_X3_31 rfl (jo_9 (frρ2.lay J)) (Fr.it frρ2 rfl (izg σ 9 7)) dX3_measureFrom_4 ?_
    have := rgI σ 9 7
    refine zi_icmp_ge (pc := 7) (tgt := 32) O dX3_measureFrom_7 (by decide) (by omega) (by omega) (fun h7 => ?_) (fun h7 => ?_)
    · refine z_iconst (pc := 32) (v := iz (0)) O dX3_measureFrom_32 (by decide) ?_
      refine z_istore_n (pc := 33) [(0, .ref 9), (1, .int (iz s)), (2, .int (iz 0))] O dX3_measureFrom_33 (by decide) rfl ?_
      have cut34 : ∀ (mu34 : Nat) (n : Int) (ρ34 : VH), (mu34 = (gI σ 9 7 - n).toNat) → (-2147483648 ≤ n ∧ n < 2147483648) → (0 ≤ n ∧ n ≤ gI σ 9 7) → (∀ q : Nat, (q : Int) < gI σ 9 7 → DV (gI σ 9 7) (gI σ 11) (gI σ 12) s.toNat n.toNat q (gI ρ34 14 q)) → (Fr [(14, 99999)] ρ2 ρ34) → Z κ γ 4 ρ34 0 0 (QM κ γ (fun r τ => r = none ∧ (Fr [(14, 99999)] σ τ) ∧ (∀ q : Nat, (q : Int) < gI σ 9 7 → DV (gI σ 9 7) (gI σ 11) (gI σ 12) s.toNat (gI σ 9 7).toNat q (gI τ 14 q))) 0 0) 34 [(0, .ref 9), (1, .int (iz s)), (2, .int (iz n))] [] := by
        intro mu34
        induction mu34 using Nat.strongRecOn with
        | ind mu34 ih34 =>
        intro n ρ34 hmu34 rr34_0 ff34_0 ff34_1 frρ34
        refine z_iload_n (pc := 34) O dX3_measureFrom_34 rfl ?_
        refine z_aload_n (pc := 35) O dX3_measureFrom_35 rfl ?_
        refine zi_getv (pc := 36) (gI σ 9 7) O fl_X3_31 rfl (jo_9 (frρ34.lay (frρ2.lay J))) (Fr.it frρ34 rfl (Fr.it frρ2 rfl (izg σ 9 7))) dX3_measureFrom_36 ?_
        refine zi_icmp_ge (pc := 39) (tgt := 88) O dX3_measureFrom_39 (by decide) (by omega) (by omega) (fun h39 => ?_) (fun h39 => ?_)
        · refine z_vret (pc := 88) O dX3_measureFrom_88 ?_
          exact ⟨rfl, (frρ2.tr frρ34), (by rw [show (gI σ 9 7).toNat = n.toNat by omega]; exact ff34_1)⟩
        · refine z_iconst (pc := 42) (v := iz (0)) O dX3_measureFrom_42 (by decide) ?_
          refine z_istore_n (pc := 43) [(0, .ref 9), (1, .int (iz s)), (2, .int (iz n)), (3, .int (iz 0))] O dX3_measureFrom_43 (by decide) rfl ?_
          have cut44 : ∀ (mu44 : Nat) (k : Int) (ρ44 : VH), (mu44 = (gI σ 9 7 - k).toNat) → (-2147483648 ≤ k ∧ k < 2147483648) → (0 ≤ k ∧ k ≤ gI σ 9 7) → (Mid (gI σ 9 7) (gI σ 11) (gI σ 12) s.toNat n.toNat (Pk (gI σ 11) (gI σ 12) k) (gI ρ44 14)) → (Fr [(14, 99999)] ρ34 ρ44) → Z κ γ 4 ρ44 0 0 (QM κ γ (fun r τ => r = none ∧ (Fr [(14, 99999)] σ τ) ∧ (∀ q : Nat, (q : Int) < gI σ 9 7 → DV (gI σ 9 7) (gI σ 11) (gI σ 12) s.toNat (gI σ 9 7).toNat q (gI τ 14 q))) 0 0) 44 [(0, .ref 9), (1, .int (iz s)), (2, .int (iz n)), (3, .int (iz k))] [] := by
            intro mu44
            induction mu44 using Nat.strongRecOn with
            | ind mu44 ih44 =>
            intro k ρ44 hmu44 rr44_0 ff44_0 ff44_1 frρ44
            refine z_iload_n (pc := 44) O dX3_measureFrom_44 rfl ?_
            refine z_aload_n (pc := 45) O dX3_measureFrom_45 rfl ?_
            refine zi_getv (pc := 46) (gI σ 9 7) O fl_X3_31 rfl (jo_9 (frρ44.lay (frρ34.lay (frρ2.lay J)))) (Fr.it frρ44 rfl (Fr.it frρ34 rfl (Fr.it frρ2 rfl (izg σ 9 7)))) dX3_measureFrom_46 ?_
            refine zi_icmp_ge (pc := 49) (tgt := 82) O dX3_measureFrom_49 (by decide) (by omega) (by omega) (fun h49 => ?_) (fun h49 => ?_)
            · refine zi_iinc (pc := 82) (n + 1) [(0, .ref 9), (1, .int (iz s)), (2, .int (iz (n + 1))), (3, .int (iz k))] O dX3_measureFrom_82 rfl (by omega) (by decide) rfl ?_
              refine z_goto (pc := 85) (tgt := 34) O dX3_measureFrom_85 (by decide) ?_
              refine z_lk [(0, .ref 9), (1, .int (iz s)), (2, .int (iz (n + 1)))] ⟨rfl, rfl, rfl, trivial⟩ ?_
              exact ih34 _ (by omega) (n + 1) ρ44 rfl (by omega) (by omega) (by rw [show (n + 1).toNat = n.toNat + 1 by omega]; exact Mid.fin hbd (by omega) (by omega) ff44_1) (frρ34.tr frρ44)
            · refine z_aload_n (pc := 52) O dX3_measureFrom_52 rfl ?_
              refine z_iload_n (pc := 53) O dX3_measureFrom_53 rfl ?_
              refine z_aload_n (pc := 54) O dX3_measureFrom_54 rfl ?_
              refine z_getR (pc := 55) 11 O fl_X3_15 rfl (jo_9 (frρ44.lay (frρ34.lay (frρ2.lay J)))) (jr_9_1 (frρ44.lay (frρ34.lay (frρ2.lay J)))) dX3_measureFrom_55 ?_
              refine z_iload_n (pc := 58) O dX3_measureFrom_58 rfl ?_
              refine zi_ialdv (pc := 59) (k.toNat) (gI σ 11 (k.toNat)) O (ja_11 (frρ44.lay (frρ34.lay (frρ2.lay J)))) (by omega) (by omega) (by omega) (Fr.it frρ44 rfl (Fr.it frρ34 rfl (Fr.it frρ2 rfl (izg σ 11 (k.toNat))))) dX3_measureFrom_59 ?_
              have := rgI σ 11 (k.toNat)
              refine z_iload_n (pc := 60) O dX3_measureFrom_60 rfl ?_
              refine z_callV (pc := 61) O cl_X3_43 (k3_stepBetween2 _ _ k (by omega) (gI σ 11 (k.toNat)) (by omega) n (by omega) (frρ44.lay (frρ34.lay (frρ2.lay J))) (by have : gI ρ44 9 7 = gI σ 9 7 := gI_iz (Fr.it frρ44 rfl (Fr.it frρ34 rfl (Fr.it frρ2 rfl (izg σ 9 7)))) (rgI _ _ _); omega) (by omega) (by omega)) (by decide) (jo_9 (frρ44.lay (frρ34.lay (frρ2.lay J)))) kc_3 rfl rfl (Nat.le_of_ble_eq_true rfl) ⟨Nat.zero_le _, Nat.zero_le _⟩ dX3_measureFrom_61 (fun r τ1 hp => ?_)
              obtain ⟨rfl, frτ1, eτ1_0⟩ := hp
              have q97_1 : gI ρ44 9 7 = gI σ 9 7 := gI_iz (Fr.it frρ44 rfl (Fr.it frρ34 rfl (Fr.it frρ2 rfl (izg σ 9 7)))) (rgI _ _ _)
              have w1 : gI τ1 14 = stp (gI ρ44 14) (gI σ 9 7) k (gI σ 11 (k.toNat)) n := funext fun q => by rw [eτ1_0 q, q97_1]
              refine z_aload_n (pc := 64) O dX3_measureFrom_64 rfl ?_
              refine z_iload_n (pc := 65) O dX3_measureFrom_65 rfl ?_
              refine z_aload_n (pc := 66) O dX3_measureFrom_66 rfl ?_
              refine z_getR (pc := 67) 12 O fl_X3_18 rfl (jo_9 (frτ1.lay (frρ44.lay (frρ34.lay (frρ2.lay J))))) (jr_9_2 (frτ1.lay (frρ44.lay (frρ34.lay (frρ2.lay J))))) dX3_measureFrom_67 ?_
              refine z_iload_n (pc := 70) O dX3_measureFrom_70 rfl ?_
              refine zi_ialdv (pc := 71) (k.toNat) (gI σ 12 (k.toNat)) O (ja_12 (frτ1.lay (frρ44.lay (frρ34.lay (frρ2.lay J))))) (by omega) (by omega) (by omega) (Fr.it frτ1 rfl (Fr.it frρ44 rfl (Fr.it frρ34 rfl (Fr.it frρ2 rfl (izg σ 12 (k.toNat)))))) dX3_measureFrom_71 ?_
              have := rgI σ 12 (k.toNat)
              refine z_iload_n (pc := 72) O dX3_measureFrom_72 rfl ?_
              refine z_callV (pc := 73) O cl_X3_43 (k3_stepBetween2 _ _ k (by omega) (gI σ 12 (k.toNat)) (by omega) n (by omega) (frτ1.lay (frρ44.lay (frρ34.lay (frρ2.lay J)))) (by have : gI τ1 9 7 = gI σ 9 7 := gI_iz (Fr.it frτ1 rfl (Fr.it frρ44 rfl (Fr.it frρ34 rfl (Fr.it frρ2 rfl (izg σ 9 7))))) (rgI _ _ _); omega) (by omega) (by omega)) (by decide) (jo_9 (frτ1.lay (frρ44.lay (frρ34.lay (frρ2.lay J))))) kc_3 rfl rfl (Nat.le_of_ble_eq_true rfl) ⟨Nat.zero_le _, Nat.zero_le _⟩ dX3_measureFrom_73 (fun r τ3 hp => ?_)
              obtain ⟨rfl, frτ3, eτ3_0⟩ := hp
              have q97_2 : gI τ1 9 7 = gI σ 9 7 := gI_iz (Fr.it frτ1 rfl (Fr.it frρ44 rfl (Fr.it frρ34 rfl (Fr.it frρ2 rfl (izg σ 9 7))))) (rgI _ _ _)
              have w2 : gI τ3 14 = stp (gI τ1 14) (gI σ 9 7) k (gI σ 12 (k.toNat)) n := funext fun q => by rw [eτ3_0 q, q97_2]
              refine zi_iinc (pc := 76) (k + 1) [(0, .ref 9), (1, .int (iz s)), (2, .int (iz n)), (3, .int (iz (k + 1)))] O dX3_measureFrom_76 rfl (by omega) (by decide) rfl ?_
              refine z_goto (pc := 79) (tgt := 44) O dX3_measureFrom_79 (by decide) ?_
              refine z_lk [(0, .ref 9), (1, .int (iz s)), (2, .int (iz n)), (3, .int (iz (k + 1)))] ⟨rfl, rfl, rfl, rfl, trivial⟩ ?_
              exact ih44 _ (by omega) (k + 1) τ3 rfl (by omega) (by omega) (by rw [w2, w1]; exact Mid.child hbd (by omega) (by omega) (by omega) ff44_1) ((frρ44.tr frτ1).tr frτ3)
          refine z_lk [(0, .ref 9), (1, .int (iz s)), (2, .int (iz n)), (3, .int (iz 0))] ⟨rfl, rfl, rfl, rfl, trivial⟩ ?_
          exact cut44 _ 0 ρ34 rfl (by omega) (by omega) (Mid.start ff34_1) (Fr.rf [(14, 99999)] ρ34)
      refine z_lk [(0, .ref 9), (1, .int (iz s)), (2, .int (iz 0))] ⟨rfl, rfl, rfl, trivial⟩ ?_
      exact cut34 _ 0 ρ2 rfl (by omega) (by omega) (DV.zero (by omega) (fun q hq => ff2_1 q (by omega))) (Fr.rf [(14, 99999)] ρ2)
    · refine z_aload_n (pc := 10) O dX3_measureFrom_10 rfl ?_
      refine z_getR (pc := 11) 14 O fl_X3_24 rfl (jo_9 (frρ2.lay J)) (jr_9_4 (frρ2.lay J)) dX3_measureFrom_11 ?_
      refine z_iload_n (pc := 14) O dX3_measureFrom_14 rfl ?_
      refine z_iload_n (pc := 15) O dX3_measureFrom_15 rfl ?_
      refine z_iload_n (pc := 16) O dX3_measureFrom_16 rfl ?_
      refine zi_icmp_ne (pc := 17) (tgt := 24) O dX3_measureFrom_17 (by decide) (by omega) (by omega) (fun h17 => ?_) (fun h17 => ?_)
      · refine z_iconst (pc := 24) (v := iz (-1)) O dX3_measureFrom_24 (by decide) ?_
        refine zi_iast (pc := 25) (k.toNat) O (ja_14 (frρ2.lay J)) (by omega) (by omega) (by omega) dX3_measureFrom_25 ?_
        refine zi_iinc (pc := 26) (k + 1) [(0, .ref 9), (1, .int (iz s)), (2, .int (iz (k + 1)))] O dX3_measureFrom_26 rfl (by omega) (by decide) rfl ?_
        refine z_goto (pc := 29) (tgt := 2) O dX3_measureFrom_29 (by decide) ?_
        refine z_lk [(0, .ref 9), (1, .int (iz s)), (2, .int (iz (k + 1)))] ⟨rfl, rfl, rfl, trivial⟩ ?_
        exact ih2 _ (by omega) (k + 1) (sI ρ2 14 (k.toNat) (iz (-1))) rfl (by omega) (by omega) (fun q hq => by by_cases hk9 : q = (k.toNat); (rw [hk9, if_neg (by omega)]; exact gI_iz (hI_at _ _ _ _) (by decide)); (exact (gI_eq (sk2t hk9 rfl)).trans (ff2_1 q (by omega)))) (frρ2.pI rfl)
      · refine z_iconst (pc := 20) (v := iz (0)) O dX3_measureFrom_20 (by decide) ?_
        refine z_goto (pc := 21) (tgt := 25) O dX3_measureFrom_21 (by decide) ?_
        refine zi_iast (pc := 25) (k.toNat) O (ja_14 (frρ2.lay J)) (by omega) (by omega) (by omega) dX3_measureFrom_25 ?_
        refine zi_iinc (pc := 26) (k + 1) [(0, .ref 9), (1, .int (iz s)), (2, .int (iz (k + 1)))] O dX3_measureFrom_26 rfl (by omega) (by decide) rfl ?_
        refine z_goto (pc := 29) (tgt := 2) O dX3_measureFrom_29 (by decide) ?_
        refine z_lk [(0, .ref 9), (1, .int (iz s)), (2, .int (iz (k + 1)))] ⟨rfl, rfl, rfl, trivial⟩ ?_
        exact ih2 _ (by omega) (k + 1) (sI ρ2 14 (k.toNat) (iz 0)) rfl (by omega) (by omega) (fun q hq => by by_cases hk9 : q = (k.toNat); (rw [hk9, if_pos (by omega)]; exact gI_iz (hI_at _ _ _ _) (by decide)); (exact (gI_eq (sk2t hk9 rfl)).trans (ff2_1 q (by omega)))) (frρ2.pI rfl)
  refine z_lk [(0, .ref 9), (1, .int (iz s)), (2, .int (iz 0))] ⟨rfl, rfl, rfl, trivial⟩ ?_
  exact cut2 _ 0 σ rfl (by omega) (by omega) (fun q hq => absurd hq (by omega)) (Fr.rf [(14, 99999)] σ)
set_option maxHeartbeats 4000000 in
set_option maxRecDepth 20000 in
theorem k3_stepsBetween2 (l : Launch) (σ : VH) (a : Int) (ra : (-2147483648 ≤ a ∧ a < 2147483648)) (b : Int) (rb : (-2147483648 ≤ b ∧ b < 2147483648)) (J : Lay σ) (hpe : 0 ≤ gI σ 9 7 ∧ gI σ 9 7 ≤ 20) (hbd : BD (gI σ 9 7) (gI σ 11) (gI σ 12)) : Ct l yX3_stepsBetween cX3_stepsBetween 3 (some .int) 3 0 0 [.ref 9, .int (iz a), .int (iz b)] σ (fun r τ => ∃ z : Int, r = some (.int (iz z)) ∧ (-2147483648 ≤ z ∧ z < 2147483648) ∧ ((z = -1 ∧ ¬ ((0 ≤ a ∧ a < gI σ 9 7) ∧ (0 ≤ b ∧ b < gI σ 9 7))) ∨ (((0 ≤ a ∧ a < gI σ 9 7) ∧ (0 ≤ b ∧ b < gI σ 9 7)) ∧ DV (gI σ 9 7) (gI σ 11) (gI σ 12) a.toNat (gI σ 9 7).toNat b.toNat z)) ∧ (Fr [(14, 99999)] σ τ)) := by
  refine Ct.enter rfl (Nat.le_of_ble_eq_true rfl) ?_
  intro κ γ hκ O hrc hrs
  subst hκ
  refine z_aload_n (pc := 0) O dX3_stepsBetween_0 rfl ?_
  refine z_iload_n (pc := 1) O dX3_stepsBetween_1 rfl ?_
  refine z_callV (pc := 2) O cl_X3_35 (k3_isThere _ _ a (by omega) J) (by decide) (jo_9 J) kc_3 rfl rfl (Nat.le_of_ble_eq_true rfl) ⟨Nat.zero_le _, Nat.zero_le _⟩ dX3_stepsBetween_2 (fun r τ1 hp => ?_)
  obtain ⟨z2, rfl, fτ1_0, fτ1_1, rfl⟩ := hp
  refine zi_if_eq (pc := 5) (tgt := 16) O dX3_stepsBetween_5 (by decide) (by omega) (fun h5 => ?_) (fun h5 => ?_)
  · refine z_iconst (pc := 16) (v := iz (-1)) O dX3_stepsBetween_16 (by decide) ?_
    refine z_iret (pc := 17) O dX3_stepsBetween_17 ?_
    exact ⟨(-1), rfl, (by decide), (Or.inl (by omega)), (Fr.rf [(14, 99999)] σ)⟩
  · refine z_aload_n (pc := 8) O dX3_stepsBetween_8 rfl ?_
    refine z_iload_n (pc := 9) O dX3_stepsBetween_9 rfl ?_
    refine z_callV (pc := 10) O cl_X3_35 (k3_isThere _ _ b (by omega) J) (by decide) (jo_9 J) kc_3 rfl rfl (Nat.le_of_ble_eq_true rfl) ⟨Nat.zero_le _, Nat.zero_le _⟩ dX3_stepsBetween_10 (fun r τ3 hp => ?_)
    obtain ⟨z4, rfl, fτ3_0, fτ3_1, rfl⟩ := hp
    refine zi_if_ne (pc := 13) (tgt := 18) O dX3_stepsBetween_13 (by decide) (by omega) (fun h13 => ?_) (fun h13 => ?_)
    · refine z_aload_n (pc := 18) O dX3_stepsBetween_18 rfl ?_
      refine z_iload_n (pc := 19) O dX3_stepsBetween_19 rfl ?_
      refine z_callV (pc := 20) O cl_X3_39 (k3_measureFrom2 _ _ a (by omega) J (by omega) (by omega) hbd) (by decide) (jo_9 J) kc_3 rfl rfl (Nat.le_of_ble_eq_true rfl) ⟨Nat.zero_le _, Nat.zero_le _⟩ dX3_stepsBetween_20 (fun r τ5 hp => ?_)
      obtain ⟨rfl, frτ5, eτ5_0⟩ := hp
      refine z_aload_n (pc := 23) O dX3_stepsBetween_23 rfl ?_
      refine z_getR (pc := 24) 14 O fl_X3_24 rfl (jo_9 (frτ5.lay J)) (jr_9_4 (frτ5.lay J)) dX3_stepsBetween_24 ?_
      refine z_iload_n (pc := 27) O dX3_stepsBetween_27 rfl ?_
      refine zi_ialdv (pc := 28) (b.toNat) (gI τ5 14 (b.toNat)) O (ja_14 (frτ5.lay J)) (by omega) (by omega) (by omega) (izg τ5 14 (b.toNat)) dX3_stepsBetween_28 ?_
      have := rgI τ5 14 (b.toNat)
      refine z_iret (pc := 29) O dX3_stepsBetween_29 ?_
      exact ⟨(gI τ5 14 (b.toNat)), rfl, (by omega), (Or.inr ⟨by omega, eτ5_0 (b.toNat) (by omega)⟩), frτ5⟩
    · refine z_iconst (pc := 16) (v := iz (-1)) O dX3_stepsBetween_16 (by decide) ?_
      refine z_iret (pc := 17) O dX3_stepsBetween_17 ?_
      exact ⟨(-1), rfl, (by decide), (Or.inl (by omega)), (Fr.rf [(14, 99999)] σ)⟩
set_option maxHeartbeats 4000000 in
set_option maxRecDepth 20000 in
theorem k8_degree2 (l : Launch) (σ : VH) (a : Int) (ra : (-2147483648 ≤ a ∧ a < 2147483648)) (b : Int) (rb : (-2147483648 ≤ b ∧ b < 2147483648)) (I : InvX σ) (hbd : BD (gI σ 9 7) (gI σ 11) (gI σ 12)) : Ct l yX8_degree cX8_degree 3 (some .int) 4 0 0 [.ref 2, .int (iz a), .int (iz b)] σ (fun r τ => ∃ z : Int, r = some (.int (iz z)) ∧ (-2147483648 ≤ z ∧ z < 2147483648) ∧ ((z = -1 ∧ ¬ ((0 ≤ a ∧ a < gI σ 9 7) ∧ (0 ≤ b ∧ b < gI σ 9 7))) ∨ (((0 ≤ a ∧ a < gI σ 9 7) ∧ (0 ≤ b ∧ b < gI σ 9 7)) ∧ DV (gI σ 9 7) (gI σ 11) (gI σ 12) a.toNat (gI σ 9 7).toNat b.toNat z)) ∧ (Fr [(14, 99999)] σ τ) ∧ (InvX τ)) := by
  refine Ct.enter rfl (Nat.le_of_ble_eq_true rfl) ?_
  intro κ γ hκ O hrc hrs
  subst hκ
  have i1 := I.2.1
  unfold InvX1 at i1
  refine z_aload_n (pc := 0) O dX8_degree_0 rfl ?_
  refine z_getR (pc := 1) 9 O fl_X8_37 rfl (jo_2 I.1) (jr_2_8 I.1) dX8_degree_1 ?_
  refine z_iload_n (pc := 4) O dX8_degree_4 rfl ?_
  refine z_iload_n (pc := 5) O dX8_degree_5 rfl ?_
  refine z_callV (pc := 6) O cl_X8_126 (k3_stepsBetween2 _ _ a (by omega) b (by omega) I.1 (by omega) hbd) (by decide) (jo_9 I.1) kc_3 rfl rfl (Nat.le_of_ble_eq_true rfl) ⟨Nat.zero_le _, Nat.zero_le _⟩ dX8_degree_6 (fun r τ1 hp => ?_)
  obtain ⟨z2, rfl, fτ1_0, fτ1_1, frτ1⟩ := hp
  refine z_iret (pc := 9) O dX8_degree_9 ?_
  exact ⟨z2, rfl, (by omega), (by assumption), frτ1, (InvX.fr frτ1 I (by unfold InvX1; have : gI τ1 2 1 = gI σ 2 1 := gI_iz (Fr.it frτ1 rfl (izg σ 2 1)) (rgI _ _ _); have : gI τ1 9 7 = gI σ 9 7 := gI_iz (Fr.it frτ1 rfl (izg σ 9 7)) (rgI _ _ _); have : gI τ1 16 4 = gI σ 16 4 := gI_iz (Fr.it frτ1 rfl (izg σ 16 4)) (rgI _ _ _); have : gI τ1 21 4 = gI σ 21 4 := gI_iz (Fr.it frτ1 rfl (izg σ 21 4)) (rgI _ _ _); have : gI τ1 2 12 = gI σ 2 12 := gI_iz (Fr.it frτ1 rfl (izg σ 2 12)) (rgI _ _ _); have : gI τ1 27 3 = gI σ 27 3 := gI_iz (Fr.it frτ1 rfl (izg σ 27 3)) (rgI _ _ _); have : gI τ1 2 15 = gI σ 2 15 := gI_iz (Fr.it frτ1 rfl (izg σ 2 15)) (rgI _ _ _); have : gI τ1 2 7 = gI σ 2 7 := gI_iz (Fr.it frτ1 rfl (izg σ 2 7)) (rgI _ _ _); omega) (fun _ => rfl))⟩
