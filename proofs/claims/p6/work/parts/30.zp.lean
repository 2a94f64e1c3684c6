set_option maxHeartbeats 4000000 in
set_option maxRecDepth 20000 in
theorem k8_isName3 (l : Launch) (σ : VH) (v : Int64) (hsr : SRw σ) : Ct l yX8_isName cX8_isName 5 (some .boolean) 1 0 0 [.long v] σ (fun r τ => ∃ z : Int, r = some (.int (iz z)) ∧ (z = 0 ∨ z = 1) ∧ (z = 1 ↔ (Wy v.toInt ∧ ¬ Kp v.toInt)) ∧ (σ = τ)) := by
  refine Ct.enter rfl (Nat.le_of_ble_eq_true rfl) ?_
  intro κ γ hκ O hrc hrs
  subst hκ
  refine z_iconst (pc := 0) (v := iz (0)) O dX8_isName_0 (by decide) ?_
  refine z_istore_n (pc := 1) [(0, .long v), (2, .int (iz 0))] O dX8_isName_1 (by decide) rfl ?_
  refine z_bipush (pc := 2) (v := iz (56)) O dX8_isName_2 (by decide) ?_
  refine z_istore_n (pc := 4) [(0, .long v), (2, .int (iz 0)), (3, .int (iz 56))] O dX8_isName_4 (by decide) rfl ?_
  have cut5 : ∀ (mu5 : Nat) (n : Int) (k : Int), (mu5 = (k + 8).toNat) → (-2147483648 ≤ n ∧ n < 2147483648) → (-2147483648 ≤ k ∧ k < 2147483648) → (0 ≤ n ∧ 8 * n ≤ 56 - k) → (-8 ≤ k ∧ k ≤ 56) → (NmI ((v.toBitVec.toNat : Nat) : Int) n k) → Z κ γ 5 σ 0 0 (QM κ γ (fun r τ => ∃ z : Int, r = some (.int (iz z)) ∧ (z = 0 ∨ z = 1) ∧ (z = 1 ↔ (Wy v.toInt ∧ ¬ Kp v.toInt)) ∧ (σ = τ)) 0 0) 5 [(0, .long v), (2, .int (iz n)), (3, .int (iz k))] [] := by
    intro mu5
    induction mu5 using Nat.strongRecOn with
    | ind mu5 ih5 =>
    intro n k hmu5 rr5_0 rr5_1 ff5_0 ff5_1 ff5_2
    refine z_iload_n (pc := 5) O dX8_isName_5 rfl ?_
    refine zi_if_lt (pc := 6) (tgt := 50) O dX8_isName_6 (by decide) (by omega) (fun h6 => ?_) (fun h6 => ?_)
    · refine z_iload_n (pc := 50) O dX8_isName_50 rfl ?_
      refine zi_if_le (pc := 51) (tgt := 69) O dX8_isName_51 (by decide) (by omega) (fun h51 => ?_) (fun h51 => ?_)
      · refine z_iconst (pc := 69) (v := iz (0)) O dX8_isName_69 (by decide) ?_
        refine z_zret (pc := 70) O dX8_isName_70 rfl ?_
        exact ⟨0, rfl, (by decide), (by have k8 : k = -8 := (by obtain ⟨i8, hq8, -, -⟩ := ff5_2; omega); rw [k8] at ff5_2; first | (exact ⟨fun h9 => absurd h9 (by decide), fun h9 => absurd (wy_u.mp h9.1) (NmI.nil (by omega) ff5_2)⟩) | (have hy := wy_u.mpr (NmI.yes (by omega) ff5_2); first | exact ⟨fun _ => ⟨hy, hkp.mp (by omega)⟩, fun _ => rfl⟩ | exact ⟨fun h9 => absurd h9 (by decide), fun h9 => absurd (hkp.mpr h9.2) (by omega)⟩)), rfl⟩
      · refine z_getsN (pc := 54) O tw_388 dX8_isName_54 ?_
        refine z_lload_n (pc := 57) O dX8_isName_57 rfl ?_
        refine z_callS (pc := 58) O cl_X8_233 (k8_placeIn3 _ _ 0 v 21 (Or.inr (Or.inl ⟨rfl, rfl⟩)) (by decide)) (by decide) rfl rfl (Nat.le_of_ble_eq_true rfl) ⟨Nat.zero_le _, Nat.zero_le _⟩ dX8_isName_58 (fun r τ1 hp => ?_)
        obtain ⟨z2, rfl, fτ1_0, fτ1_1, rfl⟩ := hp
        have hkp := kpp hsr fτ1_1
        refine z_iconst (pc := 61) (v := iz (-1)) O dX8_isName_61 (by decide) ?_
        refine zi_icmp_ne (pc := 62) (tgt := 69) O dX8_isName_62 (by decide) (by omega) (by decide) (fun h62 => ?_) (fun h62 => ?_)
        · refine z_iconst (pc := 69) (v := iz (0)) O dX8_isName_69 (by decide) ?_
          refine z_zret (pc := 70) O dX8_isName_70 rfl ?_
          exact ⟨0, rfl, (by decide), (by have k8 : k = -8 := (by obtain ⟨i8, hq8, -, -⟩ := ff5_2; omega); rw [k8] at ff5_2; first | (exact ⟨fun h9 => absurd h9 (by decide), fun h9 => absurd (wy_u.mp h9.1) (NmI.nil (by omega) ff5_2)⟩) | (have hy := wy_u.mpr (NmI.yes (by omega) ff5_2); first | exact ⟨fun _ => ⟨hy, hkp.mp (by omega)⟩, fun _ => rfl⟩ | exact ⟨fun h9 => absurd h9 (by decide), fun h9 => absurd (hkp.mpr h9.2) (by omega)⟩)), rfl⟩
        · refine z_iconst (pc := 65) (v := iz (1)) O dX8_isName_65 (by decide) ?_
          refine z_goto (pc := 66) (tgt := 70) O dX8_isName_66 (by decide) ?_
          refine z_zret (pc := 70) O dX8_isName_70 rfl ?_
          exact ⟨1, rfl, (by decide), (by have k8 : k = -8 := (by obtain ⟨i8, hq8, -, -⟩ := ff5_2; omega); rw [k8] at ff5_2; first | (exact ⟨fun h9 => absurd h9 (by decide), fun h9 => absurd (wy_u.mp h9.1) (NmI.nil (by omega) ff5_2)⟩) | (have hy := wy_u.mpr (NmI.yes (by omega) ff5_2); first | exact ⟨fun _ => ⟨hy, hkp.mp (by omega)⟩, fun _ => rfl⟩ | exact ⟨fun h9 => absurd h9 (by decide), fun h9 => absurd (hkp.mpr h9.2) (by omega)⟩)), rfl⟩
    · refine z_lload_n (pc := 9) O dX8_isName_9 rfl ?_
      refine z_iload_n (pc := 10) O dX8_isName_10 rfl ?_
      refine z_lushr (pc := 11) O dX8_isName_11 ?_
      refine z_topl (pc := 12) (fun w3 ew3 => ?_)
      refine z_ldc2 (pc := 12) O tw_386 dX8_isName_12 ?_
      refine z_land (pc := 15) O dX8_isName_15 ?_
      refine z_topl (pc := 16) (fun w4 ew4 => ?_)
      refine z_l2i (pc := 16) O dX8_isName_16 ?_
      refine zi_any (fun z5 rz5 ez5 => ?_)
      obtain ⟨i9, hi9, hi8, hw9⟩ := ff5_2
      have hby : z5 = (((v.toBitVec.toNat : Nat) : Int) / 256 ^ (i9 - 1)) % 256 := byt (j := i9 - 1) (by omega) (by omega) (by omega) ew3 ew4 ez5
      have hu0 : (0 : Int) ≤ ((v.toBitVec.toNat : Nat) : Int) := Int.natCast_nonneg _
      refine z_istore (pc := 17) [(0, .long v), (2, .int (iz n)), (3, .int (iz k)), (4, .int (iz z5))] O dX8_isName_17 (by decide) rfl ?_
      refine z_iload (pc := 19) O dX8_isName_19 rfl ?_
      refine z_callS (pc := 21) O cl_X8_226 (k8_isLetter _ _ z5 (by omega)) (by decide) rfl rfl (Nat.le_of_ble_eq_true rfl) ⟨Nat.zero_le _, Nat.zero_le _⟩ dX8_isName_21 (fun r τ6 hp => ?_)
      obtain ⟨z7, rfl, fτ6_0, fτ6_1, rfl⟩ := hp
      refine zi_if_eq (pc := 24) (tgt := 33) O dX8_isName_24 (by decide) (by omega) (fun h24 => ?_) (fun h24 => ?_)
      · refine z_iload (pc := 33) O dX8_isName_33 rfl ?_
        refine zi_if_ne (pc := 35) (tgt := 42) O dX8_isName_35 (by decide) (by omega) (fun h35 => ?_) (fun h35 => ?_)
        · refine z_iconst (pc := 42) (v := iz (0)) O dX8_isName_42 (by decide) ?_
          refine z_zret (pc := 43) O dX8_isName_43 rfl ?_
          exact ⟨0, rfl, (by decide), ⟨fun h9 => absurd h9 (by decide), fun h9 => absurd (wy_u.mp h9.1) (NmI.no (by omega) hi9 hw9 (by omega) hby (by omega) (by omega))⟩, rfl⟩
        · refine z_iload_n (pc := 38) O dX8_isName_38 rfl ?_
          refine zi_if_le (pc := 39) (tgt := 44) O dX8_isName_39 (by decide) (by omega) (fun h39 => ?_) (fun h39 => ?_)
          · refine zi_iinc (pc := 44) (k - 8) [(0, .long v), (2, .int (iz n)), (3, .int (iz (k - 8))), (4, .int (iz z5))] O dX8_isName_44 rfl (by omega) (by decide) rfl ?_
            refine z_goto (pc := 47) (tgt := 5) O dX8_isName_47 (by decide) ?_
            refine z_lk [(0, .long v), (2, .int (iz n)), (3, .int (iz (k - 8)))] ⟨rfl, rfl, rfl, trivial⟩ ?_
            exact ih5 _ (by omega) n (k - 8) rfl (by omega) (by omega) (by omega) (by omega) (NmI.zero (by omega) hi9 hi8 hw9 (by omega) hby (by omega))
          · refine z_iconst (pc := 42) (v := iz (0)) O dX8_isName_42 (by decide) ?_
            refine z_zret (pc := 43) O dX8_isName_43 rfl ?_
            exact ⟨0, rfl, (by decide), ⟨fun h9 => absurd h9 (by decide), fun h9 => absurd (wy_u.mp h9.1) (NmI.no (by omega) hi9 hw9 (by omega) hby (by omega) (by omega))⟩, rfl⟩
      · refine zi_iinc (pc := 27) (n + 1) [(0, .long v), (2, .int (iz (n + 1))), (3, .int (iz k)), (4, .int (iz z5))] O dX8_isName_27 rfl (by omega) (by decide) rfl ?_
        refine z_goto (pc := 30) (tgt := 44) O dX8_isName_30 (by decide) ?_
        refine zi_iinc (pc := 44) (k - 8) [(0, .long v), (2, .int (iz (n + 1))), (3, .int (iz (k - 8))), (4, .int (iz z5))] O dX8_isName_44 rfl (by omega) (by decide) rfl ?_
        refine z_goto (pc := 47) (tgt := 5) O dX8_isName_47 (by decide) ?_
        refine z_lk [(0, .long v), (2, .int (iz (n + 1))), (3, .int (iz (k - 8)))] ⟨rfl, rfl, rfl, trivial⟩ ?_
        exact ih5 _ (by omega) (n + 1) (k - 8) rfl (by omega) (by omega) (by omega) (by omega) (NmI.letter (by omega) hi9 hi8 hw9 (by omega) hby (by omega))
  refine z_lk [(0, .long v), (2, .int (iz 0)), (3, .int (iz 56))] ⟨rfl, rfl, rfl, trivial⟩ ?_
  exact cut5 _ 0 56 rfl (by omega) (by omega) (by omega) (by omega) (NmI.start (Int.natCast_nonneg _) (by have := v.toBitVec.isLt; omega))
