set_option maxHeartbeats 4000000 in
set_option maxRecDepth 20000 in
theorem k5_split2 (l : Launch) (σ : VH) (n : Int) (rn : (-2147483648 ≤ n ∧ n < 2147483648)) (J : Lay σ) (hn : 0 ≤ n ∧ n ≤ 700) : Ct l yX5_split cX5_split 7 none 2 0 0 [.ref 4, .ref 3, .int (iz n)] σ (fun r τ => r = none ∧ (Fr [(5, 99999), (6, 99999), (4, 2), (4, 3)] σ τ) ∧ (1 ≤ gI τ 4 2 ∧ gI τ 4 2 ≤ 701) ∧ (TS (Sx (hI σ 3) n) n (tkr τ) (gI τ 6) ((gI τ 4 2).toNat - 1))) := by
  refine Ct.enter rfl (Nat.le_of_ble_eq_true rfl) ?_
  intro κ γ hκ O hrc hrs
  subst hκ
  refine z_aload_n (pc := 0) O dX5_split_0 rfl ?_
  refine z_iconst (pc := 1) (v := iz (0)) O dX5_split_1 (by decide) ?_
  refine z_putI (pc := 2) O fl_X5_19 rfl ⟨rfl, rfl⟩ (jo_4 J) dX5_split_2 ?_
  refine z_iconst (pc := 5) (v := iz (4)) O dX5_split_5 (by decide) ?_
  refine z_istore_n (pc := 6) [(0, .ref 4), (1, .ref 3), (2, .int (iz n)), (3, .int (iz 4))] O dX5_split_6 (by decide) rfl ?_
  refine z_iconst (pc := 7) (v := iz (0)) O dX5_split_7 (by decide) ?_
  refine z_istore (pc := 8) [(0, .ref 4), (1, .ref 3), (2, .int (iz n)), (3, .int (iz 4)), (4, .int (iz 0))] O dX5_split_8 (by decide) rfl ?_
  have cut10 : ∀ (mu10 : Nat) (bf : Int) (k : Int) (ρ10 : VH), (mu10 = (n - k).toNat) → (-2147483648 ≤ bf ∧ bf < 2147483648) → (-2147483648 ≤ k ∧ k < 2147483648) → (0 ≤ k ∧ k ≤ n) → (0 ≤ gI ρ10 4 2 ∧ gI ρ10 4 2 ≤ k) → (1 ≤ bf ∧ bf ≤ 5 ∧ ((bf = 1 ∨ bf = 2) → gI ρ10 4 3 ≤ k)) → (LxI (Sx (hI σ 3) n) n k bf (gI ρ10 4 3) (gI ρ10 4 2).toNat (tkr ρ10) (gI ρ10 6)) → (Fr [(5, 99999), (6, 99999), (4, 2), (4, 3)] (sI σ 4 2 (iz 0)) ρ10) → Z κ γ 7 ρ10 0 0 (QM κ γ (fun r τ => r = none ∧ (Fr [(5, 99999), (6, 99999), (4, 2), (4, 3)] σ τ) ∧ (1 ≤ gI τ 4 2 ∧ gI τ 4 2 ≤ 701) ∧ (TS (Sx (hI σ 3) n) n (tkr τ) (gI τ 6) ((gI τ 4 2).toNat - 1))) 0 0) 10 [(0, .ref 4), (1, .ref 3), (2, .int (iz n)), (3, .int (iz bf)), (4, .int (iz k))] [] := by
    intro mu10
    induction mu10 using Nat.strongRecOn with
    | ind mu10 ih10 =>
    intro bf k ρ10 hmu10 rr10_0 rr10_1 ff10_0 ff10_1 ff10_2 ff10_3 frρ10
    refine z_iload (pc := 10) O dX5_split_10 rfl ?_
    refine z_iload_n (pc := 12) O dX5_split_12 rfl ?_
    refine zi_icmp_ge (pc := 13) (tgt := 112) O dX5_split_13 (by decide) (by omega) (by omega) (fun h13 => ?_) (fun h13 => ?_)
    · refine z_aload_n (pc := 112) O dX5_split_112 rfl ?_
      refine z_lconst (pc := 113) (v := 1) O dX5_split_113 (by decide) ?_
      refine z_iload_n (pc := 114) O dX5_split_114 rfl ?_
      refine z_callV (pc := 115) O cl_X5_38 (k5_begin2 _ _ 1 n (by omega) (frρ10.lay J) (by omega)) (by decide) (jo_4 (frρ10.lay J)) kc_5 rfl rfl (Nat.le_of_ble_eq_true rfl) ⟨Nat.zero_le _, Nat.zero_le _⟩ dX5_split_115 (fun r τ1 hp => ?_)
      obtain ⟨rfl, frτ1, eτ1_0, eτ1_1, eτ1_2⟩ := hp
      refine z_vret (pc := 118) O dX5_split_118 ?_
      have kn : k = n := by omega
      have c1 : (gI τ1 4 2).toNat - 1 = (gI ρ10 4 2).toNat := by omega
      have T9 : TS (Sx (hI σ 3) n) n (tkr τ1) (gI τ1 6) ((gI τ1 4 2).toNat - 1) := by
        rw [c1]
        rw [kn] at ff10_3
        exact LxI.fin ff10_3 (sx_out (Int.le_refl n)) (fun j hj => by rw [eτ1_1 j, if_neg (by omega)]) (fun j hj => by rw [eτ1_2 j, if_neg (by omega)]) (by rw [eτ1_1 _, if_pos (by omega)]) (by rw [eτ1_2 _, if_pos (by omega)]; decide)
      exact ⟨rfl, ((((Fr.rf [(5, 99999), (6, 99999), (4, 2), (4, 3)] σ).pI rfl).tr frρ10).tr frτ1), by omega, T9⟩
    · refine z_iload (pc := 16) O dX5_split_16 rfl ?_
      refine z_aload_n (pc := 18) O dX5_split_18 rfl ?_
      refine z_alen (pc := 19) (t0 := 1) (n := iz 700) O (ja_3 (frρ10.lay J)) (by decide) rfl (by decide) dX5_split_19 ?_
      refine zi_icmp_ge (pc := 20) (tgt := 112) O dX5_split_20 (by decide) (by omega) (by decide) (fun h20 => ?_) (fun h20 => ?_)
      · refine z_aload_n (pc := 112) O dX5_split_112 rfl ?_
        refine z_lconst (pc := 113) (v := 1) O dX5_split_113 (by decide) ?_
        refine z_iload_n (pc := 114) O dX5_split_114 rfl ?_
        refine z_callV (pc := 115) O cl_X5_38 (k5_begin2 _ _ 1 n (by omega) (frρ10.lay J) (by omega)) (by decide) (jo_4 (frρ10.lay J)) kc_5 rfl rfl (Nat.le_of_ble_eq_true rfl) ⟨Nat.zero_le _, Nat.zero_le _⟩ dX5_split_115 (fun r τ3 hp => ?_)
        obtain ⟨rfl, frτ3, eτ3_0, eτ3_1, eτ3_2⟩ := hp
        refine z_vret (pc := 118) O dX5_split_118 ?_
        have kn : k = n := by omega
        have c1 : (gI τ3 4 2).toNat - 1 = (gI ρ10 4 2).toNat := by omega
        have T9 : TS (Sx (hI σ 3) n) n (tkr τ3) (gI τ3 6) ((gI τ3 4 2).toNat - 1) := by
          rw [c1]
          rw [kn] at ff10_3
          exact LxI.fin ff10_3 (sx_out (Int.le_refl n)) (fun j hj => by rw [eτ3_1 j, if_neg (by omega)]) (fun j hj => by rw [eτ3_2 j, if_neg (by omega)]) (by rw [eτ3_1 _, if_pos (by omega)]) (by rw [eτ3_2 _, if_pos (by omega)]; decide)
        exact ⟨rfl, ((((Fr.rf [(5, 99999), (6, 99999), (4, 2), (4, 3)] σ).pI rfl).tr frρ10).tr frτ3), by omega, T9⟩
      · refine z_aload_n (pc := 23) O dX5_split_23 rfl ?_
        refine z_iload (pc := 24) O dX5_split_24 rfl ?_
        refine zi_baldv (pc := 26) (k.toNat) (gI σ 3 (k.toNat)) O (ja_3 (frρ10.lay J)) (by omega) (by omega) (by omega) (Fr.it frρ10 rfl (sk1t (by decide) (izg σ 3 (k.toNat)))) dX5_split_26 ?_
        have := rgI σ 3 (k.toNat)
        refine z_sipush (pc := 27) (v := iz (255)) O dX5_split_27 (by decide) ?_
        refine z_iand (pc := 30) O dX5_split_30 ?_
        refine zi_any (fun z5 rz5 ez5 => ?_)
        have hS : (Sx (hI σ 3) n) k = z5 := sx_at rfl (by omega) ez5 (by omega)
        have hSr := sx_rg (hI σ 3) n k
        refine z_istore (pc := 31) [(0, .ref 4), (1, .ref 3), (2, .int (iz n)), (3, .int (iz bf)), (4, .int (iz k)), (5, .int (iz z5))] O dX5_split_31 (by decide) rfl ?_
        refine z_iload (pc := 33) O dX5_split_33 rfl ?_
        refine z_callS (pc := 35) O cl_X5_23 (k5_sortOf2 _ _ z5 (by omega)) (by decide) rfl rfl (Nat.le_of_ble_eq_true rfl) ⟨Nat.zero_le _, Nat.zero_le _⟩ dX5_split_35 (fun r τ6 hp => ?_)
        obtain ⟨z7, rfl, fτ6_0, fτ6_1, rfl⟩ := hp
        refine z_istore (pc := 38) [(0, .ref 4), (1, .ref 3), (2, .int (iz n)), (3, .int (iz bf)), (4, .int (iz k)), (5, .int (iz z5)), (6, .int (iz z7))] O dX5_split_38 (by decide) rfl ?_
        refine z_iload_n (pc := 40) O dX5_split_40 rfl ?_
        refine z_iconst (pc := 41) (v := iz (2)) O dX5_split_41 (by decide) ?_
        refine zi_icmp_ne (pc := 42) (tgt := 55) O dX5_split_42 (by decide) (by omega) (by decide) (fun h42 => ?_) (fun h42 => ?_)
        · refine z_iload (pc := 55) O dX5_split_55 rfl ?_
          refine z_iload_n (pc := 57) O dX5_split_57 rfl ?_
          refine zi_icmp_ne (pc := 58) (tgt := 84) O dX5_split_58 (by decide) (by omega) (by omega) (fun h58 => ?_) (fun h58 => ?_)
          · refine z_iload (pc := 84) O dX5_split_84 rfl ?_
            refine z_iconst (pc := 86) (v := iz (4)) O dX5_split_86 (by decide) ?_
            refine zi_icmp_eq (pc := 87) (tgt := 103) O dX5_split_87 (by decide) (by omega) (by decide) (fun h87 => ?_) (fun h87 => ?_)
            · refine z_iload (pc := 103) O dX5_split_103 rfl ?_
              refine z_istore_n (pc := 105) [(0, .ref 4), (1, .ref 3), (2, .int (iz n)), (3, .int (iz z7)), (4, .int (iz k)), (5, .int (iz z5)), (6, .int (iz z7))] O dX5_split_105 (by decide) rfl ?_
              refine zi_iinc (pc := 106) (k + 1) [(0, .ref 4), (1, .ref 3), (2, .int (iz n)), (3, .int (iz z7)), (4, .int (iz (k + 1))), (5, .int (iz z5)), (6, .int (iz z7))] O dX5_split_106 rfl (by omega) (by decide) rfl ?_
              refine z_goto (pc := 109) (tgt := 10) O dX5_split_109 (by decide) ?_
              refine z_lk [(0, .ref 4), (1, .ref 3), (2, .int (iz n)), (3, .int (iz z7)), (4, .int (iz (k + 1)))] ⟨rfl, rfl, rfl, rfl, rfl, trivial⟩ ?_
              exact ih10 _ (by omega) z7 (k + 1) ρ10 rfl (by omega) (by omega) (by omega) (by omega) (by omega) (by first | (exfalso; omega) | exact LxI.blank ff10_3 (by omega) (by omega) (by omega)) frρ10
            · refine z_aload_n (pc := 90) O dX5_split_90 rfl ?_
              refine z_iload (pc := 91) O dX5_split_91 rfl ?_
              refine z_iload (pc := 93) O dX5_split_93 rfl ?_
              refine z_callS (pc := 95) O cl_X5_34 (k5_firstOf2 _ _ z7 (by omega) z5 (by omega) (by omega)) (by decide) rfl rfl (Nat.le_of_ble_eq_true rfl) ⟨Nat.zero_le _, Nat.zero_le _⟩ dX5_split_95 (fun r τ8 hp => ?_)
              obtain ⟨z9, rfl, fτ8_0, rfl⟩ := hp
              refine z_iload (pc := 98) O dX5_split_98 rfl ?_
              refine z_callV (pc := 100) O cl_X5_38 (k5_begin2 _ _ z9 k (by omega) (frρ10.lay J) (by omega)) (by decide) (jo_4 (frρ10.lay J)) kc_5 rfl rfl (Nat.le_of_ble_eq_true rfl) ⟨Nat.zero_le _, Nat.zero_le _⟩ dX5_split_100 (fun r τ10 hp => ?_)
              obtain ⟨rfl, frτ10, eτ10_0, eτ10_1, eτ10_2⟩ := hp
              refine z_iload (pc := 103) O dX5_split_103 rfl ?_
              refine z_istore_n (pc := 105) [(0, .ref 4), (1, .ref 3), (2, .int (iz n)), (3, .int (iz z7)), (4, .int (iz k)), (5, .int (iz z5)), (6, .int (iz z7))] O dX5_split_105 (by decide) rfl ?_
              refine zi_iinc (pc := 106) (k + 1) [(0, .ref 4), (1, .ref 3), (2, .int (iz n)), (3, .int (iz z7)), (4, .int (iz (k + 1))), (5, .int (iz z5)), (6, .int (iz z7))] O dX5_split_106 rfl (by omega) (by decide) rfl ?_
              refine z_goto (pc := 109) (tgt := 10) O dX5_split_109 (by decide) ?_
              refine z_lk [(0, .ref 4), (1, .ref 3), (2, .int (iz n)), (3, .int (iz z7)), (4, .int (iz (k + 1)))] ⟨rfl, rfl, rfl, rfl, rfl, trivial⟩ ?_
              exact ih10 _ (by omega) z7 (k + 1) τ10 rfl (by omega) (by omega) (by omega) (by omega) (by omega) (by first | (exfalso; omega) | exact LxI.push ff10_3 (tp := (tkr ρ10 ((gI ρ10 4 2).toNat - 1))) (t0 := (z9).toInt) (fun hc9 => (ff10_3.2.2.resolve_left (by omega)).2.close (by omega) (fun _ => by omega) (fun _ => by omega)) (LxL.first (by omega) (by unfold Sg; omega) (by omega)) (by omega) (by omega) (fun j hj => by rw [eτ10_1 j, if_neg (by omega)]) (fun j hj => by rw [eτ10_2 j, if_neg (by omega)]) (fun hc9 => by rw [eτ10_2 _, if_neg (by omega)]) (by rw [eτ10_1 _, if_pos (by omega)]) (by rw [eτ10_2 _, if_pos (by omega)])) (frρ10.tr frτ10)
          · refine z_iload (pc := 61) O dX5_split_61 rfl ?_
            refine z_iconst (pc := 63) (v := iz (1)) O dX5_split_63 (by decide) ?_
            refine zi_icmp_eq (pc := 64) (tgt := 73) O dX5_split_64 (by decide) (by omega) (by decide) (fun h64 => ?_) (fun h64 => ?_)
            · refine z_aload_n (pc := 73) O dX5_split_73 rfl ?_
              refine z_iload (pc := 74) O dX5_split_74 rfl ?_
              refine z_iload (pc := 76) O dX5_split_76 rfl ?_
              have hla := ff10_3.last (by omega)
              refine z_callV (pc := 78) O cl_X5_30 (k5_lengthenLast2 _ _ z7 (by omega) z5 (by omega) (frρ10.lay J) (by omega) (by omega) (by omega) (by omega) (fun h1 h2 => by have h9 := LxI.last1 ff10_3 (by omega) h2; rw [show (gI ρ10 4 2 - 1).toNat = (gI ρ10 4 2).toNat - 1 by omega]; exact h9) (fun h1 h2 => by have h9 := LxI.last2 ff10_3 (by omega) h2; rw [show (gI ρ10 4 2 - 1).toNat = (gI ρ10 4 2).toNat - 1 by omega]; exact h9)) (by decide) (jo_4 (frρ10.lay J)) kc_5 rfl rfl (Nat.le_of_ble_eq_true rfl) ⟨Nat.zero_le _, Nat.zero_le _⟩ dX5_split_78 (fun r τ12 hp => ?_)
              obtain ⟨rfl, frτ12, eτ12_0, eτ12_1, eτ12_2⟩ := hp
              refine z_goto (pc := 81) (tgt := 103) O dX5_split_81 (by decide) ?_
              refine z_iload (pc := 103) O dX5_split_103 rfl ?_
              refine z_istore_n (pc := 105) [(0, .ref 4), (1, .ref 3), (2, .int (iz n)), (3, .int (iz z7)), (4, .int (iz k)), (5, .int (iz z5)), (6, .int (iz z7))] O dX5_split_105 (by decide) rfl ?_
              refine zi_iinc (pc := 106) (k + 1) [(0, .ref 4), (1, .ref 3), (2, .int (iz n)), (3, .int (iz z7)), (4, .int (iz (k + 1))), (5, .int (iz z5)), (6, .int (iz z7))] O dX5_split_106 rfl (by omega) (by decide) rfl ?_
              refine z_goto (pc := 109) (tgt := 10) O dX5_split_109 (by decide) ?_
              refine z_lk [(0, .ref 4), (1, .ref 3), (2, .int (iz n)), (3, .int (iz z7)), (4, .int (iz (k + 1)))] ⟨rfl, rfl, rfl, rfl, rfl, trivial⟩ ?_
              exact ih10 _ (by omega) z7 (k + 1) τ12 rfl (by omega) (by omega) (by omega) (by have : gI τ12 4 2 = gI ρ10 4 2 := gI_iz (Fr.it frτ12 rfl (izg ρ10 4 2)) (rgI _ _ _); omega) (by omega) (by first | (exfalso; omega) | (have HL : (gI ρ10 4 2 - 1).toNat = (gI ρ10 4 2).toNat - 1 := (by omega); rw [HL] at eτ12_2; have c2 : gI τ12 4 2 = gI ρ10 4 2 := frτ12.g 4 2 rfl; have c6 : gI τ12 6 = gI ρ10 6 := gI_row (fun k => frτ12.i 6 k rfl); rw [c2, c6]; exact LxI.more1 ff10_3 (by omega) (by omega) eτ12_0 (t' := tkr τ12 ((gI ρ10 4 2).toNat - 1)) (by omega) (by omega) (fun j hj => eτ12_1 j (by omega)) (fun _ => rfl)) | (have HL : (gI ρ10 4 2 - 1).toNat = (gI ρ10 4 2).toNat - 1 := (by omega); rw [HL] at eτ12_2; have c2 : gI τ12 4 2 = gI ρ10 4 2 := frτ12.g 4 2 rfl; have c6 : gI τ12 6 = gI ρ10 6 := gI_row (fun k => frτ12.i 6 k rfl); rw [c2, c6]; exact LxI.more2 ff10_3 (by omega) (by omega) eτ12_0 (t' := tkr τ12 ((gI ρ10 4 2).toNat - 1)) (by omega) (by omega) (fun j hj => eτ12_1 j (by omega)) (fun _ => rfl))) (frρ10.tr (frτ12.mono (V := [(5, 99999), (6, 99999), (4, 2), (4, 3)]) rfl))
            · refine z_iload (pc := 67) O dX5_split_67 rfl ?_
              refine z_iconst (pc := 69) (v := iz (2)) O dX5_split_69 (by decide) ?_
              refine zi_icmp_ne (pc := 70) (tgt := 84) O dX5_split_70 (by decide) (by omega) (by decide) (fun h70 => ?_) (fun h70 => ?_)
              · refine z_iload (pc := 84) O dX5_split_84 rfl ?_
                refine z_iconst (pc := 86) (v := iz (4)) O dX5_split_86 (by decide) ?_
                refine zi_icmp_eq (pc := 87) (tgt := 103) O dX5_split_87 (by decide) (by omega) (by decide) (fun h87 => ?_) (fun h87 => ?_)
                · refine z_iload (pc := 103) O dX5_split_103 rfl ?_
                  refine z_istore_n (pc := 105) [(0, .ref 4), (1, .ref 3), (2, .int (iz n)), (3, .int (iz z7)), (4, .int (iz k)), (5, .int (iz z5)), (6, .int (iz z7))] O dX5_split_105 (by decide) rfl ?_
                  refine zi_iinc (pc := 106) (k + 1) [(0, .ref 4), (1, .ref 3), (2, .int (iz n)), (3, .int (iz z7)), (4, .int (iz (k + 1))), (5, .int (iz z5)), (6, .int (iz z7))] O dX5_split_106 rfl (by omega) (by decide) rfl ?_
                  refine z_goto (pc := 109) (tgt := 10) O dX5_split_109 (by decide) ?_
                  refine z_lk [(0, .ref 4), (1, .ref 3), (2, .int (iz n)), (3, .int (iz z7)), (4, .int (iz (k + 1)))] ⟨rfl, rfl, rfl, rfl, rfl, trivial⟩ ?_
                  exact ih10 _ (by omega) z7 (k + 1) ρ10 rfl (by omega) (by omega) (by omega) (by omega) (by omega) (by first | (exfalso; omega) | exact LxI.blank ff10_3 (by omega) (by omega) (by omega)) frρ10
                · refine z_aload_n (pc := 90) O dX5_split_90 rfl ?_
                  refine z_iload (pc := 91) O dX5_split_91 rfl ?_
                  refine z_iload (pc := 93) O dX5_split_93 rfl ?_
                  refine z_callS (pc := 95) O cl_X5_34 (k5_firstOf2 _ _ z7 (by omega) z5 (by omega) (by omega)) (by decide) rfl rfl (Nat.le_of_ble_eq_true rfl) ⟨Nat.zero_le _, Nat.zero_le _⟩ dX5_split_95 (fun r τ14 hp => ?_)
                  obtain ⟨z15, rfl, fτ14_0, rfl⟩ := hp
                  refine z_iload (pc := 98) O dX5_split_98 rfl ?_
                  refine z_callV (pc := 100) O cl_X5_38 (k5_begin2 _ _ z15 k (by omega) (frρ10.lay J) (by omega)) (by decide) (jo_4 (frρ10.lay J)) kc_5 rfl rfl (Nat.le_of_ble_eq_true rfl) ⟨Nat.zero_le _, Nat.zero_le _⟩ dX5_split_100 (fun r τ16 hp => ?_)
                  obtain ⟨rfl, frτ16, eτ16_0, eτ16_1, eτ16_2⟩ := hp
                  refine z_iload (pc := 103) O dX5_split_103 rfl ?_
                  refine z_istore_n (pc := 105) [(0, .ref 4), (1, .ref 3), (2, .int (iz n)), (3, .int (iz z7)), (4, .int (iz k)), (5, .int (iz z5)), (6, .int (iz z7))] O dX5_split_105 (by decide) rfl ?_
                  refine zi_iinc (pc := 106) (k + 1) [(0, .ref 4), (1, .ref 3), (2, .int (iz n)), (3, .int (iz z7)), (4, .int (iz (k + 1))), (5, .int (iz z5)), (6, .int (iz z7))] O dX5_split_106 rfl (by omega) (by decide) rfl ?_
                  refine z_goto (pc := 109) (tgt := 10) O dX5_split_109 (by decide) ?_
                  refine z_lk [(0, .ref 4), (1, .ref 3), (2, .int (iz n)), (3, .int (iz z7)), (4, .int (iz (k + 1)))] ⟨rfl, rfl, rfl, rfl, rfl, trivial⟩ ?_
                  exact ih10 _ (by omega) z7 (k + 1) τ16 rfl (by omega) (by omega) (by omega) (by omega) (by omega) (by first | (exfalso; omega) | exact LxI.push ff10_3 (tp := (tkr ρ10 ((gI ρ10 4 2).toNat - 1))) (t0 := (z15).toInt) (fun hc9 => (ff10_3.2.2.resolve_left (by omega)).2.close (by omega) (fun _ => by omega) (fun _ => by omega)) (LxL.first (by omega) (by unfold Sg; omega) (by omega)) (by omega) (by omega) (fun j hj => by rw [eτ16_1 j, if_neg (by omega)]) (fun j hj => by rw [eτ16_2 j, if_neg (by omega)]) (fun hc9 => by rw [eτ16_2 _, if_neg (by omega)]) (by rw [eτ16_1 _, if_pos (by omega)]) (by rw [eτ16_2 _, if_pos (by omega)])) (frρ10.tr frτ16)
              · refine z_aload_n (pc := 73) O dX5_split_73 rfl ?_
                refine z_iload (pc := 74) O dX5_split_74 rfl ?_
                refine z_iload (pc := 76) O dX5_split_76 rfl ?_
                have hla := ff10_3.last (by omega)
                refine z_callV (pc := 78) O cl_X5_30 (k5_lengthenLast2 _ _ z7 (by omega) z5 (by omega) (frρ10.lay J) (by omega) (by omega) (by omega) (by omega) (fun h1 h2 => by have h9 := LxI.last1 ff10_3 (by omega) h2; rw [show (gI ρ10 4 2 - 1).toNat = (gI ρ10 4 2).toNat - 1 by omega]; exact h9) (fun h1 h2 => by have h9 := LxI.last2 ff10_3 (by omega) h2; rw [show (gI ρ10 4 2 - 1).toNat = (gI ρ10 4 2).toNat - 1 by omega]; exact h9)) (by decide) (jo_4 (frρ10.lay J)) kc_5 rfl rfl (Nat.le_of_ble_eq_true rfl) ⟨Nat.zero_le _, Nat.zero_le _⟩ dX5_split_78 (fun r τ18 hp => ?_)
                obtain ⟨rfl, frτ18, eτ18_0, eτ18_1, eτ18_2⟩ := hp
                refine z_goto (pc := 81) (tgt := 103) O dX5_split_81 (by decide) ?_
                refine z_iload (pc := 103) O dX5_split_103 rfl ?_
                refine z_istore_n (pc := 105) [(0, .ref 4), (1, .ref 3), (2, .int (iz n)), (3, .int (iz z7)), (4, .int (iz k)), (5, .int (iz z5)), (6, .int (iz z7))] O dX5_split_105 (by decide) rfl ?_
                refine zi_iinc (pc := 106) (k + 1) [(0, .ref 4), (1, .ref 3), (2, .int (iz n)), (3, .int (iz z7)), (4, .int (iz (k + 1))), (5, .int (iz z5)), (6, .int (iz z7))] O dX5_split_106 rfl (by omega) (by decide) rfl ?_
                refine z_goto (pc := 109) (tgt := 10) O dX5_split_109 (by decide) ?_
                refine z_lk [(0, .ref 4), (1, .ref 3), (2, .int (iz n)), (3, .int (iz z7)), (4, .int (iz (k + 1)))] ⟨rfl, rfl, rfl, rfl, rfl, trivial⟩ ?_
                exact ih10 _ (by omega) z7 (k + 1) τ18 rfl (by omega) (by omega) (by omega) (by have : gI τ18 4 2 = gI ρ10 4 2 := gI_iz (Fr.it frτ18 rfl (izg ρ10 4 2)) (rgI _ _ _); omega) (by omega) (by first | (exfalso; omega) | (have HL : (gI ρ10 4 2 - 1).toNat = (gI ρ10 4 2).toNat - 1 := (by omega); rw [HL] at eτ18_2; have c2 : gI τ18 4 2 = gI ρ10 4 2 := frτ18.g 4 2 rfl; have c6 : gI τ18 6 = gI ρ10 6 := gI_row (fun k => frτ18.i 6 k rfl); rw [c2, c6]; exact LxI.more1 ff10_3 (by omega) (by omega) eτ18_0 (t' := tkr τ18 ((gI ρ10 4 2).toNat - 1)) (by omega) (by omega) (fun j hj => eτ18_1 j (by omega)) (fun _ => rfl)) | (have HL : (gI ρ10 4 2 - 1).toNat = (gI ρ10 4 2).toNat - 1 := (by omega); rw [HL] at eτ18_2; have c2 : gI τ18 4 2 = gI ρ10 4 2 := frτ18.g 4 2 rfl; have c6 : gI τ18 6 = gI ρ10 6 := gI_row (fun k => frτ18.i 6 k rfl); rw [c2, c6]; exact LxI.more2 ff10_3 (by omega) (by omega) eτ18_0 (t' := tkr τ18 ((gI ρ10 4 2).toNat - 1)) (by omega) (by omega) (fun j hj => eτ18_1 j (by omega)) (fun _ => rfl))) (frρ10.tr (frτ18.mono (V := [(5, 99999), (6, 99999), (4, 2), (4, 3)]) rfl))
        · refine z_iload (pc := 45) O dX5_split_45 rfl ?_
          refine z_iconst (pc := 47) (v := iz (1)) O dX5_split_47 (by decide) ?_
          refine zi_icmp_ne (pc := 48) (tgt := 55) O dX5_split_48 (by decide) (by omega) (by decide) (fun h48 => ?_) (fun h48 => ?_)
          · refine z_iload (pc := 55) O dX5_split_55 rfl ?_
            refine z_iload_n (pc := 57) O dX5_split_57 rfl ?_
            refine zi_icmp_ne (pc := 58) (tgt := 84) O dX5_split_58 (by decide) (by omega) (by omega) (fun h58 => ?_) (fun h58 => ?_)
            · refine z_iload (pc := 84) O dX5_split_84 rfl ?_
              refine z_iconst (pc := 86) (v := iz (4)) O dX5_split_86 (by decide) ?_
              refine zi_icmp_eq (pc := 87) (tgt := 103) O dX5_split_87 (by decide) (by omega) (by decide) (fun h87 => ?_) (fun h87 => ?_)
              · refine z_iload (pc := 103) O dX5_split_103 rfl ?_
                refine z_istore_n (pc := 105) [(0, .ref 4), (1, .ref 3), (2, .int (iz n)), (3, .int (iz z7)), (4, .int (iz k)), (5, .int (iz z5)), (6, .int (iz z7))] O dX5_split_105 (by decide) rfl ?_
                refine zi_iinc (pc := 106) (k + 1) [(0, .ref 4), (1, .ref 3), (2, .int (iz n)), (3, .int (iz z7)), (4, .int (iz (k + 1))), (5, .int (iz z5)), (6, .int (iz z7))] O dX5_split_106 rfl (by omega) (by decide) rfl ?_
                refine z_goto (pc := 109) (tgt := 10) O dX5_split_109 (by decide) ?_
                refine z_lk [(0, .ref 4), (1, .ref 3), (2, .int (iz n)), (3, .int (iz z7)), (4, .int (iz (k + 1)))] ⟨rfl, rfl, rfl, rfl, rfl, trivial⟩ ?_
                exact ih10 _ (by omega) z7 (k + 1) ρ10 rfl (by omega) (by omega) (by omega) (by omega) (by omega) (by first | (exfalso; omega) | exact LxI.blank ff10_3 (by omega) (by omega) (by omega)) frρ10
              · refine z_aload_n (pc := 90) O dX5_split_90 rfl ?_
                refine z_iload (pc := 91) O dX5_split_91 rfl ?_
                refine z_iload (pc := 93) O dX5_split_93 rfl ?_
                refine z_callS (pc := 95) O cl_X5_34 (k5_firstOf2 _ _ z7 (by omega) z5 (by omega) (by omega)) (by decide) rfl rfl (Nat.le_of_ble_eq_true rfl) ⟨Nat.zero_le _, Nat.zero_le _⟩ dX5_split_95 (fun r τ20 hp => ?_)
                obtain ⟨z21, rfl, fτ20_0, rfl⟩ := hp
                refine z_iload (pc := 98) O dX5_split_98 rfl ?_
                refine z_callV (pc := 100) O cl_X5_38 (k5_begin2 _ _ z21 k (by omega) (frρ10.lay J) (by omega)) (by decide) (jo_4 (frρ10.lay J)) kc_5 rfl rfl (Nat.le_of_ble_eq_true rfl) ⟨Nat.zero_le _, Nat.zero_le _⟩ dX5_split_100 (fun r τ22 hp => ?_)
                obtain ⟨rfl, frτ22, eτ22_0, eτ22_1, eτ22_2⟩ := hp
                refine z_iload (pc := 103) O dX5_split_103 rfl ?_
                refine z_istore_n (pc := 105) [(0, .ref 4), (1, .ref 3), (2, .int (iz n)), (3, .int (iz z7)), (4, .int (iz k)), (5, .int (iz z5)), (6, .int (iz z7))] O dX5_split_105 (by decide) rfl ?_
                refine zi_iinc (pc := 106) (k + 1) [(0, .ref 4), (1, .ref 3), (2, .int (iz n)), (3, .int (iz z7)), (4, .int (iz (k + 1))), (5, .int (iz z5)), (6, .int (iz z7))] O dX5_split_106 rfl (by omega) (by decide) rfl ?_
                refine z_goto (pc := 109) (tgt := 10) O dX5_split_109 (by decide) ?_
                refine z_lk [(0, .ref 4), (1, .ref 3), (2, .int (iz n)), (3, .int (iz z7)), (4, .int (iz (k + 1)))] ⟨rfl, rfl, rfl, rfl, rfl, trivial⟩ ?_
                exact ih10 _ (by omega) z7 (k + 1) τ22 rfl (by omega) (by omega) (by omega) (by omega) (by omega) (by first | (exfalso; omega) | exact LxI.push ff10_3 (tp := (tkr ρ10 ((gI ρ10 4 2).toNat - 1))) (t0 := (z21).toInt) (fun hc9 => (ff10_3.2.2.resolve_left (by omega)).2.close (by omega) (fun _ => by omega) (fun _ => by omega)) (LxL.first (by omega) (by unfold Sg; omega) (by omega)) (by omega) (by omega) (fun j hj => by rw [eτ22_1 j, if_neg (by omega)]) (fun j hj => by rw [eτ22_2 j, if_neg (by omega)]) (fun hc9 => by rw [eτ22_2 _, if_neg (by omega)]) (by rw [eτ22_1 _, if_pos (by omega)]) (by rw [eτ22_2 _, if_pos (by omega)])) (frρ10.tr frτ22)
            · refine z_iload (pc := 61) O dX5_split_61 rfl ?_
              refine z_iconst (pc := 63) (v := iz (1)) O dX5_split_63 (by decide) ?_
              refine zi_icmp_eq (pc := 64) (tgt := 73) O dX5_split_64 (by decide) (by omega) (by decide) (fun h64 => ?_) (fun h64 => ?_)
              · refine z_aload_n (pc := 73) O dX5_split_73 rfl ?_
                refine z_iload (pc := 74) O dX5_split_74 rfl ?_
                refine z_iload (pc := 76) O dX5_split_76 rfl ?_
                have hla := ff10_3.last (by omega)
                refine z_callV (pc := 78) O cl_X5_30 (k5_lengthenLast2 _ _ z7 (by omega) z5 (by omega) (frρ10.lay J) (by omega) (by omega) (by omega) (by omega) (fun h1 h2 => by have h9 := LxI.last1 ff10_3 (by omega) h2; rw [show (gI ρ10 4 2 - 1).toNat = (gI ρ10 4 2).toNat - 1 by omega]; exact h9) (fun h1 h2 => by have h9 := LxI.last2 ff10_3 (by omega) h2; rw [show (gI ρ10 4 2 - 1).toNat = (gI ρ10 4 2).toNat - 1 by omega]; exact h9)) (by decide) (jo_4 (frρ10.lay J)) kc_5 rfl rfl (Nat.le_of_ble_eq_true rfl) ⟨Nat.zero_le _, Nat.zero_le _⟩ dX5_split_78 (fun r τ24 hp => ?_)
                obtain ⟨rfl, frτ24, eτ24_0, eτ24_1, eτ24_2⟩ := hp
                refine z_goto (pc := 81) (tgt := 103) O dX5_split_81 (by decide) ?_
                refine z_iload (pc := 103) O dX5_split_103 rfl ?_
                refine z_istore_n (pc := 105) [(0, .ref 4), (1, .ref 3), (2, .int (iz n)), (3, .int (iz z7)), (4, .int (iz k)), (5, .int (iz z5)), (6, .int (iz z7))] O dX5_split_105 (by decide) rfl ?_
                refine zi_iinc (pc := 106) (k + 1) [(0, .ref 4), (1, .ref 3), (2, .int (iz n)), (3, .int (iz z7)), (4, .int (iz (k + 1))), (5, .int (iz z5)), (6, .int (iz z7))] O dX5_split_106 rfl (by omega) (by decide) rfl ?_
                refine z_goto (pc := 109) (tgt := 10) O dX5_split_109 (by decide) ?_
                refine z_lk [(0, .ref 4), (1, .ref 3), (2, .int (iz n)), (3, .int (iz z7)), (4, .int (iz (k + 1)))] ⟨rfl, rfl, rfl, rfl, rfl, trivial⟩ ?_
                exact ih10 _ (by omega) z7 (k + 1) τ24 rfl (by omega) (by omega) (by omega) (by have : gI τ24 4 2 = gI ρ10 4 2 := gI_iz (Fr.it frτ24 rfl (izg ρ10 4 2)) (rgI _ _ _); omega) (by omega) (by first | (exfalso; omega) | (have HL : (gI ρ10 4 2 - 1).toNat = (gI ρ10 4 2).toNat - 1 := (by omega); rw [HL] at eτ24_2; have c2 : gI τ24 4 2 = gI ρ10 4 2 := frτ24.g 4 2 rfl; have c6 : gI τ24 6 = gI ρ10 6 := gI_row (fun k => frτ24.i 6 k rfl); rw [c2, c6]; exact LxI.more1 ff10_3 (by omega) (by omega) eτ24_0 (t' := tkr τ24 ((gI ρ10 4 2).toNat - 1)) (by omega) (by omega) (fun j hj => eτ24_1 j (by omega)) (fun _ => rfl)) | (have HL : (gI ρ10 4 2 - 1).toNat = (gI ρ10 4 2).toNat - 1 := (by omega); rw [HL] at eτ24_2; have c2 : gI τ24 4 2 = gI ρ10 4 2 := frτ24.g 4 2 rfl; have c6 : gI τ24 6 = gI ρ10 6 := gI_row (fun k => frτ24.i 6 k rfl); rw [c2, c6]; exact LxI.more2 ff10_3 (by omega) (by omega) eτ24_0 (t' := tkr τ24 ((gI ρ10 4 2).toNat - 1)) (by omega) (by omega) (fun j hj => eτ24_1 j (by omega)) (fun _ => rfl))) (frρ10.tr (frτ24.mono (V := [(5, 99999), (6, 99999), (4, 2), (4, 3)]) rfl))
              · refine z_iload (pc := 67) O dX5_split_67 rfl ?_
                refine z_iconst (pc := 69) (v := iz (2)) O dX5_split_69 (by decide) ?_
                refine zi_icmp_ne (pc := 70) (tgt := 84) O dX5_split_70 (by decide) (by omega) (by decide) (fun h70 => ?_) (fun h70 => ?_)
                · refine z_iload (pc := 84) O dX5_split_84 rfl ?_
                  refine z_iconst (pc := 86) (v := iz (4)) O dX5_split_86 (by decide) ?_
                  refine zi_icmp_eq (pc := 87) (tgt := 103) O dX5_split_87 (by decide) (by omega) (by decide) (fun h87 => ?_) (fun h87 => ?_)
                  · refine z_iload (pc := 103) O dX5_split_103 rfl ?_
                    refine z_istore_n (pc := 105) [(0, .ref 4), (1, .ref 3), (2, .int (iz n)), (3, .int (iz z7)), (4, .int (iz k)), (5, .int (iz z5)), (6, .int (iz z7))] O dX5_split_105 (by decide) rfl ?_
                    refine zi_iinc (pc := 106) (k + 1) [(0, .ref 4), (1, .ref 3), (2, .int (iz n)), (3, .int (iz z7)), (4, .int (iz (k + 1))), (5, .int (iz z5)), (6, .int (iz z7))] O dX5_split_106 rfl (by omega) (by decide) rfl ?_
                    refine z_goto (pc := 109) (tgt := 10) O dX5_split_109 (by decide) ?_
                    refine z_lk [(0, .ref 4), (1, .ref 3), (2, .int (iz n)), (3, .int (iz z7)), (4, .int (iz (k + 1)))] ⟨rfl, rfl, rfl, rfl, rfl, trivial⟩ ?_
                    exact ih10 _ (by omega) z7 (k + 1) ρ10 rfl (by omega) (by omega) (by omega) (by omega) (by omega) (by first | (exfalso; omega) | exact LxI.blank ff10_3 (by omega) (by omega) (by omega)) frρ10
                  · refine z_aload_n (pc := 90) O dX5_split_90 rfl ?_
                    refine z_iload (pc := 91) O dX5_split_91 rfl ?_
                    refine z_iload (pc := 93) O dX5_split_93 rfl ?_
                    refine z_callS (pc := 95) O cl_X5_34 (k5_firstOf2 _ _ z7 (by omega) z5 (by omega) (by omega)) (by decide) rfl rfl (Nat.le_of_ble_eq_true rfl) ⟨Nat.zero_le _, Nat.zero_le _⟩ dX5_split_95 (fun r τ26 hp => ?_)
                    obtain ⟨z27, rfl, fτ26_0, rfl⟩ := hp
                    refine z_iload (pc := 98) O dX5_split_98 rfl ?_
                    refine z_callV (pc := 100) O cl_X5_38 (k5_begin2 _ _ z27 k (by omega) (frρ10.lay J) (by omega)) (by decide) (jo_4 (frρ10.lay J)) kc_5 rfl rfl (Nat.le_of_ble_eq_true rfl) ⟨Nat.zero_le _, Nat.zero_le _⟩ dX5_split_100 (fun r τ28 hp => ?_)
                    obtain ⟨rfl, frτ28, eτ28_0, eτ28_1, eτ28_2⟩ := hp
                    refine z_iload (pc := 103) O dX5_split_103 rfl ?_
                    refine z_istore_n (pc := 105) [(0, .ref 4), (1, .ref 3), (2, .int (iz n)), (3, .int (iz z7)), (4, .int (iz k)), (5, .int (iz z5)), (6, .int (iz z7))] O dX5_split_105 (by decide) rfl ?_
                    refine zi_iinc (pc := 106) (k + 1) [(0, .ref 4), (1, .ref 3), (2, .int (iz n)), (3, .int (iz z7)), (4, .int (iz (k + 1))), (5, .int (iz z5)), (6, .int (iz z7))] O dX5_split_106 rfl (by omega) (by decide) rfl ?_
                    refine z_goto (pc := 109) (tgt := 10) O dX5_split_109 (by decide) ?_
                    refine z_lk [(0, .ref 4), (1, .ref 3), (2, .int (iz n)), (3, .int (iz z7)), (4, .int (iz (k + 1)))] ⟨rfl, rfl, rfl, rfl, rfl, trivial⟩ ?_
                    exact ih10 _ (by omega) z7 (k + 1) τ28 rfl (by omega) (by omega) (by omega) (by omega) (by omega) (by first | (exfalso; omega) | exact LxI.push ff10_3 (tp := (tkr ρ10 ((gI ρ10 4 2).toNat - 1))) (t0 := (z27).toInt) (fun hc9 => (ff10_3.2.2.resolve_left (by omega)).2.close (by omega) (fun _ => by omega) (fun _ => by omega)) (LxL.first (by omega) (by unfold Sg; omega) (by omega)) (by omega) (by omega) (fun j hj => by rw [eτ28_1 j, if_neg (by omega)]) (fun j hj => by rw [eτ28_2 j, if_neg (by omega)]) (fun hc9 => by rw [eτ28_2 _, if_neg (by omega)]) (by rw [eτ28_1 _, if_pos (by omega)]) (by rw [eτ28_2 _, if_pos (by omega)])) (frρ10.tr frτ28)
                · refine z_aload_n (pc := 73) O dX5_split_73 rfl ?_
                  refine z_iload (pc := 74) O dX5_split_74 rfl ?_
                  refine z_iload (pc := 76) O dX5_split_76 rfl ?_
                  have hla := ff10_3.last (by omega)
                  refine z_callV (pc := 78) O cl_X5_30 (k5_lengthenLast2 _ _ z7 (by omega) z5 (by omega) (frρ10.lay J) (by omega) (by omega) (by omega) (by omega) (fun h1 h2 => by have h9 := LxI.last1 ff10_3 (by omega) h2; rw [show (gI ρ10 4 2 - 1).toNat = (gI ρ10 4 2).toNat - 1 by omega]; exact h9) (fun h1 h2 => by have h9 := LxI.last2 ff10_3 (by omega) h2; rw [show (gI ρ10 4 2 - 1).toNat = (gI ρ10 4 2).toNat - 1 by omega]; exact h9)) (by decide) (jo_4 (frρ10.lay J)) kc_5 rfl rfl (Nat.le_of_ble_eq_true rfl) ⟨Nat.zero_le _, Nat.zero_le _⟩ dX5_split_78 (fun r τ30 hp => ?_)
                  obtain ⟨rfl, frτ30, eτ30_0, eτ30_1, eτ30_2⟩ := hp
                  refine z_goto (pc := 81) (tgt := 103) O dX5_split_81 (by decide) ?_
                  refine z_iload (pc := 103) O dX5_split_103 rfl ?_
                  refine z_istore_n (pc := 105) [(0, .ref 4), (1, .ref 3), (2, .int (iz n)), (3, .int (iz z7)), (4, .int (iz k)), (5, .int (iz z5)), (6, .int (iz z7))] O dX5_split_105 (by decide) rfl ?_
                  refine zi_iinc (pc := 106) (k + 1) [(0, .ref 4), (1, .ref 3), (2, .int (iz n)), (3, .int (iz z7)), (4, .int (iz (k + 1))), (5, .int (iz z5)), (6, .int (iz z7))] O dX5_split_106 rfl (by omega) (by decide) rfl ?_
                  refine z_goto (pc := 109) (tgt := 10) O dX5_split_109 (by decide) ?_
                  refine z_lk [(0, .ref 4), (1, .ref 3), (2, .int (iz n)), (3, .int (iz z7)), (4, .int (iz (k + 1)))] ⟨rfl, rfl, rfl, rfl, rfl, trivial⟩ ?_
                  exact ih10 _ (by omega) z7 (k + 1) τ30 rfl (by omega) (by omega) (by omega) (by have : gI τ30 4 2 = gI ρ10 4 2 := gI_iz (Fr.it frτ30 rfl (izg ρ10 4 2)) (rgI _ _ _); omega) (by omega) (by first | (exfalso; omega) | (have HL : (gI ρ10 4 2 - 1).toNat = (gI ρ10 4 2).toNat - 1 := (by omega); rw [HL] at eτ30_2; have c2 : gI τ30 4 2 = gI ρ10 4 2 := frτ30.g 4 2 rfl; have c6 : gI τ30 6 = gI ρ10 6 := gI_row (fun k => frτ30.i 6 k rfl); rw [c2, c6]; exact LxI.more1 ff10_3 (by omega) (by omega) eτ30_0 (t' := tkr τ30 ((gI ρ10 4 2).toNat - 1)) (by omega) (by omega) (fun j hj => eτ30_1 j (by omega)) (fun _ => rfl)) | (have HL : (gI ρ10 4 2 - 1).toNat = (gI ρ10 4 2).toNat - 1 := (by omega); rw [HL] at eτ30_2; have c2 : gI τ30 4 2 = gI ρ10 4 2 := frτ30.g 4 2 rfl; have c6 : gI τ30 6 = gI ρ10 6 := gI_row (fun k => frτ30.i 6 k rfl); rw [c2, c6]; exact LxI.more2 ff10_3 (by omega) (by omega) eτ30_0 (t' := tkr τ30 ((gI ρ10 4 2).toNat - 1)) (by omega) (by omega) (fun j hj => eτ30_1 j (by omega)) (fun _ => rfl))) (frρ10.tr (frτ30.mono (V := [(5, 99999), (6, 99999), (4, 2), (4, 3)]) rfl))
          · refine z_aload_n (pc := 51) O dX5_split_51 rfl ?_
            have hla := ff10_3.last (by omega)
            refine z_callV (pc := 52) O cl_X5_27 (k5_spoilLast2 _ _ (frρ10.lay J) (by omega)) (by decide) (jo_4 (frρ10.lay J)) kc_5 rfl rfl (Nat.le_of_ble_eq_true rfl) ⟨Nat.zero_le _, Nat.zero_le _⟩ dX5_split_52 (fun r τ32 hp => ?_)
            obtain ⟨rfl, frτ32, eτ32_0⟩ := hp
            refine z_iload (pc := 55) O dX5_split_55 rfl ?_
            refine z_iload_n (pc := 57) O dX5_split_57 rfl ?_
            refine zi_icmp_ne (pc := 58) (tgt := 84) O dX5_split_58 (by decide) (by omega) (by omega) (fun h58 => ?_) (fun h58 => ?_)
            · refine z_iload (pc := 84) O dX5_split_84 rfl ?_
              refine z_iconst (pc := 86) (v := iz (4)) O dX5_split_86 (by decide) ?_
              refine zi_icmp_eq (pc := 87) (tgt := 103) O dX5_split_87 (by decide) (by omega) (by decide) (fun h87 => ?_) (fun h87 => ?_)
              · refine z_iload (pc := 103) O dX5_split_103 rfl ?_
                refine z_istore_n (pc := 105) [(0, .ref 4), (1, .ref 3), (2, .int (iz n)), (3, .int (iz z7)), (4, .int (iz k)), (5, .int (iz z5)), (6, .int (iz z7))] O dX5_split_105 (by decide) rfl ?_
                refine zi_iinc (pc := 106) (k + 1) [(0, .ref 4), (1, .ref 3), (2, .int (iz n)), (3, .int (iz z7)), (4, .int (iz (k + 1))), (5, .int (iz z5)), (6, .int (iz z7))] O dX5_split_106 rfl (by omega) (by decide) rfl ?_
                refine z_goto (pc := 109) (tgt := 10) O dX5_split_109 (by decide) ?_
                refine z_lk [(0, .ref 4), (1, .ref 3), (2, .int (iz n)), (3, .int (iz z7)), (4, .int (iz (k + 1)))] ⟨rfl, rfl, rfl, rfl, rfl, trivial⟩ ?_
                exact ih10 _ (by omega) z7 (k + 1) τ32 rfl (by omega) (by omega) (by omega) (by have : gI τ32 4 2 = gI ρ10 4 2 := gI_iz (Fr.it frτ32 rfl (izg ρ10 4 2)) (rgI _ _ _); omega) (by have : gI τ32 4 3 = gI ρ10 4 3 := gI_iz (Fr.it frτ32 rfl (izg ρ10 4 3)) (rgI _ _ _); omega) (by first | (exfalso; omega) | exact LxI.push ff10_3 (tp := (tkr ρ10 ((gI ρ10 4 2).toNat - 1))) (t0 := (z27).toInt) (fun hc9 => (ff10_3.2.2.resolve_left (by omega)).2.close (by omega) (fun _ => by omega) (fun _ => by omega)) (LxL.first (by omega) (by unfold Sg; omega) (by omega)) (by omega) (by omega) (fun j hj => by rw [eτ32_1 j, if_neg (by omega)]) (fun j hj => by rw [eτ32_2 j, if_neg (by omega)]) (fun hc9 => by rw [eτ32_2 _, if_neg (by omega)]) (by rw [eτ32_1 _, if_pos (by omega)]) (by rw [eτ32_2 _, if_pos (by omega)])) (frρ10.tr (frτ32.mono (V := [(5, 99999), (6, 99999), (4, 2), (4, 3)]) rfl))
              · refine z_aload_n (pc := 90) O dX5_split_90 rfl ?_
                refine z_iload (pc := 91) O dX5_split_91 rfl ?_
                refine z_iload (pc := 93) O dX5_split_93 rfl ?_
                refine z_callS (pc := 95) O cl_X5_34 (k5_firstOf2 _ _ z7 (by omega) z5 (by omega) (by omega)) (by decide) rfl rfl (Nat.le_of_ble_eq_true rfl) ⟨Nat.zero_le _, Nat.zero_le _⟩ dX5_split_95 (fun r τ34 hp => ?_)
                obtain ⟨z35, rfl, fτ34_0, rfl⟩ := hp
                refine z_iload (pc := 98) O dX5_split_98 rfl ?_
                refine z_callV (pc := 100) O cl_X5_38 (k5_begin2 _ _ z35 k (by omega) (frτ32.lay (frρ10.lay J)) (by have : gI τ32 4 2 = gI ρ10 4 2 := gI_iz (Fr.it frτ32 rfl (izg ρ10 4 2)) (rgI _ _ _); omega)) (by decide) (jo_4 (frτ32.lay (frρ10.lay J))) kc_5 rfl rfl (Nat.le_of_ble_eq_true rfl) ⟨Nat.zero_le _, Nat.zero_le _⟩ dX5_split_100 (fun r τ36 hp => ?_)
                obtain ⟨rfl, frτ36, eτ36_0, eτ36_1, eτ36_2⟩ := hp
                have : gI τ32 4 2 = gI ρ10 4 2 := gI_iz (Fr.it frτ32 rfl (izg ρ10 4 2)) (rgI _ _ _)
                refine z_iload (pc := 103) O dX5_split_103 rfl ?_
                refine z_istore_n (pc := 105) [(0, .ref 4), (1, .ref 3), (2, .int (iz n)), (3, .int (iz z7)), (4, .int (iz k)), (5, .int (iz z5)), (6, .int (iz z7))] O dX5_split_105 (by decide) rfl ?_
                refine zi_iinc (pc := 106) (k + 1) [(0, .ref 4), (1, .ref 3), (2, .int (iz n)), (3, .int (iz z7)), (4, .int (iz (k + 1))), (5, .int (iz z5)), (6, .int (iz z7))] O dX5_split_106 rfl (by omega) (by decide) rfl ?_
                refine z_goto (pc := 109) (tgt := 10) O dX5_split_109 (by decide) ?_
                refine z_lk [(0, .ref 4), (1, .ref 3), (2, .int (iz n)), (3, .int (iz z7)), (4, .int (iz (k + 1)))] ⟨rfl, rfl, rfl, rfl, rfl, trivial⟩ ?_
                exact ih10 _ (by omega) z7 (k + 1) τ36 rfl (by omega) (by omega) (by omega) (by omega) (by omega) (by first | (exfalso; omega) | exact LxI.push ff10_3 (tp := 0) (t0 := (z35).toInt) (fun hc9 => (ff10_3.2.2.resolve_left (by omega)).2.spoil (by omega) (by omega) (by omega)) (LxL.first (by omega) (by unfold Sg; omega) (by omega)) (by omega) (by omega) (fun j hj => by rw [eτ36_1 j, if_neg (by omega)]; exact frτ32.g 6 j rfl) (fun j hj => by rw [eτ36_2 j, if_neg (by omega), eτ32_0 j, if_neg (by omega)]) (fun hc9 => by rw [eτ36_2 _, if_neg (by omega), eτ32_0 _, if_pos (by omega)]) (by rw [eτ36_1 _, if_pos (by omega)]) (by rw [eτ36_2 _, if_pos (by omega)])) ((frρ10.tr (frτ32.mono (V := [(5, 99999), (6, 99999), (4, 2), (4, 3)]) rfl)).tr frτ36)
            · exfalso; omega
  refine z_lk [(0, .ref 4), (1, .ref 3), (2, .int (iz n)), (3, .int (iz 4)), (4, .int (iz 0))] ⟨rfl, rfl, rfl, rfl, rfl, trivial⟩ ?_
  exact cut10 _ 4 0 (sI σ 4 2 (iz 0)) rfl (by omega) (by omega) (by omega) (by have : gI (sI σ 4 2 (iz 0)) 4 2 = 0 := gI_iz (hI_at _ _ _ _) (by omega); omega) (by have : gI (sI σ 4 2 (iz 0)) 4 3 = gI σ 4 3 := gI_iz (sk2t (by decide) (izg σ 4 3)) (rgI _ _ _); omega) (by have h9 : gI (sI σ 4 2 (iz 0)) 4 2 = 0 := gI_iz (hI_at _ _ _ _) (by omega); rw [h9]; exact LxI.start) (Fr.rf [(5, 99999), (6, 99999), (4, 2), (4, 3)] (sI σ 4 2 (iz 0)))
