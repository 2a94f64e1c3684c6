set_option maxHeartbeats 4000000 in
set_option maxRecDepth 20000 in
theorem k4_readText3 (l : Launch) (σ : VH) (b : Nat) (tk : Nat → Int) (pl : Nat → Int) (m : Nat) (J : Lay σ) (T0 : TxS σ b tk pl m st00) (h1m : tk m = 1) (hsr : SRw σ) : Ct l yX4_readText cX4_readText 3 (some .boolean) 24 0 0 [.ref (b + 9)] σ (fun r τ => ∃ z : Int, r = some (.int (iz z)) ∧ (z = 0 ∨ z = 1) ∧ (FrX b [(0, 3), (0, 4), (0, 5), (0, 6), (0, 7), (0, 8), (0, 14), (1, 99999), (2, 99999), (3, 99999), (4, 99999), (5, 99999), (6, 99999), (7, 99999), (8, 99999), (9, 99999)] σ τ) ∧ (RdX τ b) ∧ ((z = 0 ∧ ∃ r : Int × Nat, LwE tk m st00 r ∧ ¬ r.1 = 0 ∧ Fl τ b pl r.1 r.2) ∨ (z = 1 ∧ (∃ j : Nat, LwE tk m st00 (0, j)) ∧ gI τ (b + 9) 8 = 0 ∧ gI τ (b + 9) 9 = -1))) := by
  refine Ct.enter rfl (Nat.le_of_ble_eq_true rfl) ?_
  intro κ γ hκ O hrc hrs
  subst hκ
  have R : RdS σ b tk pl m 0 := T0.1
  have hX := R.1
  have hR0 := hX.1.1
  have hR4 := hX.2.2.2.1
  have hR5 := hX.2.2.2.2
  have hR6 := hX.1.2.2.2.2.1
  have hR7 := hX.1.2.2.2.2.2.1
  have hT := R.2.1
  have hct := R.2.1.2.2.1
  have hat := R.2.2.1
  have hcur := R.2.2.2.1
  have hfl := R.2.2.2.2
  refine z_iconst (pc := 0) (v := iz (1)) O dX4_readText_0 (by decide) ?_
  refine z_istore_n (pc := 1) [(0, .ref (b + 9)), (1, .int (iz 1))] O dX4_readText_1 (by decide) rfl ?_
  refine z_iconst (pc := 2) (v := iz (0)) O dX4_readText_2 (by decide) ?_
  refine z_istore_n (pc := 3) [(0, .ref (b + 9)), (1, .int (iz 1)), (2, .int (iz 0))] O dX4_readText_3 (by decide) rfl ?_
  have cut4 : ∀ (mu4 : Nat) (gd : Int) (k : Int) (ρ4 : VH), (mu4 = (701 - k).toNat) → (-2147483648 ≤ gd ∧ gd < 2147483648) → (-2147483648 ≤ k ∧ k < 2147483648) → ((gd = 0 ∨ gd = 1) ∧ 0 ≤ k ∧ k ≤ 701) → (TxI ρ4 b tk pl m st00 gd k) → (FrX b [(0, 3), (0, 4), (0, 5), (0, 6), (0, 7), (0, 8), (0, 14), (1, 99999), (2, 99999), (3, 99999), (4, 99999), (5, 99999), (6, 99999), (7, 99999), (8, 99999), (9, 99999)] σ ρ4) → (RdX ρ4 b) → Z κ γ 3 ρ4 0 0 (QM κ γ (fun r τ => ∃ z : Int, r = some (.int (iz z)) ∧ (z = 0 ∨ z = 1) ∧ (FrX b [(0, 3), (0, 4), (0, 5), (0, 6), (0, 7), (0, 8), (0, 14), (1, 99999), (2, 99999), (3, 99999), (4, 99999), (5, 99999), (6, 99999), (7, 99999), (8, 99999), (9, 99999)] σ τ) ∧ (RdX τ b) ∧ ((z = 0 ∧ ∃ r : Int × Nat, LwE tk m st00 r ∧ ¬ r.1 = 0 ∧ Fl τ b pl r.1 r.2) ∨ (z = 1 ∧ (∃ j : Nat, LwE tk m st00 (0, j)) ∧ gI τ (b + 9) 8 = 0 ∧ gI τ (b + 9) 9 = -1))) 0 0) 4 [(0, .ref (b + 9)), (1, .int (iz gd)), (2, .int (iz k))] [] := by
    intro mu4
    induction mu4 using Nat.strongRecOn with
    | ind mu4 ih4 =>
    intro gd k ρ4 hmu4 rr4_0 rr4_1 ff4_0 ff4_1 frρ4 ivρ4_RdX
    have := (ivρ4_RdX).2.2.2.1
    have := (ivρ4_RdX).2.2.2.2
    have := (ivρ4_RdX).1.2.2.2.2.1
    have := (ivρ4_RdX).1.2.2.2.2.2.1
    have : gI ρ4 4 2 = gI σ 4 2 := frρ4.ct hR0
    refine z_iload_n (pc := 4) O dX4_readText_4 rfl ?_
    refine z_sipush (pc := 5) (v := iz (700)) O dX4_readText_5 (by decide) ?_
    refine zi_icmp_gt (pc := 8) (tgt := 131) O dX4_readText_8 (by decide) (by omega) (by decide) (fun h8 => ?_) (fun h8 => ?_)
    · refine z_iload_n (pc := 131) O dX4_readText_131 rfl ?_
      refine z_zret (pc := 132) O dX4_readText_132 (nar_z (by omega)) ?_
      exact ⟨gd, rfl, (by omega), ((FrX.rf b [(0, 3), (0, 4), (0, 5), (0, 6), (0, 7), (0, 8), (0, 14), (1, 99999), (2, 99999), (3, 99999), (4, 99999), (5, 99999), (6, 99999), (7, 99999), (8, 99999), (9, 99999)] σ).tr frρ4), ivρ4_RdX, (TxI.out ff4_1 h1m (by omega) (by omega))⟩
    · refine z_iload_n (pc := 11) O dX4_readText_11 rfl ?_
      refine zi_if_eq (pc := 12) (tgt := 131) O dX4_readText_12 (by decide) (by omega) (fun h12 => ?_) (fun h12 => ?_)
      · refine z_iload_n (pc := 131) O dX4_readText_131 rfl ?_
        refine z_zret (pc := 132) O dX4_readText_132 (nar_z (by omega)) ?_
        exact ⟨gd, rfl, (by omega), ((FrX.rf b [(0, 3), (0, 4), (0, 5), (0, 6), (0, 7), (0, 8), (0, 14), (1, 99999), (2, 99999), (3, 99999), (4, 99999), (5, 99999), (6, 99999), (7, 99999), (8, 99999), (9, 99999)] σ).tr frρ4), ivρ4_RdX, (TxI.out ff4_1 h1m (by omega) (by omega))⟩
      · refine z_aload_n (pc := 15) O dX4_readText_15 rfl ?_
        refine zi_getLv (pc := 16) (hL ρ4 (b + 9) 3) O fl_X4_29 rfl (ivρ4_RdX).2.1 rfl dX4_readText_16 ?_
        refine z_lconst (pc := 19) (v := 1) O dX4_readText_19 (by decide) ?_
        refine z_lcmp (pc := 20) O dX4_readText_20 ?_
        refine zi_lci_eq (pc := 21) (tgt := 131) (1) O dX4_readText_21 (by decide) (by decide) (fun h21 => ?_) (fun h21 => ?_)
        · refine z_iload_n (pc := 131) O dX4_readText_131 rfl ?_
          refine z_zret (pc := 132) O dX4_readText_132 (nar_z (by omega)) ?_
          exact ⟨gd, rfl, (by omega), ((FrX.rf b [(0, 3), (0, 4), (0, 5), (0, 6), (0, 7), (0, 8), (0, 14), (1, 99999), (2, 99999), (3, 99999), (4, 99999), (5, 99999), (6, 99999), (7, 99999), (8, 99999), (9, 99999)] σ).tr frρ4), ivρ4_RdX, (TxI.out ff4_1 h1m (by omega) (by omega))⟩
        · obtain ⟨st, ts, hk4, hold4⟩ := TxI.is1 ff4_1 (by omega)
          have hcur4 := ts.1.2.2.2.1
          have hj4 := ts.1.2.2.1.2
          have hs4 := ts.2.1
          have hf4 := ts.2.2.2.2.2
          have hf5 := ts.2.2.2.2.1
          have hw4 := ts.2.2.2.1
          have hh4 := ts.2.2.1.1
          have hg4 : (st.2.2.2.2.2.1 = 0 ∨ st.2.2.2.2.2.1 = 1) ∧ (st.2.2.2.2.2.2.1 = 0 ∨ st.2.2.2.2.2.2.1 = 1) ∧ (st.2.2.2.2.2.2.2 = 0 ∨ st.2.2.2.2.2.2.2 = 1) := ⟨hf5.1 ▸ hf4.1, hf5.2.1 ▸ hf4.2.1, hf5.2.2 ▸ hf4.2.2⟩
          refine z_aload_n (pc := 24) O dX4_readText_24 rfl ?_
          refine zi_getLv (pc := 25) (hL ρ4 (b + 9) 3) O fl_X4_29 rfl (ivρ4_RdX).2.1 rfl dX4_readText_25 ?_
          refine z_ldc2 (pc := 28) O tw_370 dX4_readText_28 ?_
          refine z_lcmp (pc := 31) O dX4_readText_31 ?_
          refine zi_lci_ne (pc := 32) (tgt := 43) (1752527476) O dX4_readText_32 (by decide) (by decide) (fun h32 => ?_) (fun h32 => ?_)
          · refine z_aload_n (pc := 43) O dX4_readText_43 rfl ?_
            refine zi_getLv (pc := 44) (hL ρ4 (b + 9) 3) O fl_X4_29 rfl (ivρ4_RdX).2.1 rfl dX4_readText_44 ?_
            refine z_ldc2 (pc := 47) O tw_409 dX4_readText_47 ?_
            refine z_lcmp (pc := 50) O dX4_readText_50 ?_
            refine zi_lci_ne (pc := 51) (tgt := 62) (2003330414) O dX4_readText_51 (by decide) (by decide) (fun h51 => ?_) (fun h51 => ?_)
            · refine z_aload_n (pc := 62) O dX4_readText_62 rfl ?_
              refine zi_getLv (pc := 63) (hL ρ4 (b + 9) 3) O fl_X4_29 rfl (ivρ4_RdX).2.1 rfl dX4_readText_63 ?_
              refine z_ldc2 (pc := 66) O tw_459 dX4_readText_66 ?_
              refine z_lcmp (pc := 69) O dX4_readText_69 ?_
              refine zi_lci_ne (pc := 70) (tgt := 81) (495672455781) O dX4_readText_70 (by decide) (by decide) (fun h70 => ?_) (fun h70 => ?_)
              · refine z_aload_n (pc := 81) O dX4_readText_81 rfl ?_
                refine zi_getLv (pc := 82) (hL ρ4 (b + 9) 3) O fl_X4_29 rfl (ivρ4_RdX).2.1 rfl dX4_readText_82 ?_
                refine z_ldc2 (pc := 85) O tw_464 dX4_readText_85 ?_
                refine z_lcmp (pc := 88) O dX4_readText_88 ?_
                refine zi_lci_ne (pc := 89) (tgt := 100) (1852138852) O dX4_readText_89 (by decide) (by decide) (fun h89 => ?_) (fun h89 => ?_)
                · refine z_aload_n (pc := 100) O dX4_readText_100 rfl ?_
                  refine zi_getLv (pc := 101) (hL ρ4 (b + 9) 3) O fl_X4_29 rfl (ivρ4_RdX).2.1 rfl dX4_readText_101 ?_
                  refine z_ldc2 (pc := 104) O tw_470 dX4_readText_104 ?_
                  refine z_lcmp (pc := 107) O dX4_readText_107 ?_
                  refine zi_lci_ne (pc := 108) (tgt := 119) (499918204275) O dX4_readText_108 (by decide) (by decide) (fun h108 => ?_) (fun h108 => ?_)
                  · refine z_aload_n (pc := 119) O dX4_readText_119 rfl ?_
                    refine z_iconst (pc := 120) (v := iz (2)) O dX4_readText_120 (by decide) ?_
                    refine z_callV (pc := 121) O cl_X4_59 (k4_refuse3 _ _ b 2 (by decide) tk pl m st.1 (frρ4.lay J) ts.1) (by decide) (ivρ4_RdX).2.1 kc_4 rfl rfl (Nat.le_of_ble_eq_true rfl) ⟨Nat.zero_le _, Nat.zero_le _⟩ dX4_readText_121 (fun r τ1 hp => ?_)
                    obtain ⟨z2, rfl, fτ1_0, fτ1_1, frτ1, ivτ1_RdX, eτ1_0⟩ := hp
                    have := (ivτ1_RdX).2.2.2.1
                    have := (ivτ1_RdX).2.2.2.2
                    have := (ivτ1_RdX).1.2.2.2.2.1
                    have := (ivτ1_RdX).1.2.2.2.2.2.1
                    have : gI τ1 4 2 = gI σ 4 2 := gI_iz (FrD.it frτ1.1 (by omega) (FrD.it frρ4.1 (by omega) (izg σ 4 2))) (rgI _ _ _)
                    refine z_istore_n (pc := 124) [(0, .ref (b + 9)), (1, .int (iz z2)), (2, .int (iz k))] O dX4_readText_124 (by decide) rfl ?_
                    refine zi_iinc (pc := 125) (k + 1) [(0, .ref (b + 9)), (1, .int (iz z2)), (2, .int (iz (k + 1)))] O dX4_readText_125 rfl (by omega) (by decide) rfl ?_
                    refine z_goto (pc := 128) (tgt := 4) O dX4_readText_128 (by decide) ?_
                    refine z_lk [(0, .ref (b + 9)), (1, .int (iz z2)), (2, .int (iz (k + 1)))] ⟨rfl, rfl, rfl, trivial⟩ ?_
                    exact ih4 _ (by omega) z2 (k + 1) τ1 rfl (by omega) (by omega) (by omega) (TxI.line h1m (by omega) hj4 hk4 hold4 (Or.inr (Or.inr (Or.inr (Or.inr (Or.inr (Or.inr ⟨⟨by omega, by omega, by omega, by omega, by omega⟩, rfl, rfl⟩)))))) (by rw [show z2 = 0 by omega]; exact Rt.no rfl (flt_ne (by decide)) eτ1_0) rfl (fun hz9 => absurd (by omega) hz9)) (((FrX.rf b [(0, 3), (0, 4), (0, 5), (0, 6), (0, 7), (0, 8), (0, 14), (1, 99999), (2, 99999), (3, 99999), (4, 99999), (5, 99999), (6, 99999), (7, 99999), (8, 99999), (9, 99999)] σ).tr frρ4).tr (frτ1.mono (V := [(0, 3), (0, 4), (0, 5), (0, 6), (0, 7), (0, 8), (0, 14), (1, 99999), (2, 99999), (3, 99999), (4, 99999), (5, 99999), (6, 99999), (7, 99999), (8, 99999), (9, 99999)]) rfl)) ivτ1_RdX
                  · refine z_aload_n (pc := 111) O dX4_readText_111 rfl ?_
                    refine z_callV (pc := 112) O cl_X4_56 (k4_readTerms3 _ _ b tk pl m st.1 (frρ4.lay J) ts.1 hf4.2.2) (by decide) (ivρ4_RdX).2.1 kc_4 rfl rfl (Nat.le_of_ble_eq_true rfl) ⟨Nat.zero_le _, Nat.zero_le _⟩ dX4_readText_112 (fun r τ3 hp => ?_)
                    obtain ⟨z4, rfl, fτ3_0, frτ3, ivτ3_RdX, eτ3_0, eτ3_1⟩ := hp
                    have := (ivτ3_RdX).2.2.2.1
                    have := (ivτ3_RdX).2.2.2.2
                    have := (ivτ3_RdX).1.2.2.2.2.1
                    have := (ivτ3_RdX).1.2.2.2.2.2.1
                    have : gI τ3 4 2 = gI σ 4 2 := gI_iz (FrD.it frτ3.1 (by omega) (FrD.it frρ4.1 (by omega) (izg σ 4 2))) (rgI _ _ _)
                    refine z_istore_n (pc := 115) [(0, .ref (b + 9)), (1, .int (iz z4)), (2, .int (iz k))] O dX4_readText_115 (by decide) rfl ?_
                    refine z_goto (pc := 116) (tgt := 125) O dX4_readText_116 (by decide) ?_
                    refine zi_iinc (pc := 125) (k + 1) [(0, .ref (b + 9)), (1, .int (iz z4)), (2, .int (iz (k + 1)))] O dX4_readText_125 rfl (by omega) (by decide) rfl ?_
                    refine z_goto (pc := 128) (tgt := 4) O dX4_readText_128 (by decide) ?_
                    refine z_lk [(0, .ref (b + 9)), (1, .int (iz z4)), (2, .int (iz (k + 1)))] ⟨rfl, rfl, rfl, trivial⟩ ?_
                    exact ih4 _ (by omega) z4 (k + 1) τ3 rfl (by omega) (by omega) (by omega) (TxI.line h1m (by omega) hj4 hk4 hold4 (Or.inr (Or.inr (Or.inr (Or.inr (Or.inr (Or.inl ⟨by omega, by rw [← hf5.2.2], rfl⟩)))))) eτ3_0 rfl (fun hz9 r9 rd9 => by have q9 : gI τ3 (b + 9) 7 = 1 := eτ3_1.resolve_left (fun q8 => by have q7 : termsR tk m st.1 (gI ρ4 (b + 9) 7) = (flt tk st.1 2, st.1) := cif_pos q8; rw [q7] at r9; exact flt_ne (by decide) r9); exact TxS.once ts frτ3 rfl (fun _ => rfl) rd9 ((gI_eq (FrX.it 9 frτ3 rfl rfl)).trans hf5.1) ((gI_eq (FrX.it 9 frτ3 rfl rfl)).trans hf5.2.1) q9 ⟨hg4.1, hg4.2.1, Or.inr rfl⟩)) (((FrX.rf b [(0, 3), (0, 4), (0, 5), (0, 6), (0, 7), (0, 8), (0, 14), (1, 99999), (2, 99999), (3, 99999), (4, 99999), (5, 99999), (6, 99999), (7, 99999), (8, 99999), (9, 99999)] σ).tr frρ4).tr (frτ3.mono (V := [(0, 3), (0, 4), (0, 5), (0, 6), (0, 7), (0, 8), (0, 14), (1, 99999), (2, 99999), (3, 99999), (4, 99999), (5, 99999), (6, 99999), (7, 99999), (8, 99999), (9, 99999)]) rfl)) ivτ3_RdX
                · refine z_aload_n (pc := 92) O dX4_readText_92 rfl ?_
                  refine z_callV (pc := 93) O cl_X4_51 (k4_readNeed3 _ _ b tk pl m st.1 (frρ4.lay J) ts.1 hf4.2.1) (by decide) (ivρ4_RdX).2.1 kc_4 rfl rfl (Nat.le_of_ble_eq_true rfl) ⟨Nat.zero_le _, Nat.zero_le _⟩ dX4_readText_93 (fun r τ5 hp => ?_)
                  obtain ⟨z6, rfl, fτ5_0, frτ5, ivτ5_RdX, eτ5_0, eτ5_1⟩ := hp
                  have := (ivτ5_RdX).2.2.2.1
                  have := (ivτ5_RdX).2.2.2.2
                  have := (ivτ5_RdX).1.2.2.2.2.1
                  have := (ivτ5_RdX).1.2.2.2.2.2.1
                  have : gI τ5 4 2 = gI σ 4 2 := gI_iz (FrD.it frτ5.1 (by omega) (FrD.it frρ4.1 (by omega) (izg σ 4 2))) (rgI _ _ _)
                  refine z_istore_n (pc := 96) [(0, .ref (b + 9)), (1, .int (iz z6)), (2, .int (iz k))] O dX4_readText_96 (by decide) rfl ?_
                  refine z_goto (pc := 97) (tgt := 125) O dX4_readText_97 (by decide) ?_
                  refine zi_iinc (pc := 125) (k + 1) [(0, .ref (b + 9)), (1, .int (iz z6)), (2, .int (iz (k + 1)))] O dX4_readText_125 rfl (by omega) (by decide) rfl ?_
                  refine z_goto (pc := 128) (tgt := 4) O dX4_readText_128 (by decide) ?_
                  refine z_lk [(0, .ref (b + 9)), (1, .int (iz z6)), (2, .int (iz (k + 1)))] ⟨rfl, rfl, rfl, trivial⟩ ?_
                  exact ih4 _ (by omega) z6 (k + 1) τ5 rfl (by omega) (by omega) (by omega) (TxI.line h1m (by omega) hj4 hk4 hold4 (Or.inr (Or.inr (Or.inr (Or.inr (Or.inl ⟨by omega, by rw [← hf5.2.1], rfl⟩))))) eτ5_0 rfl (fun hz9 r9 rd9 => by have q9 : gI τ5 (b + 9) 6 = 1 := eτ5_1.resolve_left (fun q8 => by have q7 : needR tk m st.1 (gI ρ4 (b + 9) 6) = (flt tk st.1 2, st.1) := cif_pos q8; rw [q7] at r9; exact flt_ne (by decide) r9); exact TxS.once ts frτ5 rfl (fun _ => rfl) rd9 ((gI_eq (FrX.it 9 frτ5 rfl rfl)).trans hf5.1) q9 ((gI_eq (FrX.it 9 frτ5 rfl rfl)).trans hf5.2.2) ⟨hg4.1, Or.inr rfl, hg4.2.2⟩)) (((FrX.rf b [(0, 3), (0, 4), (0, 5), (0, 6), (0, 7), (0, 8), (0, 14), (1, 99999), (2, 99999), (3, 99999), (4, 99999), (5, 99999), (6, 99999), (7, 99999), (8, 99999), (9, 99999)] σ).tr frρ4).tr (frτ5.mono (V := [(0, 3), (0, 4), (0, 5), (0, 6), (0, 7), (0, 8), (0, 14), (1, 99999), (2, 99999), (3, 99999), (4, 99999), (5, 99999), (6, 99999), (7, 99999), (8, 99999), (9, 99999)]) rfl)) ivτ5_RdX
              · refine z_aload_n (pc := 73) O dX4_readText_73 rfl ?_
                refine z_callV (pc := 74) O cl_X4_46 (k4_readShare3 _ _ b tk pl m st.1 (frρ4.lay J) ts.1 hf4.1) (by decide) (ivρ4_RdX).2.1 kc_4 rfl rfl (Nat.le_of_ble_eq_true rfl) ⟨Nat.zero_le _, Nat.zero_le _⟩ dX4_readText_74 (fun r τ7 hp => ?_)
                obtain ⟨z8, rfl, fτ7_0, frτ7, ivτ7_RdX, eτ7_0, eτ7_1⟩ := hp
                have := (ivτ7_RdX).2.2.2.1
                have := (ivτ7_RdX).2.2.2.2
                have := (ivτ7_RdX).1.2.2.2.2.1
                have := (ivτ7_RdX).1.2.2.2.2.2.1
                have : gI τ7 4 2 = gI σ 4 2 := gI_iz (FrD.it frτ7.1 (by omega) (FrD.it frρ4.1 (by omega) (izg σ 4 2))) (rgI _ _ _)
                refine z_istore_n (pc := 77) [(0, .ref (b + 9)), (1, .int (iz z8)), (2, .int (iz k))] O dX4_readText_77 (by decide) rfl ?_
                refine z_goto (pc := 78) (tgt := 125) O dX4_readText_78 (by decide) ?_
                refine zi_iinc (pc := 125) (k + 1) [(0, .ref (b + 9)), (1, .int (iz z8)), (2, .int (iz (k + 1)))] O dX4_readText_125 rfl (by omega) (by decide) rfl ?_
                refine z_goto (pc := 128) (tgt := 4) O dX4_readText_128 (by decide) ?_
                refine z_lk [(0, .ref (b + 9)), (1, .int (iz z8)), (2, .int (iz (k + 1)))] ⟨rfl, rfl, rfl, trivial⟩ ?_
                exact ih4 _ (by omega) z8 (k + 1) τ7 rfl (by omega) (by omega) (by omega) (TxI.line h1m (by omega) hj4 hk4 hold4 (Or.inr (Or.inr (Or.inr (Or.inl ⟨by omega, by rw [← hf5.1], rfl⟩)))) eτ7_0 rfl (fun hz9 r9 rd9 => by have q9 : gI τ7 (b + 9) 5 = 1 := eτ7_1.resolve_left (fun q8 => by have q7 : shareR tk m st.1 (gI ρ4 (b + 9) 5) = (flt tk st.1 2, st.1) := cif_pos q8; rw [q7] at r9; exact flt_ne (by decide) r9); exact TxS.once ts frτ7 rfl (fun _ => rfl) rd9 q9 ((gI_eq (FrX.it 9 frτ7 rfl rfl)).trans hf5.2.1) ((gI_eq (FrX.it 9 frτ7 rfl rfl)).trans hf5.2.2) ⟨Or.inr rfl, hg4.2.1, hg4.2.2⟩)) (((FrX.rf b [(0, 3), (0, 4), (0, 5), (0, 6), (0, 7), (0, 8), (0, 14), (1, 99999), (2, 99999), (3, 99999), (4, 99999), (5, 99999), (6, 99999), (7, 99999), (8, 99999), (9, 99999)] σ).tr frρ4).tr (frτ7.mono (V := [(0, 3), (0, 4), (0, 5), (0, 6), (0, 7), (0, 8), (0, 14), (1, 99999), (2, 99999), (3, 99999), (4, 99999), (5, 99999), (6, 99999), (7, 99999), (8, 99999), (9, 99999)]) rfl)) ivτ7_RdX
            · refine z_aload_n (pc := 54) O dX4_readText_54 rfl ?_
              refine z_callV (pc := 55) O cl_X4_41 (k4_readWhen3 _ _ b tk pl m st.1 (frρ4.lay J) ts.1 (SRw.fr hsr ((FrX.rf b [(0, 99999), (1, 99999), (2, 99999), (3, 99999), (4, 99999), (5, 99999), (6, 99999), (7, 99999), (8, 99999), (9, 99999)] σ).tr (frρ4.mono (V := [(0, 99999), (1, 99999), (2, 99999), (3, 99999), (4, 99999), (5, 99999), (6, 99999), (7, 99999), (8, 99999), (9, 99999)]) rfl)) hR0) (by omega)) (by decide) (ivρ4_RdX).2.1 kc_4 rfl rfl (Nat.le_of_ble_eq_true rfl) ⟨Nat.zero_le _, Nat.zero_le _⟩ dX4_readText_55 (fun r τ9 hp => ?_)
              obtain ⟨z10, rfl, fτ9_0, frτ9, ivτ9_RdX, eτ9_0⟩ := hp
              have := (ivτ9_RdX).2.2.2.1
              have := (ivτ9_RdX).2.2.2.2
              have := (ivτ9_RdX).1.2.2.2.2.1
              have := (ivτ9_RdX).1.2.2.2.2.2.1
              have : gI τ9 4 2 = gI σ 4 2 := gI_iz (FrD.it frτ9.1 (by omega) (FrD.it frρ4.1 (by omega) (izg σ 4 2))) (rgI _ _ _)
              have oτ9 := Opq.mk eτ9_0
              clear eτ9_0
              refine z_istore_n (pc := 58) [(0, .ref (b + 9)), (1, .int (iz z10)), (2, .int (iz k))] O dX4_readText_58 (by decide) rfl ?_
              refine z_goto (pc := 59) (tgt := 125) O dX4_readText_59 (by decide) ?_
              refine zi_iinc (pc := 125) (k + 1) [(0, .ref (b + 9)), (1, .int (iz z10)), (2, .int (iz (k + 1)))] O dX4_readText_125 rfl (by omega) (by decide) rfl ?_
              refine z_goto (pc := 128) (tgt := 4) O dX4_readText_128 (by decide) ?_
              refine z_lk [(0, .ref (b + 9)), (1, .int (iz z10)), (2, .int (iz (k + 1)))] ⟨rfl, rfl, rfl, trivial⟩ ?_
              exact ih4 _ (by omega) z10 (k + 1) τ9 rfl (by omega) (by omega) (by omega) (by rcases oτ9.get with ⟨a1, a2, a3⟩ | ⟨a1, q, a2, a3, a4⟩; (exact TxI.line h1m (by omega) hj4 hk4 hold4 (Or.inr (Or.inl ⟨by omega, by omega, rfl, rfl⟩)) (by rw [a2]; exact Rt.no rfl (flt_ne (by decide)) a3) rfl (fun hz9 => absurd a2 hz9)); (rw [hs4.1] at a2; exact TxI.line h1m (by omega) hj4 hk4 hold4 (Or.inr (Or.inr (Or.inl ⟨by omega, by omega, q, a2, rfl, rfl⟩))) a3 rfl (fun hz9 r9 rd9 => by have q9 := a4.resolve_left hz9; have q8 : q.1 = 0 := Classical.byContradiction (fun n9 => by rw [show whenT tk m q = _ from cif_neg n9] at r9; exact n9 r9); have q7 := a2.s2 q8; exact TxS.when ts frτ9 rfl (fun _ => rfl) rd9 q9.1 (by omega) q9.2))) (((FrX.rf b [(0, 3), (0, 4), (0, 5), (0, 6), (0, 7), (0, 8), (0, 14), (1, 99999), (2, 99999), (3, 99999), (4, 99999), (5, 99999), (6, 99999), (7, 99999), (8, 99999), (9, 99999)] σ).tr frρ4).tr (frτ9.mono (V := [(0, 3), (0, 4), (0, 5), (0, 6), (0, 7), (0, 8), (0, 14), (1, 99999), (2, 99999), (3, 99999), (4, 99999), (5, 99999), (6, 99999), (7, 99999), (8, 99999), (9, 99999)]) rfl)) ivτ9_RdX
          · refine z_aload_n (pc := 35) O dX4_readText_35 rfl ?_
            refine z_callV (pc := 36) O cl_X4_35 (k4_readHurt3 _ _ b tk pl m st.1 (frρ4.lay J) ts.1 (SRw.fr hsr ((FrX.rf b [(0, 99999), (1, 99999), (2, 99999), (3, 99999), (4, 99999), (5, 99999), (6, 99999), (7, 99999), (8, 99999), (9, 99999)] σ).tr (frρ4.mono (V := [(0, 99999), (1, 99999), (2, 99999), (3, 99999), (4, 99999), (5, 99999), (6, 99999), (7, 99999), (8, 99999), (9, 99999)]) rfl)) hR0) (by rw [hh4]; exact ts.2.2.1.2.2)) (by decide) (ivρ4_RdX).2.1 kc_4 rfl rfl (Nat.le_of_ble_eq_true rfl) ⟨Nat.zero_le _, Nat.zero_le _⟩ dX4_readText_36 (fun r τ11 hp => ?_)
            obtain ⟨z12, rfl, fτ11_0, frτ11, ivτ11_RdX, eτ11_0, eτ11_1⟩ := hp
            have := (ivτ11_RdX).2.2.2.1
            have := (ivτ11_RdX).2.2.2.2
            have := (ivτ11_RdX).1.2.2.2.2.1
            have := (ivτ11_RdX).1.2.2.2.2.2.1
            have : gI τ11 4 2 = gI σ 4 2 := gI_iz (FrD.it frτ11.1 (by omega) (FrD.it frρ4.1 (by omega) (izg σ 4 2))) (rgI _ _ _)
            refine z_istore_n (pc := 39) [(0, .ref (b + 9)), (1, .int (iz z12)), (2, .int (iz k))] O dX4_readText_39 (by decide) rfl ?_
            refine z_goto (pc := 40) (tgt := 125) O dX4_readText_40 (by decide) ?_
            refine zi_iinc (pc := 125) (k + 1) [(0, .ref (b + 9)), (1, .int (iz z12)), (2, .int (iz (k + 1)))] O dX4_readText_125 rfl (by omega) (by decide) rfl ?_
            refine z_goto (pc := 128) (tgt := 4) O dX4_readText_128 (by decide) ?_
            refine z_lk [(0, .ref (b + 9)), (1, .int (iz z12)), (2, .int (iz (k + 1)))] ⟨rfl, rfl, rfl, trivial⟩ ?_
            exact ih4 _ (by omega) z12 (k + 1) τ11 rfl (by omega) (by omega) (by omega) (TxI.line h1m (by omega) hj4 hk4 hold4 (Or.inl ⟨by omega, (by rw [hh4]; exact hurtR_congr ts.2.2.1.2.1), rfl⟩) eτ11_0 rfl (fun hz9 _ rd9 => by have q9 := eτ11_1.resolve_left hz9; exact TxS.hurt ts frτ11 rfl rd9 q9.1 q9.2)) (((FrX.rf b [(0, 3), (0, 4), (0, 5), (0, 6), (0, 7), (0, 8), (0, 14), (1, 99999), (2, 99999), (3, 99999), (4, 99999), (5, 99999), (6, 99999), (7, 99999), (8, 99999), (9, 99999)] σ).tr frρ4).tr (frτ11.mono (V := [(0, 3), (0, 4), (0, 5), (0, 6), (0, 7), (0, 8), (0, 14), (1, 99999), (2, 99999), (3, 99999), (4, 99999), (5, 99999), (6, 99999), (7, 99999), (8, 99999), (9, 99999)]) rfl)) ivτ11_RdX
  refine z_lk [(0, .ref (b + 9)), (1, .int (iz 1)), (2, .int (iz 0))] ⟨rfl, rfl, rfl, trivial⟩ ?_
  exact cut4 _ 1 0 σ rfl (by omega) (by omega) (by omega) (Or.inr ⟨rfl, st00, T0, by decide, fun _ q => q⟩) (FrX.rf b [(0, 3), (0, 4), (0, 5), (0, 6), (0, 7), (0, 8), (0, 14), (1, 99999), (2, 99999), (3, 99999), (4, 99999), (5, 99999), (6, 99999), (7, 99999), (8, 99999), (9, 99999)] σ) hX
