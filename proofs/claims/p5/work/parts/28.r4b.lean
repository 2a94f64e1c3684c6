set_option maxHeartbeats 4000000 in
set_option maxRecDepth 20000 in
theorem k9_one (l : Launch) (σ : VH) (b : Int) (c0 : Int) (J : Lay σ) (ht : (0 ≤ gI σ 33 7 ∧ gI σ 33 7 ≤ gI σ 33 8 ∧ gI σ 33 8 ≤ gI σ 33 3 ∧ gI σ 33 3 ≤ 700 ∧ ((gI σ 33 9 = 0 ∧ gI σ 33 7 = gI σ 33 3) ∨ (gI σ 33 7 < gI σ 33 8 ∧ 1 ≤ gI σ 33 9 ∧ gI σ 33 9 ≤ 5)))) (hg : gI σ 33 4 = 0) (eb : gI σ 33 34 = b) (hb : 0 ≤ b ∧ b ≤ 15) (hs : 0 ≤ gI σ 33 36 ∧ gI σ 33 36 ≤ 60) (es : ES σ b c0 1) (hp0 : 0 < gI σ 33 38) : Ct l yX9_one cX9_one 2 (some .boolean) 4 0 0 [.ref 33] σ (fun r τ => ∃ z : Int, r = some (.int (iz z)) ∧ (z = 0 ∨ z = 1) ∧ (Fr [(33, 7), (33, 8), (33, 9), (33, 10), (33, 11), (33, 4), (33, 5), (33, 36), (51, 99999), (52, 99999), (33, 35), (57, 99999), (33, 38), (33, 39)] σ τ) ∧ (0 ≤ gI τ 33 7 ∧ gI τ 33 7 ≤ gI τ 33 8 ∧ gI τ 33 8 ≤ gI τ 33 3 ∧ gI τ 33 3 ≤ 700 ∧ ((gI τ 33 9 = 0 ∧ gI τ 33 7 = gI τ 33 3) ∨ (gI τ 33 7 < gI τ 33 8 ∧ 1 ≤ gI τ 33 9 ∧ gI τ 33 9 ≤ 5))) ∧ ((gI σ 33 7 ≤ gI τ 33 7) ∧ 0 ≤ gI τ 33 4 ∧ (0 ≤ gI τ 33 36 ∧ gI τ 33 36 ≤ 60)) ∧ (0 ≤ gI τ 33 38 ∧ gI τ 33 38 ≤ 21) ∧ (0 < gI τ 33 4 ∨ (gI σ 33 7 < gI τ 33 7 ∧ ES τ b c0 z)) ∧ (∀ k : Nat, (k : Int) < 700 * b + c0 → gI τ 51 k = gI σ 51 k ∧ gI τ 52 k = gI σ 52 k)) := by
  refine Ct.enter rfl (Nat.le_of_ble_eq_true rfl) ?_
  intro κ γ hκ O hrc hrs
  subst hκ
  obtain ⟨p, c, ep, ec, hc0, hat, hdp, hd5, hpi0, hch⟩ := es
  have hpp : 0 < p := by omega
  have hpi := hpi0 hpp
  have htp := hpi.top hpp
  have n123 := @cnt_nn b123 (gI σ 57) p
  have n12 := @cnt_nn b12 (gI σ 57) p
  have n34 := @cnt_nn b34 (gI σ 57) p
  have cut19 : ∀ (_ : Unit), (1 ≤ gI σ 33 9) → Z κ γ 2 σ 0 0 (QM κ γ (fun r τ => ∃ z : Int, r = some (.int (iz z)) ∧ (z = 0 ∨ z = 1) ∧ (Fr [(33, 7), (33, 8), (33, 9), (33, 10), (33, 11), (33, 4), (33, 5), (33, 36), (51, 99999), (52, 99999), (33, 35), (57, 99999), (33, 38), (33, 39)] σ τ) ∧ (0 ≤ gI τ 33 7 ∧ gI τ 33 7 ≤ gI τ 33 8 ∧ gI τ 33 8 ≤ gI τ 33 3 ∧ gI τ 33 3 ≤ 700 ∧ ((gI τ 33 9 = 0 ∧ gI τ 33 7 = gI τ 33 3) ∨ (gI τ 33 7 < gI τ 33 8 ∧ 1 ≤ gI τ 33 9 ∧ gI τ 33 9 ≤ 5))) ∧ ((gI σ 33 7 ≤ gI τ 33 7) ∧ 0 ≤ gI τ 33 4 ∧ (0 ≤ gI τ 33 36 ∧ gI τ 33 36 ≤ 60)) ∧ (0 ≤ gI τ 33 38 ∧ gI τ 33 38 ≤ 21) ∧ (0 < gI τ 33 4 ∨ (gI σ 33 7 < gI τ 33 7 ∧ ES τ b c0 z)) ∧ (∀ k : Nat, (k : Int) < 700 * b + c0 → gI τ 51 k = gI σ 51 k ∧ gI τ 52 k = gI σ 52 k)) 0 0) 19 [(0, .ref 33)] [] := by
    intro _ ff19_0
    have cut34 : ∀ (kd : Int), (-2147483648 ≤ kd ∧ kd < 2147483648) → (kd = 3 ∨ kd = 4) → Z κ γ 2 σ 0 0 (QM κ γ (fun r τ => ∃ z : Int, r = some (.int (iz z)) ∧ (z = 0 ∨ z = 1) ∧ (Fr [(33, 7), (33, 8), (33, 9), (33, 10), (33, 11), (33, 4), (33, 5), (33, 36), (51, 99999), (52, 99999), (33, 35), (57, 99999), (33, 38), (33, 39)] σ τ) ∧ (0 ≤ gI τ 33 7 ∧ gI τ 33 7 ≤ gI τ 33 8 ∧ gI τ 33 8 ≤ gI τ 33 3 ∧ gI τ 33 3 ≤ 700 ∧ ((gI τ 33 9 = 0 ∧ gI τ 33 7 = gI τ 33 3) ∨ (gI τ 33 7 < gI τ 33 8 ∧ 1 ≤ gI τ 33 9 ∧ gI τ 33 9 ≤ 5))) ∧ ((gI σ 33 7 ≤ gI τ 33 7) ∧ 0 ≤ gI τ 33 4 ∧ (0 ≤ gI τ 33 36 ∧ gI τ 33 36 ≤ 60)) ∧ (0 ≤ gI τ 33 38 ∧ gI τ 33 38 ≤ 21) ∧ (0 < gI τ 33 4 ∨ (gI σ 33 7 < gI τ 33 7 ∧ ES τ b c0 z)) ∧ (∀ k : Nat, (k : Int) < 700 * b + c0 → gI τ 51 k = gI σ 51 k ∧ gI τ 52 k = gI σ 52 k)) 0 0) 34 [(0, .ref 33)] [.int (iz kd), .ref 33] := by
      intro kd rr34_0 ff34_0
      refine z_callV (pc := 34) O cl_X9_334 (k9_pile _ _ kd (by omega) p J ep (by omega)) (by decide) (jo_33 J) kc_9 rfl rfl (Nat.le_of_ble_eq_true rfl) ⟨Nat.zero_le _, Nat.zero_le _⟩ dX9_one_34 (fun r τ1 hp => ?_)
      obtain ⟨rfl, frτ1, eτ1_0, eτ1_1, eτ1_2⟩ := hp
      refine z_aload_n (pc := 37) O dX9_one_37 rfl ?_
      refine z_callV (pc := 38) O cl_X9_266 (k9_next _ _ (frτ1.lay J) (by have : gI τ1 33 3 = gI σ 33 3 := gI_iz (Fr.it frτ1 rfl (izg σ 33 3)) (rgI _ _ _); omega) (by have : gI τ1 33 8 = gI σ 33 8 := gI_iz (Fr.it frτ1 rfl (izg σ 33 8)) (rgI _ _ _); have : gI τ1 33 3 = gI σ 33 3 := gI_iz (Fr.it frτ1 rfl (izg σ 33 3)) (rgI _ _ _); omega)) (by decide) (jo_33 (frτ1.lay J)) kc_9 rfl rfl (Nat.le_of_ble_eq_true rfl) ⟨Nat.zero_le _, Nat.zero_le _⟩ dX9_one_38 (fun r τ3 hp => ?_)
      obtain ⟨rfl, frτ3, eτ3_0, eτ3_1⟩ := hp
      have : gI τ1 33 8 = gI σ 33 8 := gI_iz (Fr.it frτ1 rfl (izg σ 33 8)) (rgI _ _ _)
      have : gI τ3 33 3 = gI σ 33 3 := gI_iz (Fr.it frτ3 rfl (Fr.it frτ1 rfl (izg σ 33 3))) (rgI _ _ _)
      refine z_aload_n (pc := 41) O dX9_one_41 rfl ?_
      refine z_dup (pc := 42) O dX9_one_42 rfl ?_
      refine zi_getv (pc := 43) (gI σ 33 39) O fl_X9_331 rfl (jo_33 (frτ3.lay (frτ1.lay J))) (Fr.it frτ3 rfl (Fr.it frτ1 rfl (izg σ 33 39))) dX9_one_43 ?_
      have := rgI σ 33 39
      refine z_iconst (pc := 46) (v := iz (1)) O dX9_one_46 (by decide) ?_
      refine zi_iadd (pc := 47) O dX9_one_47 ?_
      refine z_putI (pc := 48) O fl_X9_331 rfl ⟨rfl, rfl⟩ (jo_33 (frτ3.lay (frτ1.lay J))) dX9_one_48 ?_
      refine z_aload_n (pc := 51) O dX9_one_51 rfl ?_
      refine zi_getv (pc := 52) ((gI σ 33 39) + 1) O fl_X9_331 rfl (jo_33 (frτ3.lay (frτ1.lay J))) (hI_at _ _ _ _) dX9_one_52 ?_
      refine z_bipush (pc := 55) (v := iz (6)) O dX9_one_55 (by decide) ?_
      refine zi_icmp_lt (pc := 57) (tgt := 64) O dX9_one_57 (by decide) (by omega) (by decide) (fun h57 => ?_) (fun h57 => ?_)
      · refine z_iconst (pc := 64) (v := iz (1)) O dX9_one_64 (by decide) ?_
        refine z_zret (pc := 65) O dX9_one_65 rfl ?_
        exact ⟨1, rfl, (by decide), (((frτ1.mono (V := [(33, 7), (33, 8), (33, 9), (33, 10), (33, 11), (33, 4), (33, 5), (33, 36), (51, 99999), (52, 99999), (33, 35), (57, 99999), (33, 38), (33, 39)]) rfl).tr (frτ3.mono (V := [(33, 7), (33, 8), (33, 9), (33, 10), (33, 11), (33, 4), (33, 5), (33, 36), (51, 99999), (52, 99999), (33, 35), (57, 99999), (33, 38), (33, 39)]) rfl)).pI rfl), (by have : gI (sI τ3 33 39 (iz ((gI σ 33 39) + 1))) 33 7 = gI τ3 33 7 := gI_iz (sk2t (by decide) (izg τ3 33 7)) (rgI _ _ _); have : gI (sI τ3 33 39 (iz ((gI σ 33 39) + 1))) 33 8 = gI τ3 33 8 := gI_iz (sk2t (by decide) (izg τ3 33 8)) (rgI _ _ _); have : gI (sI τ3 33 39 (iz ((gI σ 33 39) + 1))) 33 3 = gI σ 33 3 := gI_iz (sk2t (by decide) (Fr.it frτ3 rfl (Fr.it frτ1 rfl (izg σ 33 3)))) (rgI _ _ _); have : gI (sI τ3 33 39 (iz ((gI σ 33 39) + 1))) 33 9 = gI τ3 33 9 := gI_iz (sk2t (by decide) (izg τ3 33 9)) (rgI _ _ _); omega), (by have : gI (sI τ3 33 39 (iz ((gI σ 33 39) + 1))) 33 7 = gI τ3 33 7 := gI_iz (sk2t (by decide) (izg τ3 33 7)) (rgI _ _ _); have : gI (sI τ3 33 39 (iz ((gI σ 33 39) + 1))) 33 4 = gI σ 33 4 := gI_iz (sk2t (by decide) (Fr.it frτ3 rfl (Fr.it frτ1 rfl (izg σ 33 4)))) (rgI _ _ _); have : gI (sI τ3 33 39 (iz ((gI σ 33 39) + 1))) 33 36 = gI σ 33 36 := gI_iz (sk2t (by decide) (Fr.it frτ3 rfl (Fr.it frτ1 rfl (izg σ 33 36)))) (rgI _ _ _); omega), (by have : gI (sI τ3 33 39 (iz ((gI σ 33 39) + 1))) 33 38 = gI τ1 33 38 := gI_iz (sk2t (by decide) (Fr.it frτ3 rfl (izg τ1 33 38))) (rgI _ _ _); omega), (Or.inr (by have F1 : ∀ i, i < p → gI (sI τ3 33 39 (iz ((gI σ 33 39) + 1))) 57 i = gI σ 57 i := fun i hi => ((gI_eq (sk1t (by decide) rfl)).trans ((frτ3.g 57 i rfl).trans (eτ1_2 i (by omega)))); have F2 : gI (sI τ3 33 39 (iz ((gI σ 33 39) + 1))) 57 p = kd := ((gI_eq (sk1t (by decide) rfl)).trans (frτ3.g 57 p rfl)).trans eτ1_1; obtain ⟨q1, q2, q3, q4⟩ := push34 hpp hpi F1 (by omega); exact ⟨(by have : gI (sI τ3 33 39 (iz ((gI σ 33 39) + 1))) 33 7 = gI τ3 33 7 := gI_iz (sk2t (by decide) (izg τ3 33 7)) (rgI _ _ _); omega), ES.of (E := gI (sI τ3 33 39 (iz ((gI σ 33 39) + 1))) 57) (p + 1) c (by have : gI (sI τ3 33 39 (iz ((gI σ 33 39) + 1))) 33 38 = gI τ1 33 38 := gI_iz (sk2t (by decide) (Fr.it frτ3 rfl (izg τ1 33 38))) (rgI _ _ _); omega) (by have : gI (sI τ3 33 39 (iz ((gI σ 33 39) + 1))) 33 35 = gI σ 33 35 := gI_iz (sk2t (by decide) (Fr.it frτ3 rfl (Fr.it frτ1 rfl (izg σ 33 35)))) (rgI _ _ _); omega) hc0 (fun _ _ => rfl) (by have : gI (sI τ3 33 39 (iz ((gI σ 33 39) + 1))) 33 7 = gI τ3 33 7 := gI_iz (sk2t (by decide) (izg τ3 33 7)) (rgI _ _ _); omega) (by have : gI (sI τ3 33 39 (iz ((gI σ 33 39) + 1))) 33 39 = (gI σ 33 39) + 1 := gI_iz (hI_at _ _ _ _) (by omega); omega) (by omega) (fun _ => q1) (Chain.congr hch hb.1 hc0.1 (fun k hk => ((gI_eq (sk1t (by decide) rfl)).trans ((frτ3.g 51 k rfl).trans (frτ1.g 51 k rfl)))) (fun k hk => ((gI_eq (sk1t (by decide) rfl)).trans ((frτ3.g 52 k rfl).trans (frτ1.g 52 k rfl))))) (by omega)⟩)), (fun k hk => ⟨((gI_eq (sk1t (by decide) rfl)).trans ((frτ3.g 51 k rfl).trans (frτ1.g 51 k rfl))), ((gI_eq (sk1t (by decide) rfl)).trans ((frτ3.g 52 k rfl).trans (frτ1.g 52 k rfl)))⟩)⟩
      · refine z_aload_n (pc := 60) O dX9_one_60 rfl ?_
        refine z_callV (pc := 61) O cl_X9_269 (k9_wrong _ _ (frτ3.lay (frτ1.lay J))) (by decide) (jo_33 (frτ3.lay (frτ1.lay J))) kc_9 rfl rfl (Nat.le_of_ble_eq_true rfl) ⟨Nat.zero_le _, Nat.zero_le _⟩ dX9_one_61 (fun r τ5 hp => ?_)
        obtain ⟨rfl, frτ5, eτ5_0⟩ := hp
        have : gI (sI τ3 33 39 (iz ((gI σ 33 39) + 1))) 33 4 = gI σ 33 4 := gI_iz (sk2t (by decide) (Fr.it frτ3 rfl (Fr.it frτ1 rfl (izg σ 33 4)))) (rgI _ _ _)
        have : gI (sI τ3 33 39 (iz ((gI σ 33 39) + 1))) 33 5 = gI σ 33 5 := gI_iz (sk2t (by decide) (Fr.it frτ3 rfl (Fr.it frτ1 rfl (izg σ 33 5)))) (rgI _ _ _)
        have : gI (sI τ3 33 39 (iz ((gI σ 33 39) + 1))) 33 7 = gI τ3 33 7 := gI_iz (sk2t (by decide) (izg τ3 33 7)) (rgI _ _ _)
        have : gI (sI τ3 33 39 (iz ((gI σ 33 39) + 1))) 33 9 = gI τ3 33 9 := gI_iz (sk2t (by decide) (izg τ3 33 9)) (rgI _ _ _)
        refine z_iconst (pc := 64) (v := iz (1)) O dX9_one_64 (by decide) ?_
        refine z_zret (pc := 65) O dX9_one_65 rfl ?_
        exact ⟨1, rfl, (by decide), ((((frτ1.mono (V := [(33, 7), (33, 8), (33, 9), (33, 10), (33, 11), (33, 4), (33, 5), (33, 36), (51, 99999), (52, 99999), (33, 35), (57, 99999), (33, 38), (33, 39)]) rfl).tr (frτ3.mono (V := [(33, 7), (33, 8), (33, 9), (33, 10), (33, 11), (33, 4), (33, 5), (33, 36), (51, 99999), (52, 99999), (33, 35), (57, 99999), (33, 38), (33, 39)]) rfl)).pI rfl).tr (frτ5.mono (V := [(33, 7), (33, 8), (33, 9), (33, 10), (33, 11), (33, 4), (33, 5), (33, 36), (51, 99999), (52, 99999), (33, 35), (57, 99999), (33, 38), (33, 39)]) rfl)), (by have : gI τ5 33 7 = gI τ3 33 7 := gI_iz (Fr.it frτ5 rfl (sk2t (by decide) (izg τ3 33 7))) (rgI _ _ _); have : gI τ5 33 8 = gI τ3 33 8 := gI_iz (Fr.it frτ5 rfl (sk2t (by decide) (izg τ3 33 8))) (rgI _ _ _); have : gI τ5 33 3 = gI σ 33 3 := gI_iz (Fr.it frτ5 rfl (sk2t (by decide) (Fr.it frτ3 rfl (Fr.it frτ1 rfl (izg σ 33 3))))) (rgI _ _ _); have : gI τ5 33 9 = gI τ3 33 9 := gI_iz (Fr.it frτ5 rfl (sk2t (by decide) (izg τ3 33 9))) (rgI _ _ _); omega), (by have : gI τ5 33 7 = gI τ3 33 7 := gI_iz (Fr.it frτ5 rfl (sk2t (by decide) (izg τ3 33 7))) (rgI _ _ _); have : gI τ5 33 36 = gI σ 33 36 := gI_iz (Fr.it frτ5 rfl (sk2t (by decide) (Fr.it frτ3 rfl (Fr.it frτ1 rfl (izg σ 33 36))))) (rgI _ _ _); omega), (by have : gI τ5 33 38 = gI τ1 33 38 := gI_iz (Fr.it frτ5 rfl (sk2t (by decide) (Fr.it frτ3 rfl (izg τ1 33 38)))) (rgI _ _ _); omega), (Or.inl (by omega)), (fun k hk => ⟨((frτ5.g 51 k rfl).trans ((gI_eq (sk1t (by decide) rfl)).trans ((frτ3.g 51 k rfl).trans (frτ1.g 51 k rfl)))), ((frτ5.g 52 k rfl).trans ((gI_eq (sk1t (by decide) rfl)).trans ((frτ3.g 52 k rfl).trans (frτ1.g 52 k rfl))))⟩)⟩
    refine z_aload_n (pc := 19) O dX9_one_19 rfl ?_
    refine z_aload_n (pc := 20) O dX9_one_20 rfl ?_
    refine z_bipush (pc := 21) (v := iz (40)) O dX9_one_21 (by decide) ?_
    refine z_callV (pc := 23) O cl_X9_310 (k9_is _ _ 40 (by decide) J (by omega) (by omega)) (by decide) (jo_33 J) kc_9 rfl rfl (Nat.le_of_ble_eq_true rfl) ⟨Nat.zero_le _, Nat.zero_le _⟩ dX9_one_23 (fun r τ7 hp => ?_)
    obtain ⟨z8, rfl, fτ7_0, fτ7_1, rfl⟩ := hp
    refine zi_if_eq (pc := 26) (tgt := 33) O dX9_one_26 (by decide) (by omega) (fun h26 => ?_) (fun h26 => ?_)
    · refine z_iconst (pc := 33) (v := iz (3)) O dX9_one_33 (by decide) ?_
      refine z_lk [(0, .ref 33)] ⟨rfl, trivial⟩ ?_
      exact cut34 3 (by omega) (by omega)
    · refine z_iconst (pc := 29) (v := iz (4)) O dX9_one_29 (by decide) ?_
      refine z_goto (pc := 30) (tgt := 34) O dX9_one_30 (by decide) ?_
      refine z_lk [(0, .ref 33)] ⟨rfl, trivial⟩ ?_
      exact cut34 4 (by omega) (by omega)
  have cut66 : ∀ (_ : Unit), Z κ γ 2 σ 0 0 (QM κ γ (fun r τ => ∃ z : Int, r = some (.int (iz z)) ∧ (z = 0 ∨ z = 1) ∧ (Fr [(33, 7), (33, 8), (33, 9), (33, 10), (33, 11), (33, 4), (33, 5), (33, 36), (51, 99999), (52, 99999), (33, 35), (57, 99999), (33, 38), (33, 39)] σ τ) ∧ (0 ≤ gI τ 33 7 ∧ gI τ 33 7 ≤ gI τ 33 8 ∧ gI τ 33 8 ≤ gI τ 33 3 ∧ gI τ 33 3 ≤ 700 ∧ ((gI τ 33 9 = 0 ∧ gI τ 33 7 = gI τ 33 3) ∨ (gI τ 33 7 < gI τ 33 8 ∧ 1 ≤ gI τ 33 9 ∧ gI τ 33 9 ≤ 5))) ∧ ((gI σ 33 7 ≤ gI τ 33 7) ∧ 0 ≤ gI τ 33 4 ∧ (0 ≤ gI τ 33 36 ∧ gI τ 33 36 ≤ 60)) ∧ (0 ≤ gI τ 33 38 ∧ gI τ 33 38 ≤ 21) ∧ (0 < gI τ 33 4 ∨ (gI σ 33 7 < gI τ 33 7 ∧ ES τ b c0 z)) ∧ (∀ k : Nat, (k : Int) < 700 * b + c0 → gI τ 51 k = gI σ 51 k ∧ gI τ 52 k = gI σ 52 k)) 0 0) 66 [(0, .ref 33)] [] := by
    intro _
    refine z_aload_n (pc := 66) O dX9_one_66 rfl ?_
    refine z_callV (pc := 67) O cl_X9_344 (k9_side _ _ b c J (by omega) (by omega) (by omega) (by omega) (by omega) (by omega) (by omega)) (by decide) (jo_33 J) kc_9 rfl rfl (Nat.le_of_ble_eq_true rfl) ⟨Nat.zero_le _, Nat.zero_le _⟩ dX9_one_67 (fun r τ9 hp => ?_)
    obtain ⟨rfl, frτ9, eτ9_0, eτ9_1, eτ9_2, eτ9_3⟩ := hp
    have : gI τ9 33 3 = gI σ 33 3 := gI_iz (Fr.it frτ9 rfl (izg σ 33 3)) (rgI _ _ _)
    refine z_aload_n (pc := 70) O dX9_one_70 rfl ?_
    refine z_callV (pc := 71) O cl_X9_272 (k9_isGood _ _ (frτ9.lay J)) (by decide) (jo_33 (frτ9.lay J)) kc_9 rfl rfl (Nat.le_of_ble_eq_true rfl) ⟨Nat.zero_le _, Nat.zero_le _⟩ dX9_one_71 (fun r τ11 hp => ?_)
    obtain ⟨z12, rfl, fτ11_0, fτ11_1, rfl⟩ := hp
    refine zi_if_ne (pc := 74) (tgt := 79) O dX9_one_74 (by decide) (by omega) (fun h74 => ?_) (fun h74 => ?_)
    · have cut108 : ∀ (_ : Unit), (gI τ9 33 9 = 5) → (sg τ9 (gI τ9 33 7) = 60 ∨ sg τ9 (gI τ9 33 7) = 62 ∨ sg τ9 (gI τ9 33 7) = 61) → Z κ γ 2 τ9 0 0 (QM κ γ (fun r τ => ∃ z : Int, r = some (.int (iz z)) ∧ (z = 0 ∨ z = 1) ∧ (Fr [(33, 7), (33, 8), (33, 9), (33, 10), (33, 11), (33, 4), (33, 5), (33, 36), (51, 99999), (52, 99999), (33, 35), (57, 99999), (33, 38), (33, 39)] σ τ) ∧ (0 ≤ gI τ 33 7 ∧ gI τ 33 7 ≤ gI τ 33 8 ∧ gI τ 33 8 ≤ gI τ 33 3 ∧ gI τ 33 3 ≤ 700 ∧ ((gI τ 33 9 = 0 ∧ gI τ 33 7 = gI τ 33 3) ∨ (gI τ 33 7 < gI τ 33 8 ∧ 1 ≤ gI τ 33 9 ∧ gI τ 33 9 ≤ 5))) ∧ ((gI σ 33 7 ≤ gI τ 33 7) ∧ 0 ≤ gI τ 33 4 ∧ (0 ≤ gI τ 33 36 ∧ gI τ 33 36 ≤ 60)) ∧ (0 ≤ gI τ 33 38 ∧ gI τ 33 38 ≤ 21) ∧ (0 < gI τ 33 4 ∨ (gI σ 33 7 < gI τ 33 7 ∧ ES τ b c0 z)) ∧ (∀ k : Nat, (k : Int) < 700 * b + c0 → gI τ 51 k = gI σ 51 k ∧ gI τ 52 k = gI σ 52 k)) 0 0) 108 [(0, .ref 33)] [] := by
        intro _ ff108_0 ff108_1
        refine z_aload_n (pc := 108) O dX9_one_108 rfl ?_
        refine z_aload_n (pc := 109) O dX9_one_109 rfl ?_
        refine zi_getv (pc := 110) (gI τ9 33 7) O fl_X9_231 rfl (jo_33 (frτ9.lay J)) (izg τ9 33 7) dX9_one_110 ?_
        have := rgI τ9 33 7
        refine z_callV (pc := 113) O cl_X9_234 (k9_sign _ _ (gI τ9 33 7) (by omega) (frτ9.lay J) (by have : gI τ9 33 3 = gI σ 33 3 := gI_iz (Fr.it frτ9 rfl (izg σ 33 3)) (rgI _ _ _); omega) (by omega)) (by decide) (jo_33 (frτ9.lay J)) kc_9 rfl rfl (Nat.le_of_ble_eq_true rfl) ⟨Nat.zero_le _, Nat.zero_le _⟩ dX9_one_113 (fun r τ13 hp => ?_)
        obtain ⟨z14, rfl, fτ13_0, fτ13_1, fτ13_2, rfl⟩ := hp
        have : gI τ9 33 3 = gI σ 33 3 := gI_iz (Fr.it frτ9 rfl (izg σ 33 3)) (rgI _ _ _)
        refine z_istore_n (pc := 116) [(0, .ref 33), (1, .int (iz z14))] O dX9_one_116 (by decide) rfl ?_
        refine z_aload_n (pc := 117) O dX9_one_117 rfl ?_
        refine z_callV (pc := 118) O cl_X9_266 (k9_next _ _ (frτ9.lay J) (by have : gI τ9 33 3 = gI σ 33 3 := gI_iz (Fr.it frτ9 rfl (izg σ 33 3)) (rgI _ _ _); omega) (by have : gI τ9 33 3 = gI σ 33 3 := gI_iz (Fr.it frτ9 rfl (izg σ 33 3)) (rgI _ _ _); omega)) (by decide) (jo_33 (frτ9.lay J)) kc_9 rfl rfl (Nat.le_of_ble_eq_true rfl) ⟨Nat.zero_le _, Nat.zero_le _⟩ dX9_one_118 (fun r τ15 hp => ?_)
        obtain ⟨rfl, frτ15, eτ15_0, eτ15_1⟩ := hp
        have : gI τ15 33 3 = gI σ 33 3 := gI_iz (Fr.it frτ15 rfl (Fr.it frτ9 rfl (izg σ 33 3))) (rgI _ _ _)
        refine z_aload_n (pc := 121) O dX9_one_121 rfl ?_
        refine z_callV (pc := 122) O cl_X9_344 (k9_side _ _ b (c + 1) (frτ15.lay (frτ9.lay J)) (by have : gI τ15 33 3 = gI σ 33 3 := gI_iz (Fr.it frτ15 rfl (Fr.it frτ9 rfl (izg σ 33 3))) (rgI _ _ _); omega) (by have : gI τ15 33 4 = gI τ9 33 4 := gI_iz (Fr.it frτ15 rfl (izg τ9 33 4)) (rgI _ _ _); omega) (by have : gI τ15 33 34 = gI σ 33 34 := gI_iz (Fr.it frτ15 rfl (Fr.it frτ9 rfl (izg σ 33 34))) (rgI _ _ _); omega) (by have : gI τ15 33 35 = gI τ9 33 35 := gI_iz (Fr.it frτ15 rfl (izg τ9 33 35)) (rgI _ _ _); omega) (by omega) (by omega) (by have : gI τ15 33 36 = gI τ9 33 36 := gI_iz (Fr.it frτ15 rfl (izg τ9 33 36)) (rgI _ _ _); omega)) (by decide) (jo_33 (frτ15.lay (frτ9.lay J))) kc_9 rfl rfl (Nat.le_of_ble_eq_true rfl) ⟨Nat.zero_le _, Nat.zero_le _⟩ dX9_one_122 (fun r τ17 hp => ?_)
        obtain ⟨rfl, frτ17, eτ17_0, eτ17_1, eτ17_2, eτ17_3⟩ := hp
        have : gI τ17 33 3 = gI σ 33 3 := gI_iz (Fr.it frτ17 rfl (Fr.it frτ15 rfl (Fr.it frτ9 rfl (izg σ 33 3)))) (rgI _ _ _)
        refine z_aload_n (pc := 125) O dX9_one_125 rfl ?_
        refine z_callV (pc := 126) O cl_X9_272 (k9_isGood _ _ (frτ17.lay (frτ15.lay (frτ9.lay J)))) (by decide) (jo_33 (frτ17.lay (frτ15.lay (frτ9.lay J)))) kc_9 rfl rfl (Nat.le_of_ble_eq_true rfl) ⟨Nat.zero_le _, Nat.zero_le _⟩ dX9_one_126 (fun r τ19 hp => ?_)
        obtain ⟨z20, rfl, fτ19_0, fτ19_1, rfl⟩ := hp
        refine zi_if_eq (pc := 129) (tgt := 138) O dX9_one_129 (by decide) (by omega) (fun h129 => ?_) (fun h129 => ?_)
        · refine z_iconst (pc := 138) (v := iz (0)) O dX9_one_138 (by decide) ?_
          refine z_zret (pc := 139) O dX9_one_139 rfl ?_
          exact ⟨0, rfl, (by decide), (((frτ9.mono (V := [(33, 7), (33, 8), (33, 9), (33, 10), (33, 11), (33, 4), (33, 5), (33, 36), (51, 99999), (52, 99999), (33, 35), (57, 99999), (33, 38), (33, 39)]) rfl).tr (frτ15.mono (V := [(33, 7), (33, 8), (33, 9), (33, 10), (33, 11), (33, 4), (33, 5), (33, 36), (51, 99999), (52, 99999), (33, 35), (57, 99999), (33, 38), (33, 39)]) rfl)).tr (frτ17.mono (V := [(33, 7), (33, 8), (33, 9), (33, 10), (33, 11), (33, 4), (33, 5), (33, 36), (51, 99999), (52, 99999), (33, 35), (57, 99999), (33, 38), (33, 39)]) rfl)), (by have : gI τ17 33 3 = gI σ 33 3 := gI_iz (Fr.it frτ17 rfl (Fr.it frτ15 rfl (Fr.it frτ9 rfl (izg σ 33 3)))) (rgI _ _ _); omega), (by omega), (by have : gI τ17 33 38 = gI σ 33 38 := gI_iz (Fr.it frτ17 rfl (Fr.it frτ15 rfl (Fr.it frτ9 rfl (izg σ 33 38)))) (rgI _ _ _); omega), (Or.inl (by omega)), (fun k hk => ⟨((eτ17_3 k (by omega)).1.trans ((frτ15.g 51 k rfl).trans (eτ9_3 k (by omega)).1)), ((eτ17_3 k (by omega)).2.trans ((frτ15.g 52 k rfl).trans (eτ9_3 k (by omega)).2))⟩)⟩
        · refine z_aload_n (pc := 132) O dX9_one_132 rfl ?_
          refine z_iload_n (pc := 133) O dX9_one_133 rfl ?_
          refine z_iconst (pc := 134) (v := iz (0)) O dX9_one_134 (by decide) ?_
          refine z_callV (pc := 135) O cl_X9_347 (k9_put _ _ z14 (by omega) 0 (by decide) b (c + 1 + 1) (frτ17.lay (frτ15.lay (frτ9.lay J))) (by have : gI τ17 33 34 = gI σ 33 34 := gI_iz (Fr.it frτ17 rfl (Fr.it frτ15 rfl (Fr.it frτ9 rfl (izg σ 33 34)))) (rgI _ _ _); omega) (by omega) (by omega) (by omega)) (by decide) (jo_33 (frτ17.lay (frτ15.lay (frτ9.lay J)))) kc_9 rfl rfl (Nat.le_of_ble_eq_true rfl) ⟨Nat.zero_le _, Nat.zero_le _⟩ dX9_one_135 (fun r τ21 hp => ?_)
          obtain ⟨rfl, frτ21, eτ21_0, eτ21_1, eτ21_2, eτ21_3⟩ := hp
          refine z_iconst (pc := 138) (v := iz (0)) O dX9_one_138 (by decide) ?_
          refine z_zret (pc := 139) O dX9_one_139 rfl ?_
          exact ⟨0, rfl, (by decide), ((((frτ9.mono (V := [(33, 7), (33, 8), (33, 9), (33, 10), (33, 11), (33, 4), (33, 5), (33, 36), (51, 99999), (52, 99999), (33, 35), (57, 99999), (33, 38), (33, 39)]) rfl).tr (frτ15.mono (V := [(33, 7), (33, 8), (33, 9), (33, 10), (33, 11), (33, 4), (33, 5), (33, 36), (51, 99999), (52, 99999), (33, 35), (57, 99999), (33, 38), (33, 39)]) rfl)).tr (frτ17.mono (V := [(33, 7), (33, 8), (33, 9), (33, 10), (33, 11), (33, 4), (33, 5), (33, 36), (51, 99999), (52, 99999), (33, 35), (57, 99999), (33, 38), (33, 39)]) rfl)).tr (frτ21.mono (V := [(33, 7), (33, 8), (33, 9), (33, 10), (33, 11), (33, 4), (33, 5), (33, 36), (51, 99999), (52, 99999), (33, 35), (57, 99999), (33, 38), (33, 39)]) rfl)), (by have : gI τ21 33 7 = gI τ17 33 7 := gI_iz (Fr.it frτ21 rfl (izg τ17 33 7)) (rgI _ _ _); have : gI τ21 33 8 = gI τ17 33 8 := gI_iz (Fr.it frτ21 rfl (izg τ17 33 8)) (rgI _ _ _); have : gI τ21 33 3 = gI σ 33 3 := gI_iz (Fr.it frτ21 rfl (Fr.it frτ17 rfl (Fr.it frτ15 rfl (Fr.it frτ9 rfl (izg σ 33 3))))) (rgI _ _ _); have : gI τ21 33 9 = gI τ17 33 9 := gI_iz (Fr.it frτ21 rfl (izg τ17 33 9)) (rgI _ _ _); omega), (by have : gI τ21 33 7 = gI τ17 33 7 := gI_iz (Fr.it frτ21 rfl (izg τ17 33 7)) (rgI _ _ _); have : gI τ21 33 4 = gI τ17 33 4 := gI_iz (Fr.it frτ21 rfl (izg τ17 33 4)) (rgI _ _ _); have : gI τ21 33 36 = gI τ17 33 36 := gI_iz (Fr.it frτ21 rfl (izg τ17 33 36)) (rgI _ _ _); omega), (by have : gI τ21 33 38 = gI σ 33 38 := gI_iz (Fr.it frτ21 rfl (Fr.it frτ17 rfl (Fr.it frτ15 rfl (Fr.it frτ9 rfl (izg σ 33 38))))) (rgI _ _ _); omega), (Or.inr (by have g1 : Chain (gI τ9 51) (gI τ9 52) b c0 (c + 1) (cnt b12 (gI σ 57) p + (1 - 1) + 1) := Chain.put hch hb.1 hc0.1 hc0.2 (fun k hk => (eτ9_3 k hk).1) (fun k hk => (eτ9_3 k hk).2) (Cd_push (by omega) (by omega)); have g2 : Chain (gI τ15 51) (gI τ15 52) b c0 (c + 1) (cnt b12 (gI σ 57) p + (1 - 1) + 1) := (Chain.congr g1 hb.1 hc0.1 (fun k hk => (frτ15.g 51 k rfl)) (fun k hk => (frτ15.g 52 k rfl))); have g3 : Chain (gI τ17 51) (gI τ17 52) b c0 (c + 1 + 1) (cnt b12 (gI σ 57) p + (1 - 1) + 1 + 1) := Chain.put g2 hb.1 hc0.1 (by omega) (fun k hk => (eτ17_3 k hk).1) (fun k hk => (eτ17_3 k hk).2) (Cd_push (by omega) (by omega)); have g4 : Chain (gI τ21 51) (gI τ21 52) b c0 (c + 1 + 1 + 1) (cnt b12 (gI σ 57) p + (1 - 1) + 1 + 1 - 1) := Chain.put g3 hb.1 hc0.1 (by omega) (fun k hk => (eτ21_3 k (by omega)).1) (fun k hk => (eτ21_3 k (by omega)).2) (Cd_two (by omega) (by omega)); exact ⟨(by have : gI τ21 33 7 = gI τ17 33 7 := gI_iz (Fr.it frτ21 rfl (izg τ17 33 7)) (rgI _ _ _); omega), ES.of (E := gI σ 57) p (c + 1 + 1 + 1) (by have : gI τ21 33 38 = gI σ 33 38 := gI_iz (Fr.it frτ21 rfl (Fr.it frτ17 rfl (Fr.it frτ15 rfl (Fr.it frτ9 rfl (izg σ 33 38))))) (rgI _ _ _); omega) (by omega) (by omega) (fun i hi => ((frτ21.g 57 i rfl).trans ((frτ17.g 57 i rfl).trans ((frτ15.g 57 i rfl).trans (frτ9.g 57 i rfl))))) (by have : gI τ21 33 7 = gI τ17 33 7 := gI_iz (Fr.it frτ21 rfl (izg τ17 33 7)) (rgI _ _ _); omega) (by have : gI τ21 33 39 = gI σ 33 39 := gI_iz (Fr.it frτ21 rfl (Fr.it frτ17 rfl (Fr.it frτ15 rfl (Fr.it frτ9 rfl (izg σ 33 39))))) (rgI _ _ _); omega) hd5 (fun _ => hpi) g4 (by omega)⟩)), (fun k hk => ⟨((eτ21_3 k (by omega)).1.trans ((eτ17_3 k (by omega)).1.trans ((frτ15.g 51 k rfl).trans (eτ9_3 k (by omega)).1))), ((eτ21_3 k (by omega)).2.trans ((eτ17_3 k (by omega)).2.trans ((frτ15.g 52 k rfl).trans (eτ9_3 k (by omega)).2)))⟩)⟩
      refine z_aload_n (pc := 79) O dX9_one_79 rfl ?_
      refine z_bipush (pc := 80) (v := iz (60)) O dX9_one_80 (by decide) ?_
      refine z_callV (pc := 82) O cl_X9_310 (k9_is _ _ 60 (by decide) (frτ9.lay J) (by have : gI τ9 33 3 = gI σ 33 3 := gI_iz (Fr.it frτ9 rfl (izg σ 33 3)) (rgI _ _ _); omega) (by omega)) (by decide) (jo_33 (frτ9.lay J)) kc_9 rfl rfl (Nat.le_of_ble_eq_true rfl) ⟨Nat.zero_le _, Nat.zero_le _⟩ dX9_one_82 (fun r τ23 hp => ?_)
      obtain ⟨z24, rfl, fτ23_0, fτ23_1, rfl⟩ := hp
      refine zi_if_ne (pc := 85) (tgt := 108) O dX9_one_85 (by decide) (by omega) (fun h85 => ?_) (fun h85 => ?_)
      · refine z_lk [(0, .ref 33)] ⟨rfl, trivial⟩ ?_
        exact cut108 () (by omega) (by omega)
      · refine z_aload_n (pc := 88) O dX9_one_88 rfl ?_
        refine z_bipush (pc := 89) (v := iz (62)) O dX9_one_89 (by decide) ?_
        refine z_callV (pc := 91) O cl_X9_310 (k9_is _ _ 62 (by decide) (frτ9.lay J) (by have : gI τ9 33 3 = gI σ 33 3 := gI_iz (Fr.it frτ9 rfl (izg σ 33 3)) (rgI _ _ _); omega) (by omega)) (by decide) (jo_33 (frτ9.lay J)) kc_9 rfl rfl (Nat.le_of_ble_eq_true rfl) ⟨Nat.zero_le _, Nat.zero_le _⟩ dX9_one_91 (fun r τ25 hp => ?_)
        obtain ⟨z26, rfl, fτ25_0, fτ25_1, rfl⟩ := hp
        refine zi_if_ne (pc := 94) (tgt := 108) O dX9_one_94 (by decide) (by omega) (fun h94 => ?_) (fun h94 => ?_)
        · refine z_lk [(0, .ref 33)] ⟨rfl, trivial⟩ ?_
          exact cut108 () (by omega) (by omega)
        · refine z_aload_n (pc := 97) O dX9_one_97 rfl ?_
          refine z_bipush (pc := 98) (v := iz (61)) O dX9_one_98 (by decide) ?_
          refine z_callV (pc := 100) O cl_X9_310 (k9_is _ _ 61 (by decide) (frτ9.lay J) (by have : gI τ9 33 3 = gI σ 33 3 := gI_iz (Fr.it frτ9 rfl (izg σ 33 3)) (rgI _ _ _); omega) (by omega)) (by decide) (jo_33 (frτ9.lay J)) kc_9 rfl rfl (Nat.le_of_ble_eq_true rfl) ⟨Nat.zero_le _, Nat.zero_le _⟩ dX9_one_100 (fun r τ27 hp => ?_)
          obtain ⟨z28, rfl, fτ27_0, fτ27_1, rfl⟩ := hp
          refine zi_if_ne (pc := 103) (tgt := 108) O dX9_one_103 (by decide) (by omega) (fun h103 => ?_) (fun h103 => ?_)
          · refine z_lk [(0, .ref 33)] ⟨rfl, trivial⟩ ?_
            exact cut108 () (by omega) (by omega)
          · refine z_iconst (pc := 106) (v := iz (0)) O dX9_one_106 (by decide) ?_
            refine z_zret (pc := 107) O dX9_one_107 rfl ?_
            exact ⟨0, rfl, (by decide), (frτ9.mono (V := [(33, 7), (33, 8), (33, 9), (33, 10), (33, 11), (33, 4), (33, 5), (33, 36), (51, 99999), (52, 99999), (33, 35), (57, 99999), (33, 38), (33, 39)]) rfl), (by have : gI τ9 33 3 = gI σ 33 3 := gI_iz (Fr.it frτ9 rfl (izg σ 33 3)) (rgI _ _ _); omega), (by omega), (by have : gI τ9 33 38 = gI σ 33 38 := gI_iz (Fr.it frτ9 rfl (izg σ 33 38)) (rgI _ _ _); omega), (Or.inr (by have g1 : Chain (gI τ9 51) (gI τ9 52) b c0 (c + 1) (cnt b12 (gI σ 57) p + (1 - 1) + 1) := Chain.put hch hb.1 hc0.1 hc0.2 (fun k hk => (eτ9_3 k hk).1) (fun k hk => (eτ9_3 k hk).2) (Cd_push (by omega) (by omega)); exact ⟨(by omega), ES.of (E := gI σ 57) p (c + 1) (by have : gI τ9 33 38 = gI σ 33 38 := gI_iz (Fr.it frτ9 rfl (izg σ 33 38)) (rgI _ _ _); omega) (by omega) (by omega) (fun i hi => (frτ9.g 57 i rfl)) (by omega) (by have : gI τ9 33 39 = gI σ 33 39 := gI_iz (Fr.it frτ9 rfl (izg σ 33 39)) (rgI _ _ _); omega) hd5 (fun _ => hpi) g1 (by omega)⟩)), (fun k hk => ⟨(eτ9_3 k (by omega)).1, (eτ9_3 k (by omega)).2⟩)⟩
    · refine z_iconst (pc := 77) (v := iz (1)) O dX9_one_77 (by decide) ?_
      refine z_zret (pc := 78) O dX9_one_78 rfl ?_
      exact ⟨1, rfl, (by decide), (frτ9.mono (V := [(33, 7), (33, 8), (33, 9), (33, 10), (33, 11), (33, 4), (33, 5), (33, 36), (51, 99999), (52, 99999), (33, 35), (57, 99999), (33, 38), (33, 39)]) rfl), (by have : gI τ9 33 3 = gI σ 33 3 := gI_iz (Fr.it frτ9 rfl (izg σ 33 3)) (rgI _ _ _); omega), (by omega), (by have : gI τ9 33 38 = gI σ 33 38 := gI_iz (Fr.it frτ9 rfl (izg σ 33 38)) (rgI _ _ _); omega), (Or.inl (by omega)), (fun k hk => ⟨(eτ9_3 k (by omega)).1, (eτ9_3 k (by omega)).2⟩)⟩
  refine z_aload_n (pc := 0) O dX9_one_0 rfl ?_
  refine z_bipush (pc := 1) (v := iz (40)) O dX9_one_1 (by decide) ?_
  refine z_callV (pc := 3) O cl_X9_310 (k9_is _ _ 40 (by decide) J (by omega) (by omega)) (by decide) (jo_33 J) kc_9 rfl rfl (Nat.le_of_ble_eq_true rfl) ⟨Nat.zero_le _, Nat.zero_le _⟩ dX9_one_3 (fun r τ29 hp => ?_)
  obtain ⟨z30, rfl, fτ29_0, fτ29_1, rfl⟩ := hp
  refine zi_if_ne (pc := 6) (tgt := 19) O dX9_one_6 (by decide) (by omega) (fun h6 => ?_) (fun h6 => ?_)
  · refine z_lk [(0, .ref 33)] ⟨rfl, trivial⟩ ?_
    exact cut19 () (by omega)
  · refine z_aload_n (pc := 9) O dX9_one_9 rfl ?_
    refine z_ldc2 (pc := 10) O tw_1027 dX9_one_10 ?_
    refine z_callV (pc := 13) O cl_X9_263 (k9_isWord _ _ 7237492 J) (by decide) (jo_33 J) kc_9 rfl rfl (Nat.le_of_ble_eq_true rfl) ⟨Nat.zero_le _, Nat.zero_le _⟩ dX9_one_13 (fun r τ31 hp => ?_)
    obtain ⟨z32, rfl, fτ31_0, fτ31_1, rfl⟩ := hp
    refine zi_if_eq (pc := 16) (tgt := 66) O dX9_one_16 (by decide) (by omega) (fun h16 => ?_) (fun h16 => ?_)
    · refine z_lk [(0, .ref 33)] ⟨rfl, trivial⟩ ?_
      exact cut66 () 
    · refine z_lk [(0, .ref 33)] ⟨rfl, trivial⟩ ?_
      exact cut19 () (by omega)
