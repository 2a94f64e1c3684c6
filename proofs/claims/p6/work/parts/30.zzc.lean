set_option maxHeartbeats 4000000 in
set_option maxRecDepth 20000 in
theorem k9_feed3 (l : Launch) (σ : VH) (a : Int) (ra : (-2147483648 ≤ a ∧ a < 2147483648)) (b : Int) (rb : (-2147483648 ≤ b ∧ b < 2147483648)) (c : Int) (rc : (-2147483648 ≤ c ∧ c < 2147483648)) (d : Int) (rd : (-2147483648 ≤ d ∧ d < 2147483648)) (e : Int) (re : (-2147483648 ≤ e ∧ e < 2147483648)) (I : InvM σ) : Ct l yX9_feed cX9_feed 8 (some .int) 0 0 0 [.ref 33, .int (iz a), .int (iz b), .int (iz c), .int (iz d), .int (iz e)] σ (fun r τ => ∃ z : Int, r = some (.int (iz z)) ∧ (-2147483648 ≤ z ∧ z < 2147483648) ∧ ((z = -1 ∧ 700 < gI σ 33 2 + 20) ∨ (z = gI σ 33 2 + 20 ∧ gI σ 33 2 + 20 ≤ 700)) ∧ (Fr [(34, 99999), (33, 2)] σ τ) ∧ (InvM τ) ∧ ((z = -1 ∧ gI τ 33 2 = gI σ 33 2) ∨ (0 ≤ z ∧ gI τ 33 2 = z)) ∧ (FdP (hI σ 34) (hI τ 34) (gI σ 33 2) (Fdd a b c d e))) := by
  refine Ct.enter rfl (Nat.le_of_ble_eq_true rfl) ?_
  intro κ γ hκ O hrc hrs
  subst hκ
  have i1 := I.2.1
  unfold InvM1 at i1
  have i2 := I.2.2.1.laws
  have i3 := I.2.2.2.1
  refine z_aload_n (pc := 0) O dX9_feed_0 rfl ?_
  refine zi_getv (pc := 1) (gI σ 33 2) O fl_X9_277 rfl (jo_33 I.1) (izg σ 33 2) dX9_feed_1 ?_
  have := rgI σ 33 2
  refine z_bipush (pc := 4) (v := iz (20)) O dX9_feed_4 (by decide) ?_
  refine zi_iadd (pc := 6) O dX9_feed_6 ?_
  refine z_sipush (pc := 7) (v := iz (700)) O dX9_feed_7 (by decide) ?_
  refine zi_icmp_le (pc := 10) (tgt := 15) O dX9_feed_10 (by decide) (by omega) (by decide) (fun h10 => ?_) (fun h10 => ?_)
  · refine z_iconst (pc := 15) (v := iz (0)) O dX9_feed_15 (by decide) ?_
    refine z_istore (pc := 16) [(0, .ref 33), (1, .int (iz a)), (2, .int (iz b)), (3, .int (iz c)), (4, .int (iz d)), (5, .int (iz e)), (6, .int (iz 0))] O dX9_feed_16 (by decide) rfl ?_
    have cut18 : ∀ (mu18 : Nat) (k : Int) (ρ18 : VH), (mu18 = (20 - k).toNat) → (-2147483648 ≤ k ∧ k < 2147483648) → (0 ≤ k ∧ k ≤ 20) → (FdK (hI σ 34) (hI ρ18 34) (gI σ 33 2) k (Fdd a b c d e)) → (Fr [(34, 99999)] σ ρ18) → Z κ γ 8 ρ18 0 0 (QM κ γ (fun r τ => ∃ z : Int, r = some (.int (iz z)) ∧ (-2147483648 ≤ z ∧ z < 2147483648) ∧ ((z = -1 ∧ 700 < gI σ 33 2 + 20) ∨ (z = gI σ 33 2 + 20 ∧ gI σ 33 2 + 20 ≤ 700)) ∧ (Fr [(34, 99999), (33, 2)] σ τ) ∧ (InvM τ) ∧ ((z = -1 ∧ gI τ 33 2 = gI σ 33 2) ∨ (0 ≤ z ∧ gI τ 33 2 = z)) ∧ (FdP (hI σ 34) (hI τ 34) (gI σ 33 2) (Fdd a b c d e))) 0 0) 18 [(0, .ref 33), (1, .int (iz a)), (2, .int (iz b)), (3, .int (iz c)), (4, .int (iz d)), (5, .int (iz e)), (6, .int (iz k))] [] := by
      intro mu18
      induction mu18 using Nat.strongRecOn with
      | ind mu18 ih18 =>
      intro k ρ18 hmu18 rr18_0 ff18_0 ff18_1 frρ18
      refine z_iload (pc := 18) O dX9_feed_18 rfl ?_
      refine z_bipush (pc := 20) (v := iz (20)) O dX9_feed_20 (by decide) ?_
      refine zi_icmp_ge (pc := 22) (tgt := 105) O dX9_feed_22 (by decide) (by omega) (by decide) (fun h22 => ?_) (fun h22 => ?_)
      · refine z_aload_n (pc := 105) O dX9_feed_105 rfl ?_
        refine z_dup (pc := 106) O dX9_feed_106 rfl ?_
        refine zi_getv (pc := 107) (gI σ 33 2) O fl_X9_277 rfl (jo_33 (frρ18.lay I.1)) (Fr.it frρ18 rfl (izg σ 33 2)) dX9_feed_107 ?_
        refine z_bipush (pc := 110) (v := iz (20)) O dX9_feed_110 (by decide) ?_
        refine zi_iadd (pc := 112) O dX9_feed_112 ?_
        refine z_putI (pc := 113) O fl_X9_277 rfl ⟨rfl, rfl⟩ (jo_33 (frρ18.lay I.1)) dX9_feed_113 ?_
        refine z_aload_n (pc := 116) O dX9_feed_116 rfl ?_
        refine zi_getv (pc := 117) ((gI σ 33 2) + 20) O fl_X9_277 rfl (jo_33 (frρ18.lay I.1)) (hI_at _ _ _ _) dX9_feed_117 ?_
        refine z_iret (pc := 120) O dX9_feed_120 ?_
        exact ⟨((gI σ 33 2) + 20), rfl, (by omega), (by omega), ((frρ18.mono (V := [(34, 99999), (33, 2)]) rfl).pI rfl), (InvM.fr ((frρ18.mono (V := [(34, 99999), (33, 2)]) rfl).pI rfl) I (by unfold InvM1; have : gI (sI ρ18 33 2 (iz ((gI σ 33 2) + 20))) 33 2 = (gI σ 33 2) + 20 := gI_iz (hI_at _ _ _ _) (by omega); have : gI (sI ρ18 33 2 (iz ((gI σ 33 2) + 20))) 33 52 = gI σ 33 52 := gI_iz (sk2t (by decide) (Fr.it frρ18 rfl (izg σ 33 52))) (rgI _ _ _); have : gI (sI ρ18 33 2 (iz ((gI σ 33 2) + 20))) 33 53 = gI σ 33 53 := gI_iz (sk2t (by decide) (Fr.it frρ18 rfl (izg σ 33 53))) (rgI _ _ _); have : gI (sI ρ18 33 2 (iz ((gI σ 33 2) + 20))) 33 54 = gI σ 33 54 := gI_iz (sk2t (by decide) (Fr.it frρ18 rfl (izg σ 33 54))) (rgI _ _ _); have : gI (sI ρ18 33 2 (iz ((gI σ 33 2) + 20))) 33 73 = gI σ 33 73 := gI_iz (sk2t (by decide) (Fr.it frρ18 rfl (izg σ 33 73))) (rgI _ _ _); have : gI (sI ρ18 33 2 (iz ((gI σ 33 2) + 20))) 33 74 = gI σ 33 74 := gI_iz (sk2t (by decide) (Fr.it frρ18 rfl (izg σ 33 74))) (rgI _ _ _); have : gI (sI ρ18 33 2 (iz ((gI σ 33 2) + 20))) 33 6 = gI σ 33 6 := gI_iz (sk2t (by decide) (Fr.it frρ18 rfl (izg σ 33 6))) (rgI _ _ _); omega) rfl), (by have : gI (sI ρ18 33 2 (iz ((gI σ 33 2) + 20))) 33 2 = (gI σ 33 2) + 20 := gI_iz (hI_at _ _ _ _) (by omega); omega), (Or.inr ⟨by omega, by have k20 : k = 20 := (by omega); rw [k20] at ff18_1; exact (fun i => by show hI (sI ρ18 33 2 (iz ((gI σ 33 2) + 20))) 34 i &&& 255 = _; rw [hI_sI, if_neg (fun e => absurd e.1 (by decide))]; exact ff18_1 i)⟩)⟩
      · have cut71 : ∀ (v : Int), (-2147483648 ≤ v ∧ v < 2147483648) → ((k < 4 ∧ v = a) ∨ (4 ≤ k ∧ k < 8 ∧ v = b) ∨ (8 ≤ k ∧ k < 12 ∧ v = c) ∨ (12 ≤ k ∧ k < 16 ∧ v = d) ∨ (16 ≤ k ∧ v = e)) → Z κ γ 8 ρ18 0 0 (QM κ γ (fun r τ => ∃ z : Int, r = some (.int (iz z)) ∧ (-2147483648 ≤ z ∧ z < 2147483648) ∧ ((z = -1 ∧ 700 < gI σ 33 2 + 20) ∨ (z = gI σ 33 2 + 20 ∧ gI σ 33 2 + 20 ≤ 700)) ∧ (Fr [(34, 99999), (33, 2)] σ τ) ∧ (InvM τ) ∧ ((z = -1 ∧ gI τ 33 2 = gI σ 33 2) ∨ (0 ≤ z ∧ gI τ 33 2 = z)) ∧ (FdP (hI σ 34) (hI τ 34) (gI σ 33 2) (Fdd a b c d e))) 0 0) 71 [(0, .ref 33), (1, .int (iz a)), (2, .int (iz b)), (3, .int (iz c)), (4, .int (iz d)), (5, .int (iz e)), (6, .int (iz k))] [.int (iz v)] := by
          intro v rr71_0 ff71_0
          refine z_istore (pc := 71) [(0, .ref 33), (1, .int (iz a)), (2, .int (iz b)), (3, .int (iz c)), (4, .int (iz d)), (5, .int (iz e)), (6, .int (iz k)), (7, .int (iz v))] O dX9_feed_71 (by decide) rfl ?_
          refine z_aload_n (pc := 73) O dX9_feed_73 rfl ?_
          refine z_getR (pc := 74) 34 O fl_X9_7 rfl (jo_33 (frρ18.lay I.1)) (jr_33_0 (frρ18.lay I.1)) dX9_feed_74 ?_
          refine z_aload_n (pc := 77) O dX9_feed_77 rfl ?_
          refine zi_getv (pc := 78) (gI σ 33 2) O fl_X9_277 rfl (jo_33 (frρ18.lay I.1)) (Fr.it frρ18 rfl (izg σ 33 2)) dX9_feed_78 ?_
          refine z_iload (pc := 81) O dX9_feed_81 rfl ?_
          refine zi_iadd (pc := 83) O dX9_feed_83 ?_
          refine z_iload (pc := 84) O dX9_feed_84 rfl ?_
          refine z_bipush (pc := 86) (v := iz (24)) O dX9_feed_86 (by decide) ?_
          refine z_bipush (pc := 88) (v := iz (8)) O dX9_feed_88 (by decide) ?_
          refine z_iload (pc := 90) O dX9_feed_90 rfl ?_
          refine z_iconst (pc := 92) (v := iz (3)) O dX9_feed_92 (by decide) ?_
          refine z_iand (pc := 93) O dX9_feed_93 ?_
          refine zi_any (fun z1 rz1 ez1 => ?_)
          have ean := ez1
          have ran := rz1
          refine zi_imul (pc := 94) O dX9_feed_94 ?_
          refine zi_isub (pc := 95) O dX9_feed_95 ?_
          refine z_ishr (pc := 96) O dX9_feed_96 ?_
          refine zi_any (fun z2 rz2 ez2 => ?_)
          have esh := ez2
          refine z_i2b (pc := 97) O dX9_feed_97 ?_
          refine zi_any (fun z3 rz3 ez3 => ?_)
          have ebb := ez3
          refine zi_bast (pc := 98) (((gI σ 33 2) + k).toNat) O (ja_34 (frρ18.lay I.1)) (by omega) (by omega) (by omega) dX9_feed_98 ?_
          refine zi_iinc (pc := 99) (k + 1) [(0, .ref 33), (1, .int (iz a)), (2, .int (iz b)), (3, .int (iz c)), (4, .int (iz d)), (5, .int (iz e)), (6, .int (iz (k + 1))), (7, .int (iz v))] O dX9_feed_99 rfl (by omega) (by decide) rfl ?_
          refine z_goto (pc := 102) (tgt := 18) O dX9_feed_102 (by decide) ?_
          refine z_lk [(0, .ref 33), (1, .int (iz a)), (2, .int (iz b)), (3, .int (iz c)), (4, .int (iz d)), (5, .int (iz e)), (6, .int (iz (k + 1)))] ⟨rfl, rfl, rfl, rfl, rfl, rfl, rfl, trivial⟩ ?_
          exact ih18 _ (by omega) (k + 1) (sI ρ18 34 (((gI σ 33 2) + k).toNat) ((iz z3).toInt8.toInt32)) rfl (by omega) (by omega) (FdK.snoc ff18_1 (by omega) (by omega) rfl (((gI σ 33 2) + k).toNat) (by omega) (fun i hi => by show hI (sI ρ18 34 (((gI σ 33 2) + k).toNat) ((iz z3).toInt8.toInt32)) 34 i = hI ρ18 34 i; rw [hI_sI, if_neg (fun e => hi e.2)]) (by show hI (sI ρ18 34 (((gI σ 33 2) + k).toNat) ((iz z3).toInt8.toInt32)) 34 (((gI σ 33 2) + k).toNat) &&& 255 = _; rw [hI_sI, if_pos ⟨rfl, rfl⟩]; exact fdM (by omega) ff71_0 ean ran esh ebb)) (frρ18.pI rfl)
        refine z_iload (pc := 25) O dX9_feed_25 rfl ?_
        refine z_iconst (pc := 27) (v := iz (4)) O dX9_feed_27 (by decide) ?_
        refine zi_icmp_ge (pc := 28) (tgt := 35) O dX9_feed_28 (by decide) (by omega) (by decide) (fun h28 => ?_) (fun h28 => ?_)
        · refine z_iload (pc := 35) O dX9_feed_35 rfl ?_
          refine z_bipush (pc := 37) (v := iz (8)) O dX9_feed_37 (by decide) ?_
          refine zi_icmp_ge (pc := 39) (tgt := 46) O dX9_feed_39 (by decide) (by omega) (by decide) (fun h39 => ?_) (fun h39 => ?_)
          · refine z_iload (pc := 46) O dX9_feed_46 rfl ?_
            refine z_bipush (pc := 48) (v := iz (12)) O dX9_feed_48 (by decide) ?_
            refine zi_icmp_ge (pc := 50) (tgt := 57) O dX9_feed_50 (by decide) (by omega) (by decide) (fun h50 => ?_) (fun h50 => ?_)
            · refine z_iload (pc := 57) O dX9_feed_57 rfl ?_
              refine z_bipush (pc := 59) (v := iz (16)) O dX9_feed_59 (by decide) ?_
              refine zi_icmp_ge (pc := 61) (tgt := 69) O dX9_feed_61 (by decide) (by omega) (by decide) (fun h61 => ?_) (fun h61 => ?_)
              · refine z_iload (pc := 69) O dX9_feed_69 rfl ?_
                refine z_lk [(0, .ref 33), (1, .int (iz a)), (2, .int (iz b)), (3, .int (iz c)), (4, .int (iz d)), (5, .int (iz e)), (6, .int (iz k))] ⟨rfl, rfl, rfl, rfl, rfl, rfl, rfl, trivial⟩ ?_
                exact cut71 e (by omega) (by omega)
              · refine z_iload (pc := 64) O dX9_feed_64 rfl ?_
                refine z_goto (pc := 66) (tgt := 71) O dX9_feed_66 (by decide) ?_
                refine z_lk [(0, .ref 33), (1, .int (iz a)), (2, .int (iz b)), (3, .int (iz c)), (4, .int (iz d)), (5, .int (iz e)), (6, .int (iz k))] ⟨rfl, rfl, rfl, rfl, rfl, rfl, rfl, trivial⟩ ?_
                exact cut71 d (by omega) (by omega)
            · refine z_iload_n (pc := 53) O dX9_feed_53 rfl ?_
              refine z_goto (pc := 54) (tgt := 71) O dX9_feed_54 (by decide) ?_
              refine z_lk [(0, .ref 33), (1, .int (iz a)), (2, .int (iz b)), (3, .int (iz c)), (4, .int (iz d)), (5, .int (iz e)), (6, .int (iz k))] ⟨rfl, rfl, rfl, rfl, rfl, rfl, rfl, trivial⟩ ?_
              exact cut71 c (by omega) (by omega)
          · refine z_iload_n (pc := 42) O dX9_feed_42 rfl ?_
            refine z_goto (pc := 43) (tgt := 71) O dX9_feed_43 (by decide) ?_
            refine z_lk [(0, .ref 33), (1, .int (iz a)), (2, .int (iz b)), (3, .int (iz c)), (4, .int (iz d)), (5, .int (iz e)), (6, .int (iz k))] ⟨rfl, rfl, rfl, rfl, rfl, rfl, rfl, trivial⟩ ?_
            exact cut71 b (by omega) (by omega)
        · refine z_iload_n (pc := 31) O dX9_feed_31 rfl ?_
          refine z_goto (pc := 32) (tgt := 71) O dX9_feed_32 (by decide) ?_
          refine z_lk [(0, .ref 33), (1, .int (iz a)), (2, .int (iz b)), (3, .int (iz c)), (4, .int (iz d)), (5, .int (iz e)), (6, .int (iz k))] ⟨rfl, rfl, rfl, rfl, rfl, rfl, rfl, trivial⟩ ?_
          exact cut71 a (by omega) (by omega)
    refine z_lk [(0, .ref 33), (1, .int (iz a)), (2, .int (iz b)), (3, .int (iz c)), (4, .int (iz d)), (5, .int (iz e)), (6, .int (iz 0))] ⟨rfl, rfl, rfl, rfl, rfl, rfl, rfl, trivial⟩ ?_
    exact cut18 _ 0 σ rfl (by omega) (by omega) (FdK.nil rfl (fun _ => rfl)) (Fr.rf [(34, 99999)] σ)
  · refine z_iconst (pc := 13) (v := iz (-1)) O dX9_feed_13 (by decide) ?_
    refine z_iret (pc := 14) O dX9_feed_14 ?_
    exact ⟨(-1), rfl, (by decide), (by omega), (Fr.rf [(34, 99999), (33, 2)] σ), I, (by omega), (Or.inl ⟨by omega, fun _ => rfl⟩)⟩
set_option maxHeartbeats 4000000 in
set_option maxRecDepth 20000 in
theorem k9_fault3 (l : Launch) (σ : VH) (w : Int) (rw : (-2147483648 ≤ w ∧ w < 2147483648)) (I : InvM σ) : Ct l yX9_fault cX9_fault 2 (some .int) 0 0 0 [.ref 33, .int (iz w)] σ (fun r τ => ∃ z : Int, r = some (.int (iz z)) ∧ (-2147483648 ≤ z ∧ z < 2147483648) ∧ ((w = 0 ∧ z = gI σ 33 4) ∨ (w = 1 ∧ z = gI σ 33 5) ∨ (¬ (w = 0 ∨ w = 1) ∧ z = -1)) ∧ (Fr [] σ τ) ∧ (InvM τ)) := by
  refine Ct.enter rfl (Nat.le_of_ble_eq_true rfl) ?_
  intro κ γ hκ O hrc hrs
  subst hκ
  have i1 := I.2.1
  unfold InvM1 at i1
  have i2 := I.2.2.1.laws
  have i3 := I.2.2.2.1
  refine z_iload_n (pc := 0) O dX9_fault_0 rfl ?_
  refine zi_if_ne (pc := 1) (tgt := 11) O dX9_fault_1 (by decide) (by omega) (fun h1 => ?_) (fun h1 => ?_)
  · refine z_iload_n (pc := 11) O dX9_fault_11 rfl ?_
    refine z_iconst (pc := 12) (v := iz (1)) O dX9_fault_12 (by decide) ?_
    refine zi_icmp_ne (pc := 13) (tgt := 23) O dX9_fault_13 (by decide) (by omega) (by decide) (fun h13 => ?_) (fun h13 => ?_)
    · refine z_iconst (pc := 23) (v := iz (-1)) O dX9_fault_23 (by decide) ?_
      refine z_iret (pc := 24) O dX9_fault_24 ?_
      exact ⟨(-1), rfl, (by decide), (by omega), (Fr.rf [] σ), I⟩
    · refine z_aload_n (pc := 16) O dX9_fault_16 rfl ?_
      refine zi_getv (pc := 17) (gI σ 33 5) O fl_X9_16 rfl (jo_33 I.1) (izg σ 33 5) dX9_fault_17 ?_
      have := rgI σ 33 5
      refine z_goto (pc := 20) (tgt := 24) O dX9_fault_20 (by decide) ?_
      refine z_iret (pc := 24) O dX9_fault_24 ?_
      exact ⟨(gI σ 33 5), rfl, (by omega), (by omega), (Fr.rf [] σ), I⟩
  · refine z_aload_n (pc := 4) O dX9_fault_4 rfl ?_
    refine zi_getv (pc := 5) (gI σ 33 4) O fl_X9_179 rfl (jo_33 I.1) (izg σ 33 4) dX9_fault_5 ?_
    have := rgI σ 33 4
    refine z_goto (pc := 8) (tgt := 24) O dX9_fault_8 (by decide) ?_
    refine z_iret (pc := 24) O dX9_fault_24 ?_
    exact ⟨(gI σ 33 4), rfl, (by omega), (by omega), (Fr.rf [] σ), I⟩
