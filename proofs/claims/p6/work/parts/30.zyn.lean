set_option maxHeartbeats 4000000 in
set_option maxRecDepth 20000 in
theorem k9_hurtOf3 (l : Launch) (σ : VH) (b : Int) (rb : (-2147483648 ≤ b ∧ b < 2147483648)) (v : Int64) (J : Lay σ) (hb : 0 ≤ b ∧ b < 17) (hh : 0 ≤ gI σ 39 (b.toNat) ∧ gI σ 39 (b.toNat) ≤ 12) : Ct l yX9_hurtOf cX9_hurtOf 5 (some .int) 0 0 0 [.ref 33, .int (iz b), .long v] σ (fun r τ => ∃ z : Int, r = some (.int (iz z)) ∧ (-2147483648 ≤ z ∧ z < 2147483648) ∧ ((z = -1 ∧ Opq (¬ ∃ i : Nat, (i : Int) < gI σ 39 (b.toNat) ∧ nmr σ b i = v.toInt)) ∨ (12 * b ≤ z ∧ Opq (∃ i : Nat, (i : Int) < gI σ 39 (b.toNat) ∧ nmr σ b i = v.toInt))) ∧ (σ = τ)) := by
  refine Ct.enter rfl (Nat.le_of_ble_eq_true rfl) ?_
  intro κ γ hκ O hrc hrs
  subst hκ
  refine z_iconst (pc := 0) (v := iz (0)) O dX9_hurtOf_0 (by decide) ?_
  refine z_istore (pc := 1) [(0, .ref 33), (1, .int (iz b)), (2, .long v), (4, .int (iz 0))] O dX9_hurtOf_1 (by decide) rfl ?_
  have cut3 : ∀ (mu3 : Nat) (k : Int), (mu3 = (12 - k).toNat) → (-2147483648 ≤ k ∧ k < 2147483648) → (0 ≤ k ∧ k ≤ 12 ∧ k ≤ gI σ 39 (b.toNat)) → (Opq (∀ i : Nat, (i : Int) < k → ¬ nmr σ b i = v.toInt)) → Z κ γ 5 σ 0 0 (QM κ γ (fun r τ => ∃ z : Int, r = some (.int (iz z)) ∧ (-2147483648 ≤ z ∧ z < 2147483648) ∧ ((z = -1 ∧ Opq (¬ ∃ i : Nat, (i : Int) < gI σ 39 (b.toNat) ∧ nmr σ b i = v.toInt)) ∨ (12 * b ≤ z ∧ Opq (∃ i : Nat, (i : Int) < gI σ 39 (b.toNat) ∧ nmr σ b i = v.toInt))) ∧ (σ = τ)) 0 0) 3 [(0, .ref 33), (1, .int (iz b)), (2, .long v), (4, .int (iz k))] [] := by
    intro mu3
    induction mu3 using Nat.strongRecOn with
    | ind mu3 ih3 =>
    intro k hmu3 rr3_0 ff3_0 ff3_1
    refine z_iload (pc := 3) O dX9_hurtOf_3 rfl ?_
    refine z_aload_n (pc := 5) O dX9_hurtOf_5 rfl ?_
    refine z_getR (pc := 6) 39 O fl_X9_30 rfl (jo_33 J) (jr_33_15 J) dX9_hurtOf_6 ?_
    refine z_iload_n (pc := 9) O dX9_hurtOf_9 rfl ?_
    refine zi_ialdv (pc := 10) (b.toNat) (gI σ 39 (b.toNat)) O (ja_39 J) (by omega) (by omega) (by omega) (izg σ 39 (b.toNat)) dX9_hurtOf_10 ?_
    have := rgI σ 39 (b.toNat)
    refine zi_icmp_ge (pc := 11) (tgt := 45) O dX9_hurtOf_11 (by decide) (by omega) (by omega) (fun h11 => ?_) (fun h11 => ?_)
    · refine z_iconst (pc := 45) (v := iz (-1)) O dX9_hurtOf_45 (by decide) ?_
      refine z_iret (pc := 46) O dX9_hurtOf_46 ?_
      exact ⟨(-1), rfl, (by decide), (Or.inl ⟨rfl, Opq.mk (fun ⟨i, h1, h2⟩ => ff3_1.get i (by omega) h2)⟩), rfl⟩
    · refine z_aload_n (pc := 14) O dX9_hurtOf_14 rfl ?_
      refine z_getR (pc := 15) 53 O fl_X9_72 rfl (jo_33 J) (jr_33_29 J) dX9_hurtOf_15 ?_
      refine z_bipush (pc := 18) (v := iz (12)) O dX9_hurtOf_18 (by decide) ?_
      refine z_iload_n (pc := 20) O dX9_hurtOf_20 rfl ?_
      refine zi_imul (pc := 21) O dX9_hurtOf_21 ?_
      refine z_iload (pc := 22) O dX9_hurtOf_22 rfl ?_
      refine zi_iadd (pc := 24) O dX9_hurtOf_24 ?_
      refine zi_lald (pc := 25) (12 * b.toNat + k.toNat) O (Or.inl (ja_53 J)) (by omega) (by omega) (by omega) dX9_hurtOf_25 ?_
      refine z_lload_n (pc := 26) O dX9_hurtOf_26 rfl ?_
      refine z_lcmp (pc := 27) O dX9_hurtOf_27 ?_
      refine zi_lcj_ne (pc := 28) (tgt := 39) O dX9_hurtOf_28 (by decide) (fun h28 => ?_) (fun h28 => ?_)
      · refine zi_iinc (pc := 39) (k + 1) [(0, .ref 33), (1, .int (iz b)), (2, .long v), (4, .int (iz (k + 1)))] O dX9_hurtOf_39 rfl (by omega) (by decide) rfl ?_
        refine z_goto (pc := 42) (tgt := 3) O dX9_hurtOf_42 (by decide) ?_
        refine z_lk [(0, .ref 33), (1, .int (iz b)), (2, .long v), (4, .int (iz (k + 1)))] ⟨rfl, rfl, rfl, rfl, trivial⟩ ?_
        exact ih3 _ (by omega) (k + 1) rfl (by omega) (by omega) (Opq.mk (no_snoc ff3_1.get (by omega) h28))
      · refine z_bipush (pc := 31) (v := iz (12)) O dX9_hurtOf_31 (by decide) ?_
        refine z_iload_n (pc := 33) O dX9_hurtOf_33 rfl ?_
        refine zi_imul (pc := 34) O dX9_hurtOf_34 ?_
        refine z_iload (pc := 35) O dX9_hurtOf_35 rfl ?_
        refine zi_iadd (pc := 37) O dX9_hurtOf_37 ?_
        refine z_iret (pc := 38) O dX9_hurtOf_38 ?_
        exact ⟨((12 * b) + k), rfl, (by omega), (Or.inr ⟨by omega, Opq.mk ⟨k.toNat, by omega, h28⟩⟩), rfl⟩
  refine z_lk [(0, .ref 33), (1, .int (iz b)), (2, .long v), (4, .int (iz 0))] ⟨rfl, rfl, rfl, rfl, trivial⟩ ?_
  exact cut3 _ 0 rfl (by omega) (by omega) (Opq.mk (fun i hi => by omega))
set_option maxHeartbeats 4000000 in
set_option maxRecDepth 20000 in
theorem k9_readHurt3 (l : Launch) (σ : VH) (tk : Nat → Int) (pl : Nat → Int) (m : Nat) (j : Nat) (b : Int) (J : Lay σ) (ht : (0 ≤ gI σ 33 7 ∧ gI σ 33 7 ≤ gI σ 33 8 ∧ gI σ 33 8 ≤ gI σ 33 3 ∧ gI σ 33 3 ≤ 700 ∧ ((gI σ 33 9 = 0 ∧ gI σ 33 7 = gI σ 33 3) ∨ (gI σ 33 7 < gI σ 33 8 ∧ 1 ≤ gI σ 33 9 ∧ gI σ 33 9 ≤ 5)))) (hf : 0 ≤ gI σ 33 4) (eb : gI σ 33 34 = b) (hb : 0 ≤ b ∧ b ≤ 15) (hh : 0 ≤ gI σ 39 (b.toNat) ∧ gI σ 39 (b.toNat) < 12) (hg : gI σ 33 4 = 0) (A : RAt σ tk pl m j) : Ct l yX9_readHurt cX9_readHurt 2 none 4 0 0 [.ref 33] σ (fun r τ => r = none ∧ (Fr [(33, 7), (33, 8), (33, 9), (33, 10), (33, 11), (33, 4), (33, 5), (53, 99999), (40, 99999), (39, 99999)] σ τ) ∧ (0 ≤ gI τ 33 7 ∧ gI τ 33 7 ≤ gI τ 33 8 ∧ gI τ 33 8 ≤ gI τ 33 3 ∧ gI τ 33 3 ≤ 700 ∧ ((gI τ 33 9 = 0 ∧ gI τ 33 7 = gI τ 33 3) ∨ (gI τ 33 7 < gI τ 33 8 ∧ 1 ≤ gI τ 33 9 ∧ gI τ 33 9 ≤ 5))) ∧ (gI σ 33 7 ≤ gI τ 33 7) ∧ ((gI σ 33 4 ≤ 0 ∨ 0 < gI τ 33 4) ∧ 0 ≤ gI τ 33 4) ∧ (0 ≤ gI τ 39 (b.toNat) ∧ gI τ 39 (b.toNat) ≤ 12) ∧ (∀ k : Nat, k ≠ b.toNat → gI τ 39 k = gI σ 39 k) ∧ (Rf τ tk pl m (hurt3 tk m (gI σ 39 (b.toNat)) (nmr σ b) j)) ∧ (Opq (0 < gI τ 33 4 ∨ (gI τ 39 (b.toNat) = gI σ 39 (b.toNat) + 1 ∧ ∀ i : Nat, nmr τ b i = if (i : Int) = gI σ 39 (b.toNat) then tk j else nmr σ b i)))) := by
  refine Ct.enter rfl (Nat.le_of_ble_eq_true rfl) ?_
  intro κ γ hκ O hrc hrs
  subst hκ
  obtain ⟨K1, K2, K3, K4, K5, K6, K7⟩ := A.num
  have W2 := Opq.mk K6
  have W3 := Opq.mk K7
  clear K1 K2 K3 K4 K5 K6 K7
  refine z_aload_n (pc := 0) O dX9_readHurt_0 rfl ?_
  refine zi_getv (pc := 1) (gI σ 33 9) O fl_X9_238 rfl (jo_33 J) (izg σ 33 9) dX9_readHurt_1 ?_
  have := rgI σ 33 9
  refine z_iconst (pc := 4) (v := iz (2)) O dX9_readHurt_4 (by decide) ?_
  refine zi_icmp_eq (pc := 5) (tgt := 12) O dX9_readHurt_5 (by decide) (by omega) (by decide) (fun h5 => ?_) (fun h5 => ?_)
  · refine z_aload_n (pc := 12) O dX9_readHurt_12 rfl ?_
    refine z_callV (pc := 13) O cl_X9_272 (k9_isGood _ _ J) (by decide) (jo_33 J) kc_9 rfl rfl (Nat.le_of_ble_eq_true rfl) ⟨Nat.zero_le _, Nat.zero_le _⟩ dX9_readHurt_13 (fun r τ1 hp => ?_)
    obtain ⟨z2, rfl, fτ1_0, fτ1_1, rfl⟩ := hp
    refine zi_if_eq (pc := 16) (tgt := 43) O dX9_readHurt_16 (by decide) (by omega) (fun h16 => ?_) (fun h16 => ?_)
    · exfalso; omega
    · refine z_aload_n (pc := 19) O dX9_readHurt_19 rfl ?_
      refine z_aload_n (pc := 20) O dX9_readHurt_20 rfl ?_
      refine zi_getv (pc := 21) (b) O fl_X9_283 rfl (jo_33 J) ((izg σ 33 34).trans (congrArg iz eb)) dX9_readHurt_21 ?_
      refine z_aload_n (pc := 24) O dX9_readHurt_24 rfl ?_
      refine zi_getLv (pc := 25) (hL σ 33 11) O fl_X9_245 rfl (jo_33 J) rfl dX9_readHurt_25 ?_
      refine z_callV (pc := 28) O cl_X9_313 (k9_hurtOf3 _ _ b (by omega) (hL σ 33 11) J (by omega) (by omega)) (by decide) (jo_33 J) kc_9 rfl rfl (Nat.le_of_ble_eq_true rfl) ⟨Nat.zero_le _, Nat.zero_le _⟩ dX9_readHurt_28 (fun r τ3 hp => ?_)
      obtain ⟨z4, rfl, fτ3_0, fτ3_1, rfl⟩ := hp
      refine zi_if_lt (pc := 31) (tgt := 43) O dX9_readHurt_31 (by decide) (by omega) (fun h31 => ?_) (fun h31 => ?_)
      · refine z_aload_n (pc := 43) O dX9_readHurt_43 rfl ?_
        refine z_callV (pc := 44) O cl_X9_272 (k9_isGood _ _ J) (by decide) (jo_33 J) kc_9 rfl rfl (Nat.le_of_ble_eq_true rfl) ⟨Nat.zero_le _, Nat.zero_le _⟩ dX9_readHurt_44 (fun r τ5 hp => ?_)
        obtain ⟨z6, rfl, fτ5_0, fτ5_1, rfl⟩ := hp
        refine zi_if_ne (pc := 47) (tgt := 51) O dX9_readHurt_47 (by decide) (by omega) (fun h47 => ?_) (fun h47 => ?_)
        · refine z_bipush (pc := 51) (v := iz (12)) O dX9_readHurt_51 (by decide) ?_
          refine z_aload_n (pc := 53) O dX9_readHurt_53 rfl ?_
          refine zi_getv (pc := 54) (b) O fl_X9_283 rfl (jo_33 J) ((izg σ 33 34).trans (congrArg iz eb)) dX9_readHurt_54 ?_
          refine zi_imul (pc := 57) O dX9_readHurt_57 ?_
          refine z_aload_n (pc := 58) O dX9_readHurt_58 rfl ?_
          refine z_getR (pc := 59) 39 O fl_X9_30 rfl (jo_33 J) (jr_33_15 J) dX9_readHurt_59 ?_
          refine z_aload_n (pc := 62) O dX9_readHurt_62 rfl ?_
          refine zi_getv (pc := 63) (b) O fl_X9_283 rfl (jo_33 J) ((izg σ 33 34).trans (congrArg iz eb)) dX9_readHurt_63 ?_
          refine zi_ialdv (pc := 66) (b.toNat) (gI σ 39 (b.toNat)) O (ja_39 J) (by omega) (by omega) (by omega) (izg σ 39 (b.toNat)) dX9_readHurt_66 ?_
          have := rgI σ 39 (b.toNat)
          refine zi_iadd (pc := 67) O dX9_readHurt_67 ?_
          refine z_istore_n (pc := 68) [(0, .ref 33), (1, .int (iz ((12 * b) + (gI σ 39 (b.toNat)))))] O dX9_readHurt_68 (by decide) rfl ?_
          refine z_aload_n (pc := 69) O dX9_readHurt_69 rfl ?_
          refine z_getR (pc := 70) 53 O fl_X9_72 rfl (jo_33 J) (jr_33_29 J) dX9_readHurt_70 ?_
          refine z_iload_n (pc := 73) O dX9_readHurt_73 rfl ?_
          refine z_aload_n (pc := 74) O dX9_readHurt_74 rfl ?_
          refine zi_getLv (pc := 75) (hL σ 33 11) O fl_X9_245 rfl (jo_33 J) rfl dX9_readHurt_75 ?_
          refine zi_last (pc := 78) (((12 * b) + (gI σ 39 (b.toNat))).toNat) O (ja_53 J) (by omega) (by omega) (by omega) dX9_readHurt_78 ?_
          refine z_aload_n (pc := 79) O dX9_readHurt_79 rfl ?_
          refine z_callV (pc := 80) O cl_X9_266 (k9_next3 _ _ J (by have : gI (sL σ 53 (((12 * b) + (gI σ 39 (b.toNat))).toNat) (hL σ 33 11)) 33 3 = gI σ 33 3 := gI_iz (skL (izg σ 33 3)) (rgI _ _ _); omega) (by have : gI (sL σ 53 (((12 * b) + (gI σ 39 (b.toNat))).toNat) (hL σ 33 11)) 33 8 = gI σ 33 8 := gI_iz (skL (izg σ 33 8)) (rgI _ _ _); have : gI (sL σ 53 (((12 * b) + (gI σ 39 (b.toNat))).toNat) (hL σ 33 11)) 33 3 = gI σ 33 3 := gI_iz (skL (izg σ 33 3)) (rgI _ _ _); omega)) (by decide) (jo_33 J) kc_9 rfl rfl (Nat.le_of_ble_eq_true rfl) ⟨Nat.zero_le _, Nat.zero_le _⟩ dX9_readHurt_80 (fun r τ7 hp => ?_)
          obtain ⟨rfl, frτ7, eτ7_0, eτ7_1, eτ7_2⟩ := hp
          have : gI (sL σ 53 (((12 * b) + (gI σ 39 (b.toNat))).toNat) (hL σ 33 11)) 33 8 = gI σ 33 8 := gI_iz (skL (izg σ 33 8)) (rgI _ _ _)
          have : gI τ7 33 3 = gI σ 33 3 := gI_iz (Fr.it frτ7 rfl (skL (izg σ 33 3))) (rgI _ _ _)
          refine z_aload_n (pc := 83) O dX9_readHurt_83 rfl ?_
          refine z_getR (pc := 84) 40 O fl_X9_33 rfl (jo_33 (frτ7.lay J)) (jr_33_16 (frτ7.lay J)) dX9_readHurt_84 ?_
          refine z_iload_n (pc := 87) O dX9_readHurt_87 rfl ?_
          refine z_aload_n (pc := 88) O dX9_readHurt_88 rfl ?_
          refine z_iconst (pc := 89) (v := iz (0)) O dX9_readHurt_89 (by decide) ?_
          refine z_ldcw (pc := 90) O tw_989 dX9_readHurt_90 ?_
          refine zi_val (100000) (by decide) ?_
          refine z_callV (pc := 93) O cl_X9_317 (k9_numeral3 _ _ 0 (by decide) 100000 (by decide) tk pl m (thn (0, j) (nxR m)) (frτ7.lay J) (by have : gI τ7 33 3 = gI σ 33 3 := gI_iz (Fr.it frτ7 rfl (skL (izg σ 33 3))) (rgI _ _ _); omega) (by have : gI τ7 33 4 = gI σ 33 4 := gI_iz (Fr.it frτ7 rfl (skL (izg σ 33 4))) (rgI _ _ _); omega) (Rf.next (Rf.fr (Rf.at hg A) ((Fr.rf [(53, 99999)] σ).pL rfl) (fun _ => rfl) rfl rfl) frτ7 (fun _ => rfl) rfl eτ7_2)) (by decide) (jo_33 (frτ7.lay J)) kc_9 rfl rfl (Nat.le_of_ble_eq_true rfl) ⟨Nat.zero_le _, Nat.zero_le _⟩ dX9_readHurt_93 (fun r τ9 hp => ?_)
          obtain ⟨z10, rfl, fτ9_0, frτ9, eτ9_0, eτ9_1, eτ9_2, eτ9_3, eτ9_4, eτ9_5⟩ := hp
          have : gI τ9 33 3 = gI σ 33 3 := gI_iz (Fr.it frτ9 rfl (Fr.it frτ7 rfl (skL (izg σ 33 3)))) (rgI _ _ _)
          have : gI τ7 33 4 = gI σ 33 4 := gI_iz (Fr.it frτ7 rfl (skL (izg σ 33 4))) (rgI _ _ _)
          refine zi_iast (pc := 96) (((12 * b) + (gI σ 39 (b.toNat))).toNat) O (ja_40 (frτ9.lay (frτ7.lay J))) (by omega) (by omega) (by omega) dX9_readHurt_96 ?_
          refine z_aload_n (pc := 97) O dX9_readHurt_97 rfl ?_
          refine z_getR (pc := 98) 39 O fl_X9_30 rfl (jo_33 (frτ9.lay (frτ7.lay J))) (jr_33_15 (frτ9.lay (frτ7.lay J))) dX9_readHurt_98 ?_
          refine z_aload_n (pc := 101) O dX9_readHurt_101 rfl ?_
          refine zi_getv (pc := 102) (b) O fl_X9_283 rfl (jo_33 (frτ9.lay (frτ7.lay J))) (sk1t (by decide) (Fr.it frτ9 rfl (Fr.it frτ7 rfl (skL ((izg σ 33 34).trans (congrArg iz eb)))))) dX9_readHurt_102 ?_
          refine z_dup2 (pc := 105) O dX9_readHurt_105 rfl rfl ?_
          refine zi_ialdv (pc := 106) (b.toNat) (gI σ 39 (b.toNat)) O (ja_39 (frτ9.lay (frτ7.lay J))) (by omega) (by omega) (by omega) (sk1t (by decide) (Fr.it frτ9 rfl (Fr.it frτ7 rfl (skL (izg σ 39 (b.toNat)))))) dX9_readHurt_106 ?_
          refine z_iconst (pc := 107) (v := iz (1)) O dX9_readHurt_107 (by decide) ?_
          refine zi_iadd (pc := 108) O dX9_readHurt_108 ?_
          refine zi_iast (pc := 109) (b.toNat) O (ja_39 (frτ9.lay (frτ7.lay J))) (by omega) (by omega) (by omega) dX9_readHurt_109 ?_
          refine z_vret (pc := 110) O dX9_readHurt_110 ?_
          exact ⟨rfl, ((((((Fr.rf [(33, 7), (33, 8), (33, 9), (33, 10), (33, 11), (33, 4), (33, 5), (53, 99999), (40, 99999), (39, 99999)] σ).pL rfl).tr (frτ7.mono (V := [(33, 7), (33, 8), (33, 9), (33, 10), (33, 11), (33, 4), (33, 5), (53, 99999), (40, 99999), (39, 99999)]) rfl)).tr (frτ9.mono (V := [(33, 7), (33, 8), (33, 9), (33, 10), (33, 11), (33, 4), (33, 5), (53, 99999), (40, 99999), (39, 99999)]) rfl)).pI rfl).pI rfl), (by have : gI (sI (sI τ9 40 (((12 * b) + (gI σ 39 (b.toNat))).toNat) (iz z10)) 39 (b.toNat) (iz ((gI σ 39 (b.toNat)) + 1))) 33 7 = gI τ9 33 7 := gI_iz (sk1t (by decide) (sk1t (by decide) (izg τ9 33 7))) (rgI _ _ _); have : gI (sI (sI τ9 40 (((12 * b) + (gI σ 39 (b.toNat))).toNat) (iz z10)) 39 (b.toNat) (iz ((gI σ 39 (b.toNat)) + 1))) 33 8 = gI τ9 33 8 := gI_iz (sk1t (by decide) (sk1t (by decide) (izg τ9 33 8))) (rgI _ _ _); have : gI (sI (sI τ9 40 (((12 * b) + (gI σ 39 (b.toNat))).toNat) (iz z10)) 39 (b.toNat) (iz ((gI σ 39 (b.toNat)) + 1))) 33 3 = gI σ 33 3 := gI_iz (sk1t (by decide) (sk1t (by decide) (Fr.it frτ9 rfl (Fr.it frτ7 rfl (skL (izg σ 33 3)))))) (rgI _ _ _); have : gI (sI (sI τ9 40 (((12 * b) + (gI σ 39 (b.toNat))).toNat) (iz z10)) 39 (b.toNat) (iz ((gI σ 39 (b.toNat)) + 1))) 33 9 = gI τ9 33 9 := gI_iz (sk1t (by decide) (sk1t (by decide) (izg τ9 33 9))) (rgI _ _ _); omega), (by have : gI (sI (sI τ9 40 (((12 * b) + (gI σ 39 (b.toNat))).toNat) (iz z10)) 39 (b.toNat) (iz ((gI σ 39 (b.toNat)) + 1))) 33 7 = gI τ9 33 7 := gI_iz (sk1t (by decide) (sk1t (by decide) (izg τ9 33 7))) (rgI _ _ _); omega), (by have : gI (sI (sI τ9 40 (((12 * b) + (gI σ 39 (b.toNat))).toNat) (iz z10)) 39 (b.toNat) (iz ((gI σ 39 (b.toNat)) + 1))) 33 4 = gI τ9 33 4 := gI_iz (sk1t (by decide) (sk1t (by decide) (izg τ9 33 4))) (rgI _ _ _); omega), (by have : gI (sI (sI τ9 40 (((12 * b) + (gI σ 39 (b.toNat))).toNat) (iz z10)) 39 (b.toNat) (iz ((gI σ 39 (b.toNat)) + 1))) 39 (b.toNat) = (gI σ 39 (b.toNat)) + 1 := gI_iz (hI_at _ _ _ _) (by omega); omega), (fun k hk => ((gI_eq (sk2t (by omega) (sk1t (by decide) rfl))).trans ((frτ9.g 39 k rfl).trans ((frτ7.g 39 k rfl).trans (gI_eq (skL rfl)))))), (Rf.eq (Rf.fr eτ9_4 (((Fr.rf [(40, 99999), (39, 99999)] τ9).pI rfl).pI rfl) (fun _ => rfl) rfl rfl) (thn_nx.trans ((cif_pos (W2.get.mp (by omega))).trans (cif_neg (by have q9 := (fτ3_1.resolve_right (fun q => by omega)).2.get; rw [W3.get (by omega)] at q9; exact q9))).symm)), (Opq.mk (Or.inr ⟨(by have : gI (sI (sI τ9 40 (((12 * b) + (gI σ 39 (b.toNat))).toNat) (iz z10)) 39 (b.toNat) (iz ((gI σ 39 (b.toNat)) + 1))) 39 (b.toNat) = (gI σ 39 (b.toNat)) + 1 := gI_iz (hI_at _ _ _ _) (by omega); omega), (fun i => by show (hL (sI (sI τ9 40 (((12 * b) + (gI σ 39 (b.toNat))).toNat) (iz z10)) 39 (b.toNat) (iz ((gI σ 39 (b.toNat)) + 1))) 53 (12 * b.toNat + i)).toInt = _; rw [hL_sI, hL_sI, frτ9.l 53 _ rfl, frτ7.l 53 _ rfl, hL_sL]; by_cases hk9 : i = (gI σ 39 (b.toNat)).toNat; (rw [if_pos ⟨rfl, by omega⟩, if_pos (by omega)]; exact W3.get (by omega)); (rw [if_neg (fun e => hk9 (by omega)), if_neg (by omega)]; first | done | rfl))⟩))⟩
        · exfalso; omega
      · refine z_aload_n (pc := 34) O dX9_readHurt_34 rfl ?_
        refine z_iconst (pc := 35) (v := iz (3)) O dX9_readHurt_35 (by decide) ?_
        refine z_aload_n (pc := 36) O dX9_readHurt_36 rfl ?_
        refine zi_getv (pc := 37) (gI σ 33 7) O fl_X9_231 rfl (jo_33 J) (izg σ 33 7) dX9_readHurt_37 ?_
        have := rgI σ 33 7
        refine z_callV (pc := 40) O cl_X9_259 (k9_fails _ _ 3 (by decide) (gI σ 33 7) (by omega) J) (by decide) (jo_33 J) kc_9 rfl rfl (Nat.le_of_ble_eq_true rfl) ⟨Nat.zero_le _, Nat.zero_le _⟩ dX9_readHurt_40 (fun r τ11 hp => ?_)
        obtain ⟨rfl, frτ11, eτ11_0⟩ := hp
        refine z_aload_n (pc := 43) O dX9_readHurt_43 rfl ?_
        refine z_callV (pc := 44) O cl_X9_272 (k9_isGood _ _ (frτ11.lay J)) (by decide) (jo_33 (frτ11.lay J)) kc_9 rfl rfl (Nat.le_of_ble_eq_true rfl) ⟨Nat.zero_le _, Nat.zero_le _⟩ dX9_readHurt_44 (fun r τ13 hp => ?_)
        obtain ⟨z14, rfl, fτ13_0, fτ13_1, rfl⟩ := hp
        refine zi_if_ne (pc := 47) (tgt := 51) O dX9_readHurt_47 (by decide) (by omega) (fun h47 => ?_) (fun h47 => ?_)
        · exfalso; omega
        · refine z_vret (pc := 50) O dX9_readHurt_50 ?_
          exact ⟨rfl, (frτ11.mono (V := [(33, 7), (33, 8), (33, 9), (33, 10), (33, 11), (33, 4), (33, 5), (53, 99999), (40, 99999), (39, 99999)]) rfl), (by have : gI τ11 33 7 = gI σ 33 7 := gI_iz (Fr.it frτ11 rfl (izg σ 33 7)) (rgI _ _ _); have : gI τ11 33 8 = gI σ 33 8 := gI_iz (Fr.it frτ11 rfl (izg σ 33 8)) (rgI _ _ _); have : gI τ11 33 3 = gI σ 33 3 := gI_iz (Fr.it frτ11 rfl (izg σ 33 3)) (rgI _ _ _); have : gI τ11 33 9 = gI σ 33 9 := gI_iz (Fr.it frτ11 rfl (izg σ 33 9)) (rgI _ _ _); omega), (by have : gI τ11 33 7 = gI σ 33 7 := gI_iz (Fr.it frτ11 rfl (izg σ 33 7)) (rgI _ _ _); omega), (by omega), (by have : gI τ11 39 (b.toNat) = gI σ 39 (b.toNat) := gI_iz (Fr.it frτ11 rfl (izg σ 39 (b.toNat))) (rgI _ _ _); omega), (fun k hk => (frτ11.g 39 k rfl)), (Rf.eq (Rf.fails (Rf.at hg A) (by decide) (fun h4 => by obtain ⟨h0, A⟩ := Rf.good (Rf.at hg A) (by omega); have ha := A.2.2.1; omega) eτ11_0) ((thn_ok rfl).trans ((cif_pos (W2.get.mp (by omega))).trans (cif_pos (by have q9 := (fτ3_1.resolve_left (fun q => by omega)).2.get; rw [W3.get (by omega)] at q9; exact q9))).symm)), (Opq.mk (Or.inl (by omega)))⟩
  · refine z_aload_n (pc := 8) O dX9_readHurt_8 rfl ?_
    refine z_callV (pc := 9) O cl_X9_269 (k9_wrong _ _ J) (by decide) (jo_33 J) kc_9 rfl rfl (Nat.le_of_ble_eq_true rfl) ⟨Nat.zero_le _, Nat.zero_le _⟩ dX9_readHurt_9 (fun r τ15 hp => ?_)
    obtain ⟨rfl, frτ15, eτ15_0⟩ := hp
    refine z_aload_n (pc := 12) O dX9_readHurt_12 rfl ?_
    refine z_callV (pc := 13) O cl_X9_272 (k9_isGood _ _ (frτ15.lay J)) (by decide) (jo_33 (frτ15.lay J)) kc_9 rfl rfl (Nat.le_of_ble_eq_true rfl) ⟨Nat.zero_le _, Nat.zero_le _⟩ dX9_readHurt_13 (fun r τ17 hp => ?_)
    obtain ⟨z18, rfl, fτ17_0, fτ17_1, rfl⟩ := hp
    refine zi_if_eq (pc := 16) (tgt := 43) O dX9_readHurt_16 (by decide) (by omega) (fun h16 => ?_) (fun h16 => ?_)
    · refine z_aload_n (pc := 43) O dX9_readHurt_43 rfl ?_
      refine z_callV (pc := 44) O cl_X9_272 (k9_isGood _ _ (frτ15.lay J)) (by decide) (jo_33 (frτ15.lay J)) kc_9 rfl rfl (Nat.le_of_ble_eq_true rfl) ⟨Nat.zero_le _, Nat.zero_le _⟩ dX9_readHurt_44 (fun r τ19 hp => ?_)
      obtain ⟨z20, rfl, fτ19_0, fτ19_1, rfl⟩ := hp
      refine zi_if_ne (pc := 47) (tgt := 51) O dX9_readHurt_47 (by decide) (by omega) (fun h47 => ?_) (fun h47 => ?_)
      · exfalso; omega
      · refine z_vret (pc := 50) O dX9_readHurt_50 ?_
        exact ⟨rfl, (frτ15.mono (V := [(33, 7), (33, 8), (33, 9), (33, 10), (33, 11), (33, 4), (33, 5), (53, 99999), (40, 99999), (39, 99999)]) rfl), (by have : gI τ15 33 7 = gI σ 33 7 := gI_iz (Fr.it frτ15 rfl (izg σ 33 7)) (rgI _ _ _); have : gI τ15 33 8 = gI σ 33 8 := gI_iz (Fr.it frτ15 rfl (izg σ 33 8)) (rgI _ _ _); have : gI τ15 33 3 = gI σ 33 3 := gI_iz (Fr.it frτ15 rfl (izg σ 33 3)) (rgI _ _ _); have : gI τ15 33 9 = gI σ 33 9 := gI_iz (Fr.it frτ15 rfl (izg σ 33 9)) (rgI _ _ _); omega), (by have : gI τ15 33 7 = gI σ 33 7 := gI_iz (Fr.it frτ15 rfl (izg σ 33 7)) (rgI _ _ _); omega), (by omega), (by have : gI τ15 39 (b.toNat) = gI σ 39 (b.toNat) := gI_iz (Fr.it frτ15 rfl (izg σ 39 (b.toNat))) (rgI _ _ _); omega), (fun k hk => (frτ15.g 39 k rfl)), (Rf.eq (Rf.wrong (Rf.at hg A) eτ15_0) ((thn_ok rfl).trans (cif_neg (fun q => absurd (W2.get.mpr q) (by omega))).symm)), (Opq.mk (Or.inl (by omega)))⟩
    · exfalso; omega
