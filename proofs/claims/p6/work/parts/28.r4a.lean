set_option maxHeartbeats 4000000 in
set_option maxRecDepth 20000 in
theorem k9_put (l : Launch) (σ : VH) (y : Int) (ry : (-2147483648 ≤ y ∧ y < 2147483648)) (n : Int) (rn : (-2147483648 ≤ n ∧ n < 2147483648)) (b : Int) (c : Int) (J : Lay σ) (eb : gI σ 33 34 = b) (ec : gI σ 33 35 = c) (hb : 0 ≤ b ∧ b ≤ 15) (hc : 0 ≤ c ∧ c < 700) : Ct l yX9_put cX9_put 3 none 0 0 0 [.ref 33, .int (iz y), .int (iz n)] σ (fun r τ => r = none ∧ (Fr [(51, 99999), (52, 99999), (33, 35)] σ τ) ∧ (gI τ 33 35 = c + 1) ∧ (gI τ 51 ((700 * b + c).toNat) = y) ∧ (gI τ 52 ((700 * b + c).toNat) = n) ∧ (∀ k : Nat, k ≠ ((700 * b + c).toNat) → gI τ 51 k = gI σ 51 k ∧ gI τ 52 k = gI σ 52 k)) := by
  refine Ct.enter rfl (Nat.le_of_ble_eq_true rfl) ?_
  intro κ γ hκ O hrc hrs
  subst hκ
  refine z_aload_n (pc := 0) O dX9_put_0 rfl ?_
  refine z_getR (pc := 1) 51 O fl_X9_66 rfl (jo_33 J) (jr_33_27 J) dX9_put_1 ?_
  refine z_sipush (pc := 4) (v := iz (700)) O dX9_put_4 (by decide) ?_
  refine z_aload_n (pc := 7) O dX9_put_7 rfl ?_
  refine zi_getv (pc := 8) (gI σ 33 34) O fl_X9_283 rfl (jo_33 J) (izg σ 33 34) dX9_put_8 ?_
  have := rgI σ 33 34
  refine zi_imul (pc := 11) O dX9_put_11 ?_
  refine z_aload_n (pc := 12) O dX9_put_12 rfl ?_
  refine zi_getv (pc := 13) (gI σ 33 35) O fl_X9_286 rfl (jo_33 J) (izg σ 33 35) dX9_put_13 ?_
  have := rgI σ 33 35
  refine zi_iadd (pc := 16) O dX9_put_16 ?_
  refine z_iload_n (pc := 17) O dX9_put_17 rfl ?_
  refine zi_iast (pc := 18) ((700 * b + c).toNat) O (ja_51 J) (by omega) (by omega) (by omega) dX9_put_18 ?_
  refine z_aload_n (pc := 19) O dX9_put_19 rfl ?_
  refine z_getR (pc := 20) 52 O fl_X9_69 rfl (jo_33 J) (jr_33_28 J) dX9_put_20 ?_
  refine z_sipush (pc := 23) (v := iz (700)) O dX9_put_23 (by decide) ?_
  refine z_aload_n (pc := 26) O dX9_put_26 rfl ?_
  refine zi_getv (pc := 27) (gI σ 33 34) O fl_X9_283 rfl (jo_33 J) (sk1t (by decide) (izg σ 33 34)) dX9_put_27 ?_
  refine zi_imul (pc := 30) O dX9_put_30 ?_
  refine z_aload_n (pc := 31) O dX9_put_31 rfl ?_
  refine zi_getv (pc := 32) (gI σ 33 35) O fl_X9_286 rfl (jo_33 J) (sk1t (by decide) (izg σ 33 35)) dX9_put_32 ?_
  refine zi_iadd (pc := 35) O dX9_put_35 ?_
  refine z_iload_n (pc := 36) O dX9_put_36 rfl ?_
  refine zi_iast (pc := 37) ((700 * b + c).toNat) O (ja_52 J) (by omega) (by omega) (by omega) dX9_put_37 ?_
  refine z_aload_n (pc := 38) O dX9_put_38 rfl ?_
  refine z_dup (pc := 39) O dX9_put_39 rfl ?_
  refine zi_getv (pc := 40) (gI σ 33 35) O fl_X9_286 rfl (jo_33 J) (sk1t (by decide) (sk1t (by decide) (izg σ 33 35))) dX9_put_40 ?_
  refine z_iconst (pc := 43) (v := iz (1)) O dX9_put_43 (by decide) ?_
  refine zi_iadd (pc := 44) O dX9_put_44 ?_
  refine z_putI (pc := 45) O fl_X9_286 rfl ⟨rfl, rfl⟩ (jo_33 J) dX9_put_45 ?_
  refine z_vret (pc := 48) O dX9_put_48 ?_
  exact ⟨rfl, ((((Fr.rf [(51, 99999), (52, 99999), (33, 35)] σ).pI rfl).pI rfl).pI rfl), (by have : gI (sI (sI (sI σ 51 ((700 * b + c).toNat) (iz y)) 52 ((700 * b + c).toNat) (iz n)) 33 35 (iz ((gI σ 33 35) + 1))) 33 35 = (gI σ 33 35) + 1 := gI_iz (hI_at _ _ _ _) (by omega); omega), (by have : gI (sI (sI (sI σ 51 ((700 * b + c).toNat) (iz y)) 52 ((700 * b + c).toNat) (iz n)) 33 35 (iz ((gI σ 33 35) + 1))) 51 ((700 * b + c).toNat) = y := gI_iz (sk1t (by decide) (sk1t (by decide) (hI_at _ _ _ _))) (by omega); omega), (by have : gI (sI (sI (sI σ 51 ((700 * b + c).toNat) (iz y)) 52 ((700 * b + c).toNat) (iz n)) 33 35 (iz ((gI σ 33 35) + 1))) 52 ((700 * b + c).toNat) = n := gI_iz (sk1t (by decide) (hI_at _ _ _ _)) (by omega); omega), (fun k hk => ⟨gI_eq (sk1t (by decide) (sk1t (by decide) (sk2t hk rfl))), gI_eq (sk1t (by decide) (sk2t hk (sk1t (by decide) rfl)))⟩)⟩
set_option maxHeartbeats 4000000 in
set_option maxRecDepth 20000 in
theorem k9_pile (l : Launch) (σ : VH) (y : Int) (ry : (-2147483648 ≤ y ∧ y < 2147483648)) (p : Nat) (J : Lay σ) (ep : gI σ 33 38 = (p : Int)) (hp : p < 60) : Ct l yX9_pile cX9_pile 2 none 0 0 0 [.ref 33, .int (iz y)] σ (fun r τ => r = none ∧ (Fr [(57, 99999), (33, 38)] σ τ) ∧ (gI τ 33 38 = (p : Int) + 1) ∧ (gI τ 57 p = y) ∧ (∀ k : Nat, k ≠ p → gI τ 57 k = gI σ 57 k)) := by
  refine Ct.enter rfl (Nat.le_of_ble_eq_true rfl) ?_
  intro κ γ hκ O hrc hrs
  subst hκ
  refine z_aload_n (pc := 0) O dX9_pile_0 rfl ?_
  refine z_getR (pc := 1) 57 O fl_X9_86 rfl (jo_33 J) (jr_33_37 J) dX9_pile_1 ?_
  refine z_aload_n (pc := 4) O dX9_pile_4 rfl ?_
  refine zi_getv (pc := 5) (gI σ 33 38) O fl_X9_328 rfl (jo_33 J) (izg σ 33 38) dX9_pile_5 ?_
  have := rgI σ 33 38
  refine z_iload_n (pc := 8) O dX9_pile_8 rfl ?_
  refine zi_iast (pc := 9) p O (ja_57 J) ep hp (by omega) dX9_pile_9 ?_
  refine z_aload_n (pc := 10) O dX9_pile_10 rfl ?_
  refine z_dup (pc := 11) O dX9_pile_11 rfl ?_
  refine zi_getv (pc := 12) (gI σ 33 38) O fl_X9_328 rfl (jo_33 J) (sk1t (by decide) (izg σ 33 38)) dX9_pile_12 ?_
  refine z_iconst (pc := 15) (v := iz (1)) O dX9_pile_15 (by decide) ?_
  refine zi_iadd (pc := 16) O dX9_pile_16 ?_
  refine z_putI (pc := 17) O fl_X9_328 rfl ⟨rfl, rfl⟩ (jo_33 J) dX9_pile_17 ?_
  refine z_vret (pc := 20) O dX9_pile_20 ?_
  exact ⟨rfl, (((Fr.rf [(57, 99999), (33, 38)] σ).pI rfl).pI rfl), (by have : gI (sI (sI σ 57 p (iz y)) 33 38 (iz ((gI σ 33 38) + 1))) 33 38 = (gI σ 33 38) + 1 := gI_iz (hI_at _ _ _ _) (by omega); omega), (by have : gI (sI (sI σ 57 p (iz y)) 33 38 (iz ((gI σ 33 38) + 1))) 57 p = y := gI_iz (sk1t (by decide) (hI_at _ _ _ _)) (by omega); omega), (fun k hk => gI_eq (sk1t (by decide) (sk2t hk rfl)))⟩
set_option maxHeartbeats 4000000 in
set_option maxRecDepth 20000 in
theorem k9_side (l : Launch) (σ : VH) (b : Int) (c : Int) (J : Lay σ) (ht : (0 ≤ gI σ 33 7 ∧ gI σ 33 7 ≤ gI σ 33 8 ∧ gI σ 33 8 ≤ gI σ 33 3 ∧ gI σ 33 3 ≤ 700 ∧ ((gI σ 33 9 = 0 ∧ gI σ 33 7 = gI σ 33 3) ∨ (gI σ 33 7 < gI σ 33 8 ∧ 1 ≤ gI σ 33 9 ∧ gI σ 33 9 ≤ 5)))) (hg : gI σ 33 4 = 0) (eb : gI σ 33 34 = b) (ec : gI σ 33 35 = c) (hb : 0 ≤ b ∧ b ≤ 15) (hc : 0 ≤ c ∧ c ≤ gI σ 33 7) (hs : 0 ≤ gI σ 33 36 ∧ gI σ 33 36 ≤ 60) : Ct l yX9_side cX9_side 2 none 3 0 0 [.ref 33] σ (fun r τ => r = none ∧ (Fr [(33, 7), (33, 8), (33, 9), (33, 10), (33, 11), (33, 4), (33, 5), (33, 36), (51, 99999), (52, 99999), (33, 35)] σ τ) ∧ (0 ≤ gI τ 33 7 ∧ gI τ 33 7 ≤ gI τ 33 8 ∧ gI τ 33 8 ≤ gI τ 33 3 ∧ gI τ 33 3 ≤ 700 ∧ ((gI τ 33 9 = 0 ∧ gI τ 33 7 = gI τ 33 3) ∨ (gI τ 33 7 < gI τ 33 8 ∧ 1 ≤ gI τ 33 9 ∧ gI τ 33 9 ≤ 5))) ∧ ((gI σ 33 7 ≤ gI τ 33 7) ∧ 0 ≤ gI τ 33 4 ∧ (0 ≤ gI τ 33 36 ∧ gI τ 33 36 ≤ 60)) ∧ ((0 < gI τ 33 4 ∧ gI τ 33 35 = c) ∨ (gI τ 33 4 = 0 ∧ gI σ 33 7 < gI τ 33 7 ∧ gI τ 33 35 = c + 1 ∧ (gI τ 51 ((700 * b + c).toNat) = 110 ∨ (gI τ 51 ((700 * b + c).toNat) = 119 ∧ 0 ≤ gI τ 52 ((700 * b + c).toNat) ∧ gI τ 52 ((700 * b + c).toNat) < 7)))) ∧ (∀ k : Nat, (k : Int) < 700 * b + c → gI τ 51 k = gI σ 51 k ∧ gI τ 52 k = gI σ 52 k)) := by
  refine Ct.enter rfl (Nat.le_of_ble_eq_true rfl) ?_
  intro κ γ hκ O hrc hrs
  subst hκ
  have cut19 : ∀ (m : Int), (-2147483648 ≤ m ∧ m < 2147483648) → (-1 ≤ m ∧ m ≤ 6) → (m < 0 ∨ gI σ 33 9 = 3) → Z κ γ 2 σ 0 0 (QM κ γ (fun r τ => r = none ∧ (Fr [(33, 7), (33, 8), (33, 9), (33, 10), (33, 11), (33, 4), (33, 5), (33, 36), (51, 99999), (52, 99999), (33, 35)] σ τ) ∧ (0 ≤ gI τ 33 7 ∧ gI τ 33 7 ≤ gI τ 33 8 ∧ gI τ 33 8 ≤ gI τ 33 3 ∧ gI τ 33 3 ≤ 700 ∧ ((gI τ 33 9 = 0 ∧ gI τ 33 7 = gI τ 33 3) ∨ (gI τ 33 7 < gI τ 33 8 ∧ 1 ≤ gI τ 33 9 ∧ gI τ 33 9 ≤ 5))) ∧ ((gI σ 33 7 ≤ gI τ 33 7) ∧ 0 ≤ gI τ 33 4 ∧ (0 ≤ gI τ 33 36 ∧ gI τ 33 36 ≤ 60)) ∧ ((0 < gI τ 33 4 ∧ gI τ 33 35 = c) ∨ (gI τ 33 4 = 0 ∧ gI σ 33 7 < gI τ 33 7 ∧ gI τ 33 35 = c + 1 ∧ (gI τ 51 ((700 * b + c).toNat) = 110 ∨ (gI τ 51 ((700 * b + c).toNat) = 119 ∧ 0 ≤ gI τ 52 ((700 * b + c).toNat) ∧ gI τ 52 ((700 * b + c).toNat) < 7)))) ∧ (∀ k : Nat, (k : Int) < 700 * b + c → gI τ 51 k = gI σ 51 k ∧ gI τ 52 k = gI σ 52 k)) 0 0) 19 [(0, .ref 33)] [.int (iz m)] := by
    intro m rr19_0 ff19_0 ff19_1
    refine z_istore_n (pc := 19) [(0, .ref 33), (1, .int (iz m))] O dX9_side_19 (by decide) rfl ?_
    have cut53 : ∀ (_ : Unit), (gI σ 33 9 = 4 ∨ 0 ≤ m) → (gI σ 33 36 < 60) → Z κ γ 2 σ 0 0 (QM κ γ (fun r τ => r = none ∧ (Fr [(33, 7), (33, 8), (33, 9), (33, 10), (33, 11), (33, 4), (33, 5), (33, 36), (51, 99999), (52, 99999), (33, 35)] σ τ) ∧ (0 ≤ gI τ 33 7 ∧ gI τ 33 7 ≤ gI τ 33 8 ∧ gI τ 33 8 ≤ gI τ 33 3 ∧ gI τ 33 3 ≤ 700 ∧ ((gI τ 33 9 = 0 ∧ gI τ 33 7 = gI τ 33 3) ∨ (gI τ 33 7 < gI τ 33 8 ∧ 1 ≤ gI τ 33 9 ∧ gI τ 33 9 ≤ 5))) ∧ ((gI σ 33 7 ≤ gI τ 33 7) ∧ 0 ≤ gI τ 33 4 ∧ (0 ≤ gI τ 33 36 ∧ gI τ 33 36 ≤ 60)) ∧ ((0 < gI τ 33 4 ∧ gI τ 33 35 = c) ∨ (gI τ 33 4 = 0 ∧ gI σ 33 7 < gI τ 33 7 ∧ gI τ 33 35 = c + 1 ∧ (gI τ 51 ((700 * b + c).toNat) = 110 ∨ (gI τ 51 ((700 * b + c).toNat) = 119 ∧ 0 ≤ gI τ 52 ((700 * b + c).toNat) ∧ gI τ 52 ((700 * b + c).toNat) < 7)))) ∧ (∀ k : Nat, (k : Int) < 700 * b + c → gI τ 51 k = gI σ 51 k ∧ gI τ 52 k = gI σ 52 k)) 0 0) 53 [(0, .ref 33), (1, .int (iz m))] [] := by
      intro _ ff53_0 ff53_1
      refine z_aload_n (pc := 53) O dX9_side_53 rfl ?_
      refine z_dup (pc := 54) O dX9_side_54 rfl ?_
      refine zi_getv (pc := 55) (gI σ 33 36) O fl_X9_289 rfl (jo_33 J) (izg σ 33 36) dX9_side_55 ?_
      have := rgI σ 33 36
      refine z_iconst (pc := 58) (v := iz (1)) O dX9_side_58 (by decide) ?_
      refine zi_iadd (pc := 59) O dX9_side_59 ?_
      refine z_putI (pc := 60) O fl_X9_289 rfl ⟨rfl, rfl⟩ (jo_33 J) dX9_side_60 ?_
      refine z_aload_n (pc := 63) O dX9_side_63 rfl ?_
      have cut75 : ∀ (cc : Int), (-2147483648 ≤ cc ∧ cc < 2147483648) → ((cc = 110 ∧ m < 0) ∨ (cc = 119 ∧ 0 ≤ m)) → Z κ γ 2 (sI σ 33 36 (iz ((gI σ 33 36) + 1))) 0 0 (QM κ γ (fun r τ => r = none ∧ (Fr [(33, 7), (33, 8), (33, 9), (33, 10), (33, 11), (33, 4), (33, 5), (33, 36), (51, 99999), (52, 99999), (33, 35)] σ τ) ∧ (0 ≤ gI τ 33 7 ∧ gI τ 33 7 ≤ gI τ 33 8 ∧ gI τ 33 8 ≤ gI τ 33 3 ∧ gI τ 33 3 ≤ 700 ∧ ((gI τ 33 9 = 0 ∧ gI τ 33 7 = gI τ 33 3) ∨ (gI τ 33 7 < gI τ 33 8 ∧ 1 ≤ gI τ 33 9 ∧ gI τ 33 9 ≤ 5))) ∧ ((gI σ 33 7 ≤ gI τ 33 7) ∧ 0 ≤ gI τ 33 4 ∧ (0 ≤ gI τ 33 36 ∧ gI τ 33 36 ≤ 60)) ∧ ((0 < gI τ 33 4 ∧ gI τ 33 35 = c) ∨ (gI τ 33 4 = 0 ∧ gI σ 33 7 < gI τ 33 7 ∧ gI τ 33 35 = c + 1 ∧ (gI τ 51 ((700 * b + c).toNat) = 110 ∨ (gI τ 51 ((700 * b + c).toNat) = 119 ∧ 0 ≤ gI τ 52 ((700 * b + c).toNat) ∧ gI τ 52 ((700 * b + c).toNat) < 7)))) ∧ (∀ k : Nat, (k : Int) < 700 * b + c → gI τ 51 k = gI σ 51 k ∧ gI τ 52 k = gI σ 52 k)) 0 0) 75 [(0, .ref 33), (1, .int (iz m))] [.int (iz cc), .ref 33] := by
        intro cc rr75_0 ff75_0
        have cut87 : ∀ (nn : Int), (-2147483648 ≤ nn ∧ nn < 2147483648) → (m < 0 ∨ nn = m) → Z κ γ 2 (sI σ 33 36 (iz ((gI σ 33 36) + 1))) 0 0 (QM κ γ (fun r τ => r = none ∧ (Fr [(33, 7), (33, 8), (33, 9), (33, 10), (33, 11), (33, 4), (33, 5), (33, 36), (51, 99999), (52, 99999), (33, 35)] σ τ) ∧ (0 ≤ gI τ 33 7 ∧ gI τ 33 7 ≤ gI τ 33 8 ∧ gI τ 33 8 ≤ gI τ 33 3 ∧ gI τ 33 3 ≤ 700 ∧ ((gI τ 33 9 = 0 ∧ gI τ 33 7 = gI τ 33 3) ∨ (gI τ 33 7 < gI τ 33 8 ∧ 1 ≤ gI τ 33 9 ∧ gI τ 33 9 ≤ 5))) ∧ ((gI σ 33 7 ≤ gI τ 33 7) ∧ 0 ≤ gI τ 33 4 ∧ (0 ≤ gI τ 33 36 ∧ gI τ 33 36 ≤ 60)) ∧ ((0 < gI τ 33 4 ∧ gI τ 33 35 = c) ∨ (gI τ 33 4 = 0 ∧ gI σ 33 7 < gI τ 33 7 ∧ gI τ 33 35 = c + 1 ∧ (gI τ 51 ((700 * b + c).toNat) = 110 ∨ (gI τ 51 ((700 * b + c).toNat) = 119 ∧ 0 ≤ gI τ 52 ((700 * b + c).toNat) ∧ gI τ 52 ((700 * b + c).toNat) < 7)))) ∧ (∀ k : Nat, (k : Int) < 700 * b + c → gI τ 51 k = gI σ 51 k ∧ gI τ 52 k = gI σ 52 k)) 0 0) 87 [(0, .ref 33), (1, .int (iz m))] [.int (iz nn), .int (iz cc), .ref 33] := by
          intro nn rr87_0 ff87_0
          refine z_callV (pc := 87) O cl_X9_347 (k9_put _ _ cc (by omega) nn (by omega) b c J (by have : gI (sI σ 33 36 (iz ((gI σ 33 36) + 1))) 33 34 = gI σ 33 34 := gI_iz (sk2t (by decide) (izg σ 33 34)) (rgI _ _ _); omega) (by have : gI (sI σ 33 36 (iz ((gI σ 33 36) + 1))) 33 35 = gI σ 33 35 := gI_iz (sk2t (by decide) (izg σ 33 35)) (rgI _ _ _); omega) (by omega) (by omega)) (by decide) (jo_33 J) kc_9 rfl rfl (Nat.le_of_ble_eq_true rfl) ⟨Nat.zero_le _, Nat.zero_le _⟩ dX9_side_87 (fun r τ1 hp => ?_)
          obtain ⟨rfl, frτ1, eτ1_0, eτ1_1, eτ1_2, eτ1_3⟩ := hp
          refine z_aload_n (pc := 90) O dX9_side_90 rfl ?_
          refine z_callV (pc := 91) O cl_X9_266 (k9_next _ _ (frτ1.lay J) (by have : gI τ1 33 3 = gI σ 33 3 := gI_iz (Fr.it frτ1 rfl (sk2t (by decide) (izg σ 33 3))) (rgI _ _ _); omega) (by have : gI τ1 33 8 = gI σ 33 8 := gI_iz (Fr.it frτ1 rfl (sk2t (by decide) (izg σ 33 8))) (rgI _ _ _); have : gI τ1 33 3 = gI σ 33 3 := gI_iz (Fr.it frτ1 rfl (sk2t (by decide) (izg σ 33 3))) (rgI _ _ _); omega)) (by decide) (jo_33 (frτ1.lay J)) kc_9 rfl rfl (Nat.le_of_ble_eq_true rfl) ⟨Nat.zero_le _, Nat.zero_le _⟩ dX9_side_91 (fun r τ3 hp => ?_)
          obtain ⟨rfl, frτ3, eτ3_0, eτ3_1⟩ := hp
          have : gI τ1 33 8 = gI σ 33 8 := gI_iz (Fr.it frτ1 rfl (sk2t (by decide) (izg σ 33 8))) (rgI _ _ _)
          have : gI τ3 33 3 = gI σ 33 3 := gI_iz (Fr.it frτ3 rfl (Fr.it frτ1 rfl (sk2t (by decide) (izg σ 33 3)))) (rgI _ _ _)
          refine z_vret (pc := 94) O dX9_side_94 ?_
          exact ⟨rfl, ((((Fr.rf [(33, 7), (33, 8), (33, 9), (33, 10), (33, 11), (33, 4), (33, 5), (33, 36), (51, 99999), (52, 99999), (33, 35)] σ).pI rfl).tr (frτ1.mono (V := [(33, 7), (33, 8), (33, 9), (33, 10), (33, 11), (33, 4), (33, 5), (33, 36), (51, 99999), (52, 99999), (33, 35)]) rfl)).tr (frτ3.mono (V := [(33, 7), (33, 8), (33, 9), (33, 10), (33, 11), (33, 4), (33, 5), (33, 36), (51, 99999), (52, 99999), (33, 35)]) rfl)), (by have : gI τ3 33 3 = gI σ 33 3 := gI_iz (Fr.it frτ3 rfl (Fr.it frτ1 rfl (sk2t (by decide) (izg σ 33 3)))) (rgI _ _ _); omega), (by have : gI τ3 33 4 = gI σ 33 4 := gI_iz (Fr.it frτ3 rfl (Fr.it frτ1 rfl (sk2t (by decide) (izg σ 33 4)))) (rgI _ _ _); have : gI τ3 33 36 = (gI σ 33 36) + 1 := gI_iz (Fr.it frτ3 rfl (Fr.it frτ1 rfl (hI_at _ _ _ _))) (by omega); omega), (Or.inr ⟨(by have : gI τ3 33 4 = gI σ 33 4 := gI_iz (Fr.it frτ3 rfl (Fr.it frτ1 rfl (sk2t (by decide) (izg σ 33 4)))) (rgI _ _ _); omega), (by omega), (by have : gI τ3 33 35 = gI τ1 33 35 := gI_iz (Fr.it frτ3 rfl (izg τ1 33 35)) (rgI _ _ _); omega), (by have : gI τ3 51 ((700 * b + c).toNat) = gI τ1 51 ((700 * b + c).toNat) := gI_iz (Fr.it frτ3 rfl (izg τ1 51 ((700 * b + c).toNat))) (rgI _ _ _); have : gI τ3 52 ((700 * b + c).toNat) = gI τ1 52 ((700 * b + c).toNat) := gI_iz (Fr.it frτ3 rfl (izg τ1 52 ((700 * b + c).toNat))) (rgI _ _ _); omega)⟩), (fun k hk => ⟨((frτ3.g 51 k rfl).trans ((eτ1_3 k (by omega)).1.trans (gI_eq (sk1t (by decide) rfl)))), ((frτ3.g 52 k rfl).trans ((eτ1_3 k (by omega)).2.trans (gI_eq (sk1t (by decide) rfl))))⟩)⟩
        refine z_iload_n (pc := 75) O dX9_side_75 rfl ?_
        refine zi_if_ge (pc := 76) (tgt := 86) O dX9_side_76 (by decide) (by omega) (fun h76 => ?_) (fun h76 => ?_)
        · refine z_iload_n (pc := 86) O dX9_side_86 rfl ?_
          refine z_lk [(0, .ref 33), (1, .int (iz m))] ⟨rfl, rfl, trivial⟩ ?_
          exact cut87 m (by omega) (by omega)
        · refine z_aload_n (pc := 79) O dX9_side_79 rfl ?_
          refine zi_getv (pc := 80) (gI σ 33 10) O fl_X9_256 rfl (jo_33 J) (sk2t (by decide) (izg σ 33 10)) dX9_side_80 ?_
          have := rgI σ 33 10
          refine z_goto (pc := 83) (tgt := 87) O dX9_side_83 (by decide) ?_
          refine z_lk [(0, .ref 33), (1, .int (iz m))] ⟨rfl, rfl, trivial⟩ ?_
          exact cut87 (gI σ 33 10) (by omega) (by omega)
      refine z_iload_n (pc := 64) O dX9_side_64 rfl ?_
      refine zi_if_ge (pc := 65) (tgt := 73) O dX9_side_65 (by decide) (by omega) (fun h65 => ?_) (fun h65 => ?_)
      · refine z_bipush (pc := 73) (v := iz (119)) O dX9_side_73 (by decide) ?_
        refine z_lk [(0, .ref 33), (1, .int (iz m))] ⟨rfl, rfl, trivial⟩ ?_
        exact cut75 119 (by omega) (by omega)
      · refine z_bipush (pc := 68) (v := iz (110)) O dX9_side_68 (by decide) ?_
        refine z_goto (pc := 70) (tgt := 75) O dX9_side_70 (by decide) ?_
        refine z_lk [(0, .ref 33), (1, .int (iz m))] ⟨rfl, rfl, trivial⟩ ?_
        exact cut75 110 (by omega) (by omega)
    have cut41 : ∀ (_ : Unit), Z κ γ 2 σ 0 0 (QM κ γ (fun r τ => r = none ∧ (Fr [(33, 7), (33, 8), (33, 9), (33, 10), (33, 11), (33, 4), (33, 5), (33, 36), (51, 99999), (52, 99999), (33, 35)] σ τ) ∧ (0 ≤ gI τ 33 7 ∧ gI τ 33 7 ≤ gI τ 33 8 ∧ gI τ 33 8 ≤ gI τ 33 3 ∧ gI τ 33 3 ≤ 700 ∧ ((gI τ 33 9 = 0 ∧ gI τ 33 7 = gI τ 33 3) ∨ (gI τ 33 7 < gI τ 33 8 ∧ 1 ≤ gI τ 33 9 ∧ gI τ 33 9 ≤ 5))) ∧ ((gI σ 33 7 ≤ gI τ 33 7) ∧ 0 ≤ gI τ 33 4 ∧ (0 ≤ gI τ 33 36 ∧ gI τ 33 36 ≤ 60)) ∧ ((0 < gI τ 33 4 ∧ gI τ 33 35 = c) ∨ (gI τ 33 4 = 0 ∧ gI σ 33 7 < gI τ 33 7 ∧ gI τ 33 35 = c + 1 ∧ (gI τ 51 ((700 * b + c).toNat) = 110 ∨ (gI τ 51 ((700 * b + c).toNat) = 119 ∧ 0 ≤ gI τ 52 ((700 * b + c).toNat) ∧ gI τ 52 ((700 * b + c).toNat) < 7)))) ∧ (∀ k : Nat, (k : Int) < 700 * b + c → gI τ 51 k = gI σ 51 k ∧ gI τ 52 k = gI σ 52 k)) 0 0) 41 [(0, .ref 33), (1, .int (iz m))] [] := by
      intro _
      refine z_aload_n (pc := 41) O dX9_side_41 rfl ?_
      refine z_callV (pc := 42) O cl_X9_269 (k9_wrong _ _ J) (by decide) (jo_33 J) kc_9 rfl rfl (Nat.le_of_ble_eq_true rfl) ⟨Nat.zero_le _, Nat.zero_le _⟩ dX9_side_42 (fun r τ5 hp => ?_)
      obtain ⟨rfl, frτ5, eτ5_0⟩ := hp
      refine z_aload_n (pc := 45) O dX9_side_45 rfl ?_
      refine z_callV (pc := 46) O cl_X9_272 (k9_isGood _ _ (frτ5.lay J)) (by decide) (jo_33 (frτ5.lay J)) kc_9 rfl rfl (Nat.le_of_ble_eq_true rfl) ⟨Nat.zero_le _, Nat.zero_le _⟩ dX9_side_46 (fun r τ7 hp => ?_)
      obtain ⟨z8, rfl, fτ7_0, fτ7_1, rfl⟩ := hp
      refine zi_if_ne (pc := 49) (tgt := 53) O dX9_side_49 (by decide) (by omega) (fun h49 => ?_) (fun h49 => ?_)
      · exfalso; omega
      · refine z_vret (pc := 52) O dX9_side_52 ?_
        exact ⟨rfl, (frτ5.mono (V := [(33, 7), (33, 8), (33, 9), (33, 10), (33, 11), (33, 4), (33, 5), (33, 36), (51, 99999), (52, 99999), (33, 35)]) rfl), (by have : gI τ5 33 7 = gI σ 33 7 := gI_iz (Fr.it frτ5 rfl (izg σ 33 7)) (rgI _ _ _); have : gI τ5 33 8 = gI σ 33 8 := gI_iz (Fr.it frτ5 rfl (izg σ 33 8)) (rgI _ _ _); have : gI τ5 33 3 = gI σ 33 3 := gI_iz (Fr.it frτ5 rfl (izg σ 33 3)) (rgI _ _ _); have : gI τ5 33 9 = gI σ 33 9 := gI_iz (Fr.it frτ5 rfl (izg σ 33 9)) (rgI _ _ _); omega), (by have : gI τ5 33 7 = gI σ 33 7 := gI_iz (Fr.it frτ5 rfl (izg σ 33 7)) (rgI _ _ _); have : gI τ5 33 36 = gI σ 33 36 := gI_iz (Fr.it frτ5 rfl (izg σ 33 36)) (rgI _ _ _); omega), (Or.inl ⟨(by omega), (by have : gI τ5 33 35 = gI σ 33 35 := gI_iz (Fr.it frτ5 rfl (izg σ 33 35)) (rgI _ _ _); omega)⟩), (fun k hk => ⟨(frτ5.g 51 k rfl), (frτ5.g 52 k rfl)⟩)⟩
    refine z_aload_n (pc := 20) O dX9_side_20 rfl ?_
    refine zi_getv (pc := 21) (gI σ 33 9) O fl_X9_238 rfl (jo_33 J) (izg σ 33 9) dX9_side_21 ?_
    have := rgI σ 33 9
    refine z_iconst (pc := 24) (v := iz (4)) O dX9_side_24 (by decide) ?_
    refine zi_icmp_eq (pc := 25) (tgt := 32) O dX9_side_25 (by decide) (by omega) (by decide) (fun h25 => ?_) (fun h25 => ?_)
    · refine z_aload_n (pc := 32) O dX9_side_32 rfl ?_
      refine zi_getv (pc := 33) (gI σ 33 36) O fl_X9_289 rfl (jo_33 J) (izg σ 33 36) dX9_side_33 ?_
      have := rgI σ 33 36
      refine z_bipush (pc := 36) (v := iz (60)) O dX9_side_36 (by decide) ?_
      refine zi_icmp_ne (pc := 38) (tgt := 45) O dX9_side_38 (by decide) (by omega) (by decide) (fun h38 => ?_) (fun h38 => ?_)
      · refine z_aload_n (pc := 45) O dX9_side_45 rfl ?_
        refine z_callV (pc := 46) O cl_X9_272 (k9_isGood _ _ J) (by decide) (jo_33 J) kc_9 rfl rfl (Nat.le_of_ble_eq_true rfl) ⟨Nat.zero_le _, Nat.zero_le _⟩ dX9_side_46 (fun r τ9 hp => ?_)
        obtain ⟨z10, rfl, fτ9_0, fτ9_1, rfl⟩ := hp
        refine zi_if_ne (pc := 49) (tgt := 53) O dX9_side_49 (by decide) (by omega) (fun h49 => ?_) (fun h49 => ?_)
        · refine z_lk [(0, .ref 33), (1, .int (iz m))] ⟨rfl, rfl, trivial⟩ ?_
          exact cut53 () (by omega) (by omega)
        · exfalso; omega
      · refine z_lk [(0, .ref 33), (1, .int (iz m))] ⟨rfl, rfl, trivial⟩ ?_
        exact cut41 () 
    · refine z_iload_n (pc := 28) O dX9_side_28 rfl ?_
      refine zi_if_lt (pc := 29) (tgt := 41) O dX9_side_29 (by decide) (by omega) (fun h29 => ?_) (fun h29 => ?_)
      · refine z_lk [(0, .ref 33), (1, .int (iz m))] ⟨rfl, rfl, trivial⟩ ?_
        exact cut41 () 
      · refine z_aload_n (pc := 32) O dX9_side_32 rfl ?_
        refine zi_getv (pc := 33) (gI σ 33 36) O fl_X9_289 rfl (jo_33 J) (izg σ 33 36) dX9_side_33 ?_
        have := rgI σ 33 36
        refine z_bipush (pc := 36) (v := iz (60)) O dX9_side_36 (by decide) ?_
        refine zi_icmp_ne (pc := 38) (tgt := 45) O dX9_side_38 (by decide) (by omega) (by decide) (fun h38 => ?_) (fun h38 => ?_)
        · refine z_aload_n (pc := 45) O dX9_side_45 rfl ?_
          refine z_callV (pc := 46) O cl_X9_272 (k9_isGood _ _ J) (by decide) (jo_33 J) kc_9 rfl rfl (Nat.le_of_ble_eq_true rfl) ⟨Nat.zero_le _, Nat.zero_le _⟩ dX9_side_46 (fun r τ11 hp => ?_)
          obtain ⟨z12, rfl, fτ11_0, fτ11_1, rfl⟩ := hp
          refine zi_if_ne (pc := 49) (tgt := 53) O dX9_side_49 (by decide) (by omega) (fun h49 => ?_) (fun h49 => ?_)
          · refine z_lk [(0, .ref 33), (1, .int (iz m))] ⟨rfl, rfl, trivial⟩ ?_
            exact cut53 () (by omega) (by omega)
          · exfalso; omega
        · refine z_lk [(0, .ref 33), (1, .int (iz m))] ⟨rfl, rfl, trivial⟩ ?_
          exact cut41 () 
  refine z_aload_n (pc := 0) O dX9_side_0 rfl ?_
  refine zi_getv (pc := 1) (gI σ 33 9) O fl_X9_238 rfl (jo_33 J) (izg σ 33 9) dX9_side_1 ?_
  have := rgI σ 33 9
  refine z_iconst (pc := 4) (v := iz (3)) O dX9_side_4 (by decide) ?_
  refine zi_icmp_ne (pc := 5) (tgt := 18) O dX9_side_5 (by decide) (by omega) (by decide) (fun h5 => ?_) (fun h5 => ?_)
  · refine z_iconst (pc := 18) (v := iz (-1)) O dX9_side_18 (by decide) ?_
    refine z_lk [(0, .ref 33)] ⟨rfl, trivial⟩ ?_
    exact cut19 (-1) (by omega) (by omega) (by omega)
  · refine z_aload_n (pc := 8) O dX9_side_8 rfl ?_
    refine zi_getLv (pc := 9) (hL σ 33 11) O fl_X9_245 rfl (jo_33 J) rfl dX9_side_9 ?_
    refine z_callS (pc := 12) O cl_X9_196 (k9_meaning _ _ (hL σ 33 11)) (by decide) rfl rfl (Nat.le_of_ble_eq_true rfl) ⟨Nat.zero_le _, Nat.zero_le _⟩ dX9_side_12 (fun r τ13 hp => ?_)
    obtain ⟨z14, rfl, fτ13_0, fτ13_1, rfl⟩ := hp
    refine z_goto (pc := 15) (tgt := 19) O dX9_side_15 (by decide) ?_
    refine z_lk [(0, .ref 33)] ⟨rfl, trivial⟩ ?_
    exact cut19 z14 (by omega) (by omega) (by omega)
