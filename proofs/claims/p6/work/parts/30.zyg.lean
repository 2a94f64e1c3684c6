set_option maxHeartbeats 4000000 in
set_option maxRecDepth 20000 in
theorem k9_side3 (l : Launch) (σ : VH) (tk : Nat → Int) (pl : Nat → Int) (m : Nat) (j : Nat) (b : Int) (c : Int) (J : Lay σ) (ht : (0 ≤ gI σ 33 7 ∧ gI σ 33 7 ≤ gI σ 33 8 ∧ gI σ 33 8 ≤ gI σ 33 3 ∧ gI σ 33 3 ≤ 700 ∧ ((gI σ 33 9 = 0 ∧ gI σ 33 7 = gI σ 33 3) ∨ (gI σ 33 7 < gI σ 33 8 ∧ 1 ≤ gI σ 33 9 ∧ gI σ 33 9 ≤ 5)))) (hg : gI σ 33 4 = 0) (eb : gI σ 33 34 = b) (ec : gI σ 33 35 = c) (hb : 0 ≤ b ∧ b ≤ 15) (hc : 0 ≤ c ∧ c ≤ gI σ 33 7) (hs : 0 ≤ gI σ 33 36 ∧ gI σ 33 36 ≤ 60) (A : RAt σ tk pl m j) : Ct l yX9_side cX9_side 2 none 3 0 0 [.ref 33] σ (fun r τ => r = none ∧ (Fr [(33, 7), (33, 8), (33, 9), (33, 10), (33, 11), (33, 4), (33, 5), (33, 36), (51, 99999), (52, 99999), (33, 35)] σ τ) ∧ (0 ≤ gI τ 33 7 ∧ gI τ 33 7 ≤ gI τ 33 8 ∧ gI τ 33 8 ≤ gI τ 33 3 ∧ gI τ 33 3 ≤ 700 ∧ ((gI τ 33 9 = 0 ∧ gI τ 33 7 = gI τ 33 3) ∨ (gI τ 33 7 < gI τ 33 8 ∧ 1 ≤ gI τ 33 9 ∧ gI τ 33 9 ≤ 5))) ∧ ((gI σ 33 7 ≤ gI τ 33 7) ∧ 0 ≤ gI τ 33 4 ∧ (0 ≤ gI τ 33 36 ∧ gI τ 33 36 ≤ 60)) ∧ ((0 < gI τ 33 4 ∧ gI τ 33 35 = c) ∨ (gI τ 33 4 = 0 ∧ gI σ 33 7 < gI τ 33 7 ∧ gI τ 33 35 = c + 1 ∧ (gI τ 51 ((700 * b + c).toNat) = 110 ∨ (gI τ 51 ((700 * b + c).toNat) = 119 ∧ 0 ≤ gI τ 52 ((700 * b + c).toNat) ∧ gI τ 52 ((700 * b + c).toNat) < 7)))) ∧ (∀ k : Nat, (k : Int) < 700 * b + c → gI τ 51 k = gI σ 51 k ∧ gI τ 52 k = gI σ 52 k) ∧ (RfS τ tk pl m (pOp tk m j (gI σ 33 36)))) := by
  refine Ct.enter rfl (Nat.le_of_ble_eq_true rfl) ?_
  intro κ γ hκ O hrc hrs
  subst hκ
  obtain ⟨K1, K2, K3, K4, K5, K6, K7⟩ := A.num
  have KW : gI σ 33 9 = 3 → (hL σ 33 11).toInt = tk j := fun q => (K5 q).1
  clear K4 K5 K6 K7
  have cut19 : ∀ (m9 : Int), (-2147483648 ≤ m9 ∧ m9 < 2147483648) → ((0 ≤ m9 ∧ m9 ≤ 6 ∧ gI σ 33 9 = 3 ∧ Fw (tk j)) ∨ (m9 = -1 ∧ ¬ Fw (tk j))) → Z κ γ 2 σ 0 0 (QM κ γ (fun r τ => r = none ∧ (Fr [(33, 7), (33, 8), (33, 9), (33, 10), (33, 11), (33, 4), (33, 5), (33, 36), (51, 99999), (52, 99999), (33, 35)] σ τ) ∧ (0 ≤ gI τ 33 7 ∧ gI τ 33 7 ≤ gI τ 33 8 ∧ gI τ 33 8 ≤ gI τ 33 3 ∧ gI τ 33 3 ≤ 700 ∧ ((gI τ 33 9 = 0 ∧ gI τ 33 7 = gI τ 33 3) ∨ (gI τ 33 7 < gI τ 33 8 ∧ 1 ≤ gI τ 33 9 ∧ gI τ 33 9 ≤ 5))) ∧ ((gI σ 33 7 ≤ gI τ 33 7) ∧ 0 ≤ gI τ 33 4 ∧ (0 ≤ gI τ 33 36 ∧ gI τ 33 36 ≤ 60)) ∧ ((0 < gI τ 33 4 ∧ gI τ 33 35 = c) ∨ (gI τ 33 4 = 0 ∧ gI σ 33 7 < gI τ 33 7 ∧ gI τ 33 35 = c + 1 ∧ (gI τ 51 ((700 * b + c).toNat) = 110 ∨ (gI τ 51 ((700 * b + c).toNat) = 119 ∧ 0 ≤ gI τ 52 ((700 * b + c).toNat) ∧ gI τ 52 ((700 * b + c).toNat) < 7)))) ∧ (∀ k : Nat, (k : Int) < 700 * b + c → gI τ 51 k = gI σ 51 k ∧ gI τ 52 k = gI σ 52 k) ∧ (RfS τ tk pl m (pOp tk m j (gI σ 33 36)))) 0 0) 19 [(0, .ref 33)] [.int (iz m9)] := by
    intro m9 rr19_0 ff19_0
    refine z_istore_n (pc := 19) [(0, .ref 33), (1, .int (iz m9))] O dX9_side_19 (by decide) rfl ?_
    have cut53 : ∀ (_ : Unit), (gI σ 33 9 = 4 ∨ 0 ≤ m9) → (gI σ 33 36 < 60) → Z κ γ 2 σ 0 0 (QM κ γ (fun r τ => r = none ∧ (Fr [(33, 7), (33, 8), (33, 9), (33, 10), (33, 11), (33, 4), (33, 5), (33, 36), (51, 99999), (52, 99999), (33, 35)] σ τ) ∧ (0 ≤ gI τ 33 7 ∧ gI τ 33 7 ≤ gI τ 33 8 ∧ gI τ 33 8 ≤ gI τ 33 3 ∧ gI τ 33 3 ≤ 700 ∧ ((gI τ 33 9 = 0 ∧ gI τ 33 7 = gI τ 33 3) ∨ (gI τ 33 7 < gI τ 33 8 ∧ 1 ≤ gI τ 33 9 ∧ gI τ 33 9 ≤ 5))) ∧ ((gI σ 33 7 ≤ gI τ 33 7) ∧ 0 ≤ gI τ 33 4 ∧ (0 ≤ gI τ 33 36 ∧ gI τ 33 36 ≤ 60)) ∧ ((0 < gI τ 33 4 ∧ gI τ 33 35 = c) ∨ (gI τ 33 4 = 0 ∧ gI σ 33 7 < gI τ 33 7 ∧ gI τ 33 35 = c + 1 ∧ (gI τ 51 ((700 * b + c).toNat) = 110 ∨ (gI τ 51 ((700 * b + c).toNat) = 119 ∧ 0 ≤ gI τ 52 ((700 * b + c).toNat) ∧ gI τ 52 ((700 * b + c).toNat) < 7)))) ∧ (∀ k : Nat, (k : Int) < 700 * b + c → gI τ 51 k = gI σ 51 k ∧ gI τ 52 k = gI σ 52 k) ∧ (RfS τ tk pl m (pOp tk m j (gI σ 33 36)))) 0 0) 53 [(0, .ref 33), (1, .int (iz m9))] [] := by
      intro _ ff53_0 ff53_1
      refine z_aload_n (pc := 53) O dX9_side_53 rfl ?_
      refine z_dup (pc := 54) O dX9_side_54 rfl ?_
      refine zi_getv (pc := 55) (gI σ 33 36) O fl_X9_289 rfl (jo_33 J) (izg σ 33 36) dX9_side_55 ?_
      have := rgI σ 33 36
      refine z_iconst (pc := 58) (v := iz (1)) O dX9_side_58 (by decide) ?_
      refine zi_iadd (pc := 59) O dX9_side_59 ?_
      refine z_putI (pc := 60) O fl_X9_289 rfl ⟨rfl, rfl⟩ (jo_33 J) dX9_side_60 ?_
      refine z_aload_n (pc := 63) O dX9_side_63 rfl ?_
      have cut75 : ∀ (cc : Int), (-2147483648 ≤ cc ∧ cc < 2147483648) → ((cc = 110 ∧ m9 < 0) ∨ (cc = 119 ∧ 0 ≤ m9)) → Z κ γ 2 (sI σ 33 36 (iz ((gI σ 33 36) + 1))) 0 0 (QM κ γ (fun r τ => r = none ∧ (Fr [(33, 7), (33, 8), (33, 9), (33, 10), (33, 11), (33, 4), (33, 5), (33, 36), (51, 99999), (52, 99999), (33, 35)] σ τ) ∧ (0 ≤ gI τ 33 7 ∧ gI τ 33 7 ≤ gI τ 33 8 ∧ gI τ 33 8 ≤ gI τ 33 3 ∧ gI τ 33 3 ≤ 700 ∧ ((gI τ 33 9 = 0 ∧ gI τ 33 7 = gI τ 33 3) ∨ (gI τ 33 7 < gI τ 33 8 ∧ 1 ≤ gI τ 33 9 ∧ gI τ 33 9 ≤ 5))) ∧ ((gI σ 33 7 ≤ gI τ 33 7) ∧ 0 ≤ gI τ 33 4 ∧ (0 ≤ gI τ 33 36 ∧ gI τ 33 36 ≤ 60)) ∧ ((0 < gI τ 33 4 ∧ gI τ 33 35 = c) ∨ (gI τ 33 4 = 0 ∧ gI σ 33 7 < gI τ 33 7 ∧ gI τ 33 35 = c + 1 ∧ (gI τ 51 ((700 * b + c).toNat) = 110 ∨ (gI τ 51 ((700 * b + c).toNat) = 119 ∧ 0 ≤ gI τ 52 ((700 * b + c).toNat) ∧ gI τ 52 ((700 * b + c).toNat) < 7)))) ∧ (∀ k : Nat, (k : Int) < 700 * b + c → gI τ 51 k = gI σ 51 k ∧ gI τ 52 k = gI σ 52 k) ∧ (RfS τ tk pl m (pOp tk m j (gI σ 33 36)))) 0 0) 75 [(0, .ref 33), (1, .int (iz m9))] [.int (iz cc), .ref 33] := by
        intro cc rr75_0 ff75_0
        have cut87 : ∀ (nn : Int), (-2147483648 ≤ nn ∧ nn < 2147483648) → (m9 < 0 ∨ nn = m9) → Z κ γ 2 (sI σ 33 36 (iz ((gI σ 33 36) + 1))) 0 0 (QM κ γ (fun r τ => r = none ∧ (Fr [(33, 7), (33, 8), (33, 9), (33, 10), (33, 11), (33, 4), (33, 5), (33, 36), (51, 99999), (52, 99999), (33, 35)] σ τ) ∧ (0 ≤ gI τ 33 7 ∧ gI τ 33 7 ≤ gI τ 33 8 ∧ gI τ 33 8 ≤ gI τ 33 3 ∧ gI τ 33 3 ≤ 700 ∧ ((gI τ 33 9 = 0 ∧ gI τ 33 7 = gI τ 33 3) ∨ (gI τ 33 7 < gI τ 33 8 ∧ 1 ≤ gI τ 33 9 ∧ gI τ 33 9 ≤ 5))) ∧ ((gI σ 33 7 ≤ gI τ 33 7) ∧ 0 ≤ gI τ 33 4 ∧ (0 ≤ gI τ 33 36 ∧ gI τ 33 36 ≤ 60)) ∧ ((0 < gI τ 33 4 ∧ gI τ 33 35 = c) ∨ (gI τ 33 4 = 0 ∧ gI σ 33 7 < gI τ 33 7 ∧ gI τ 33 35 = c + 1 ∧ (gI τ 51 ((700 * b + c).toNat) = 110 ∨ (gI τ 51 ((700 * b + c).toNat) = 119 ∧ 0 ≤ gI τ 52 ((700 * b + c).toNat) ∧ gI τ 52 ((700 * b + c).toNat) < 7)))) ∧ (∀ k : Nat, (k : Int) < 700 * b + c → gI τ 51 k = gI σ 51 k ∧ gI τ 52 k = gI σ 52 k) ∧ (RfS τ tk pl m (pOp tk m j (gI σ 33 36)))) 0 0) 87 [(0, .ref 33), (1, .int (iz m9))] [.int (iz nn), .int (iz cc), .ref 33] := by
          intro nn rr87_0 ff87_0
          refine z_callV (pc := 87) O cl_X9_347 (k9_put _ _ cc (by omega) nn (by omega) b c J (by have : gI (sI σ 33 36 (iz ((gI σ 33 36) + 1))) 33 34 = gI σ 33 34 := gI_iz (sk2t (by decide) (izg σ 33 34)) (rgI _ _ _); omega) (by have : gI (sI σ 33 36 (iz ((gI σ 33 36) + 1))) 33 35 = gI σ 33 35 := gI_iz (sk2t (by decide) (izg σ 33 35)) (rgI _ _ _); omega) (by omega) (by omega)) (by decide) (jo_33 J) kc_9 rfl rfl (Nat.le_of_ble_eq_true rfl) ⟨Nat.zero_le _, Nat.zero_le _⟩ dX9_side_87 (fun r τ1 hp => ?_)
          obtain ⟨rfl, frτ1, eτ1_0, eτ1_1, eτ1_2, eτ1_3⟩ := hp
          refine z_aload_n (pc := 90) O dX9_side_90 rfl ?_
          refine z_callV (pc := 91) O cl_X9_266 (k9_next3 _ _ (frτ1.lay J) (by have : gI τ1 33 3 = gI σ 33 3 := gI_iz (Fr.it frτ1 rfl (sk2t (by decide) (izg σ 33 3))) (rgI _ _ _); omega) (by have : gI τ1 33 8 = gI σ 33 8 := gI_iz (Fr.it frτ1 rfl (sk2t (by decide) (izg σ 33 8))) (rgI _ _ _); have : gI τ1 33 3 = gI σ 33 3 := gI_iz (Fr.it frτ1 rfl (sk2t (by decide) (izg σ 33 3))) (rgI _ _ _); omega)) (by decide) (jo_33 (frτ1.lay J)) kc_9 rfl rfl (Nat.le_of_ble_eq_true rfl) ⟨Nat.zero_le _, Nat.zero_le _⟩ dX9_side_91 (fun r τ3 hp => ?_)
          obtain ⟨rfl, frτ3, eτ3_0, eτ3_1, eτ3_2⟩ := hp
          have : gI τ1 33 8 = gI σ 33 8 := gI_iz (Fr.it frτ1 rfl (sk2t (by decide) (izg σ 33 8))) (rgI _ _ _)
          have : gI τ3 33 3 = gI σ 33 3 := gI_iz (Fr.it frτ3 rfl (Fr.it frτ1 rfl (sk2t (by decide) (izg σ 33 3)))) (rgI _ _ _)
          refine z_vret (pc := 94) O dX9_side_94 ?_
          exact ⟨rfl, ((((Fr.rf [(33, 7), (33, 8), (33, 9), (33, 10), (33, 11), (33, 4), (33, 5), (33, 36), (51, 99999), (52, 99999), (33, 35)] σ).pI rfl).tr (frτ1.mono (V := [(33, 7), (33, 8), (33, 9), (33, 10), (33, 11), (33, 4), (33, 5), (33, 36), (51, 99999), (52, 99999), (33, 35)]) rfl)).tr (frτ3.mono (V := [(33, 7), (33, 8), (33, 9), (33, 10), (33, 11), (33, 4), (33, 5), (33, 36), (51, 99999), (52, 99999), (33, 35)]) rfl)), (by have : gI τ3 33 3 = gI σ 33 3 := gI_iz (Fr.it frτ3 rfl (Fr.it frτ1 rfl (sk2t (by decide) (izg σ 33 3)))) (rgI _ _ _); omega), (by have : gI τ3 33 4 = gI σ 33 4 := gI_iz (Fr.it frτ3 rfl (Fr.it frτ1 rfl (sk2t (by decide) (izg σ 33 4)))) (rgI _ _ _); have : gI τ3 33 36 = (gI σ 33 36) + 1 := gI_iz (Fr.it frτ3 rfl (Fr.it frτ1 rfl (hI_at _ _ _ _))) (by omega); omega), (Or.inr ⟨(by have : gI τ3 33 4 = gI σ 33 4 := gI_iz (Fr.it frτ3 rfl (Fr.it frτ1 rfl (sk2t (by decide) (izg σ 33 4)))) (rgI _ _ _); omega), (by omega), (by have : gI τ3 33 35 = gI τ1 33 35 := gI_iz (Fr.it frτ3 rfl (izg τ1 33 35)) (rgI _ _ _); omega), (by have : gI τ3 51 ((700 * b + c).toNat) = gI τ1 51 ((700 * b + c).toNat) := gI_iz (Fr.it frτ3 rfl (izg τ1 51 ((700 * b + c).toNat))) (rgI _ _ _); have : gI τ3 52 ((700 * b + c).toNat) = gI τ1 52 ((700 * b + c).toNat) := gI_iz (Fr.it frτ3 rfl (izg τ1 52 ((700 * b + c).toNat))) (rgI _ _ _); omega)⟩), (fun k hk => ⟨((frτ3.g 51 k rfl).trans ((eτ1_3 k (by omega)).1.trans (gI_eq (sk1t (by decide) rfl)))), ((frτ3.g 52 k rfl).trans ((eτ1_3 k (by omega)).2.trans (gI_eq (sk1t (by decide) rfl))))⟩), (by first | (exfalso; omega) | exact RfS.ok (cif_neg (fun h9 => h9.elim (fun q => by rcases ff53_0 with q1 | q1; exact absurd q.1 (by omega); exact q.2 ((ff19_0.resolve_right (fun w => by omega)).2.2.2)) (fun q => by omega))) (Rf.eq (Rf.next (Rf.fr (Rf.fr (Rf.at hg A) ((Fr.rf [(33, 36)] σ).pI rfl) (fun _ => rfl) rfl rfl) frτ1 (fun _ => rfl) rfl rfl) frτ3 (fun _ => rfl) rfl eτ3_2) (thn_ok rfl)) (by have : gI τ3 33 36 = (gI σ 33 36) + 1 := gI_iz (Fr.it frτ3 rfl (Fr.it frτ1 rfl (hI_at _ _ _ _))) (by omega); omega))⟩
        refine z_iload_n (pc := 75) O dX9_side_75 rfl ?_
        refine zi_if_ge (pc := 76) (tgt := 86) O dX9_side_76 (by decide) (by omega) (fun h76 => ?_) (fun h76 => ?_)
        · refine z_iload_n (pc := 86) O dX9_side_86 rfl ?_
          refine z_lk [(0, .ref 33), (1, .int (iz m9))] ⟨rfl, rfl, trivial⟩ ?_
          exact cut87 m9 (by omega) (by omega)
        · refine z_aload_n (pc := 79) O dX9_side_79 rfl ?_
          refine zi_getv (pc := 80) (gI σ 33 10) O fl_X9_256 rfl (jo_33 J) (sk2t (by decide) (izg σ 33 10)) dX9_side_80 ?_
          have := rgI σ 33 10
          refine z_goto (pc := 83) (tgt := 87) O dX9_side_83 (by decide) ?_
          refine z_lk [(0, .ref 33), (1, .int (iz m9))] ⟨rfl, rfl, trivial⟩ ?_
          exact cut87 (gI σ 33 10) (by omega) (by omega)
      refine z_iload_n (pc := 64) O dX9_side_64 rfl ?_
      refine zi_if_ge (pc := 65) (tgt := 73) O dX9_side_65 (by decide) (by omega) (fun h65 => ?_) (fun h65 => ?_)
      · refine z_bipush (pc := 73) (v := iz (119)) O dX9_side_73 (by decide) ?_
        refine z_lk [(0, .ref 33), (1, .int (iz m9))] ⟨rfl, rfl, trivial⟩ ?_
        exact cut75 119 (by omega) (by omega)
      · refine z_bipush (pc := 68) (v := iz (110)) O dX9_side_68 (by decide) ?_
        refine z_goto (pc := 70) (tgt := 75) O dX9_side_70 (by decide) ?_
        refine z_lk [(0, .ref 33), (1, .int (iz m9))] ⟨rfl, rfl, trivial⟩ ?_
        exact cut75 110 (by omega) (by omega)
    have cut41 : ∀ (_ : Unit), ((¬ gI σ 33 9 = 4 ∧ m9 < 0) ∨ gI σ 33 36 = 60) → Z κ γ 2 σ 0 0 (QM κ γ (fun r τ => r = none ∧ (Fr [(33, 7), (33, 8), (33, 9), (33, 10), (33, 11), (33, 4), (33, 5), (33, 36), (51, 99999), (52, 99999), (33, 35)] σ τ) ∧ (0 ≤ gI τ 33 7 ∧ gI τ 33 7 ≤ gI τ 33 8 ∧ gI τ 33 8 ≤ gI τ 33 3 ∧ gI τ 33 3 ≤ 700 ∧ ((gI τ 33 9 = 0 ∧ gI τ 33 7 = gI τ 33 3) ∨ (gI τ 33 7 < gI τ 33 8 ∧ 1 ≤ gI τ 33 9 ∧ gI τ 33 9 ≤ 5))) ∧ ((gI σ 33 7 ≤ gI τ 33 7) ∧ 0 ≤ gI τ 33 4 ∧ (0 ≤ gI τ 33 36 ∧ gI τ 33 36 ≤ 60)) ∧ ((0 < gI τ 33 4 ∧ gI τ 33 35 = c) ∨ (gI τ 33 4 = 0 ∧ gI σ 33 7 < gI τ 33 7 ∧ gI τ 33 35 = c + 1 ∧ (gI τ 51 ((700 * b + c).toNat) = 110 ∨ (gI τ 51 ((700 * b + c).toNat) = 119 ∧ 0 ≤ gI τ 52 ((700 * b + c).toNat) ∧ gI τ 52 ((700 * b + c).toNat) < 7)))) ∧ (∀ k : Nat, (k : Int) < 700 * b + c → gI τ 51 k = gI σ 51 k ∧ gI τ 52 k = gI σ 52 k) ∧ (RfS τ tk pl m (pOp tk m j (gI σ 33 36)))) 0 0) 41 [(0, .ref 33), (1, .int (iz m9))] [] := by
      intro _ ff41_0
      refine z_aload_n (pc := 41) O dX9_side_41 rfl ?_
      refine z_callV (pc := 42) O cl_X9_269 (k9_wrong _ _ J) (by decide) (jo_33 J) kc_9 rfl rfl (Nat.le_of_ble_eq_true rfl) ⟨Nat.zero_le _, Nat.zero_le _⟩ dX9_side_42 (fun r τ5 hp => ?_)
      obtain ⟨rfl, frτ5, eτ5_0⟩ := hp
      refine z_aload_n (pc := 45) O dX9_side_45 rfl ?_
      refine z_callV (pc := 46) O cl_X9_272 (k9_isGood _ _ (frτ5.lay J)) (by decide) (jo_33 (frτ5.lay J)) kc_9 rfl rfl (Nat.le_of_ble_eq_true rfl) ⟨Nat.zero_le _, Nat.zero_le _⟩ dX9_side_46 (fun r τ7 hp => ?_)
      obtain ⟨z8, rfl, fτ7_0, fτ7_1, rfl⟩ := hp
      refine zi_if_ne (pc := 49) (tgt := 53) O dX9_side_49 (by decide) (by omega) (fun h49 => ?_) (fun h49 => ?_)
      · exfalso; omega
      · refine z_vret (pc := 52) O dX9_side_52 ?_
        exact ⟨rfl, (frτ5.mono (V := [(33, 7), (33, 8), (33, 9), (33, 10), (33, 11), (33, 4), (33, 5), (33, 36), (51, 99999), (52, 99999), (33, 35)]) rfl), (by have : gI τ5 33 7 = gI σ 33 7 := gI_iz (Fr.it frτ5 rfl (izg σ 33 7)) (rgI _ _ _); have : gI τ5 33 8 = gI σ 33 8 := gI_iz (Fr.it frτ5 rfl (izg σ 33 8)) (rgI _ _ _); have : gI τ5 33 3 = gI σ 33 3 := gI_iz (Fr.it frτ5 rfl (izg σ 33 3)) (rgI _ _ _); have : gI τ5 33 9 = gI σ 33 9 := gI_iz (Fr.it frτ5 rfl (izg σ 33 9)) (rgI _ _ _); omega), (by have : gI τ5 33 7 = gI σ 33 7 := gI_iz (Fr.it frτ5 rfl (izg σ 33 7)) (rgI _ _ _); have : gI τ5 33 36 = gI σ 33 36 := gI_iz (Fr.it frτ5 rfl (izg σ 33 36)) (rgI _ _ _); omega), (Or.inl ⟨(by omega), (by have : gI τ5 33 35 = gI σ 33 35 := gI_iz (Fr.it frτ5 rfl (izg σ 33 35)) (rgI _ _ _); omega)⟩), (fun k hk => ⟨(frτ5.g 51 k rfl), (frτ5.g 52 k rfl)⟩), (by first | (exfalso; omega) | exact RfS.no (cif_pos (by rcases ff41_0 with q | q; exact Or.inl ⟨by omega, (ff19_0.resolve_left (fun w => by omega)).2⟩; exact Or.inr (by omega))) (flt_ne (by decide)) (Rf.eq (Rf.wrong (Rf.at hg A) eτ5_0) (thn_ok rfl)))⟩
    refine z_aload_n (pc := 20) O dX9_side_20 rfl ?_
    refine zi_getv (pc := 21) (gI σ 33 9) O fl_X9_238 rfl (jo_33 J) (izg σ 33 9) dX9_side_21 ?_
    have := rgI σ 33 9
    refine z_iconst (pc := 24) (v := iz (4)) O dX9_side_24 (by decide) ?_
    refine zi_icmp_eq (pc := 25) (tgt := 32) O dX9_side_25 (by decide) (by omega) (by decide) (fun h25 => ?_) (fun h25 => ?_)
    · refine z_aload_n (pc := 32) O dX9_side_32 rfl ?_
      refine zi_getv (pc := 33) (gI σ 33 36) O fl_X9_289 rfl (jo_33 J) (izg σ 33 36) dX9_side_33 ?_
      have := rgI σ 33 36
      refine z_bipush (pc := 36) (v := iz (60)) O dX9_side_36 (by decide) ?_
      refine zi_icmp_ne (pc := 38) (tgt := 45) O dX9_side_38 (by decide) (by omega) (by decide) (fun h38 => ?_) (fun h38 => ?_)
      · refine z_aload_n (pc := 45) O dX9_side_45 rfl ?_
        refine z_callV (pc := 46) O cl_X9_272 (k9_isGood _ _ J) (by decide) (jo_33 J) kc_9 rfl rfl (Nat.le_of_ble_eq_true rfl) ⟨Nat.zero_le _, Nat.zero_le _⟩ dX9_side_46 (fun r τ9 hp => ?_)
        obtain ⟨z10, rfl, fτ9_0, fτ9_1, rfl⟩ := hp
        refine zi_if_ne (pc := 49) (tgt := 53) O dX9_side_49 (by decide) (by omega) (fun h49 => ?_) (fun h49 => ?_)
        · refine z_lk [(0, .ref 33), (1, .int (iz m9))] ⟨rfl, rfl, trivial⟩ ?_
          exact cut53 () (by omega) (by omega)
        · exfalso; omega
      · refine z_lk [(0, .ref 33), (1, .int (iz m9))] ⟨rfl, rfl, trivial⟩ ?_
        exact cut41 () (by omega)
    · refine z_iload_n (pc := 28) O dX9_side_28 rfl ?_
      refine zi_if_lt (pc := 29) (tgt := 41) O dX9_side_29 (by decide) (by omega) (fun h29 => ?_) (fun h29 => ?_)
      · refine z_lk [(0, .ref 33), (1, .int (iz m9))] ⟨rfl, rfl, trivial⟩ ?_
        exact cut41 () (by omega)
      · refine z_aload_n (pc := 32) O dX9_side_32 rfl ?_
        refine zi_getv (pc := 33) (gI σ 33 36) O fl_X9_289 rfl (jo_33 J) (izg σ 33 36) dX9_side_33 ?_
        have := rgI σ 33 36
        refine z_bipush (pc := 36) (v := iz (60)) O dX9_side_36 (by decide) ?_
        refine zi_icmp_ne (pc := 38) (tgt := 45) O dX9_side_38 (by decide) (by omega) (by decide) (fun h38 => ?_) (fun h38 => ?_)
        · refine z_aload_n (pc := 45) O dX9_side_45 rfl ?_
          refine z_callV (pc := 46) O cl_X9_272 (k9_isGood _ _ J) (by decide) (jo_33 J) kc_9 rfl rfl (Nat.le_of_ble_eq_true rfl) ⟨Nat.zero_le _, Nat.zero_le _⟩ dX9_side_46 (fun r τ11 hp => ?_)
          obtain ⟨z12, rfl, fτ11_0, fτ11_1, rfl⟩ := hp
          refine zi_if_ne (pc := 49) (tgt := 53) O dX9_side_49 (by decide) (by omega) (fun h49 => ?_) (fun h49 => ?_)
          · refine z_lk [(0, .ref 33), (1, .int (iz m9))] ⟨rfl, rfl, trivial⟩ ?_
            exact cut53 () (by omega) (by omega)
          · exfalso; omega
        · refine z_lk [(0, .ref 33), (1, .int (iz m9))] ⟨rfl, rfl, trivial⟩ ?_
          exact cut41 () (by omega)
  refine z_aload_n (pc := 0) O dX9_side_0 rfl ?_
  refine zi_getv (pc := 1) (gI σ 33 9) O fl_X9_238 rfl (jo_33 J) (izg σ 33 9) dX9_side_1 ?_
  have := rgI σ 33 9
  refine z_iconst (pc := 4) (v := iz (3)) O dX9_side_4 (by decide) ?_
  refine zi_icmp_ne (pc := 5) (tgt := 18) O dX9_side_5 (by decide) (by omega) (by decide) (fun h5 => ?_) (fun h5 => ?_)
  · refine z_iconst (pc := 18) (v := iz (-1)) O dX9_side_18 (by decide) ?_
    refine z_lk [(0, .ref 33)] ⟨rfl, trivial⟩ ?_
    exact cut19 (-1) (by omega) (Or.inr ⟨rfl, A.nofw (by omega)⟩)
  · refine z_aload_n (pc := 8) O dX9_side_8 rfl ?_
    refine zi_getLv (pc := 9) (hL σ 33 11) O fl_X9_245 rfl (jo_33 J) rfl dX9_side_9 ?_
    refine z_callS (pc := 12) O cl_X9_196 (k9_meaning3 _ _ (hL σ 33 11)) (by decide) rfl rfl (Nat.le_of_ble_eq_true rfl) ⟨Nat.zero_le _, Nat.zero_le _⟩ dX9_side_12 (fun r τ13 hp => ?_)
    obtain ⟨z14, rfl, fτ13_0, fτ13_1, rfl⟩ := hp
    refine z_goto (pc := 15) (tgt := 19) O dX9_side_15 (by decide) ?_
    refine z_lk [(0, .ref 33)] ⟨rfl, trivial⟩ ?_
    exact cut19 z14 (by omega) (fτ13_1.imp (fun q => ⟨q.1, q.2.1, by omega, by rw [← KW (by omega)]; exact q.2.2⟩) (fun q => ⟨q.1, by rw [← KW (by omega)]; exact q.2⟩))
