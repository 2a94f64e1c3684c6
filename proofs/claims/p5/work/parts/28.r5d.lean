set_option maxHeartbeats 4000000 in
set_option maxRecDepth 20000 in
theorem k9_readLine (l : Launch) (σ : VH) (b : Int) (J : Lay σ) (ht : (0 ≤ gI σ 33 7 ∧ gI σ 33 7 ≤ gI σ 33 8 ∧ gI σ 33 8 ≤ gI σ 33 3 ∧ gI σ 33 3 ≤ 700 ∧ ((gI σ 33 9 = 0 ∧ gI σ 33 7 = gI σ 33 3) ∨ (gI σ 33 7 < gI σ 33 8 ∧ 1 ≤ gI σ 33 9 ∧ gI σ 33 9 ≤ 5)))) (hg : gI σ 33 4 = 0) (eb : gI σ 33 34 = b) (hb : 0 ≤ b ∧ b ≤ 15) (rl : RLn σ b) (htk : 1 ≤ gI σ 33 9) : Ct l yX9_readLine cX9_readLine 4 none 7 0 0 [.ref 33] σ (fun r τ => r = none ∧ (Fr [(33, 7), (33, 8), (33, 9), (33, 10), (33, 11), (33, 4), (33, 5), (33, 36), (51, 99999), (52, 99999), (33, 35), (57, 99999), (33, 38), (33, 39), (39, 99999), (40, 99999), (41, 99999), (42, 99999), (43, 99999), (44, 99999), (45, 99999), (46, 99999), (47, 99999), (48, 99999), (49, 99999), (50, 99999), (53, 99999), (54, 99999), (55, 99999), (56, 99999)] σ τ) ∧ (0 ≤ gI τ 33 7 ∧ gI τ 33 7 ≤ gI τ 33 8 ∧ gI τ 33 8 ≤ gI τ 33 3 ∧ gI τ 33 3 ≤ 700 ∧ ((gI τ 33 9 = 0 ∧ gI τ 33 7 = gI τ 33 3) ∨ (gI τ 33 7 < gI τ 33 8 ∧ 1 ≤ gI τ 33 9 ∧ gI τ 33 9 ≤ 5))) ∧ (0 ≤ gI τ 33 4 ∧ (0 < gI τ 33 4 ∨ gI σ 33 7 < gI τ 33 7)) ∧ (RLn τ b) ∧ (OB σ τ b)) := by
  refine Ct.enter rfl (Nat.le_of_ble_eq_true rfl) ?_
  intro κ γ hκ O hrc hrs
  subst hκ
  obtain ⟨r39, r41, hs, rbk⟩ := id rl
  have rb2 := rbk.resolve_left (by omega)
  have h39 := r39 b.toNat (by omega)
  have h41 := r41 b.toNat (by omega)
  have cut223 : ∀ (ρ223 : VH), (0 ≤ gI ρ223 33 7 ∧ gI ρ223 33 7 ≤ gI ρ223 33 8 ∧ gI ρ223 33 8 ≤ gI ρ223 33 3 ∧ gI ρ223 33 3 ≤ 700 ∧ ((gI ρ223 33 9 = 0 ∧ gI ρ223 33 7 = gI ρ223 33 3) ∨ (gI ρ223 33 7 < gI ρ223 33 8 ∧ 1 ≤ gI ρ223 33 9 ∧ gI ρ223 33 9 ≤ 5))) → (0 ≤ gI ρ223 33 4 ∧ gI σ 33 7 < gI ρ223 33 7) → (RLn ρ223 b) → (OB σ ρ223 b) → (Fr [(33, 7), (33, 8), (33, 9), (33, 10), (33, 11), (33, 4), (33, 5), (33, 36), (51, 99999), (52, 99999), (33, 35), (57, 99999), (33, 38), (33, 39), (39, 99999), (40, 99999), (41, 99999), (42, 99999), (43, 99999), (44, 99999), (45, 99999), (46, 99999), (47, 99999), (48, 99999), (49, 99999), (50, 99999), (53, 99999), (54, 99999), (55, 99999), (56, 99999)] σ ρ223) → Z κ γ 4 ρ223 0 0 (QM κ γ (fun r τ => r = none ∧ (Fr [(33, 7), (33, 8), (33, 9), (33, 10), (33, 11), (33, 4), (33, 5), (33, 36), (51, 99999), (52, 99999), (33, 35), (57, 99999), (33, 38), (33, 39), (39, 99999), (40, 99999), (41, 99999), (42, 99999), (43, 99999), (44, 99999), (45, 99999), (46, 99999), (47, 99999), (48, 99999), (49, 99999), (50, 99999), (53, 99999), (54, 99999), (55, 99999), (56, 99999)] σ τ) ∧ (0 ≤ gI τ 33 7 ∧ gI τ 33 7 ≤ gI τ 33 8 ∧ gI τ 33 8 ≤ gI τ 33 3 ∧ gI τ 33 3 ≤ 700 ∧ ((gI τ 33 9 = 0 ∧ gI τ 33 7 = gI τ 33 3) ∨ (gI τ 33 7 < gI τ 33 8 ∧ 1 ≤ gI τ 33 9 ∧ gI τ 33 9 ≤ 5))) ∧ (0 ≤ gI τ 33 4 ∧ (0 < gI τ 33 4 ∨ gI σ 33 7 < gI τ 33 7)) ∧ (RLn τ b) ∧ (OB σ τ b)) 0 0) 223 [(0, .ref 33)] [] := by
    intro ρ223 ff223_0 ff223_1 ff223_2 ff223_3 frρ223
    have : gI ρ223 33 3 = gI σ 33 3 := gI_iz (Fr.it frρ223 rfl (izg σ 33 3)) (rgI _ _ _)
    have s223 := ff223_2.2.2.1
    have b223 := ff223_2.2.2.2
    refine z_aload_n (pc := 223) O dX9_readLine_223 rfl ?_
    refine z_callV (pc := 224) O cl_X9_272 (k9_isGood _ _ (frρ223.lay J)) (by decide) (jo_33 (frρ223.lay J)) kc_9 rfl rfl (Nat.le_of_ble_eq_true rfl) ⟨Nat.zero_le _, Nat.zero_le _⟩ dX9_readLine_224 (fun r τ1 hp => ?_)
    obtain ⟨z2, rfl, fτ1_0, fτ1_1, rfl⟩ := hp
    refine zi_if_eq (pc := 227) (tgt := 243) O dX9_readLine_227 (by decide) (by omega) (fun h227 => ?_) (fun h227 => ?_)
    · refine z_aload_n (pc := 243) O dX9_readLine_243 rfl ?_
      refine z_callV (pc := 244) O cl_X9_272 (k9_isGood _ _ (frρ223.lay J)) (by decide) (jo_33 (frρ223.lay J)) kc_9 rfl rfl (Nat.le_of_ble_eq_true rfl) ⟨Nat.zero_le _, Nat.zero_le _⟩ dX9_readLine_244 (fun r τ3 hp => ?_)
      obtain ⟨z4, rfl, fτ3_0, fτ3_1, rfl⟩ := hp
      refine zi_if_eq (pc := 247) (tgt := 254) O dX9_readLine_247 (by decide) (by omega) (fun h247 => ?_) (fun h247 => ?_)
      · refine z_vret (pc := 254) O dX9_readLine_254 ?_
        exact ⟨rfl, frρ223, (by have : gI ρ223 33 3 = gI σ 33 3 := gI_iz (Fr.it frρ223 rfl (izg σ 33 3)) (rgI _ _ _); omega), (by omega), ff223_2, ff223_3⟩
      · refine z_aload_n (pc := 250) O dX9_readLine_250 rfl ?_
        refine z_callV (pc := 251) O cl_X9_266 (k9_next _ _ (frρ223.lay J) (by have : gI ρ223 33 3 = gI σ 33 3 := gI_iz (Fr.it frρ223 rfl (izg σ 33 3)) (rgI _ _ _); omega) (by have : gI ρ223 33 3 = gI σ 33 3 := gI_iz (Fr.it frρ223 rfl (izg σ 33 3)) (rgI _ _ _); omega)) (by decide) (jo_33 (frρ223.lay J)) kc_9 rfl rfl (Nat.le_of_ble_eq_true rfl) ⟨Nat.zero_le _, Nat.zero_le _⟩ dX9_readLine_251 (fun r τ5 hp => ?_)
        obtain ⟨rfl, frτ5, eτ5_0, eτ5_1⟩ := hp
        have : gI τ5 33 3 = gI σ 33 3 := gI_iz (Fr.it frτ5 rfl (Fr.it frρ223 rfl (izg σ 33 3))) (rgI _ _ _)
        refine z_vret (pc := 254) O dX9_readLine_254 ?_
        exact ⟨rfl, (frρ223.tr (frτ5.mono (V := [(33, 7), (33, 8), (33, 9), (33, 10), (33, 11), (33, 4), (33, 5), (33, 36), (51, 99999), (52, 99999), (33, 35), (57, 99999), (33, 38), (33, 39), (39, 99999), (40, 99999), (41, 99999), (42, 99999), (43, 99999), (44, 99999), (45, 99999), (46, 99999), (47, 99999), (48, 99999), (49, 99999), (50, 99999), (53, 99999), (54, 99999), (55, 99999), (56, 99999)]) rfl)), (by have : gI τ5 33 3 = gI σ 33 3 := gI_iz (Fr.it frτ5 rfl (Fr.it frρ223 rfl (izg σ 33 3))) (rgI _ _ _); omega), (by have : gI τ5 33 4 = gI ρ223 33 4 := gI_iz (Fr.it frτ5 rfl (izg ρ223 33 4)) (rgI _ _ _); omega), ⟨fun k hk => by rw [(frτ5.g 39 k rfl)]; exact ff223_2.1 k hk, fun k hk => by rw [(frτ5.g 41 k rfl)]; exact ff223_2.2.1 k hk, (by have : gI τ5 33 36 = gI ρ223 33 36 := gI_iz (Fr.it frτ5 rfl (izg ρ223 33 36)) (rgI _ _ _); omega), (by by_cases hz : 0 < gI ρ223 33 4; exact Or.inl (by have : gI τ5 33 4 = gI ρ223 33 4 := gI_iz (Fr.it frτ5 rfl (izg ρ223 33 4)) (rgI _ _ _); omega); (obtain ⟨l1, l2, l3⟩ := ff223_2.2.2.2.resolve_left (by omega); exact Or.inr ⟨(by have : gI τ5 33 35 = gI ρ223 33 35 := gI_iz (Fr.it frτ5 rfl (izg ρ223 33 35)) (rgI _ _ _); omega), Bank.eq l2 (fun k => (frτ5.g 41 k rfl)) (fun k => (frτ5.g 42 k rfl)) (fun k => (frτ5.g 43 k rfl)) (fun k => (frτ5.g 46 k rfl)) (fun k => (frτ5.g 49 k rfl)) (fun k => (frτ5.g 51 k rfl)) (fun k => (frτ5.g 52 k rfl)), fun w w1 w2 => by rw [(frτ5.g 41 (b.toNat) rfl)] at w2; rw [(frτ5.g 43 w rfl), show gI τ5 33 35 = gI ρ223 33 35 from gI_eq (Fr.it frτ5 rfl rfl)]; exact l3 w w1 w2⟩))⟩, (ff223_3.tr (OB.fr frτ5 (fun _ => rfl) (fun _ => rfl) (fun _ => rfl) (fun _ => rfl) (fun _ => rfl) (fun _ => rfl) (fun _ => rfl)))⟩
    · refine z_aload_n (pc := 230) O dX9_readLine_230 rfl ?_
      refine z_bipush (pc := 231) (v := iz (59)) O dX9_readLine_231 (by decide) ?_
      refine z_callV (pc := 233) O cl_X9_310 (k9_is _ _ 59 (by decide) (frρ223.lay J) (by have : gI ρ223 33 3 = gI σ 33 3 := gI_iz (Fr.it frρ223 rfl (izg σ 33 3)) (rgI _ _ _); omega) (by omega)) (by decide) (jo_33 (frρ223.lay J)) kc_9 rfl rfl (Nat.le_of_ble_eq_true rfl) ⟨Nat.zero_le _, Nat.zero_le _⟩ dX9_readLine_233 (fun r τ7 hp => ?_)
      obtain ⟨z8, rfl, fτ7_0, fτ7_1, rfl⟩ := hp
      refine zi_if_ne (pc := 236) (tgt := 243) O dX9_readLine_236 (by decide) (by omega) (fun h236 => ?_) (fun h236 => ?_)
      · refine z_aload_n (pc := 243) O dX9_readLine_243 rfl ?_
        refine z_callV (pc := 244) O cl_X9_272 (k9_isGood _ _ (frρ223.lay J)) (by decide) (jo_33 (frρ223.lay J)) kc_9 rfl rfl (Nat.le_of_ble_eq_true rfl) ⟨Nat.zero_le _, Nat.zero_le _⟩ dX9_readLine_244 (fun r τ9 hp => ?_)
        obtain ⟨z10, rfl, fτ9_0, fτ9_1, rfl⟩ := hp
        refine zi_if_eq (pc := 247) (tgt := 254) O dX9_readLine_247 (by decide) (by omega) (fun h247 => ?_) (fun h247 => ?_)
        · refine z_vret (pc := 254) O dX9_readLine_254 ?_
          exact ⟨rfl, frρ223, (by have : gI ρ223 33 3 = gI σ 33 3 := gI_iz (Fr.it frρ223 rfl (izg σ 33 3)) (rgI _ _ _); omega), (by omega), ff223_2, ff223_3⟩
        · refine z_aload_n (pc := 250) O dX9_readLine_250 rfl ?_
          refine z_callV (pc := 251) O cl_X9_266 (k9_next _ _ (frρ223.lay J) (by have : gI ρ223 33 3 = gI σ 33 3 := gI_iz (Fr.it frρ223 rfl (izg σ 33 3)) (rgI _ _ _); omega) (by have : gI ρ223 33 3 = gI σ 33 3 := gI_iz (Fr.it frρ223 rfl (izg σ 33 3)) (rgI _ _ _); omega)) (by decide) (jo_33 (frρ223.lay J)) kc_9 rfl rfl (Nat.le_of_ble_eq_true rfl) ⟨Nat.zero_le _, Nat.zero_le _⟩ dX9_readLine_251 (fun r τ11 hp => ?_)
          obtain ⟨rfl, frτ11, eτ11_0, eτ11_1⟩ := hp
          have : gI τ11 33 3 = gI σ 33 3 := gI_iz (Fr.it frτ11 rfl (Fr.it frρ223 rfl (izg σ 33 3))) (rgI _ _ _)
          refine z_vret (pc := 254) O dX9_readLine_254 ?_
          exact ⟨rfl, (frρ223.tr (frτ11.mono (V := [(33, 7), (33, 8), (33, 9), (33, 10), (33, 11), (33, 4), (33, 5), (33, 36), (51, 99999), (52, 99999), (33, 35), (57, 99999), (33, 38), (33, 39), (39, 99999), (40, 99999), (41, 99999), (42, 99999), (43, 99999), (44, 99999), (45, 99999), (46, 99999), (47, 99999), (48, 99999), (49, 99999), (50, 99999), (53, 99999), (54, 99999), (55, 99999), (56, 99999)]) rfl)), (by have : gI τ11 33 3 = gI σ 33 3 := gI_iz (Fr.it frτ11 rfl (Fr.it frρ223 rfl (izg σ 33 3))) (rgI _ _ _); omega), (by have : gI τ11 33 4 = gI ρ223 33 4 := gI_iz (Fr.it frτ11 rfl (izg ρ223 33 4)) (rgI _ _ _); omega), ⟨fun k hk => by rw [(frτ11.g 39 k rfl)]; exact ff223_2.1 k hk, fun k hk => by rw [(frτ11.g 41 k rfl)]; exact ff223_2.2.1 k hk, (by have : gI τ11 33 36 = gI ρ223 33 36 := gI_iz (Fr.it frτ11 rfl (izg ρ223 33 36)) (rgI _ _ _); omega), (by by_cases hz : 0 < gI ρ223 33 4; exact Or.inl (by have : gI τ11 33 4 = gI ρ223 33 4 := gI_iz (Fr.it frτ11 rfl (izg ρ223 33 4)) (rgI _ _ _); omega); (obtain ⟨l1, l2, l3⟩ := ff223_2.2.2.2.resolve_left (by omega); exact Or.inr ⟨(by have : gI τ11 33 35 = gI ρ223 33 35 := gI_iz (Fr.it frτ11 rfl (izg ρ223 33 35)) (rgI _ _ _); omega), Bank.eq l2 (fun k => (frτ11.g 41 k rfl)) (fun k => (frτ11.g 42 k rfl)) (fun k => (frτ11.g 43 k rfl)) (fun k => (frτ11.g 46 k rfl)) (fun k => (frτ11.g 49 k rfl)) (fun k => (frτ11.g 51 k rfl)) (fun k => (frτ11.g 52 k rfl)), fun w w1 w2 => by rw [(frτ11.g 41 (b.toNat) rfl)] at w2; rw [(frτ11.g 43 w rfl), show gI τ11 33 35 = gI ρ223 33 35 from gI_eq (Fr.it frτ11 rfl rfl)]; exact l3 w w1 w2⟩))⟩, (ff223_3.tr (OB.fr frτ11 (fun _ => rfl) (fun _ => rfl) (fun _ => rfl) (fun _ => rfl) (fun _ => rfl) (fun _ => rfl) (fun _ => rfl)))⟩
      · refine z_aload_n (pc := 239) O dX9_readLine_239 rfl ?_
        refine z_callV (pc := 240) O cl_X9_269 (k9_wrong _ _ (frρ223.lay J)) (by decide) (jo_33 (frρ223.lay J)) kc_9 rfl rfl (Nat.le_of_ble_eq_true rfl) ⟨Nat.zero_le _, Nat.zero_le _⟩ dX9_readLine_240 (fun r τ13 hp => ?_)
        obtain ⟨rfl, frτ13, eτ13_0⟩ := hp
        refine z_aload_n (pc := 243) O dX9_readLine_243 rfl ?_
        refine z_callV (pc := 244) O cl_X9_272 (k9_isGood _ _ (frτ13.lay (frρ223.lay J))) (by decide) (jo_33 (frτ13.lay (frρ223.lay J))) kc_9 rfl rfl (Nat.le_of_ble_eq_true rfl) ⟨Nat.zero_le _, Nat.zero_le _⟩ dX9_readLine_244 (fun r τ15 hp => ?_)
        obtain ⟨z16, rfl, fτ15_0, fτ15_1, rfl⟩ := hp
        refine zi_if_eq (pc := 247) (tgt := 254) O dX9_readLine_247 (by decide) (by omega) (fun h247 => ?_) (fun h247 => ?_)
        · refine z_vret (pc := 254) O dX9_readLine_254 ?_
          exact ⟨rfl, (frρ223.tr (frτ13.mono (V := [(33, 7), (33, 8), (33, 9), (33, 10), (33, 11), (33, 4), (33, 5), (33, 36), (51, 99999), (52, 99999), (33, 35), (57, 99999), (33, 38), (33, 39), (39, 99999), (40, 99999), (41, 99999), (42, 99999), (43, 99999), (44, 99999), (45, 99999), (46, 99999), (47, 99999), (48, 99999), (49, 99999), (50, 99999), (53, 99999), (54, 99999), (55, 99999), (56, 99999)]) rfl)), (by have : gI τ13 33 7 = gI ρ223 33 7 := gI_iz (Fr.it frτ13 rfl (izg ρ223 33 7)) (rgI _ _ _); have : gI τ13 33 8 = gI ρ223 33 8 := gI_iz (Fr.it frτ13 rfl (izg ρ223 33 8)) (rgI _ _ _); have : gI τ13 33 3 = gI σ 33 3 := gI_iz (Fr.it frτ13 rfl (Fr.it frρ223 rfl (izg σ 33 3))) (rgI _ _ _); have : gI τ13 33 9 = gI ρ223 33 9 := gI_iz (Fr.it frτ13 rfl (izg ρ223 33 9)) (rgI _ _ _); omega), (by have : gI τ13 33 7 = gI ρ223 33 7 := gI_iz (Fr.it frτ13 rfl (izg ρ223 33 7)) (rgI _ _ _); omega), ⟨fun k hk => by rw [(frτ13.g 39 k rfl)]; exact ff223_2.1 k hk, fun k hk => by rw [(frτ13.g 41 k rfl)]; exact ff223_2.2.1 k hk, (by have : gI τ13 33 36 = gI ρ223 33 36 := gI_iz (Fr.it frτ13 rfl (izg ρ223 33 36)) (rgI _ _ _); omega), (by by_cases hz : 0 < gI τ13 33 4; exact Or.inl (by omega); (obtain ⟨l1, l2, l3⟩ := ff223_2.2.2.2.resolve_left (by omega); exact Or.inr ⟨(by have : gI τ13 33 35 = gI ρ223 33 35 := gI_iz (Fr.it frτ13 rfl (izg ρ223 33 35)) (rgI _ _ _); have : gI τ13 33 7 = gI ρ223 33 7 := gI_iz (Fr.it frτ13 rfl (izg ρ223 33 7)) (rgI _ _ _); omega), Bank.eq l2 (fun k => (frτ13.g 41 k rfl)) (fun k => (frτ13.g 42 k rfl)) (fun k => (frτ13.g 43 k rfl)) (fun k => (frτ13.g 46 k rfl)) (fun k => (frτ13.g 49 k rfl)) (fun k => (frτ13.g 51 k rfl)) (fun k => (frτ13.g 52 k rfl)), fun w w1 w2 => by rw [(frτ13.g 41 (b.toNat) rfl)] at w2; rw [(frτ13.g 43 w rfl), show gI τ13 33 35 = gI ρ223 33 35 from gI_eq (Fr.it frτ13 rfl rfl)]; exact l3 w w1 w2⟩))⟩, (ff223_3.tr (OB.fr frτ13 (fun _ => rfl) (fun _ => rfl) (fun _ => rfl) (fun _ => rfl) (fun _ => rfl) (fun _ => rfl) (fun _ => rfl)))⟩
        · refine z_aload_n (pc := 250) O dX9_readLine_250 rfl ?_
          refine z_callV (pc := 251) O cl_X9_266 (k9_next _ _ (frτ13.lay (frρ223.lay J)) (by have : gI τ13 33 3 = gI σ 33 3 := gI_iz (Fr.it frτ13 rfl (Fr.it frρ223 rfl (izg σ 33 3))) (rgI _ _ _); omega) (by have : gI τ13 33 8 = gI ρ223 33 8 := gI_iz (Fr.it frτ13 rfl (izg ρ223 33 8)) (rgI _ _ _); have : gI τ13 33 3 = gI σ 33 3 := gI_iz (Fr.it frτ13 rfl (Fr.it frρ223 rfl (izg σ 33 3))) (rgI _ _ _); omega)) (by decide) (jo_33 (frτ13.lay (frρ223.lay J))) kc_9 rfl rfl (Nat.le_of_ble_eq_true rfl) ⟨Nat.zero_le _, Nat.zero_le _⟩ dX9_readLine_251 (fun r τ17 hp => ?_)
          obtain ⟨rfl, frτ17, eτ17_0, eτ17_1⟩ := hp
          have : gI τ13 33 8 = gI ρ223 33 8 := gI_iz (Fr.it frτ13 rfl (izg ρ223 33 8)) (rgI _ _ _)
          have : gI τ17 33 3 = gI σ 33 3 := gI_iz (Fr.it frτ17 rfl (Fr.it frτ13 rfl (Fr.it frρ223 rfl (izg σ 33 3)))) (rgI _ _ _)
          refine z_vret (pc := 254) O dX9_readLine_254 ?_
          exact ⟨rfl, ((frρ223.tr (frτ13.mono (V := [(33, 7), (33, 8), (33, 9), (33, 10), (33, 11), (33, 4), (33, 5), (33, 36), (51, 99999), (52, 99999), (33, 35), (57, 99999), (33, 38), (33, 39), (39, 99999), (40, 99999), (41, 99999), (42, 99999), (43, 99999), (44, 99999), (45, 99999), (46, 99999), (47, 99999), (48, 99999), (49, 99999), (50, 99999), (53, 99999), (54, 99999), (55, 99999), (56, 99999)]) rfl)).tr (frτ17.mono (V := [(33, 7), (33, 8), (33, 9), (33, 10), (33, 11), (33, 4), (33, 5), (33, 36), (51, 99999), (52, 99999), (33, 35), (57, 99999), (33, 38), (33, 39), (39, 99999), (40, 99999), (41, 99999), (42, 99999), (43, 99999), (44, 99999), (45, 99999), (46, 99999), (47, 99999), (48, 99999), (49, 99999), (50, 99999), (53, 99999), (54, 99999), (55, 99999), (56, 99999)]) rfl)), (by have : gI τ17 33 3 = gI σ 33 3 := gI_iz (Fr.it frτ17 rfl (Fr.it frτ13 rfl (Fr.it frρ223 rfl (izg σ 33 3)))) (rgI _ _ _); omega), (by have : gI τ17 33 4 = gI τ13 33 4 := gI_iz (Fr.it frτ17 rfl (izg τ13 33 4)) (rgI _ _ _); omega), ⟨fun k hk => by rw [((frτ17.g 39 k rfl).trans (frτ13.g 39 k rfl))]; exact ff223_2.1 k hk, fun k hk => by rw [((frτ17.g 41 k rfl).trans (frτ13.g 41 k rfl))]; exact ff223_2.2.1 k hk, (by have : gI τ17 33 36 = gI ρ223 33 36 := gI_iz (Fr.it frτ17 rfl (Fr.it frτ13 rfl (izg ρ223 33 36))) (rgI _ _ _); omega), (by by_cases hz : 0 < gI τ13 33 4; exact Or.inl (by have : gI τ17 33 4 = gI τ13 33 4 := gI_iz (Fr.it frτ17 rfl (izg τ13 33 4)) (rgI _ _ _); omega); (obtain ⟨l1, l2, l3⟩ := ff223_2.2.2.2.resolve_left (by omega); exact Or.inr ⟨(by have : gI τ17 33 35 = gI ρ223 33 35 := gI_iz (Fr.it frτ17 rfl (Fr.it frτ13 rfl (izg ρ223 33 35))) (rgI _ _ _); omega), Bank.eq l2 (fun k => ((frτ17.g 41 k rfl).trans (frτ13.g 41 k rfl))) (fun k => ((frτ17.g 42 k rfl).trans (frτ13.g 42 k rfl))) (fun k => ((frτ17.g 43 k rfl).trans (frτ13.g 43 k rfl))) (fun k => ((frτ17.g 46 k rfl).trans (frτ13.g 46 k rfl))) (fun k => ((frτ17.g 49 k rfl).trans (frτ13.g 49 k rfl))) (fun k => ((frτ17.g 51 k rfl).trans (frτ13.g 51 k rfl))) (fun k => ((frτ17.g 52 k rfl).trans (frτ13.g 52 k rfl))), fun w w1 w2 => by rw [((frτ17.g 41 (b.toNat) rfl).trans (frτ13.g 41 (b.toNat) rfl))] at w2; rw [((frτ17.g 43 w rfl).trans (frτ13.g 43 w rfl)), show gI τ17 33 35 = gI ρ223 33 35 from gI_eq (Fr.it frτ17 rfl (Fr.it frτ13 rfl rfl))]; exact l3 w w1 w2⟩))⟩, (ff223_3.tr (OB.fr ((frτ13.mono (V := [(33, 4), (33, 5), (33, 7), (33, 8), (33, 9), (33, 10), (33, 11)]) rfl).tr (frτ17.mono (V := [(33, 4), (33, 5), (33, 7), (33, 8), (33, 9), (33, 10), (33, 11)]) rfl)) (fun _ => rfl) (fun _ => rfl) (fun _ => rfl) (fun _ => rfl) (fun _ => rfl) (fun _ => rfl) (fun _ => rfl)))⟩
  refine z_aload_n (pc := 0) O dX9_readLine_0 rfl ?_
  refine zi_getv (pc := 1) (gI σ 33 9) O fl_X9_238 rfl (jo_33 J) (izg σ 33 9) dX9_readLine_1 ?_
  have := rgI σ 33 9
  refine z_iconst (pc := 4) (v := iz (3)) O dX9_readLine_4 (by decide) ?_
  refine zi_icmp_ne (pc := 5) (tgt := 15) O dX9_readLine_5 (by decide) (by omega) (by decide) (fun h5 => ?_) (fun h5 => ?_)
  · refine z_lconst (pc := 15) (v := 0) O dX9_readLine_15 (by decide) ?_
    refine z_lstore_n (pc := 16) [(0, .ref 33), (1, .long 0)] O dX9_readLine_16 (by decide) rfl ?_
    refine z_lload_n (pc := 17) O dX9_readLine_17 rfl ?_
    refine z_ldc2 (pc := 18) O tw_1014 dX9_readLine_18 ?_
    refine z_lcmp (pc := 21) O dX9_readLine_21 ?_
    refine zi_lc_ne (pc := 22) (tgt := 47) O dX9_readLine_22 (by decide) (fun _ => ?_) (fun hh => absurd hh (by decide))
    refine z_lload_n (pc := 47) O dX9_readLine_47 rfl ?_
    refine z_ldc2 (pc := 48) O tw_1015 dX9_readLine_48 ?_
    refine z_lcmp (pc := 51) O dX9_readLine_51 ?_
    refine zi_lc_ne (pc := 52) (tgt := 77) O dX9_readLine_52 (by decide) (fun _ => ?_) (fun hh => absurd hh (by decide))
    refine z_lload_n (pc := 77) O dX9_readLine_77 rfl ?_
    refine z_ldc2 (pc := 78) O tw_1021 dX9_readLine_78 ?_
    refine z_lcmp (pc := 81) O dX9_readLine_81 ?_
    refine zi_lc_ne (pc := 82) (tgt := 97) O dX9_readLine_82 (by decide) (fun _ => ?_) (fun hh => absurd hh (by decide))
    refine z_lload_n (pc := 97) O dX9_readLine_97 rfl ?_
    refine z_ldc2 (pc := 98) O tw_1022 dX9_readLine_98 ?_
    refine z_lcmp (pc := 101) O dX9_readLine_101 ?_
    refine zi_lc_ne (pc := 102) (tgt := 117) O dX9_readLine_102 (by decide) (fun _ => ?_) (fun hh => absurd hh (by decide))
    refine z_lload_n (pc := 117) O dX9_readLine_117 rfl ?_
    refine z_ldc2 (pc := 118) O tw_1023 dX9_readLine_118 ?_
    refine z_lcmp (pc := 121) O dX9_readLine_121 ?_
    refine zi_lc_ne (pc := 122) (tgt := 137) O dX9_readLine_122 (by decide) (fun _ => ?_) (fun hh => absurd hh (by decide))
    refine z_iconst (pc := 137) (v := iz (1)) O dX9_readLine_137 (by decide) ?_
    refine z_istore_n (pc := 138) [(0, .ref 33), (1, .long 0), (3, .int (iz 1))] O dX9_readLine_138 (by decide) rfl ?_
    refine z_iload_n (pc := 139) O dX9_readLine_139 rfl ?_
    refine zi_if_eq (pc := 140) (tgt := 147) O dX9_readLine_140 (by decide) (by decide) (fun hh => absurd hh (by decide)) (fun _ => ?_)
    refine z_aload_n (pc := 143) O dX9_readLine_143 rfl ?_
    refine z_callV (pc := 144) O cl_X9_269 (k9_wrong _ _ J) (by decide) (jo_33 J) kc_9 rfl rfl (Nat.le_of_ble_eq_true rfl) ⟨Nat.zero_le _, Nat.zero_le _⟩ dX9_readLine_144 (fun r τ19 hp => ?_)
    obtain ⟨rfl, frτ19, eτ19_0⟩ := hp
    refine z_aload_n (pc := 147) O dX9_readLine_147 rfl ?_
    refine z_callV (pc := 148) O cl_X9_272 (k9_isGood _ _ (frτ19.lay J)) (by decide) (jo_33 (frτ19.lay J)) kc_9 rfl rfl (Nat.le_of_ble_eq_true rfl) ⟨Nat.zero_le _, Nat.zero_le _⟩ dX9_readLine_148 (fun r τ21 hp => ?_)
    obtain ⟨z22, rfl, fτ21_0, fτ21_1, rfl⟩ := hp
    refine zi_if_ne (pc := 151) (tgt := 155) O dX9_readLine_151 (by decide) (by omega) (fun h151 => ?_) (fun h151 => ?_)
    · exfalso; omega
    · refine z_vret (pc := 154) O dX9_readLine_154 ?_
      exact ⟨rfl, (frτ19.mono (V := [(33, 7), (33, 8), (33, 9), (33, 10), (33, 11), (33, 4), (33, 5), (33, 36), (51, 99999), (52, 99999), (33, 35), (57, 99999), (33, 38), (33, 39), (39, 99999), (40, 99999), (41, 99999), (42, 99999), (43, 99999), (44, 99999), (45, 99999), (46, 99999), (47, 99999), (48, 99999), (49, 99999), (50, 99999), (53, 99999), (54, 99999), (55, 99999), (56, 99999)]) rfl), (by have : gI τ19 33 7 = gI σ 33 7 := gI_iz (Fr.it frτ19 rfl (izg σ 33 7)) (rgI _ _ _); have : gI τ19 33 8 = gI σ 33 8 := gI_iz (Fr.it frτ19 rfl (izg σ 33 8)) (rgI _ _ _); have : gI τ19 33 3 = gI σ 33 3 := gI_iz (Fr.it frτ19 rfl (izg σ 33 3)) (rgI _ _ _); have : gI τ19 33 9 = gI σ 33 9 := gI_iz (Fr.it frτ19 rfl (izg σ 33 9)) (rgI _ _ _); omega), (by have : gI τ19 33 7 = gI σ 33 7 := gI_iz (Fr.it frτ19 rfl (izg σ 33 7)) (rgI _ _ _); omega), ⟨fun k hk => by rw [(frτ19.g 39 k rfl)]; exact r39 k hk, fun k hk => by rw [(frτ19.g 41 k rfl)]; exact r41 k hk, (by have : gI τ19 33 36 = gI σ 33 36 := gI_iz (Fr.it frτ19 rfl (izg σ 33 36)) (rgI _ _ _); omega), Or.inl (by omega)⟩, (OB.fr frτ19 (fun _ => rfl) (fun _ => rfl) (fun _ => rfl) (fun _ => rfl) (fun _ => rfl) (fun _ => rfl) (fun _ => rfl))⟩
  · refine z_aload_n (pc := 8) O dX9_readLine_8 rfl ?_
    refine zi_getLv (pc := 9) (hL σ 33 11) O fl_X9_245 rfl (jo_33 J) rfl dX9_readLine_9 ?_
    refine z_goto (pc := 12) (tgt := 16) O dX9_readLine_12 (by decide) ?_
    refine z_topl (pc := 16) (fun w23 ew23 => ?_)
    refine z_lstore_n (pc := 16) [(0, .ref 33), (1, .long w23)] O dX9_readLine_16 (by decide) rfl ?_
    refine z_lload_n (pc := 17) O dX9_readLine_17 rfl ?_
    refine z_ldc2 (pc := 18) O tw_1014 dX9_readLine_18 ?_
    refine z_lcmp (pc := 21) O dX9_readLine_21 ?_
    refine zi_lc_ne (pc := 22) (tgt := 47) O dX9_readLine_22 (by decide) (fun h22 => ?_) (fun h22 => ?_)
    · refine z_lload_n (pc := 47) O dX9_readLine_47 rfl ?_
      refine z_ldc2 (pc := 48) O tw_1015 dX9_readLine_48 ?_
      refine z_lcmp (pc := 51) O dX9_readLine_51 ?_
      refine zi_lc_ne (pc := 52) (tgt := 77) O dX9_readLine_52 (by decide) (fun h52 => ?_) (fun h52 => ?_)
      · refine z_lload_n (pc := 77) O dX9_readLine_77 rfl ?_
        refine z_ldc2 (pc := 78) O tw_1021 dX9_readLine_78 ?_
        refine z_lcmp (pc := 81) O dX9_readLine_81 ?_
        refine zi_lc_ne (pc := 82) (tgt := 97) O dX9_readLine_82 (by decide) (fun h82 => ?_) (fun h82 => ?_)
        · refine z_lload_n (pc := 97) O dX9_readLine_97 rfl ?_
          refine z_ldc2 (pc := 98) O tw_1022 dX9_readLine_98 ?_
          refine z_lcmp (pc := 101) O dX9_readLine_101 ?_
          refine zi_lc_ne (pc := 102) (tgt := 117) O dX9_readLine_102 (by decide) (fun h102 => ?_) (fun h102 => ?_)
          · refine z_lload_n (pc := 117) O dX9_readLine_117 rfl ?_
            refine z_ldc2 (pc := 118) O tw_1023 dX9_readLine_118 ?_
            refine z_lcmp (pc := 121) O dX9_readLine_121 ?_
            refine zi_lc_ne (pc := 122) (tgt := 137) O dX9_readLine_122 (by decide) (fun h122 => ?_) (fun h122 => ?_)
            · refine z_iconst (pc := 137) (v := iz (1)) O dX9_readLine_137 (by decide) ?_
              refine z_istore_n (pc := 138) [(0, .ref 33), (1, .long w23), (3, .int (iz 1))] O dX9_readLine_138 (by decide) rfl ?_
              refine z_iload_n (pc := 139) O dX9_readLine_139 rfl ?_
              refine zi_if_eq (pc := 140) (tgt := 147) O dX9_readLine_140 (by decide) (by decide) (fun hh => absurd hh (by decide)) (fun _ => ?_)
              refine z_aload_n (pc := 143) O dX9_readLine_143 rfl ?_
              refine z_callV (pc := 144) O cl_X9_269 (k9_wrong _ _ J) (by decide) (jo_33 J) kc_9 rfl rfl (Nat.le_of_ble_eq_true rfl) ⟨Nat.zero_le _, Nat.zero_le _⟩ dX9_readLine_144 (fun r τ24 hp => ?_)
              obtain ⟨rfl, frτ24, eτ24_0⟩ := hp
              refine z_aload_n (pc := 147) O dX9_readLine_147 rfl ?_
              refine z_callV (pc := 148) O cl_X9_272 (k9_isGood _ _ (frτ24.lay J)) (by decide) (jo_33 (frτ24.lay J)) kc_9 rfl rfl (Nat.le_of_ble_eq_true rfl) ⟨Nat.zero_le _, Nat.zero_le _⟩ dX9_readLine_148 (fun r τ26 hp => ?_)
              obtain ⟨z27, rfl, fτ26_0, fτ26_1, rfl⟩ := hp
              refine zi_if_ne (pc := 151) (tgt := 155) O dX9_readLine_151 (by decide) (by omega) (fun h151 => ?_) (fun h151 => ?_)
              · exfalso; omega
              · refine z_vret (pc := 154) O dX9_readLine_154 ?_
                exact ⟨rfl, (frτ24.mono (V := [(33, 7), (33, 8), (33, 9), (33, 10), (33, 11), (33, 4), (33, 5), (33, 36), (51, 99999), (52, 99999), (33, 35), (57, 99999), (33, 38), (33, 39), (39, 99999), (40, 99999), (41, 99999), (42, 99999), (43, 99999), (44, 99999), (45, 99999), (46, 99999), (47, 99999), (48, 99999), (49, 99999), (50, 99999), (53, 99999), (54, 99999), (55, 99999), (56, 99999)]) rfl), (by have : gI τ24 33 7 = gI σ 33 7 := gI_iz (Fr.it frτ24 rfl (izg σ 33 7)) (rgI _ _ _); have : gI τ24 33 8 = gI σ 33 8 := gI_iz (Fr.it frτ24 rfl (izg σ 33 8)) (rgI _ _ _); have : gI τ24 33 3 = gI σ 33 3 := gI_iz (Fr.it frτ24 rfl (izg σ 33 3)) (rgI _ _ _); have : gI τ24 33 9 = gI σ 33 9 := gI_iz (Fr.it frτ24 rfl (izg σ 33 9)) (rgI _ _ _); omega), (by have : gI τ24 33 7 = gI σ 33 7 := gI_iz (Fr.it frτ24 rfl (izg σ 33 7)) (rgI _ _ _); omega), ⟨fun k hk => by rw [(frτ24.g 39 k rfl)]; exact r39 k hk, fun k hk => by rw [(frτ24.g 41 k rfl)]; exact r41 k hk, (by have : gI τ24 33 36 = gI σ 33 36 := gI_iz (Fr.it frτ24 rfl (izg σ 33 36)) (rgI _ _ _); omega), Or.inl (by omega)⟩, (OB.fr frτ24 (fun _ => rfl) (fun _ => rfl) (fun _ => rfl) (fun _ => rfl) (fun _ => rfl) (fun _ => rfl) (fun _ => rfl))⟩
            · refine z_aload_n (pc := 125) O dX9_readLine_125 rfl ?_
              refine z_getR (pc := 126) 56 O fl_X9_83 rfl (jo_33 J) (jr_33_32 J) dX9_readLine_126 ?_
              refine z_aload_n (pc := 129) O dX9_readLine_129 rfl ?_
              refine zi_getv (pc := 130) (b) O fl_X9_283 rfl (jo_33 J) ((izg σ 33 34).trans (congrArg iz eb)) dX9_readLine_130 ?_
              refine zi_zaldv (pc := 133) (b.toNat) (gI σ 56 (b.toNat)) O (ja_56 J) (by omega) (by omega) (by omega) (izg σ 56 (b.toNat)) dX9_readLine_133 ?_
              have := rgI σ 56 (b.toNat)
              refine z_goto (pc := 134) (tgt := 138) O dX9_readLine_134 (by decide) ?_
              refine z_istore_n (pc := 138) [(0, .ref 33), (1, .long w23), (3, .int (iz (gI σ 56 (b.toNat))))] O dX9_readLine_138 (by decide) rfl ?_
              refine z_iload_n (pc := 139) O dX9_readLine_139 rfl ?_
              refine zi_if_eq (pc := 140) (tgt := 147) O dX9_readLine_140 (by decide) (by omega) (fun h140 => ?_) (fun h140 => ?_)
              · refine z_aload_n (pc := 147) O dX9_readLine_147 rfl ?_
                refine z_callV (pc := 148) O cl_X9_272 (k9_isGood _ _ J) (by decide) (jo_33 J) kc_9 rfl rfl (Nat.le_of_ble_eq_true rfl) ⟨Nat.zero_le _, Nat.zero_le _⟩ dX9_readLine_148 (fun r τ28 hp => ?_)
                obtain ⟨z29, rfl, fτ28_0, fτ28_1, rfl⟩ := hp
                refine zi_if_ne (pc := 151) (tgt := 155) O dX9_readLine_151 (by decide) (by omega) (fun h151 => ?_) (fun h151 => ?_)
                · refine z_aload_n (pc := 155) O dX9_readLine_155 rfl ?_
                  refine z_callV (pc := 156) O cl_X9_266 (k9_next _ _ J (by omega) (by omega)) (by decide) (jo_33 J) kc_9 rfl rfl (Nat.le_of_ble_eq_true rfl) ⟨Nat.zero_le _, Nat.zero_le _⟩ dX9_readLine_156 (fun r τ30 hp => ?_)
                  obtain ⟨rfl, frτ30, eτ30_0, eτ30_1⟩ := hp
                  have : gI τ30 33 3 = gI σ 33 3 := gI_iz (Fr.it frτ30 rfl (izg σ 33 3)) (rgI _ _ _)
                  refine z_lload_n (pc := 159) O dX9_readLine_159 rfl ?_
                  refine z_ldc2 (pc := 160) O tw_1014 dX9_readLine_160 ?_
                  refine z_lcmp (pc := 163) O dX9_readLine_163 ?_
                  refine zi_lc_ne (pc := 164) (tgt := 174) O dX9_readLine_164 (by decide) (fun _ => ?_) (fun hh => absurd (h122.symm.trans hh) (by decide))
                  refine z_lload_n (pc := 174) O dX9_readLine_174 rfl ?_
                  refine z_ldc2 (pc := 175) O tw_1015 dX9_readLine_175 ?_
                  refine z_lcmp (pc := 178) O dX9_readLine_178 ?_
                  refine zi_lc_ne (pc := 179) (tgt := 189) O dX9_readLine_179 (by decide) (fun _ => ?_) (fun hh => absurd (h122.symm.trans hh) (by decide))
                  refine z_lload_n (pc := 189) O dX9_readLine_189 rfl ?_
                  refine z_ldc2 (pc := 190) O tw_1021 dX9_readLine_190 ?_
                  refine z_lcmp (pc := 193) O dX9_readLine_193 ?_
                  refine zi_lc_ne (pc := 194) (tgt := 204) O dX9_readLine_194 (by decide) (fun _ => ?_) (fun hh => absurd (h122.symm.trans hh) (by decide))
                  refine z_lload_n (pc := 204) O dX9_readLine_204 rfl ?_
                  refine z_ldc2 (pc := 205) O tw_1022 dX9_readLine_205 ?_
                  refine z_lcmp (pc := 208) O dX9_readLine_208 ?_
                  refine zi_lc_ne (pc := 209) (tgt := 219) O dX9_readLine_209 (by decide) (fun _ => ?_) (fun hh => absurd (h122.symm.trans hh) (by decide))
                  refine z_aload_n (pc := 219) O dX9_readLine_219 rfl ?_
                  refine z_callV (pc := 220) O cl_X9_307 (k9_readTerms _ _ b (frτ30.lay J) (by have : gI τ30 33 3 = gI σ 33 3 := gI_iz (Fr.it frτ30 rfl (izg σ 33 3)) (rgI _ _ _); omega) (by have : gI τ30 33 4 = gI σ 33 4 := gI_iz (Fr.it frτ30 rfl (izg σ 33 4)) (rgI _ _ _); omega) (by have : gI τ30 33 34 = b := gI_iz (Fr.it frτ30 rfl ((izg σ 33 34).trans (congrArg iz eb))) (by omega); omega) (by omega)) (by decide) (jo_33 (frτ30.lay J)) kc_9 rfl rfl (Nat.le_of_ble_eq_true rfl) ⟨Nat.zero_le _, Nat.zero_le _⟩ dX9_readLine_220 (fun r τ32 hp => ?_)
                  obtain ⟨rfl, frτ32, eτ32_0, eτ32_1, eτ32_2, eτ32_3, eτ32_4⟩ := hp
                  have : gI τ32 33 3 = gI σ 33 3 := gI_iz (Fr.it frτ32 rfl (Fr.it frτ30 rfl (izg σ 33 3))) (rgI _ _ _)
                  have : gI τ30 33 4 = gI σ 33 4 := gI_iz (Fr.it frτ30 rfl (izg σ 33 4)) (rgI _ _ _)
                  refine z_lk [(0, .ref 33)] ⟨rfl, trivial⟩ ?_
                  exact cut223 τ32 (by have : gI τ32 33 3 = gI σ 33 3 := gI_iz (Fr.it frτ32 rfl (Fr.it frτ30 rfl (izg σ 33 3))) (rgI _ _ _); omega) (by omega) ⟨(fun k hk => by rw [((frτ32.g 39 k rfl).trans (frτ30.g 39 k rfl))]; exact r39 k hk), (fun k hk => by rw [((frτ32.g 41 k rfl).trans (frτ30.g 41 k rfl))]; exact r41 k hk), (by have : gI τ32 33 36 = gI σ 33 36 := gI_iz (Fr.it frτ32 rfl (Fr.it frτ30 rfl (izg σ 33 36))) (rgI _ _ _); omega), (by by_cases hz : 0 < gI τ32 33 4; exact Or.inl (by omega); exact Or.inr ⟨(by have : gI τ32 33 35 = gI σ 33 35 := gI_iz (Fr.it frτ32 rfl (Fr.it frτ30 rfl (izg σ 33 35))) (rgI _ _ _); omega), Bank.terms rb2.2.1 (fun k => ((frτ32.g 41 k rfl).trans (frτ30.g 41 k rfl))) (fun k => ((frτ32.g 42 k rfl).trans (frτ30.g 42 k rfl))) (fun k => ((frτ32.g 43 k rfl).trans (frτ30.g 43 k rfl))) (fun k => ((frτ32.g 46 k rfl).trans (frτ30.g 46 k rfl))) (fun k => ((frτ32.g 51 k rfl).trans (frτ30.g 51 k rfl))) (fun k => ((frτ32.g 52 k rfl).trans (frτ30.g 52 k rfl))) (eτ32_3.resolve_left (by omega)), fun w w1 w2 => by rw [((frτ32.g 41 (b.toNat) rfl).trans (frτ30.g 41 (b.toNat) rfl))] at w2; rw [((frτ32.g 43 w rfl).trans (frτ30.g 43 w rfl)), show gI τ32 33 35 = gI σ 33 35 from gI_eq (Fr.it frτ32 rfl (Fr.it frτ30 rfl rfl))]; exact rb2.2.2 w w1 w2⟩)⟩ ⟨fun k hk => ⟨((frτ32.g 41 k rfl).trans (frτ30.g 41 k rfl)), ((eτ32_4 k (by omega)).trans (frτ30.g 49 k rfl))⟩, fun k hk => ⟨((frτ32.g 42 k rfl).trans (frτ30.g 42 k rfl)), ((frτ32.g 43 k rfl).trans (frτ30.g 43 k rfl))⟩, fun k hk => ((frτ32.g 46 k rfl).trans (frτ30.g 46 k rfl)), fun k hk => ⟨((frτ32.g 51 k rfl).trans (frτ30.g 51 k rfl)), ((frτ32.g 52 k rfl).trans (frτ30.g 52 k rfl))⟩⟩ ((frτ30.mono (V := [(33, 7), (33, 8), (33, 9), (33, 10), (33, 11), (33, 4), (33, 5), (33, 36), (51, 99999), (52, 99999), (33, 35), (57, 99999), (33, 38), (33, 39), (39, 99999), (40, 99999), (41, 99999), (42, 99999), (43, 99999), (44, 99999), (45, 99999), (46, 99999), (47, 99999), (48, 99999), (49, 99999), (50, 99999), (53, 99999), (54, 99999), (55, 99999), (56, 99999)]) rfl).tr (frτ32.mono (V := [(33, 7), (33, 8), (33, 9), (33, 10), (33, 11), (33, 4), (33, 5), (33, 36), (51, 99999), (52, 99999), (33, 35), (57, 99999), (33, 38), (33, 39), (39, 99999), (40, 99999), (41, 99999), (42, 99999), (43, 99999), (44, 99999), (45, 99999), (46, 99999), (47, 99999), (48, 99999), (49, 99999), (50, 99999), (53, 99999), (54, 99999), (55, 99999), (56, 99999)]) rfl))
                · exfalso; omega
              · refine z_aload_n (pc := 143) O dX9_readLine_143 rfl ?_
                refine z_callV (pc := 144) O cl_X9_269 (k9_wrong _ _ J) (by decide) (jo_33 J) kc_9 rfl rfl (Nat.le_of_ble_eq_true rfl) ⟨Nat.zero_le _, Nat.zero_le _⟩ dX9_readLine_144 (fun r τ34 hp => ?_)
                obtain ⟨rfl, frτ34, eτ34_0⟩ := hp
                refine z_aload_n (pc := 147) O dX9_readLine_147 rfl ?_
                refine z_callV (pc := 148) O cl_X9_272 (k9_isGood _ _ (frτ34.lay J)) (by decide) (jo_33 (frτ34.lay J)) kc_9 rfl rfl (Nat.le_of_ble_eq_true rfl) ⟨Nat.zero_le _, Nat.zero_le _⟩ dX9_readLine_148 (fun r τ36 hp => ?_)
                obtain ⟨z37, rfl, fτ36_0, fτ36_1, rfl⟩ := hp
                refine zi_if_ne (pc := 151) (tgt := 155) O dX9_readLine_151 (by decide) (by omega) (fun h151 => ?_) (fun h151 => ?_)
                · exfalso; omega
                · refine z_vret (pc := 154) O dX9_readLine_154 ?_
                  exact ⟨rfl, (frτ34.mono (V := [(33, 7), (33, 8), (33, 9), (33, 10), (33, 11), (33, 4), (33, 5), (33, 36), (51, 99999), (52, 99999), (33, 35), (57, 99999), (33, 38), (33, 39), (39, 99999), (40, 99999), (41, 99999), (42, 99999), (43, 99999), (44, 99999), (45, 99999), (46, 99999), (47, 99999), (48, 99999), (49, 99999), (50, 99999), (53, 99999), (54, 99999), (55, 99999), (56, 99999)]) rfl), (by have : gI τ34 33 7 = gI σ 33 7 := gI_iz (Fr.it frτ34 rfl (izg σ 33 7)) (rgI _ _ _); have : gI τ34 33 8 = gI σ 33 8 := gI_iz (Fr.it frτ34 rfl (izg σ 33 8)) (rgI _ _ _); have : gI τ34 33 3 = gI σ 33 3 := gI_iz (Fr.it frτ34 rfl (izg σ 33 3)) (rgI _ _ _); have : gI τ34 33 9 = gI σ 33 9 := gI_iz (Fr.it frτ34 rfl (izg σ 33 9)) (rgI _ _ _); omega), (by have : gI τ34 33 7 = gI σ 33 7 := gI_iz (Fr.it frτ34 rfl (izg σ 33 7)) (rgI _ _ _); omega), ⟨fun k hk => by rw [(frτ34.g 39 k rfl)]; exact r39 k hk, fun k hk => by rw [(frτ34.g 41 k rfl)]; exact r41 k hk, (by have : gI τ34 33 36 = gI σ 33 36 := gI_iz (Fr.it frτ34 rfl (izg σ 33 36)) (rgI _ _ _); omega), Or.inl (by omega)⟩, (OB.fr frτ34 (fun _ => rfl) (fun _ => rfl) (fun _ => rfl) (fun _ => rfl) (fun _ => rfl) (fun _ => rfl) (fun _ => rfl))⟩
          · refine z_aload_n (pc := 105) O dX9_readLine_105 rfl ?_
            refine z_getR (pc := 106) 55 O fl_X9_80 rfl (jo_33 J) (jr_33_31 J) dX9_readLine_106 ?_
            refine z_aload_n (pc := 109) O dX9_readLine_109 rfl ?_
            refine zi_getv (pc := 110) (b) O fl_X9_283 rfl (jo_33 J) ((izg σ 33 34).trans (congrArg iz eb)) dX9_readLine_110 ?_
            refine zi_zaldv (pc := 113) (b.toNat) (gI σ 55 (b.toNat)) O (ja_55 J) (by omega) (by omega) (by omega) (izg σ 55 (b.toNat)) dX9_readLine_113 ?_
            have := rgI σ 55 (b.toNat)
            refine z_goto (pc := 114) (tgt := 138) O dX9_readLine_114 (by decide) ?_
            refine z_istore_n (pc := 138) [(0, .ref 33), (1, .long w23), (3, .int (iz (gI σ 55 (b.toNat))))] O dX9_readLine_138 (by decide) rfl ?_
            refine z_iload_n (pc := 139) O dX9_readLine_139 rfl ?_
            refine zi_if_eq (pc := 140) (tgt := 147) O dX9_readLine_140 (by decide) (by omega) (fun h140 => ?_) (fun h140 => ?_)
            · refine z_aload_n (pc := 147) O dX9_readLine_147 rfl ?_
              refine z_callV (pc := 148) O cl_X9_272 (k9_isGood _ _ J) (by decide) (jo_33 J) kc_9 rfl rfl (Nat.le_of_ble_eq_true rfl) ⟨Nat.zero_le _, Nat.zero_le _⟩ dX9_readLine_148 (fun r τ38 hp => ?_)
              obtain ⟨z39, rfl, fτ38_0, fτ38_1, rfl⟩ := hp
              refine zi_if_ne (pc := 151) (tgt := 155) O dX9_readLine_151 (by decide) (by omega) (fun h151 => ?_) (fun h151 => ?_)
              · refine z_aload_n (pc := 155) O dX9_readLine_155 rfl ?_
                refine z_callV (pc := 156) O cl_X9_266 (k9_next _ _ J (by omega) (by omega)) (by decide) (jo_33 J) kc_9 rfl rfl (Nat.le_of_ble_eq_true rfl) ⟨Nat.zero_le _, Nat.zero_le _⟩ dX9_readLine_156 (fun r τ40 hp => ?_)
                obtain ⟨rfl, frτ40, eτ40_0, eτ40_1⟩ := hp
                have : gI τ40 33 3 = gI σ 33 3 := gI_iz (Fr.it frτ40 rfl (izg σ 33 3)) (rgI _ _ _)
                refine z_lload_n (pc := 159) O dX9_readLine_159 rfl ?_
                refine z_ldc2 (pc := 160) O tw_1014 dX9_readLine_160 ?_
                refine z_lcmp (pc := 163) O dX9_readLine_163 ?_
                refine zi_lc_ne (pc := 164) (tgt := 174) O dX9_readLine_164 (by decide) (fun _ => ?_) (fun hh => absurd (h102.symm.trans hh) (by decide))
                refine z_lload_n (pc := 174) O dX9_readLine_174 rfl ?_
                refine z_ldc2 (pc := 175) O tw_1015 dX9_readLine_175 ?_
                refine z_lcmp (pc := 178) O dX9_readLine_178 ?_
                refine zi_lc_ne (pc := 179) (tgt := 189) O dX9_readLine_179 (by decide) (fun _ => ?_) (fun hh => absurd (h102.symm.trans hh) (by decide))
                refine z_lload_n (pc := 189) O dX9_readLine_189 rfl ?_
                refine z_ldc2 (pc := 190) O tw_1021 dX9_readLine_190 ?_
                refine z_lcmp (pc := 193) O dX9_readLine_193 ?_
                refine zi_lc_ne (pc := 194) (tgt := 204) O dX9_readLine_194 (by decide) (fun _ => ?_) (fun hh => absurd (h102.symm.trans hh) (by decide))
                refine z_lload_n (pc := 204) O dX9_readLine_204 rfl ?_
                refine z_ldc2 (pc := 205) O tw_1022 dX9_readLine_205 ?_
                refine z_lcmp (pc := 208) O dX9_readLine_208 ?_
                refine zi_lc_ne (pc := 209) (tgt := 219) O dX9_readLine_209 (by decide) (fun hh => absurd h102 hh) (fun _ => ?_)
                refine z_aload_n (pc := 212) O dX9_readLine_212 rfl ?_
                refine z_callV (pc := 213) O cl_X9_304 (k9_readNeed _ _ b (frτ40.lay J) (by have : gI τ40 33 3 = gI σ 33 3 := gI_iz (Fr.it frτ40 rfl (izg σ 33 3)) (rgI _ _ _); omega) (by have : gI τ40 33 4 = gI σ 33 4 := gI_iz (Fr.it frτ40 rfl (izg σ 33 4)) (rgI _ _ _); omega) (by have : gI τ40 33 34 = b := gI_iz (Fr.it frτ40 rfl ((izg σ 33 34).trans (congrArg iz eb))) (by omega); omega) (by omega)) (by decide) (jo_33 (frτ40.lay J)) kc_9 rfl rfl (Nat.le_of_ble_eq_true rfl) ⟨Nat.zero_le _, Nat.zero_le _⟩ dX9_readLine_213 (fun r τ42 hp => ?_)
                obtain ⟨rfl, frτ42, eτ42_0, eτ42_1, eτ42_2⟩ := hp
                have : gI τ42 33 3 = gI σ 33 3 := gI_iz (Fr.it frτ42 rfl (Fr.it frτ40 rfl (izg σ 33 3))) (rgI _ _ _)
                have : gI τ40 33 4 = gI σ 33 4 := gI_iz (Fr.it frτ40 rfl (izg σ 33 4)) (rgI _ _ _)
                refine z_goto (pc := 216) (tgt := 223) O dX9_readLine_216 (by decide) ?_
                refine z_lk [(0, .ref 33)] ⟨rfl, trivial⟩ ?_
                exact cut223 τ42 (by have : gI τ42 33 3 = gI σ 33 3 := gI_iz (Fr.it frτ42 rfl (Fr.it frτ40 rfl (izg σ 33 3))) (rgI _ _ _); omega) (by omega) ⟨(fun k hk => by rw [((frτ42.g 39 k rfl).trans (frτ40.g 39 k rfl))]; exact r39 k hk), (fun k hk => by rw [((frτ42.g 41 k rfl).trans (frτ40.g 41 k rfl))]; exact r41 k hk), (by have : gI τ42 33 36 = gI σ 33 36 := gI_iz (Fr.it frτ42 rfl (Fr.it frτ40 rfl (izg σ 33 36))) (rgI _ _ _); omega), (by by_cases hz : 0 < gI τ42 33 4; exact Or.inl (by omega); exact Or.inr ⟨(by have : gI τ42 33 35 = gI σ 33 35 := gI_iz (Fr.it frτ42 rfl (Fr.it frτ40 rfl (izg σ 33 35))) (rgI _ _ _); omega), Bank.eq rb2.2.1 (fun k => ((frτ42.g 41 k rfl).trans (frτ40.g 41 k rfl))) (fun k => ((frτ42.g 42 k rfl).trans (frτ40.g 42 k rfl))) (fun k => ((frτ42.g 43 k rfl).trans (frτ40.g 43 k rfl))) (fun k => ((frτ42.g 46 k rfl).trans (frτ40.g 46 k rfl))) (fun k => ((frτ42.g 49 k rfl).trans (frτ40.g 49 k rfl))) (fun k => ((frτ42.g 51 k rfl).trans (frτ40.g 51 k rfl))) (fun k => ((frτ42.g 52 k rfl).trans (frτ40.g 52 k rfl))), fun w w1 w2 => by rw [((frτ42.g 41 (b.toNat) rfl).trans (frτ40.g 41 (b.toNat) rfl))] at w2; rw [((frτ42.g 43 w rfl).trans (frτ40.g 43 w rfl)), show gI τ42 33 35 = gI σ 33 35 from gI_eq (Fr.it frτ42 rfl (Fr.it frτ40 rfl rfl))]; exact rb2.2.2 w w1 w2⟩)⟩ ⟨fun k hk => ⟨((frτ42.g 41 k rfl).trans (frτ40.g 41 k rfl)), ((frτ42.g 49 k rfl).trans (frτ40.g 49 k rfl))⟩, fun k hk => ⟨((frτ42.g 42 k rfl).trans (frτ40.g 42 k rfl)), ((frτ42.g 43 k rfl).trans (frτ40.g 43 k rfl))⟩, fun k hk => ((frτ42.g 46 k rfl).trans (frτ40.g 46 k rfl)), fun k hk => ⟨((frτ42.g 51 k rfl).trans (frτ40.g 51 k rfl)), ((frτ42.g 52 k rfl).trans (frτ40.g 52 k rfl))⟩⟩ ((frτ40.mono (V := [(33, 7), (33, 8), (33, 9), (33, 10), (33, 11), (33, 4), (33, 5), (33, 36), (51, 99999), (52, 99999), (33, 35), (57, 99999), (33, 38), (33, 39), (39, 99999), (40, 99999), (41, 99999), (42, 99999), (43, 99999), (44, 99999), (45, 99999), (46, 99999), (47, 99999), (48, 99999), (49, 99999), (50, 99999), (53, 99999), (54, 99999), (55, 99999), (56, 99999)]) rfl).tr (frτ42.mono (V := [(33, 7), (33, 8), (33, 9), (33, 10), (33, 11), (33, 4), (33, 5), (33, 36), (51, 99999), (52, 99999), (33, 35), (57, 99999), (33, 38), (33, 39), (39, 99999), (40, 99999), (41, 99999), (42, 99999), (43, 99999), (44, 99999), (45, 99999), (46, 99999), (47, 99999), (48, 99999), (49, 99999), (50, 99999), (53, 99999), (54, 99999), (55, 99999), (56, 99999)]) rfl))
              · exfalso; omega
            · refine z_aload_n (pc := 143) O dX9_readLine_143 rfl ?_
              refine z_callV (pc := 144) O cl_X9_269 (k9_wrong _ _ J) (by decide) (jo_33 J) kc_9 rfl rfl (Nat.le_of_ble_eq_true rfl) ⟨Nat.zero_le _, Nat.zero_le _⟩ dX9_readLine_144 (fun r τ44 hp => ?_)
              obtain ⟨rfl, frτ44, eτ44_0⟩ := hp
              refine z_aload_n (pc := 147) O dX9_readLine_147 rfl ?_
              refine z_callV (pc := 148) O cl_X9_272 (k9_isGood _ _ (frτ44.lay J)) (by decide) (jo_33 (frτ44.lay J)) kc_9 rfl rfl (Nat.le_of_ble_eq_true rfl) ⟨Nat.zero_le _, Nat.zero_le _⟩ dX9_readLine_148 (fun r τ46 hp => ?_)
              obtain ⟨z47, rfl, fτ46_0, fτ46_1, rfl⟩ := hp
              refine zi_if_ne (pc := 151) (tgt := 155) O dX9_readLine_151 (by decide) (by omega) (fun h151 => ?_) (fun h151 => ?_)
              · exfalso; omega
              · refine z_vret (pc := 154) O dX9_readLine_154 ?_
                exact ⟨rfl, (frτ44.mono (V := [(33, 7), (33, 8), (33, 9), (33, 10), (33, 11), (33, 4), (33, 5), (33, 36), (51, 99999), (52, 99999), (33, 35), (57, 99999), (33, 38), (33, 39), (39, 99999), (40, 99999), (41, 99999), (42, 99999), (43, 99999), (44, 99999), (45, 99999), (46, 99999), (47, 99999), (48, 99999), (49, 99999), (50, 99999), (53, 99999), (54, 99999), (55, 99999), (56, 99999)]) rfl), (by have : gI τ44 33 7 = gI σ 33 7 := gI_iz (Fr.it frτ44 rfl (izg σ 33 7)) (rgI _ _ _); have : gI τ44 33 8 = gI σ 33 8 := gI_iz (Fr.it frτ44 rfl (izg σ 33 8)) (rgI _ _ _); have : gI τ44 33 3 = gI σ 33 3 := gI_iz (Fr.it frτ44 rfl (izg σ 33 3)) (rgI _ _ _); have : gI τ44 33 9 = gI σ 33 9 := gI_iz (Fr.it frτ44 rfl (izg σ 33 9)) (rgI _ _ _); omega), (by have : gI τ44 33 7 = gI σ 33 7 := gI_iz (Fr.it frτ44 rfl (izg σ 33 7)) (rgI _ _ _); omega), ⟨fun k hk => by rw [(frτ44.g 39 k rfl)]; exact r39 k hk, fun k hk => by rw [(frτ44.g 41 k rfl)]; exact r41 k hk, (by have : gI τ44 33 36 = gI σ 33 36 := gI_iz (Fr.it frτ44 rfl (izg σ 33 36)) (rgI _ _ _); omega), Or.inl (by omega)⟩, (OB.fr frτ44 (fun _ => rfl) (fun _ => rfl) (fun _ => rfl) (fun _ => rfl) (fun _ => rfl) (fun _ => rfl) (fun _ => rfl))⟩
        · refine z_aload_n (pc := 85) O dX9_readLine_85 rfl ?_
          refine z_getR (pc := 86) 54 O fl_X9_76 rfl (jo_33 J) (jr_33_30 J) dX9_readLine_86 ?_
          refine z_aload_n (pc := 89) O dX9_readLine_89 rfl ?_
          refine zi_getv (pc := 90) (b) O fl_X9_283 rfl (jo_33 J) ((izg σ 33 34).trans (congrArg iz eb)) dX9_readLine_90 ?_
          refine zi_zaldv (pc := 93) (b.toNat) (gI σ 54 (b.toNat)) O (ja_54 J) (by omega) (by omega) (by omega) (izg σ 54 (b.toNat)) dX9_readLine_93 ?_
          have := rgI σ 54 (b.toNat)
          refine z_goto (pc := 94) (tgt := 138) O dX9_readLine_94 (by decide) ?_
          refine z_istore_n (pc := 138) [(0, .ref 33), (1, .long w23), (3, .int (iz (gI σ 54 (b.toNat))))] O dX9_readLine_138 (by decide) rfl ?_
          refine z_iload_n (pc := 139) O dX9_readLine_139 rfl ?_
          refine zi_if_eq (pc := 140) (tgt := 147) O dX9_readLine_140 (by decide) (by omega) (fun h140 => ?_) (fun h140 => ?_)
          · refine z_aload_n (pc := 147) O dX9_readLine_147 rfl ?_
            refine z_callV (pc := 148) O cl_X9_272 (k9_isGood _ _ J) (by decide) (jo_33 J) kc_9 rfl rfl (Nat.le_of_ble_eq_true rfl) ⟨Nat.zero_le _, Nat.zero_le _⟩ dX9_readLine_148 (fun r τ48 hp => ?_)
            obtain ⟨z49, rfl, fτ48_0, fτ48_1, rfl⟩ := hp
            refine zi_if_ne (pc := 151) (tgt := 155) O dX9_readLine_151 (by decide) (by omega) (fun h151 => ?_) (fun h151 => ?_)
            · refine z_aload_n (pc := 155) O dX9_readLine_155 rfl ?_
              refine z_callV (pc := 156) O cl_X9_266 (k9_next _ _ J (by omega) (by omega)) (by decide) (jo_33 J) kc_9 rfl rfl (Nat.le_of_ble_eq_true rfl) ⟨Nat.zero_le _, Nat.zero_le _⟩ dX9_readLine_156 (fun r τ50 hp => ?_)
              obtain ⟨rfl, frτ50, eτ50_0, eτ50_1⟩ := hp
              have : gI τ50 33 3 = gI σ 33 3 := gI_iz (Fr.it frτ50 rfl (izg σ 33 3)) (rgI _ _ _)
              refine z_lload_n (pc := 159) O dX9_readLine_159 rfl ?_
              refine z_ldc2 (pc := 160) O tw_1014 dX9_readLine_160 ?_
              refine z_lcmp (pc := 163) O dX9_readLine_163 ?_
              refine zi_lc_ne (pc := 164) (tgt := 174) O dX9_readLine_164 (by decide) (fun _ => ?_) (fun hh => absurd (h82.symm.trans hh) (by decide))
              refine z_lload_n (pc := 174) O dX9_readLine_174 rfl ?_
              refine z_ldc2 (pc := 175) O tw_1015 dX9_readLine_175 ?_
              refine z_lcmp (pc := 178) O dX9_readLine_178 ?_
              refine zi_lc_ne (pc := 179) (tgt := 189) O dX9_readLine_179 (by decide) (fun _ => ?_) (fun hh => absurd (h82.symm.trans hh) (by decide))
              refine z_lload_n (pc := 189) O dX9_readLine_189 rfl ?_
              refine z_ldc2 (pc := 190) O tw_1021 dX9_readLine_190 ?_
              refine z_lcmp (pc := 193) O dX9_readLine_193 ?_
              refine zi_lc_ne (pc := 194) (tgt := 204) O dX9_readLine_194 (by decide) (fun hh => absurd h82 hh) (fun _ => ?_)
              refine z_aload_n (pc := 197) O dX9_readLine_197 rfl ?_
              refine z_callV (pc := 198) O cl_X9_301 (k9_readShare _ _ b (frτ50.lay J) (by have : gI τ50 33 3 = gI σ 33 3 := gI_iz (Fr.it frτ50 rfl (izg σ 33 3)) (rgI _ _ _); omega) (by have : gI τ50 33 4 = gI σ 33 4 := gI_iz (Fr.it frτ50 rfl (izg σ 33 4)) (rgI _ _ _); omega) (by have : gI τ50 33 34 = b := gI_iz (Fr.it frτ50 rfl ((izg σ 33 34).trans (congrArg iz eb))) (by omega); omega) (by omega)) (by decide) (jo_33 (frτ50.lay J)) kc_9 rfl rfl (Nat.le_of_ble_eq_true rfl) ⟨Nat.zero_le _, Nat.zero_le _⟩ dX9_readLine_198 (fun r τ52 hp => ?_)
              obtain ⟨rfl, frτ52, eτ52_0, eτ52_1, eτ52_2, eτ52_3, eτ52_4⟩ := hp
              have : gI τ52 33 3 = gI σ 33 3 := gI_iz (Fr.it frτ52 rfl (Fr.it frτ50 rfl (izg σ 33 3))) (rgI _ _ _)
              have : gI τ50 33 4 = gI σ 33 4 := gI_iz (Fr.it frτ50 rfl (izg σ 33 4)) (rgI _ _ _)
              refine z_goto (pc := 201) (tgt := 223) O dX9_readLine_201 (by decide) ?_
              refine z_lk [(0, .ref 33)] ⟨rfl, trivial⟩ ?_
              exact cut223 τ52 (by have : gI τ52 33 3 = gI σ 33 3 := gI_iz (Fr.it frτ52 rfl (Fr.it frτ50 rfl (izg σ 33 3))) (rgI _ _ _); omega) (by omega) ⟨(fun k hk => by rw [((frτ52.g 39 k rfl).trans (frτ50.g 39 k rfl))]; exact r39 k hk), (fun k hk => by rw [((frτ52.g 41 k rfl).trans (frτ50.g 41 k rfl))]; exact r41 k hk), (by have : gI τ52 33 36 = gI σ 33 36 := gI_iz (Fr.it frτ52 rfl (Fr.it frτ50 rfl (izg σ 33 36))) (rgI _ _ _); omega), (by by_cases hz : 0 < gI τ52 33 4; exact Or.inl (by omega); exact Or.inr ⟨(by have : gI τ52 33 35 = gI σ 33 35 := gI_iz (Fr.it frτ52 rfl (Fr.it frτ50 rfl (izg σ 33 35))) (rgI _ _ _); omega), Bank.share rb2.2.1 (fun k => ((frτ52.g 41 k rfl).trans (frτ50.g 41 k rfl))) (fun k => ((frτ52.g 42 k rfl).trans (frτ50.g 42 k rfl))) (fun k => ((frτ52.g 43 k rfl).trans (frτ50.g 43 k rfl))) (fun k => ((frτ52.g 49 k rfl).trans (frτ50.g 49 k rfl))) (fun k => ((frτ52.g 51 k rfl).trans (frτ50.g 51 k rfl))) (fun k => ((frτ52.g 52 k rfl).trans (frτ50.g 52 k rfl))) (eτ52_3.resolve_left (by omega)).1 (eτ52_3.resolve_left (by omega)).2, fun w w1 w2 => by rw [((frτ52.g 41 (b.toNat) rfl).trans (frτ50.g 41 (b.toNat) rfl))] at w2; rw [((frτ52.g 43 w rfl).trans (frτ50.g 43 w rfl)), show gI τ52 33 35 = gI σ 33 35 from gI_eq (Fr.it frτ52 rfl (Fr.it frτ50 rfl rfl))]; exact rb2.2.2 w w1 w2⟩)⟩ ⟨fun k hk => ⟨((frτ52.g 41 k rfl).trans (frτ50.g 41 k rfl)), ((frτ52.g 49 k rfl).trans (frτ50.g 49 k rfl))⟩, fun k hk => ⟨((frτ52.g 42 k rfl).trans (frτ50.g 42 k rfl)), ((frτ52.g 43 k rfl).trans (frτ50.g 43 k rfl))⟩, fun k hk => ((eτ52_4 k (by omega)).trans (frτ50.g 46 k rfl)), fun k hk => ⟨((frτ52.g 51 k rfl).trans (frτ50.g 51 k rfl)), ((frτ52.g 52 k rfl).trans (frτ50.g 52 k rfl))⟩⟩ ((frτ50.mono (V := [(33, 7), (33, 8), (33, 9), (33, 10), (33, 11), (33, 4), (33, 5), (33, 36), (51, 99999), (52, 99999), (33, 35), (57, 99999), (33, 38), (33, 39), (39, 99999), (40, 99999), (41, 99999), (42, 99999), (43, 99999), (44, 99999), (45, 99999), (46, 99999), (47, 99999), (48, 99999), (49, 99999), (50, 99999), (53, 99999), (54, 99999), (55, 99999), (56, 99999)]) rfl).tr (frτ52.mono (V := [(33, 7), (33, 8), (33, 9), (33, 10), (33, 11), (33, 4), (33, 5), (33, 36), (51, 99999), (52, 99999), (33, 35), (57, 99999), (33, 38), (33, 39), (39, 99999), (40, 99999), (41, 99999), (42, 99999), (43, 99999), (44, 99999), (45, 99999), (46, 99999), (47, 99999), (48, 99999), (49, 99999), (50, 99999), (53, 99999), (54, 99999), (55, 99999), (56, 99999)]) rfl))
            · exfalso; omega
          · refine z_aload_n (pc := 143) O dX9_readLine_143 rfl ?_
            refine z_callV (pc := 144) O cl_X9_269 (k9_wrong _ _ J) (by decide) (jo_33 J) kc_9 rfl rfl (Nat.le_of_ble_eq_true rfl) ⟨Nat.zero_le _, Nat.zero_le _⟩ dX9_readLine_144 (fun r τ54 hp => ?_)
            obtain ⟨rfl, frτ54, eτ54_0⟩ := hp
            refine z_aload_n (pc := 147) O dX9_readLine_147 rfl ?_
            refine z_callV (pc := 148) O cl_X9_272 (k9_isGood _ _ (frτ54.lay J)) (by decide) (jo_33 (frτ54.lay J)) kc_9 rfl rfl (Nat.le_of_ble_eq_true rfl) ⟨Nat.zero_le _, Nat.zero_le _⟩ dX9_readLine_148 (fun r τ56 hp => ?_)
            obtain ⟨z57, rfl, fτ56_0, fτ56_1, rfl⟩ := hp
            refine zi_if_ne (pc := 151) (tgt := 155) O dX9_readLine_151 (by decide) (by omega) (fun h151 => ?_) (fun h151 => ?_)
            · exfalso; omega
            · refine z_vret (pc := 154) O dX9_readLine_154 ?_
              exact ⟨rfl, (frτ54.mono (V := [(33, 7), (33, 8), (33, 9), (33, 10), (33, 11), (33, 4), (33, 5), (33, 36), (51, 99999), (52, 99999), (33, 35), (57, 99999), (33, 38), (33, 39), (39, 99999), (40, 99999), (41, 99999), (42, 99999), (43, 99999), (44, 99999), (45, 99999), (46, 99999), (47, 99999), (48, 99999), (49, 99999), (50, 99999), (53, 99999), (54, 99999), (55, 99999), (56, 99999)]) rfl), (by have : gI τ54 33 7 = gI σ 33 7 := gI_iz (Fr.it frτ54 rfl (izg σ 33 7)) (rgI _ _ _); have : gI τ54 33 8 = gI σ 33 8 := gI_iz (Fr.it frτ54 rfl (izg σ 33 8)) (rgI _ _ _); have : gI τ54 33 3 = gI σ 33 3 := gI_iz (Fr.it frτ54 rfl (izg σ 33 3)) (rgI _ _ _); have : gI τ54 33 9 = gI σ 33 9 := gI_iz (Fr.it frτ54 rfl (izg σ 33 9)) (rgI _ _ _); omega), (by have : gI τ54 33 7 = gI σ 33 7 := gI_iz (Fr.it frτ54 rfl (izg σ 33 7)) (rgI _ _ _); omega), ⟨fun k hk => by rw [(frτ54.g 39 k rfl)]; exact r39 k hk, fun k hk => by rw [(frτ54.g 41 k rfl)]; exact r41 k hk, (by have : gI τ54 33 36 = gI σ 33 36 := gI_iz (Fr.it frτ54 rfl (izg σ 33 36)) (rgI _ _ _); omega), Or.inl (by omega)⟩, (OB.fr frτ54 (fun _ => rfl) (fun _ => rfl) (fun _ => rfl) (fun _ => rfl) (fun _ => rfl) (fun _ => rfl) (fun _ => rfl))⟩
      · refine z_aload_n (pc := 55) O dX9_readLine_55 rfl ?_
        refine z_getR (pc := 56) 41 O fl_X9_36 rfl (jo_33 J) (jr_33_17 J) dX9_readLine_56 ?_
        refine z_aload_n (pc := 59) O dX9_readLine_59 rfl ?_
        refine zi_getv (pc := 60) (b) O fl_X9_283 rfl (jo_33 J) ((izg σ 33 34).trans (congrArg iz eb)) dX9_readLine_60 ?_
        refine zi_ialdv (pc := 63) (b.toNat) (gI σ 41 (b.toNat)) O (ja_41 J) (by omega) (by omega) (by omega) (izg σ 41 (b.toNat)) dX9_readLine_63 ?_
        have := rgI σ 41 (b.toNat)
        refine z_bipush (pc := 64) (v := iz (16)) O dX9_readLine_64 (by decide) ?_
        refine zi_icmp_ne (pc := 66) (tgt := 73) O dX9_readLine_66 (by decide) (by omega) (by decide) (fun h66 => ?_) (fun h66 => ?_)
        · refine z_iconst (pc := 73) (v := iz (0)) O dX9_readLine_73 (by decide) ?_
          refine z_goto (pc := 74) (tgt := 138) O dX9_readLine_74 (by decide) ?_
          refine z_istore_n (pc := 138) [(0, .ref 33), (1, .long w23), (3, .int (iz 0))] O dX9_readLine_138 (by decide) rfl ?_
          refine z_iload_n (pc := 139) O dX9_readLine_139 rfl ?_
          refine zi_if_eq (pc := 140) (tgt := 147) O dX9_readLine_140 (by decide) (by decide) (fun _ => ?_) (fun hh => absurd hh (by decide))
          refine z_aload_n (pc := 147) O dX9_readLine_147 rfl ?_
          refine z_callV (pc := 148) O cl_X9_272 (k9_isGood _ _ J) (by decide) (jo_33 J) kc_9 rfl rfl (Nat.le_of_ble_eq_true rfl) ⟨Nat.zero_le _, Nat.zero_le _⟩ dX9_readLine_148 (fun r τ58 hp => ?_)
          obtain ⟨z59, rfl, fτ58_0, fτ58_1, rfl⟩ := hp
          refine zi_if_ne (pc := 151) (tgt := 155) O dX9_readLine_151 (by decide) (by omega) (fun h151 => ?_) (fun h151 => ?_)
          · refine z_aload_n (pc := 155) O dX9_readLine_155 rfl ?_
            refine z_callV (pc := 156) O cl_X9_266 (k9_next _ _ J (by omega) (by omega)) (by decide) (jo_33 J) kc_9 rfl rfl (Nat.le_of_ble_eq_true rfl) ⟨Nat.zero_le _, Nat.zero_le _⟩ dX9_readLine_156 (fun r τ60 hp => ?_)
            obtain ⟨rfl, frτ60, eτ60_0, eτ60_1⟩ := hp
            have : gI τ60 33 3 = gI σ 33 3 := gI_iz (Fr.it frτ60 rfl (izg σ 33 3)) (rgI _ _ _)
            refine z_lload_n (pc := 159) O dX9_readLine_159 rfl ?_
            refine z_ldc2 (pc := 160) O tw_1014 dX9_readLine_160 ?_
            refine z_lcmp (pc := 163) O dX9_readLine_163 ?_
            refine zi_lc_ne (pc := 164) (tgt := 174) O dX9_readLine_164 (by decide) (fun _ => ?_) (fun hh => absurd (h52.symm.trans hh) (by decide))
            refine z_lload_n (pc := 174) O dX9_readLine_174 rfl ?_
            refine z_ldc2 (pc := 175) O tw_1015 dX9_readLine_175 ?_
            refine z_lcmp (pc := 178) O dX9_readLine_178 ?_
            refine zi_lc_ne (pc := 179) (tgt := 189) O dX9_readLine_179 (by decide) (fun hh => absurd h52 hh) (fun _ => ?_)
            refine z_aload_n (pc := 182) O dX9_readLine_182 rfl ?_
            refine z_callV (pc := 183) O cl_X9_298 (k9_readWhen _ _ b (gI σ 33 35) (frτ60.lay J) (by have : gI τ60 33 3 = gI σ 33 3 := gI_iz (Fr.it frτ60 rfl (izg σ 33 3)) (rgI _ _ _); omega) (by have : gI τ60 33 4 = gI σ 33 4 := gI_iz (Fr.it frτ60 rfl (izg σ 33 4)) (rgI _ _ _); omega) (by have : gI τ60 33 34 = b := gI_iz (Fr.it frτ60 rfl ((izg σ 33 34).trans (congrArg iz eb))) (by omega); omega) (by have : gI τ60 33 35 = gI σ 33 35 := gI_iz (Fr.it frτ60 rfl (izg σ 33 35)) (rgI _ _ _); omega) (by omega) (by omega) (by have : gI τ60 33 36 = gI σ 33 36 := gI_iz (Fr.it frτ60 rfl (izg σ 33 36)) (rgI _ _ _); omega) (by have : gI τ60 41 (b.toNat) = gI σ 41 (b.toNat) := gI_iz (Fr.it frτ60 rfl (izg σ 41 (b.toNat))) (rgI _ _ _); omega)) (by decide) (jo_33 (frτ60.lay J)) kc_9 rfl rfl (Nat.le_of_ble_eq_true rfl) ⟨Nat.zero_le _, Nat.zero_le _⟩ dX9_readLine_183 (fun r τ62 hp => ?_)
            obtain ⟨rfl, frτ62, eτ62_0, eτ62_1, eτ62_2, eτ62_3, eτ62_4, eτ62_5, eτ62_6⟩ := hp
            have : gI τ62 33 3 = gI σ 33 3 := gI_iz (Fr.it frτ62 rfl (Fr.it frτ60 rfl (izg σ 33 3))) (rgI _ _ _)
            have : gI τ60 41 (b.toNat) = gI σ 41 (b.toNat) := gI_iz (Fr.it frτ60 rfl (izg σ 41 (b.toNat))) (rgI _ _ _)
            have : gI τ60 41 (b.toNat) = gI σ 41 (b.toNat) := gI_iz (Fr.it frτ60 rfl (izg σ 41 (b.toNat))) (rgI _ _ _)
            refine z_goto (pc := 186) (tgt := 223) O dX9_readLine_186 (by decide) ?_
            refine z_lk [(0, .ref 33)] ⟨rfl, trivial⟩ ?_
            exact cut223 τ62 (by have : gI τ62 33 3 = gI σ 33 3 := gI_iz (Fr.it frτ62 rfl (Fr.it frτ60 rfl (izg σ 33 3))) (rgI _ _ _); omega) (by omega) ⟨(fun k hk => by rw [((frτ62.g 39 k rfl).trans (frτ60.g 39 k rfl))]; exact r39 k hk), (fun k hk => by by_cases hkb : k = b.toNat; (rw [hkb, eτ62_4, (frτ60.g 41 (b.toNat) rfl)]; omega); (rw [((eτ62_3 k (by omega)).trans (frτ60.g 41 k rfl))]; exact r41 k hk)), (by omega), (by by_cases hz : 0 < gI τ62 33 4; exact Or.inl (by omega); exact Or.inr ⟨(by omega), Bank.when (c0 := gI σ 33 35) hb.1 rb2.2.1 (fun k => ((frτ62.g 46 k rfl).trans (frτ60.g 46 k rfl))) (fun k => ((frτ62.g 49 k rfl).trans (frτ60.g 49 k rfl))) (by rw [eτ62_4, (frτ60.g 41 (b.toNat) rfl)]) h41.1 (fun k hk => ⟨((eτ62_5 k (by rw [(frτ60.g 41 (b.toNat) rfl)]; exact hk)).1).trans (frτ60.g 42 k rfl), ((eτ62_5 k (by rw [(frτ60.g 41 (b.toNat) rfl)]; exact hk)).2).trans (frτ60.g 43 k rfl)⟩) (fun k hk => ⟨((eτ62_6 k hk).1).trans (frτ60.g 51 k rfl), ((eτ62_6 k hk).2).trans (frτ60.g 52 k rfl)⟩) rb2.2.2 (by have sg9 := (eτ62_2.resolve_left (by omega)).1; rw [(frτ60.g 41 (b.toNat) rfl)] at sg9; exact sg9), fun w w1 w2 => by rw [eτ62_4, (frτ60.g 41 (b.toNat) rfl)] at w2; have sgx := (eτ62_2.resolve_left (by omega)).2; rw [(frτ60.g 41 (b.toNat) rfl)] at sgx; by_cases hw : w = (16 * b + gI σ 41 (b.toNat)).toNat; (rw [hw]; omega); (rw [((eτ62_5 w (by rw [(frτ60.g 41 (b.toNat) rfl)]; exact hw)).2).trans (frτ60.g 43 w rfl)]; have q8 := rb2.2.2 w w1 (by omega); omega)⟩)⟩ ⟨fun k hk => ⟨((eτ62_3 k (by omega)).trans (frτ60.g 41 k rfl)), ((frτ62.g 49 k rfl).trans (frτ60.g 49 k rfl))⟩, fun k hk => ⟨((eτ62_5 k (by rw [(frτ60.g 41 (b.toNat) rfl)]; omega)).1).trans (frτ60.g 42 k rfl), ((eτ62_5 k (by rw [(frτ60.g 41 (b.toNat) rfl)]; omega)).2).trans (frτ60.g 43 k rfl)⟩, fun k hk => ((frτ62.g 46 k rfl).trans (frτ60.g 46 k rfl)), fun k hk => ⟨((eτ62_6 k (by omega)).1.trans (frτ60.g 51 k rfl)), ((eτ62_6 k (by omega)).2.trans (frτ60.g 52 k rfl))⟩⟩ ((frτ60.mono (V := [(33, 7), (33, 8), (33, 9), (33, 10), (33, 11), (33, 4), (33, 5), (33, 36), (51, 99999), (52, 99999), (33, 35), (57, 99999), (33, 38), (33, 39), (39, 99999), (40, 99999), (41, 99999), (42, 99999), (43, 99999), (44, 99999), (45, 99999), (46, 99999), (47, 99999), (48, 99999), (49, 99999), (50, 99999), (53, 99999), (54, 99999), (55, 99999), (56, 99999)]) rfl).tr (frτ62.mono (V := [(33, 7), (33, 8), (33, 9), (33, 10), (33, 11), (33, 4), (33, 5), (33, 36), (51, 99999), (52, 99999), (33, 35), (57, 99999), (33, 38), (33, 39), (39, 99999), (40, 99999), (41, 99999), (42, 99999), (43, 99999), (44, 99999), (45, 99999), (46, 99999), (47, 99999), (48, 99999), (49, 99999), (50, 99999), (53, 99999), (54, 99999), (55, 99999), (56, 99999)]) rfl))
          · exfalso; omega
        · refine z_iconst (pc := 69) (v := iz (1)) O dX9_readLine_69 (by decide) ?_
          refine z_goto (pc := 70) (tgt := 138) O dX9_readLine_70 (by decide) ?_
          refine z_istore_n (pc := 138) [(0, .ref 33), (1, .long w23), (3, .int (iz 1))] O dX9_readLine_138 (by decide) rfl ?_
          refine z_iload_n (pc := 139) O dX9_readLine_139 rfl ?_
          refine zi_if_eq (pc := 140) (tgt := 147) O dX9_readLine_140 (by decide) (by decide) (fun hh => absurd hh (by decide)) (fun _ => ?_)
          refine z_aload_n (pc := 143) O dX9_readLine_143 rfl ?_
          refine z_callV (pc := 144) O cl_X9_269 (k9_wrong _ _ J) (by decide) (jo_33 J) kc_9 rfl rfl (Nat.le_of_ble_eq_true rfl) ⟨Nat.zero_le _, Nat.zero_le _⟩ dX9_readLine_144 (fun r τ64 hp => ?_)
          obtain ⟨rfl, frτ64, eτ64_0⟩ := hp
          refine z_aload_n (pc := 147) O dX9_readLine_147 rfl ?_
          refine z_callV (pc := 148) O cl_X9_272 (k9_isGood _ _ (frτ64.lay J)) (by decide) (jo_33 (frτ64.lay J)) kc_9 rfl rfl (Nat.le_of_ble_eq_true rfl) ⟨Nat.zero_le _, Nat.zero_le _⟩ dX9_readLine_148 (fun r τ66 hp => ?_)
          obtain ⟨z67, rfl, fτ66_0, fτ66_1, rfl⟩ := hp
          refine zi_if_ne (pc := 151) (tgt := 155) O dX9_readLine_151 (by decide) (by omega) (fun h151 => ?_) (fun h151 => ?_)
          · exfalso; omega
          · refine z_vret (pc := 154) O dX9_readLine_154 ?_
            exact ⟨rfl, (frτ64.mono (V := [(33, 7), (33, 8), (33, 9), (33, 10), (33, 11), (33, 4), (33, 5), (33, 36), (51, 99999), (52, 99999), (33, 35), (57, 99999), (33, 38), (33, 39), (39, 99999), (40, 99999), (41, 99999), (42, 99999), (43, 99999), (44, 99999), (45, 99999), (46, 99999), (47, 99999), (48, 99999), (49, 99999), (50, 99999), (53, 99999), (54, 99999), (55, 99999), (56, 99999)]) rfl), (by have : gI τ64 33 7 = gI σ 33 7 := gI_iz (Fr.it frτ64 rfl (izg σ 33 7)) (rgI _ _ _); have : gI τ64 33 8 = gI σ 33 8 := gI_iz (Fr.it frτ64 rfl (izg σ 33 8)) (rgI _ _ _); have : gI τ64 33 3 = gI σ 33 3 := gI_iz (Fr.it frτ64 rfl (izg σ 33 3)) (rgI _ _ _); have : gI τ64 33 9 = gI σ 33 9 := gI_iz (Fr.it frτ64 rfl (izg σ 33 9)) (rgI _ _ _); omega), (by have : gI τ64 33 7 = gI σ 33 7 := gI_iz (Fr.it frτ64 rfl (izg σ 33 7)) (rgI _ _ _); omega), ⟨fun k hk => by rw [(frτ64.g 39 k rfl)]; exact r39 k hk, fun k hk => by rw [(frτ64.g 41 k rfl)]; exact r41 k hk, (by have : gI τ64 33 36 = gI σ 33 36 := gI_iz (Fr.it frτ64 rfl (izg σ 33 36)) (rgI _ _ _); omega), Or.inl (by omega)⟩, (OB.fr frτ64 (fun _ => rfl) (fun _ => rfl) (fun _ => rfl) (fun _ => rfl) (fun _ => rfl) (fun _ => rfl) (fun _ => rfl))⟩
    · refine z_aload_n (pc := 25) O dX9_readLine_25 rfl ?_
      refine z_getR (pc := 26) 39 O fl_X9_30 rfl (jo_33 J) (jr_33_15 J) dX9_readLine_26 ?_
      refine z_aload_n (pc := 29) O dX9_readLine_29 rfl ?_
      refine zi_getv (pc := 30) (b) O fl_X9_283 rfl (jo_33 J) ((izg σ 33 34).trans (congrArg iz eb)) dX9_readLine_30 ?_
      refine zi_ialdv (pc := 33) (b.toNat) (gI σ 39 (b.toNat)) O (ja_39 J) (by omega) (by omega) (by omega) (izg σ 39 (b.toNat)) dX9_readLine_33 ?_
      have := rgI σ 39 (b.toNat)
      refine z_bipush (pc := 34) (v := iz (12)) O dX9_readLine_34 (by decide) ?_
      refine zi_icmp_ne (pc := 36) (tgt := 43) O dX9_readLine_36 (by decide) (by omega) (by decide) (fun h36 => ?_) (fun h36 => ?_)
      · refine z_iconst (pc := 43) (v := iz (0)) O dX9_readLine_43 (by decide) ?_
        refine z_goto (pc := 44) (tgt := 138) O dX9_readLine_44 (by decide) ?_
        refine z_istore_n (pc := 138) [(0, .ref 33), (1, .long w23), (3, .int (iz 0))] O dX9_readLine_138 (by decide) rfl ?_
        refine z_iload_n (pc := 139) O dX9_readLine_139 rfl ?_
        refine zi_if_eq (pc := 140) (tgt := 147) O dX9_readLine_140 (by decide) (by decide) (fun _ => ?_) (fun hh => absurd hh (by decide))
        refine z_aload_n (pc := 147) O dX9_readLine_147 rfl ?_
        refine z_callV (pc := 148) O cl_X9_272 (k9_isGood _ _ J) (by decide) (jo_33 J) kc_9 rfl rfl (Nat.le_of_ble_eq_true rfl) ⟨Nat.zero_le _, Nat.zero_le _⟩ dX9_readLine_148 (fun r τ68 hp => ?_)
        obtain ⟨z69, rfl, fτ68_0, fτ68_1, rfl⟩ := hp
        refine zi_if_ne (pc := 151) (tgt := 155) O dX9_readLine_151 (by decide) (by omega) (fun h151 => ?_) (fun h151 => ?_)
        · refine z_aload_n (pc := 155) O dX9_readLine_155 rfl ?_
          refine z_callV (pc := 156) O cl_X9_266 (k9_next _ _ J (by omega) (by omega)) (by decide) (jo_33 J) kc_9 rfl rfl (Nat.le_of_ble_eq_true rfl) ⟨Nat.zero_le _, Nat.zero_le _⟩ dX9_readLine_156 (fun r τ70 hp => ?_)
          obtain ⟨rfl, frτ70, eτ70_0, eτ70_1⟩ := hp
          have : gI τ70 33 3 = gI σ 33 3 := gI_iz (Fr.it frτ70 rfl (izg σ 33 3)) (rgI _ _ _)
          refine z_lload_n (pc := 159) O dX9_readLine_159 rfl ?_
          refine z_ldc2 (pc := 160) O tw_1014 dX9_readLine_160 ?_
          refine z_lcmp (pc := 163) O dX9_readLine_163 ?_
          refine zi_lc_ne (pc := 164) (tgt := 174) O dX9_readLine_164 (by decide) (fun hh => absurd h22 hh) (fun _ => ?_)
          refine z_aload_n (pc := 167) O dX9_readLine_167 rfl ?_
          refine z_callV (pc := 168) O cl_X9_295 (k9_readHurt _ _ b (frτ70.lay J) (by have : gI τ70 33 3 = gI σ 33 3 := gI_iz (Fr.it frτ70 rfl (izg σ 33 3)) (rgI _ _ _); omega) (by have : gI τ70 33 4 = gI σ 33 4 := gI_iz (Fr.it frτ70 rfl (izg σ 33 4)) (rgI _ _ _); omega) (by have : gI τ70 33 34 = b := gI_iz (Fr.it frτ70 rfl ((izg σ 33 34).trans (congrArg iz eb))) (by omega); omega) (by omega) (by have : gI τ70 39 (b.toNat) = gI σ 39 (b.toNat) := gI_iz (Fr.it frτ70 rfl (izg σ 39 (b.toNat))) (rgI _ _ _); omega)) (by decide) (jo_33 (frτ70.lay J)) kc_9 rfl rfl (Nat.le_of_ble_eq_true rfl) ⟨Nat.zero_le _, Nat.zero_le _⟩ dX9_readLine_168 (fun r τ72 hp => ?_)
          obtain ⟨rfl, frτ72, eτ72_0, eτ72_1, eτ72_2, eτ72_3, eτ72_4⟩ := hp
          have : gI τ72 33 3 = gI σ 33 3 := gI_iz (Fr.it frτ72 rfl (Fr.it frτ70 rfl (izg σ 33 3))) (rgI _ _ _)
          have : gI τ70 33 4 = gI σ 33 4 := gI_iz (Fr.it frτ70 rfl (izg σ 33 4)) (rgI _ _ _)
          refine z_goto (pc := 171) (tgt := 223) O dX9_readLine_171 (by decide) ?_
          refine z_lk [(0, .ref 33)] ⟨rfl, trivial⟩ ?_
          exact cut223 τ72 (by have : gI τ72 33 3 = gI σ 33 3 := gI_iz (Fr.it frτ72 rfl (Fr.it frτ70 rfl (izg σ 33 3))) (rgI _ _ _); omega) (by omega) ⟨(fun k hk => by by_cases hkb : k = b.toNat; (rw [hkb]; exact eτ72_3); (rw [((eτ72_4 k (by omega)).trans (frτ70.g 39 k rfl))]; exact r39 k hk)), (fun k hk => by rw [((frτ72.g 41 k rfl).trans (frτ70.g 41 k rfl))]; exact r41 k hk), (by have : gI τ72 33 36 = gI σ 33 36 := gI_iz (Fr.it frτ72 rfl (Fr.it frτ70 rfl (izg σ 33 36))) (rgI _ _ _); omega), (by by_cases hz : 0 < gI τ72 33 4; exact Or.inl (by omega); exact Or.inr ⟨(by have : gI τ72 33 35 = gI σ 33 35 := gI_iz (Fr.it frτ72 rfl (Fr.it frτ70 rfl (izg σ 33 35))) (rgI _ _ _); omega), Bank.eq rb2.2.1 (fun k => ((frτ72.g 41 k rfl).trans (frτ70.g 41 k rfl))) (fun k => ((frτ72.g 42 k rfl).trans (frτ70.g 42 k rfl))) (fun k => ((frτ72.g 43 k rfl).trans (frτ70.g 43 k rfl))) (fun k => ((frτ72.g 46 k rfl).trans (frτ70.g 46 k rfl))) (fun k => ((frτ72.g 49 k rfl).trans (frτ70.g 49 k rfl))) (fun k => ((frτ72.g 51 k rfl).trans (frτ70.g 51 k rfl))) (fun k => ((frτ72.g 52 k rfl).trans (frτ70.g 52 k rfl))), fun w w1 w2 => by rw [((frτ72.g 41 (b.toNat) rfl).trans (frτ70.g 41 (b.toNat) rfl))] at w2; rw [((frτ72.g 43 w rfl).trans (frτ70.g 43 w rfl)), show gI τ72 33 35 = gI σ 33 35 from gI_eq (Fr.it frτ72 rfl (Fr.it frτ70 rfl rfl))]; exact rb2.2.2 w w1 w2⟩)⟩ ⟨fun k hk => ⟨((frτ72.g 41 k rfl).trans (frτ70.g 41 k rfl)), ((frτ72.g 49 k rfl).trans (frτ70.g 49 k rfl))⟩, fun k hk => ⟨((frτ72.g 42 k rfl).trans (frτ70.g 42 k rfl)), ((frτ72.g 43 k rfl).trans (frτ70.g 43 k rfl))⟩, fun k hk => ((frτ72.g 46 k rfl).trans (frτ70.g 46 k rfl)), fun k hk => ⟨((frτ72.g 51 k rfl).trans (frτ70.g 51 k rfl)), ((frτ72.g 52 k rfl).trans (frτ70.g 52 k rfl))⟩⟩ ((frτ70.mono (V := [(33, 7), (33, 8), (33, 9), (33, 10), (33, 11), (33, 4), (33, 5), (33, 36), (51, 99999), (52, 99999), (33, 35), (57, 99999), (33, 38), (33, 39), (39, 99999), (40, 99999), (41, 99999), (42, 99999), (43, 99999), (44, 99999), (45, 99999), (46, 99999), (47, 99999), (48, 99999), (49, 99999), (50, 99999), (53, 99999), (54, 99999), (55, 99999), (56, 99999)]) rfl).tr (frτ72.mono (V := [(33, 7), (33, 8), (33, 9), (33, 10), (33, 11), (33, 4), (33, 5), (33, 36), (51, 99999), (52, 99999), (33, 35), (57, 99999), (33, 38), (33, 39), (39, 99999), (40, 99999), (41, 99999), (42, 99999), (43, 99999), (44, 99999), (45, 99999), (46, 99999), (47, 99999), (48, 99999), (49, 99999), (50, 99999), (53, 99999), (54, 99999), (55, 99999), (56, 99999)]) rfl))
        · exfalso; omega
      · refine z_iconst (pc := 39) (v := iz (1)) O dX9_readLine_39 (by decide) ?_
        refine z_goto (pc := 40) (tgt := 138) O dX9_readLine_40 (by decide) ?_
        refine z_istore_n (pc := 138) [(0, .ref 33), (1, .long w23), (3, .int (iz 1))] O dX9_readLine_138 (by decide) rfl ?_
        refine z_iload_n (pc := 139) O dX9_readLine_139 rfl ?_
        refine zi_if_eq (pc := 140) (tgt := 147) O dX9_readLine_140 (by decide) (by decide) (fun hh => absurd hh (by decide)) (fun _ => ?_)
        refine z_aload_n (pc := 143) O dX9_readLine_143 rfl ?_
        refine z_callV (pc := 144) O cl_X9_269 (k9_wrong _ _ J) (by decide) (jo_33 J) kc_9 rfl rfl (Nat.le_of_ble_eq_true rfl) ⟨Nat.zero_le _, Nat.zero_le _⟩ dX9_readLine_144 (fun r τ74 hp => ?_)
        obtain ⟨rfl, frτ74, eτ74_0⟩ := hp
        refine z_aload_n (pc := 147) O dX9_readLine_147 rfl ?_
        refine z_callV (pc := 148) O cl_X9_272 (k9_isGood _ _ (frτ74.lay J)) (by decide) (jo_33 (frτ74.lay J)) kc_9 rfl rfl (Nat.le_of_ble_eq_true rfl) ⟨Nat.zero_le _, Nat.zero_le _⟩ dX9_readLine_148 (fun r τ76 hp => ?_)
        obtain ⟨z77, rfl, fτ76_0, fτ76_1, rfl⟩ := hp
        refine zi_if_ne (pc := 151) (tgt := 155) O dX9_readLine_151 (by decide) (by omega) (fun h151 => ?_) (fun h151 => ?_)
        · exfalso; omega
        · refine z_vret (pc := 154) O dX9_readLine_154 ?_
          exact ⟨rfl, (frτ74.mono (V := [(33, 7), (33, 8), (33, 9), (33, 10), (33, 11), (33, 4), (33, 5), (33, 36), (51, 99999), (52, 99999), (33, 35), (57, 99999), (33, 38), (33, 39), (39, 99999), (40, 99999), (41, 99999), (42, 99999), (43, 99999), (44, 99999), (45, 99999), (46, 99999), (47, 99999), (48, 99999), (49, 99999), (50, 99999), (53, 99999), (54, 99999), (55, 99999), (56, 99999)]) rfl), (by have : gI τ74 33 7 = gI σ 33 7 := gI_iz (Fr.it frτ74 rfl (izg σ 33 7)) (rgI _ _ _); have : gI τ74 33 8 = gI σ 33 8 := gI_iz (Fr.it frτ74 rfl (izg σ 33 8)) (rgI _ _ _); have : gI τ74 33 3 = gI σ 33 3 := gI_iz (Fr.it frτ74 rfl (izg σ 33 3)) (rgI _ _ _); have : gI τ74 33 9 = gI σ 33 9 := gI_iz (Fr.it frτ74 rfl (izg σ 33 9)) (rgI _ _ _); omega), (by have : gI τ74 33 7 = gI σ 33 7 := gI_iz (Fr.it frτ74 rfl (izg σ 33 7)) (rgI _ _ _); omega), ⟨fun k hk => by rw [(frτ74.g 39 k rfl)]; exact r39 k hk, fun k hk => by rw [(frτ74.g 41 k rfl)]; exact r41 k hk, (by have : gI τ74 33 36 = gI σ 33 36 := gI_iz (Fr.it frτ74 rfl (izg σ 33 36)) (rgI _ _ _); omega), Or.inl (by omega)⟩, (OB.fr frτ74 (fun _ => rfl) (fun _ => rfl) (fun _ => rfl) (fun _ => rfl) (fun _ => rfl) (fun _ => rfl) (fun _ => rfl))⟩
