set_option maxHeartbeats 4000000 in
set_option maxRecDepth 20000 in
theorem k9_behind (l : Launch) (σ : VH) (b : Int) (c0 : Int) (J : Lay σ) (ht : (0 ≤ gI σ 33 7 ∧ gI σ 33 7 ≤ gI σ 33 8 ∧ gI σ 33 8 ≤ gI σ 33 3 ∧ gI σ 33 3 ≤ 700 ∧ ((gI σ 33 9 = 0 ∧ gI σ 33 7 = gI σ 33 3) ∨ (gI σ 33 7 < gI σ 33 8 ∧ 1 ≤ gI σ 33 9 ∧ gI σ 33 9 ≤ 5)))) (hg : gI σ 33 4 = 0) (eb : gI σ 33 34 = b) (hb : 0 ≤ b ∧ b ≤ 15) (hs : 0 ≤ gI σ 33 36 ∧ gI σ 33 36 ≤ 60) (es0 : ES σ b c0 0) (hp0 : 0 < gI σ 33 38) : Ct l yX9_behind cX9_behind 2 (some .boolean) 3 0 0 [.ref 33] σ (fun r τ => ∃ z : Int, r = some (.int (iz z)) ∧ (z = 0 ∨ z = 1) ∧ (Fr [(33, 7), (33, 8), (33, 9), (33, 10), (33, 11), (33, 4), (33, 5), (33, 36), (51, 99999), (52, 99999), (33, 35), (57, 99999), (33, 38), (33, 39)] σ τ) ∧ (0 ≤ gI τ 33 7 ∧ gI τ 33 7 ≤ gI τ 33 8 ∧ gI τ 33 8 ≤ gI τ 33 3 ∧ gI τ 33 3 ≤ 700 ∧ ((gI τ 33 9 = 0 ∧ gI τ 33 7 = gI τ 33 3) ∨ (gI τ 33 7 < gI τ 33 8 ∧ 1 ≤ gI τ 33 9 ∧ gI τ 33 9 ≤ 5))) ∧ ((gI σ 33 7 ≤ gI τ 33 7) ∧ 0 ≤ gI τ 33 4 ∧ (0 ≤ gI τ 33 36 ∧ gI τ 33 36 ≤ 60)) ∧ (0 ≤ gI τ 33 38 ∧ gI τ 33 38 ≤ 21) ∧ (0 < gI τ 33 4 ∨ ((gI σ 33 7 < gI τ 33 7 ∨ gI τ 33 38 < gI σ 33 38) ∧ ES τ b c0 z)) ∧ (∀ k : Nat, (k : Int) < 700 * b + c0 → gI τ 51 k = gI σ 51 k ∧ gI τ 52 k = gI σ 52 k)) := by
  refine Ct.enter rfl (Nat.le_of_ble_eq_true rfl) ?_
  intro κ γ hκ O hrc hrs
  subst hκ
  have cut29 : ∀ (rk : Int), (-2147483648 ≤ rk ∧ rk < 2147483648) → (rk = 0 ∨ rk = 1 ∨ rk = 2) → (rk = 0 ∨ gI σ 33 9 = 3) → Z κ γ 2 σ 0 0 (QM κ γ (fun r τ => ∃ z : Int, r = some (.int (iz z)) ∧ (z = 0 ∨ z = 1) ∧ (Fr [(33, 7), (33, 8), (33, 9), (33, 10), (33, 11), (33, 4), (33, 5), (33, 36), (51, 99999), (52, 99999), (33, 35), (57, 99999), (33, 38), (33, 39)] σ τ) ∧ (0 ≤ gI τ 33 7 ∧ gI τ 33 7 ≤ gI τ 33 8 ∧ gI τ 33 8 ≤ gI τ 33 3 ∧ gI τ 33 3 ≤ 700 ∧ ((gI τ 33 9 = 0 ∧ gI τ 33 7 = gI τ 33 3) ∨ (gI τ 33 7 < gI τ 33 8 ∧ 1 ≤ gI τ 33 9 ∧ gI τ 33 9 ≤ 5))) ∧ ((gI σ 33 7 ≤ gI τ 33 7) ∧ 0 ≤ gI τ 33 4 ∧ (0 ≤ gI τ 33 36 ∧ gI τ 33 36 ≤ 60)) ∧ (0 ≤ gI τ 33 38 ∧ gI τ 33 38 ≤ 21) ∧ (0 < gI τ 33 4 ∨ ((gI σ 33 7 < gI τ 33 7 ∨ gI τ 33 38 < gI σ 33 38) ∧ ES τ b c0 z)) ∧ (∀ k : Nat, (k : Int) < 700 * b + c0 → gI τ 51 k = gI σ 51 k ∧ gI τ 52 k = gI σ 52 k)) 0 0) 29 [(0, .ref 33)] [.int (iz rk)] := by
    intro rk rr29_0 ff29_0 ff29_1
    refine z_istore_n (pc := 29) [(0, .ref 33), (1, .int (iz rk))] O dX9_behind_29 (by decide) rfl ?_
    have cut30 : ∀ (mu30 : Nat) (ρ30 : VH), (mu30 = (gI ρ30 33 38).toNat) → (ES ρ30 b c0 0) → (0 < gI ρ30 33 38 ∧ gI ρ30 33 38 ≤ gI σ 33 38) → (∀ k : Nat, (k : Int) < 700 * b + c0 → gI ρ30 51 k = gI σ 51 k ∧ gI ρ30 52 k = gI σ 52 k) → (Fr [(51, 99999), (52, 99999), (33, 35), (33, 38), (33, 39)] σ ρ30) → Z κ γ 2 ρ30 0 0 (QM κ γ (fun r τ => ∃ z : Int, r = some (.int (iz z)) ∧ (z = 0 ∨ z = 1) ∧ (Fr [(33, 7), (33, 8), (33, 9), (33, 10), (33, 11), (33, 4), (33, 5), (33, 36), (51, 99999), (52, 99999), (33, 35), (57, 99999), (33, 38), (33, 39)] σ τ) ∧ (0 ≤ gI τ 33 7 ∧ gI τ 33 7 ≤ gI τ 33 8 ∧ gI τ 33 8 ≤ gI τ 33 3 ∧ gI τ 33 3 ≤ 700 ∧ ((gI τ 33 9 = 0 ∧ gI τ 33 7 = gI τ 33 3) ∨ (gI τ 33 7 < gI τ 33 8 ∧ 1 ≤ gI τ 33 9 ∧ gI τ 33 9 ≤ 5))) ∧ ((gI σ 33 7 ≤ gI τ 33 7) ∧ 0 ≤ gI τ 33 4 ∧ (0 ≤ gI τ 33 36 ∧ gI τ 33 36 ≤ 60)) ∧ (0 ≤ gI τ 33 38 ∧ gI τ 33 38 ≤ 21) ∧ (0 < gI τ 33 4 ∨ ((gI σ 33 7 < gI τ 33 7 ∨ gI τ 33 38 < gI σ 33 38) ∧ ES τ b c0 z)) ∧ (∀ k : Nat, (k : Int) < 700 * b + c0 → gI τ 51 k = gI σ 51 k ∧ gI τ 52 k = gI σ 52 k)) 0 0) 30 [(0, .ref 33), (1, .int (iz rk))] [] := by
      intro mu30
      induction mu30 using Nat.strongRecOn with
      | ind mu30 ih30 =>
      intro ρ30 hmu30 ff30_0 ff30_1 ff30_2 frρ30
      obtain ⟨p, c, ep, ec, hc0, hat, hdp, hd5, hpi0, hch⟩ := ff30_0
      have eE : gI ρ30 57 = gI σ 57 := gI_row (fun k => frρ30.i 57 k rfl)
      have e7 : gI ρ30 33 7 = gI σ 33 7 := frρ30.g 33 7 rfl
      rw [eE] at hat hdp hd5 hpi0 hch
      have hpp : 0 < p := by omega
      have hpi := hpi0 hpp
      have htp := hpi.top hpp
      obtain ⟨m, rfl⟩ : ∃ m, p = m + 1 := ⟨p - 1, by omega⟩
      have n123 := @cnt_nn b123 (gI σ 57) (m + 1)
      have n12 := @cnt_nn b12 (gI σ 57) (m + 1)
      have n34 := @cnt_nn b34 (gI σ 57) (m + 1)
      have k123 := @cnt_nn b123 (gI σ 57) m
      have k12 := @cnt_nn b12 (gI σ 57) m
      have k34 := @cnt_nn b34 (gI σ 57) m
      have tp : (m = 0 ∧ gI σ 57 m = 5) ∨ (0 < m ∧ 1 ≤ gI σ 57 m ∧ gI σ 57 m ≤ 4) := by
        rcases Nat.eq_zero_or_pos m with h | h
        · exact Or.inl ⟨h, by rw [h]; exact hpi.1⟩
        · exact Or.inr ⟨h, hpi.2.1 m h (by omega)⟩
      refine z_aload_n (pc := 30) O dX9_behind_30 rfl ?_
      have cut139 : ∀ (_ : Unit), (3 < gI σ 57 m ∨ gI σ 57 m < rk) → Z κ γ 2 ρ30 0 0 (QM κ γ (fun r τ => ∃ z : Int, r = some (.int (iz z)) ∧ (z = 0 ∨ z = 1) ∧ (Fr [(33, 7), (33, 8), (33, 9), (33, 10), (33, 11), (33, 4), (33, 5), (33, 36), (51, 99999), (52, 99999), (33, 35), (57, 99999), (33, 38), (33, 39)] σ τ) ∧ (0 ≤ gI τ 33 7 ∧ gI τ 33 7 ≤ gI τ 33 8 ∧ gI τ 33 8 ≤ gI τ 33 3 ∧ gI τ 33 3 ≤ 700 ∧ ((gI τ 33 9 = 0 ∧ gI τ 33 7 = gI τ 33 3) ∨ (gI τ 33 7 < gI τ 33 8 ∧ 1 ≤ gI τ 33 9 ∧ gI τ 33 9 ≤ 5))) ∧ ((gI σ 33 7 ≤ gI τ 33 7) ∧ 0 ≤ gI τ 33 4 ∧ (0 ≤ gI τ 33 36 ∧ gI τ 33 36 ≤ 60)) ∧ (0 ≤ gI τ 33 38 ∧ gI τ 33 38 ≤ 21) ∧ (0 < gI τ 33 4 ∨ ((gI σ 33 7 < gI τ 33 7 ∨ gI τ 33 38 < gI σ 33 38) ∧ ES τ b c0 z)) ∧ (∀ k : Nat, (k : Int) < 700 * b + c0 → gI τ 51 k = gI σ 51 k ∧ gI τ 52 k = gI σ 52 k)) 0 0) 139 [(0, .ref 33), (1, .int (iz rk))] [] := by
        intro _ ff139_0
        refine z_iload_n (pc := 139) O dX9_behind_139 rfl ?_
        refine zi_if_le (pc := 140) (tgt := 154) O dX9_behind_140 (by decide) (by omega) (fun h140 => ?_) (fun h140 => ?_)
        · refine z_aload_n (pc := 154) O dX9_behind_154 rfl ?_
          refine z_dup (pc := 155) O dX9_behind_155 rfl ?_
          refine zi_getv (pc := 156) (gI ρ30 33 38) O fl_X9_328 rfl (jo_33 (frρ30.lay J)) (izg ρ30 33 38) dX9_behind_156 ?_
          have := rgI ρ30 33 38
          refine z_iconst (pc := 159) (v := iz (1)) O dX9_behind_159 (by decide) ?_
          refine zi_isub (pc := 160) O dX9_behind_160 ?_
          refine z_putI (pc := 161) O fl_X9_328 rfl ⟨rfl, rfl⟩ (jo_33 (frρ30.lay J)) dX9_behind_161 ?_
          refine z_aload_n (pc := 164) O dX9_behind_164 rfl ?_
          refine z_getR (pc := 165) 57 O fl_X9_86 rfl (jo_33 (frρ30.lay J)) (jr_33_37 (frρ30.lay J)) dX9_behind_165 ?_
          refine z_aload_n (pc := 168) O dX9_behind_168 rfl ?_
          refine zi_getv (pc := 169) ((gI ρ30 33 38) - 1) O fl_X9_328 rfl (jo_33 (frρ30.lay J)) (hI_at _ _ _ _) dX9_behind_169 ?_
          refine zi_ialdv (pc := 172) m (gI σ 57 m) O (ja_57 (frρ30.lay J)) (by omega) (by omega) (by omega) (sk1t (by decide) (Fr.it frρ30 rfl (izg σ 57 m))) dX9_behind_172 ?_
          have := rgI σ 57 m
          refine z_iconst (pc := 173) (v := iz (4)) O dX9_behind_173 (by decide) ?_
          refine zi_icmp_ne (pc := 174) (tgt := 207) O dX9_behind_174 (by decide) (by omega) (by decide) (fun h174 => ?_) (fun h174 => ?_)
          · refine z_iconst (pc := 207) (v := iz (0)) O dX9_behind_207 (by decide) ?_
            refine z_zret (pc := 208) O dX9_behind_208 rfl ?_
            exact ⟨0, rfl, (by decide), ((frρ30.mono (V := [(33, 7), (33, 8), (33, 9), (33, 10), (33, 11), (33, 4), (33, 5), (33, 36), (51, 99999), (52, 99999), (33, 35), (57, 99999), (33, 38), (33, 39)]) rfl).pI rfl), (by have : gI (sI ρ30 33 38 (iz ((gI ρ30 33 38) - 1))) 33 7 = gI σ 33 7 := gI_iz (sk2t (by decide) (Fr.it frρ30 rfl (izg σ 33 7))) (rgI _ _ _); have : gI (sI ρ30 33 38 (iz ((gI ρ30 33 38) - 1))) 33 8 = gI σ 33 8 := gI_iz (sk2t (by decide) (Fr.it frρ30 rfl (izg σ 33 8))) (rgI _ _ _); have : gI (sI ρ30 33 38 (iz ((gI ρ30 33 38) - 1))) 33 3 = gI σ 33 3 := gI_iz (sk2t (by decide) (Fr.it frρ30 rfl (izg σ 33 3))) (rgI _ _ _); have : gI (sI ρ30 33 38 (iz ((gI ρ30 33 38) - 1))) 33 9 = gI σ 33 9 := gI_iz (sk2t (by decide) (Fr.it frρ30 rfl (izg σ 33 9))) (rgI _ _ _); omega), (by have : gI (sI ρ30 33 38 (iz ((gI ρ30 33 38) - 1))) 33 7 = gI σ 33 7 := gI_iz (sk2t (by decide) (Fr.it frρ30 rfl (izg σ 33 7))) (rgI _ _ _); have : gI (sI ρ30 33 38 (iz ((gI ρ30 33 38) - 1))) 33 4 = gI σ 33 4 := gI_iz (sk2t (by decide) (Fr.it frρ30 rfl (izg σ 33 4))) (rgI _ _ _); have : gI (sI ρ30 33 38 (iz ((gI ρ30 33 38) - 1))) 33 36 = gI σ 33 36 := gI_iz (sk2t (by decide) (Fr.it frρ30 rfl (izg σ 33 36))) (rgI _ _ _); omega), (by have : gI (sI ρ30 33 38 (iz ((gI ρ30 33 38) - 1))) 33 38 = (gI ρ30 33 38) - 1 := gI_iz (hI_at _ _ _ _) (by omega); omega), (Or.inr (by have pq := pop_5 (E := gI σ 57) (p := m) (by omega); exact ⟨Or.inr (by have : gI (sI ρ30 33 38 (iz ((gI ρ30 33 38) - 1))) 33 38 = (gI ρ30 33 38) - 1 := gI_iz (hI_at _ _ _ _) (by omega); omega), ES.of (E := gI σ 57) (m) (c) (by have : gI (sI ρ30 33 38 (iz ((gI ρ30 33 38) - 1))) 33 38 = (gI ρ30 33 38) - 1 := gI_iz (hI_at _ _ _ _) (by omega); omega) (by have : gI (sI ρ30 33 38 (iz ((gI ρ30 33 38) - 1))) 33 35 = gI ρ30 33 35 := gI_iz (sk2t (by decide) (izg ρ30 33 35)) (rgI _ _ _); omega) (by omega) (fun i hi => ((gI_eq (sk1t (by decide) rfl)).trans (frρ30.g 57 i rfl))) (by have : gI (sI ρ30 33 38 (iz ((gI ρ30 33 38) - 1))) 33 7 = gI σ 33 7 := gI_iz (sk2t (by decide) (Fr.it frρ30 rfl (izg σ 33 7))) (rgI _ _ _); omega) (by have : gI (sI ρ30 33 38 (iz ((gI ρ30 33 38) - 1))) 33 39 = gI ρ30 33 39 := gI_iz (sk2t (by decide) (izg ρ30 33 39)) (rgI _ _ _); omega) (by omega) (fun hh => hpi.pop) (Chain.congr hch hb.1 hc0.1 (fun k hk => (gI_eq (sk1t (by decide) rfl))) (fun k hk => (gI_eq (sk1t (by decide) rfl)))) (by omega)⟩)), (fun k hk => ⟨((gI_eq (sk1t (by decide) rfl)).trans (ff30_2 k hk).1), ((gI_eq (sk1t (by decide) rfl)).trans (ff30_2 k hk).2)⟩)⟩
          · refine z_aload_n (pc := 177) O dX9_behind_177 rfl ?_
            refine z_dup (pc := 178) O dX9_behind_178 rfl ?_
            refine zi_getv (pc := 179) (gI ρ30 33 39) O fl_X9_331 rfl (jo_33 (frρ30.lay J)) (sk2t (by decide) (izg ρ30 33 39)) dX9_behind_179 ?_
            have := rgI ρ30 33 39
            refine z_iconst (pc := 182) (v := iz (1)) O dX9_behind_182 (by decide) ?_
            refine zi_isub (pc := 183) O dX9_behind_183 ?_
            refine z_putI (pc := 184) O fl_X9_331 rfl ⟨rfl, rfl⟩ (jo_33 (frρ30.lay J)) dX9_behind_184 ?_
            refine z_aload_n (pc := 187) O dX9_behind_187 rfl ?_
            refine z_bipush (pc := 188) (v := iz (41)) O dX9_behind_188 (by decide) ?_
            refine z_callV (pc := 190) O cl_X9_310 (k9_is _ _ 41 (by decide) (frρ30.lay J) (by have : gI (sI (sI ρ30 33 38 (iz ((gI ρ30 33 38) - 1))) 33 39 (iz ((gI ρ30 33 39) - 1))) 33 3 = gI σ 33 3 := gI_iz (sk2t (by decide) (sk2t (by decide) (Fr.it frρ30 rfl (izg σ 33 3)))) (rgI _ _ _); omega) (by have : gI (sI (sI ρ30 33 38 (iz ((gI ρ30 33 38) - 1))) 33 39 (iz ((gI ρ30 33 39) - 1))) 33 7 = gI σ 33 7 := gI_iz (sk2t (by decide) (sk2t (by decide) (Fr.it frρ30 rfl (izg σ 33 7)))) (rgI _ _ _); omega)) (by decide) (jo_33 (frρ30.lay J)) kc_9 rfl rfl (Nat.le_of_ble_eq_true rfl) ⟨Nat.zero_le _, Nat.zero_le _⟩ dX9_behind_190 (fun r τ1 hp => ?_)
            obtain ⟨z2, rfl, fτ1_0, fτ1_1, rfl⟩ := hp
            have : gI (sI (sI ρ30 33 38 (iz ((gI ρ30 33 38) - 1))) 33 39 (iz ((gI ρ30 33 39) - 1))) 33 9 = gI σ 33 9 := gI_iz (sk2t (by decide) (sk2t (by decide) (Fr.it frρ30 rfl (izg σ 33 9)))) (rgI _ _ _)
            have : gI (sI (sI ρ30 33 38 (iz ((gI ρ30 33 38) - 1))) 33 39 (iz ((gI ρ30 33 39) - 1))) 33 7 = gI σ 33 7 := gI_iz (sk2t (by decide) (sk2t (by decide) (Fr.it frρ30 rfl (izg σ 33 7)))) (rgI _ _ _)
            refine zi_if_eq (pc := 193) (tgt := 203) O dX9_behind_193 (by decide) (by omega) (fun h193 => ?_) (fun h193 => ?_)
            · refine z_aload_n (pc := 203) O dX9_behind_203 rfl ?_
              refine z_callV (pc := 204) O cl_X9_269 (k9_wrong _ _ (frρ30.lay J)) (by decide) (jo_33 (frρ30.lay J)) kc_9 rfl rfl (Nat.le_of_ble_eq_true rfl) ⟨Nat.zero_le _, Nat.zero_le _⟩ dX9_behind_204 (fun r τ3 hp => ?_)
              obtain ⟨rfl, frτ3, eτ3_0⟩ := hp
              have : gI (sI (sI ρ30 33 38 (iz ((gI ρ30 33 38) - 1))) 33 39 (iz ((gI ρ30 33 39) - 1))) 33 4 = gI σ 33 4 := gI_iz (sk2t (by decide) (sk2t (by decide) (Fr.it frρ30 rfl (izg σ 33 4)))) (rgI _ _ _)
              have : gI (sI (sI ρ30 33 38 (iz ((gI ρ30 33 38) - 1))) 33 39 (iz ((gI ρ30 33 39) - 1))) 33 5 = gI σ 33 5 := gI_iz (sk2t (by decide) (sk2t (by decide) (Fr.it frρ30 rfl (izg σ 33 5)))) (rgI _ _ _)
              have : gI (sI (sI ρ30 33 38 (iz ((gI ρ30 33 38) - 1))) 33 39 (iz ((gI ρ30 33 39) - 1))) 33 7 = gI σ 33 7 := gI_iz (sk2t (by decide) (sk2t (by decide) (Fr.it frρ30 rfl (izg σ 33 7)))) (rgI _ _ _)
              have : gI (sI (sI ρ30 33 38 (iz ((gI ρ30 33 38) - 1))) 33 39 (iz ((gI ρ30 33 39) - 1))) 33 9 = gI σ 33 9 := gI_iz (sk2t (by decide) (sk2t (by decide) (Fr.it frρ30 rfl (izg σ 33 9)))) (rgI _ _ _)
              refine z_iconst (pc := 207) (v := iz (0)) O dX9_behind_207 (by decide) ?_
              refine z_zret (pc := 208) O dX9_behind_208 rfl ?_
              exact ⟨0, rfl, (by decide), ((((frρ30.mono (V := [(33, 7), (33, 8), (33, 9), (33, 10), (33, 11), (33, 4), (33, 5), (33, 36), (51, 99999), (52, 99999), (33, 35), (57, 99999), (33, 38), (33, 39)]) rfl).pI rfl).pI rfl).tr (frτ3.mono (V := [(33, 7), (33, 8), (33, 9), (33, 10), (33, 11), (33, 4), (33, 5), (33, 36), (51, 99999), (52, 99999), (33, 35), (57, 99999), (33, 38), (33, 39)]) rfl)), (by have : gI τ3 33 7 = gI σ 33 7 := gI_iz (Fr.it frτ3 rfl (sk2t (by decide) (sk2t (by decide) (Fr.it frρ30 rfl (izg σ 33 7))))) (rgI _ _ _); have : gI τ3 33 8 = gI σ 33 8 := gI_iz (Fr.it frτ3 rfl (sk2t (by decide) (sk2t (by decide) (Fr.it frρ30 rfl (izg σ 33 8))))) (rgI _ _ _); have : gI τ3 33 3 = gI σ 33 3 := gI_iz (Fr.it frτ3 rfl (sk2t (by decide) (sk2t (by decide) (Fr.it frρ30 rfl (izg σ 33 3))))) (rgI _ _ _); have : gI τ3 33 9 = gI σ 33 9 := gI_iz (Fr.it frτ3 rfl (sk2t (by decide) (sk2t (by decide) (Fr.it frρ30 rfl (izg σ 33 9))))) (rgI _ _ _); omega), (by have : gI τ3 33 7 = gI σ 33 7 := gI_iz (Fr.it frτ3 rfl (sk2t (by decide) (sk2t (by decide) (Fr.it frρ30 rfl (izg σ 33 7))))) (rgI _ _ _); have : gI τ3 33 36 = gI σ 33 36 := gI_iz (Fr.it frτ3 rfl (sk2t (by decide) (sk2t (by decide) (Fr.it frρ30 rfl (izg σ 33 36))))) (rgI _ _ _); omega), (by have : gI τ3 33 38 = (gI ρ30 33 38) - 1 := gI_iz (Fr.it frτ3 rfl (sk2t (by decide) (hI_at _ _ _ _))) (by omega); omega), (Or.inl (by omega)), (fun k hk => ⟨(((frτ3.g 51 k rfl).trans (gI_eq (sk1t (by decide) (sk1t (by decide) rfl)))).trans (ff30_2 k hk).1), (((frτ3.g 52 k rfl).trans (gI_eq (sk1t (by decide) (sk1t (by decide) rfl)))).trans (ff30_2 k hk).2)⟩)⟩
            · refine z_aload_n (pc := 196) O dX9_behind_196 rfl ?_
              refine z_callV (pc := 197) O cl_X9_266 (k9_next _ _ (frρ30.lay J) (by have : gI (sI (sI ρ30 33 38 (iz ((gI ρ30 33 38) - 1))) 33 39 (iz ((gI ρ30 33 39) - 1))) 33 3 = gI σ 33 3 := gI_iz (sk2t (by decide) (sk2t (by decide) (Fr.it frρ30 rfl (izg σ 33 3)))) (rgI _ _ _); omega) (by have : gI (sI (sI ρ30 33 38 (iz ((gI ρ30 33 38) - 1))) 33 39 (iz ((gI ρ30 33 39) - 1))) 33 8 = gI σ 33 8 := gI_iz (sk2t (by decide) (sk2t (by decide) (Fr.it frρ30 rfl (izg σ 33 8)))) (rgI _ _ _); have : gI (sI (sI ρ30 33 38 (iz ((gI ρ30 33 38) - 1))) 33 39 (iz ((gI ρ30 33 39) - 1))) 33 3 = gI σ 33 3 := gI_iz (sk2t (by decide) (sk2t (by decide) (Fr.it frρ30 rfl (izg σ 33 3)))) (rgI _ _ _); omega)) (by decide) (jo_33 (frρ30.lay J)) kc_9 rfl rfl (Nat.le_of_ble_eq_true rfl) ⟨Nat.zero_le _, Nat.zero_le _⟩ dX9_behind_197 (fun r τ5 hp => ?_)
              obtain ⟨rfl, frτ5, eτ5_0, eτ5_1⟩ := hp
              have : gI (sI (sI ρ30 33 38 (iz ((gI ρ30 33 38) - 1))) 33 39 (iz ((gI ρ30 33 39) - 1))) 33 8 = gI σ 33 8 := gI_iz (sk2t (by decide) (sk2t (by decide) (Fr.it frρ30 rfl (izg σ 33 8)))) (rgI _ _ _)
              have : gI τ5 33 3 = gI σ 33 3 := gI_iz (Fr.it frτ5 rfl (sk2t (by decide) (sk2t (by decide) (Fr.it frρ30 rfl (izg σ 33 3))))) (rgI _ _ _)
              refine z_goto (pc := 200) (tgt := 207) O dX9_behind_200 (by decide) ?_
              refine z_iconst (pc := 207) (v := iz (0)) O dX9_behind_207 (by decide) ?_
              refine z_zret (pc := 208) O dX9_behind_208 rfl ?_
              exact ⟨0, rfl, (by decide), ((((frρ30.mono (V := [(33, 7), (33, 8), (33, 9), (33, 10), (33, 11), (33, 4), (33, 5), (33, 36), (51, 99999), (52, 99999), (33, 35), (57, 99999), (33, 38), (33, 39)]) rfl).pI rfl).pI rfl).tr (frτ5.mono (V := [(33, 7), (33, 8), (33, 9), (33, 10), (33, 11), (33, 4), (33, 5), (33, 36), (51, 99999), (52, 99999), (33, 35), (57, 99999), (33, 38), (33, 39)]) rfl)), (by have : gI τ5 33 3 = gI σ 33 3 := gI_iz (Fr.it frτ5 rfl (sk2t (by decide) (sk2t (by decide) (Fr.it frρ30 rfl (izg σ 33 3))))) (rgI _ _ _); omega), (by have : gI τ5 33 4 = gI σ 33 4 := gI_iz (Fr.it frτ5 rfl (sk2t (by decide) (sk2t (by decide) (Fr.it frρ30 rfl (izg σ 33 4))))) (rgI _ _ _); have : gI τ5 33 36 = gI σ 33 36 := gI_iz (Fr.it frτ5 rfl (sk2t (by decide) (sk2t (by decide) (Fr.it frρ30 rfl (izg σ 33 36))))) (rgI _ _ _); omega), (by have : gI τ5 33 38 = (gI ρ30 33 38) - 1 := gI_iz (Fr.it frτ5 rfl (sk2t (by decide) (hI_at _ _ _ _))) (by omega); omega), (Or.inr (by have pq := pop_b (E := gI σ 57) (p := m) (by omega); exact ⟨Or.inr (by have : gI τ5 33 38 = (gI ρ30 33 38) - 1 := gI_iz (Fr.it frτ5 rfl (sk2t (by decide) (hI_at _ _ _ _))) (by omega); omega), ES.of (E := gI σ 57) (m) (c) (by have : gI τ5 33 38 = (gI ρ30 33 38) - 1 := gI_iz (Fr.it frτ5 rfl (sk2t (by decide) (hI_at _ _ _ _))) (by omega); omega) (by have : gI τ5 33 35 = gI ρ30 33 35 := gI_iz (Fr.it frτ5 rfl (sk2t (by decide) (sk2t (by decide) (izg ρ30 33 35)))) (rgI _ _ _); omega) (by omega) (fun i hi => ((frτ5.g 57 i rfl).trans ((gI_eq (sk1t (by decide) (sk1t (by decide) rfl))).trans (frρ30.g 57 i rfl)))) (by omega) (by have : gI τ5 33 39 = (gI ρ30 33 39) - 1 := gI_iz (Fr.it frτ5 rfl (hI_at _ _ _ _)) (by omega); omega) (by omega) (fun hh => hpi.pop) (Chain.congr hch hb.1 hc0.1 (fun k hk => ((frτ5.g 51 k rfl).trans (gI_eq (sk1t (by decide) (sk1t (by decide) rfl))))) (fun k hk => ((frτ5.g 52 k rfl).trans (gI_eq (sk1t (by decide) (sk1t (by decide) rfl)))))) (by omega)⟩)), (fun k hk => ⟨(((frτ5.g 51 k rfl).trans (gI_eq (sk1t (by decide) (sk1t (by decide) rfl)))).trans (ff30_2 k hk).1), (((frτ5.g 52 k rfl).trans (gI_eq (sk1t (by decide) (sk1t (by decide) rfl)))).trans (ff30_2 k hk).2)⟩)⟩
        · refine z_aload_n (pc := 143) O dX9_behind_143 rfl ?_
          refine z_iload_n (pc := 144) O dX9_behind_144 rfl ?_
          refine z_callV (pc := 145) O cl_X9_334 (k9_pile _ _ rk (by omega) (m + 1) (frρ30.lay J) (by omega) (by omega)) (by decide) (jo_33 (frρ30.lay J)) kc_9 rfl rfl (Nat.le_of_ble_eq_true rfl) ⟨Nat.zero_le _, Nat.zero_le _⟩ dX9_behind_145 (fun r τ7 hp => ?_)
          obtain ⟨rfl, frτ7, eτ7_0, eτ7_1, eτ7_2⟩ := hp
          refine z_aload_n (pc := 148) O dX9_behind_148 rfl ?_
          refine z_callV (pc := 149) O cl_X9_266 (k9_next _ _ (frτ7.lay (frρ30.lay J)) (by have : gI τ7 33 3 = gI σ 33 3 := gI_iz (Fr.it frτ7 rfl (Fr.it frρ30 rfl (izg σ 33 3))) (rgI _ _ _); omega) (by have : gI τ7 33 8 = gI σ 33 8 := gI_iz (Fr.it frτ7 rfl (Fr.it frρ30 rfl (izg σ 33 8))) (rgI _ _ _); have : gI τ7 33 3 = gI σ 33 3 := gI_iz (Fr.it frτ7 rfl (Fr.it frρ30 rfl (izg σ 33 3))) (rgI _ _ _); omega)) (by decide) (jo_33 (frτ7.lay (frρ30.lay J))) kc_9 rfl rfl (Nat.le_of_ble_eq_true rfl) ⟨Nat.zero_le _, Nat.zero_le _⟩ dX9_behind_149 (fun r τ9 hp => ?_)
          obtain ⟨rfl, frτ9, eτ9_0, eτ9_1⟩ := hp
          have : gI τ7 33 8 = gI σ 33 8 := gI_iz (Fr.it frτ7 rfl (Fr.it frρ30 rfl (izg σ 33 8))) (rgI _ _ _)
          have : gI τ9 33 3 = gI σ 33 3 := gI_iz (Fr.it frτ9 rfl (Fr.it frτ7 rfl (Fr.it frρ30 rfl (izg σ 33 3)))) (rgI _ _ _)
          refine z_iconst (pc := 152) (v := iz (1)) O dX9_behind_152 (by decide) ?_
          refine z_zret (pc := 153) O dX9_behind_153 rfl ?_
          exact ⟨1, rfl, (by decide), (((frρ30.mono (V := [(33, 7), (33, 8), (33, 9), (33, 10), (33, 11), (33, 4), (33, 5), (33, 36), (51, 99999), (52, 99999), (33, 35), (57, 99999), (33, 38), (33, 39)]) rfl).tr (frτ7.mono (V := [(33, 7), (33, 8), (33, 9), (33, 10), (33, 11), (33, 4), (33, 5), (33, 36), (51, 99999), (52, 99999), (33, 35), (57, 99999), (33, 38), (33, 39)]) rfl)).tr (frτ9.mono (V := [(33, 7), (33, 8), (33, 9), (33, 10), (33, 11), (33, 4), (33, 5), (33, 36), (51, 99999), (52, 99999), (33, 35), (57, 99999), (33, 38), (33, 39)]) rfl)), (by have : gI τ9 33 3 = gI σ 33 3 := gI_iz (Fr.it frτ9 rfl (Fr.it frτ7 rfl (Fr.it frρ30 rfl (izg σ 33 3)))) (rgI _ _ _); omega), (by have : gI τ9 33 4 = gI σ 33 4 := gI_iz (Fr.it frτ9 rfl (Fr.it frτ7 rfl (Fr.it frρ30 rfl (izg σ 33 4)))) (rgI _ _ _); have : gI τ9 33 36 = gI σ 33 36 := gI_iz (Fr.it frτ9 rfl (Fr.it frτ7 rfl (Fr.it frρ30 rfl (izg σ 33 36)))) (rgI _ _ _); omega), (by have : gI τ9 33 38 = gI τ7 33 38 := gI_iz (Fr.it frτ9 rfl (izg τ7 33 38)) (rgI _ _ _); omega), (Or.inr (by have F1 : ∀ i, i < m + 1 → gI τ9 57 i = gI σ 57 i := fun i hi => ((frτ9.g 57 i rfl).trans ((eτ7_2 i (by omega)).trans (frρ30.g 57 i rfl))); have F2 : gI τ9 57 (m + 1) = rk := (frτ9.g 57 (m + 1) rfl).trans eτ7_1; obtain ⟨q1, q2, q3, q4⟩ := push12 hpp hpi F1 (by rw [show m + 1 - 1 = m from rfl]; omega); exact ⟨Or.inl (by omega), ES.of (E := gI τ9 57) (m + 1 + 1) (c) (by have : gI τ9 33 38 = gI τ7 33 38 := gI_iz (Fr.it frτ9 rfl (izg τ7 33 38)) (rgI _ _ _); omega) (by have : gI τ9 33 35 = gI ρ30 33 35 := gI_iz (Fr.it frτ9 rfl (Fr.it frτ7 rfl (izg ρ30 33 35))) (rgI _ _ _); omega) (by omega) (fun i hi => rfl) (by omega) (by have : gI τ9 33 39 = gI ρ30 33 39 := gI_iz (Fr.it frτ9 rfl (Fr.it frτ7 rfl (izg ρ30 33 39))) (rgI _ _ _); omega) (by omega) (fun hh => q1) (Chain.congr hch hb.1 hc0.1 (fun k hk => ((frτ9.g 51 k rfl).trans (frτ7.g 51 k rfl))) (fun k hk => ((frτ9.g 52 k rfl).trans (frτ7.g 52 k rfl)))) (by omega)⟩)), (fun k hk => ⟨(((frτ9.g 51 k rfl).trans (frτ7.g 51 k rfl)).trans (ff30_2 k hk).1), (((frτ9.g 52 k rfl).trans (frτ7.g 52 k rfl)).trans (ff30_2 k hk).2)⟩)⟩
      refine z_getR (pc := 31) 57 O fl_X9_86 rfl (jo_33 (frρ30.lay J)) (jr_33_37 (frρ30.lay J)) dX9_behind_31 ?_
      refine z_aload_n (pc := 34) O dX9_behind_34 rfl ?_
      refine zi_getv (pc := 35) (gI ρ30 33 38) O fl_X9_328 rfl (jo_33 (frρ30.lay J)) (izg ρ30 33 38) dX9_behind_35 ?_
      have := rgI ρ30 33 38
      refine z_iconst (pc := 38) (v := iz (1)) O dX9_behind_38 (by decide) ?_
      refine zi_isub (pc := 39) O dX9_behind_39 ?_
      refine zi_ialdv (pc := 40) m (gI σ 57 m) O (ja_57 (frρ30.lay J)) (by omega) (by omega) (by omega) (Fr.it frρ30 rfl (izg σ 57 m)) dX9_behind_40 ?_
      have := rgI σ 57 m
      refine z_iconst (pc := 41) (v := iz (3)) O dX9_behind_41 (by decide) ?_
      refine zi_icmp_gt (pc := 42) (tgt := 139) O dX9_behind_42 (by decide) (by omega) (by decide) (fun h42 => ?_) (fun h42 => ?_)
      · refine z_lk [(0, .ref 33), (1, .int (iz rk))] ⟨rfl, rfl, trivial⟩ ?_
        exact cut139 () (by omega)
      · refine z_aload_n (pc := 45) O dX9_behind_45 rfl ?_
        refine z_getR (pc := 46) 57 O fl_X9_86 rfl (jo_33 (frρ30.lay J)) (jr_33_37 (frρ30.lay J)) dX9_behind_46 ?_
        refine z_aload_n (pc := 49) O dX9_behind_49 rfl ?_
        refine zi_getv (pc := 50) (gI ρ30 33 38) O fl_X9_328 rfl (jo_33 (frρ30.lay J)) (izg ρ30 33 38) dX9_behind_50 ?_
        refine z_iconst (pc := 53) (v := iz (1)) O dX9_behind_53 (by decide) ?_
        refine zi_isub (pc := 54) O dX9_behind_54 ?_
        refine zi_ialdv (pc := 55) m (gI σ 57 m) O (ja_57 (frρ30.lay J)) (by omega) (by omega) (by omega) (Fr.it frρ30 rfl (izg σ 57 m)) dX9_behind_55 ?_
        refine z_iload_n (pc := 56) O dX9_behind_56 rfl ?_
        refine zi_icmp_lt (pc := 57) (tgt := 139) O dX9_behind_57 (by decide) (by omega) (by omega) (fun h57 => ?_) (fun h57 => ?_)
        · refine z_lk [(0, .ref 33), (1, .int (iz rk))] ⟨rfl, rfl, trivial⟩ ?_
          exact cut139 () (by omega)
        · refine z_aload_n (pc := 60) O dX9_behind_60 rfl ?_
          refine z_dup (pc := 61) O dX9_behind_61 rfl ?_
          refine zi_getv (pc := 62) (gI ρ30 33 38) O fl_X9_328 rfl (jo_33 (frρ30.lay J)) (izg ρ30 33 38) dX9_behind_62 ?_
          refine z_iconst (pc := 65) (v := iz (1)) O dX9_behind_65 (by decide) ?_
          refine zi_isub (pc := 66) O dX9_behind_66 ?_
          refine z_putI (pc := 67) O fl_X9_328 rfl ⟨rfl, rfl⟩ (jo_33 (frρ30.lay J)) dX9_behind_67 ?_
          refine z_aload_n (pc := 70) O dX9_behind_70 rfl ?_
          refine z_getR (pc := 71) 57 O fl_X9_86 rfl (jo_33 (frρ30.lay J)) (jr_33_37 (frρ30.lay J)) dX9_behind_71 ?_
          refine z_aload_n (pc := 74) O dX9_behind_74 rfl ?_
          refine zi_getv (pc := 75) ((gI ρ30 33 38) - 1) O fl_X9_328 rfl (jo_33 (frρ30.lay J)) (hI_at _ _ _ _) dX9_behind_75 ?_
          refine zi_ialdv (pc := 78) m (gI σ 57 m) O (ja_57 (frρ30.lay J)) (by omega) (by omega) (by omega) (sk1t (by decide) (Fr.it frρ30 rfl (izg σ 57 m))) dX9_behind_78 ?_
          refine z_iconst (pc := 79) (v := iz (3)) O dX9_behind_79 (by decide) ?_
          refine zi_icmp_ne (pc := 80) (tgt := 93) O dX9_behind_80 (by decide) (by omega) (by decide) (fun h80 => ?_) (fun h80 => ?_)
          · refine z_aload_n (pc := 93) O dX9_behind_93 rfl ?_
            refine z_aload_n (pc := 94) O dX9_behind_94 rfl ?_
            refine z_getR (pc := 95) 57 O fl_X9_86 rfl (jo_33 (frρ30.lay J)) (jr_33_37 (frρ30.lay J)) dX9_behind_95 ?_
            refine z_aload_n (pc := 98) O dX9_behind_98 rfl ?_
            refine zi_getv (pc := 99) ((gI ρ30 33 38) - 1) O fl_X9_328 rfl (jo_33 (frρ30.lay J)) (hI_at _ _ _ _) dX9_behind_99 ?_
            refine zi_ialdv (pc := 102) m (gI σ 57 m) O (ja_57 (frρ30.lay J)) (by omega) (by omega) (by omega) (sk1t (by decide) (Fr.it frρ30 rfl (izg σ 57 m))) dX9_behind_102 ?_
            refine z_iconst (pc := 103) (v := iz (3)) O dX9_behind_103 (by decide) ?_
            refine zi_icmp_ne (pc := 104) (tgt := 112) O dX9_behind_104 (by decide) (by omega) (by decide) (fun h104 => ?_) (fun h104 => ?_)
            · refine z_aload_n (pc := 112) O dX9_behind_112 rfl ?_
              refine z_getR (pc := 113) 57 O fl_X9_86 rfl (jo_33 (frρ30.lay J)) (jr_33_37 (frρ30.lay J)) dX9_behind_113 ?_
              refine z_aload_n (pc := 116) O dX9_behind_116 rfl ?_
              refine zi_getv (pc := 117) ((gI ρ30 33 38) - 1) O fl_X9_328 rfl (jo_33 (frρ30.lay J)) (hI_at _ _ _ _) dX9_behind_117 ?_
              refine zi_ialdv (pc := 120) m (gI σ 57 m) O (ja_57 (frρ30.lay J)) (by omega) (by omega) (by omega) (sk1t (by decide) (Fr.it frρ30 rfl (izg σ 57 m))) dX9_behind_120 ?_
              refine z_iconst (pc := 121) (v := iz (2)) O dX9_behind_121 (by decide) ?_
              refine zi_icmp_ne (pc := 122) (tgt := 130) O dX9_behind_122 (by decide) (by omega) (by decide) (fun h122 => ?_) (fun h122 => ?_)
              · refine z_bipush (pc := 130) (v := iz (124)) O dX9_behind_130 (by decide) ?_
                refine z_iconst (pc := 132) (v := iz (0)) O dX9_behind_132 (by decide) ?_
                have pq9 := pop_ge (E := gI σ 57) (p := m) (by omega)
                refine z_callV (pc := 133) O cl_X9_347 (k9_put _ _ 124 (by decide) 0 (by decide) b c (frρ30.lay J) (by have : gI (sI ρ30 33 38 (iz ((gI ρ30 33 38) - 1))) 33 34 = gI σ 33 34 := gI_iz (sk2t (by decide) (Fr.it frρ30 rfl (izg σ 33 34))) (rgI _ _ _); omega) (by have : gI (sI ρ30 33 38 (iz ((gI ρ30 33 38) - 1))) 33 35 = gI ρ30 33 35 := gI_iz (sk2t (by decide) (izg ρ30 33 35)) (rgI _ _ _); omega) (by omega) (by omega)) (by decide) (jo_33 (frρ30.lay J)) kc_9 rfl rfl (Nat.le_of_ble_eq_true rfl) ⟨Nat.zero_le _, Nat.zero_le _⟩ dX9_behind_133 (fun r τ11 hp => ?_)
                obtain ⟨rfl, frτ11, eτ11_0, eτ11_1, eτ11_2, eτ11_3⟩ := hp
                refine z_goto (pc := 136) (tgt := 30) O dX9_behind_136 (by decide) ?_
                refine z_lk [(0, .ref 33), (1, .int (iz rk))] ⟨rfl, rfl, trivial⟩ ?_
                exact ih30 _ (by have : gI τ11 33 38 = (gI ρ30 33 38) - 1 := gI_iz (Fr.it frτ11 rfl (hI_at _ _ _ _)) (by omega); omega) τ11 rfl (by first | (exfalso; omega) | (have pq := pop_a (E := gI σ 57) (p := m) (by omega); exact ES.of (E := gI σ 57) (m) (c + 1) (by have : gI τ11 33 38 = (gI ρ30 33 38) - 1 := gI_iz (Fr.it frτ11 rfl (hI_at _ _ _ _)) (by omega); omega) (by omega) (by omega) (fun i hi => ((frτ11.g 57 i rfl).trans ((gI_eq (sk1t (by decide) rfl)).trans (frρ30.g 57 i rfl)))) (by have : gI τ11 33 7 = gI σ 33 7 := gI_iz (Fr.it frτ11 rfl (sk2t (by decide) (Fr.it frρ30 rfl (izg σ 33 7)))) (rgI _ _ _); omega) (by have : gI τ11 33 39 = gI ρ30 33 39 := gI_iz (Fr.it frτ11 rfl (sk2t (by decide) (izg ρ30 33 39))) (rgI _ _ _); omega) (by omega) (fun hh => hpi.pop) (Chain.put (y := cnt b12 (gI σ 57) (m + 1) + (1 - 0) - 1) hch hb.1 hc0.1 hc0.2 (fun k hk => ((eτ11_3 k (by omega)).1.trans (gI_eq (sk1t (by decide) rfl)))) (fun k hk => ((eτ11_3 k (by omega)).2.trans (gI_eq (sk1t (by decide) rfl)))) (by rw [eτ11_1]; exact Cd_two (by omega) (by decide))) (by omega))) (by have : gI τ11 33 38 = (gI ρ30 33 38) - 1 := gI_iz (Fr.it frτ11 rfl (hI_at _ _ _ _)) (by omega); omega) (fun k hk => ⟨((eτ11_3 k (by omega)).1.trans (gI_eq (sk1t (by decide) rfl))).trans (ff30_2 k hk).1, ((eτ11_3 k (by omega)).2.trans (gI_eq (sk1t (by decide) rfl))).trans (ff30_2 k hk).2⟩) ((frρ30.pI rfl).tr (frτ11.mono (V := [(51, 99999), (52, 99999), (33, 35), (33, 38), (33, 39)]) rfl))
              · refine z_bipush (pc := 125) (v := iz (38)) O dX9_behind_125 (by decide) ?_
                refine z_goto (pc := 127) (tgt := 132) O dX9_behind_127 (by decide) ?_
                refine z_iconst (pc := 132) (v := iz (0)) O dX9_behind_132 (by decide) ?_
                have pq9 := pop_ge (E := gI σ 57) (p := m) (by omega)
                refine z_callV (pc := 133) O cl_X9_347 (k9_put _ _ 38 (by decide) 0 (by decide) b c (frρ30.lay J) (by have : gI (sI ρ30 33 38 (iz ((gI ρ30 33 38) - 1))) 33 34 = gI σ 33 34 := gI_iz (sk2t (by decide) (Fr.it frρ30 rfl (izg σ 33 34))) (rgI _ _ _); omega) (by have : gI (sI ρ30 33 38 (iz ((gI ρ30 33 38) - 1))) 33 35 = gI ρ30 33 35 := gI_iz (sk2t (by decide) (izg ρ30 33 35)) (rgI _ _ _); omega) (by omega) (by omega)) (by decide) (jo_33 (frρ30.lay J)) kc_9 rfl rfl (Nat.le_of_ble_eq_true rfl) ⟨Nat.zero_le _, Nat.zero_le _⟩ dX9_behind_133 (fun r τ13 hp => ?_)
                obtain ⟨rfl, frτ13, eτ13_0, eτ13_1, eτ13_2, eτ13_3⟩ := hp
                refine z_goto (pc := 136) (tgt := 30) O dX9_behind_136 (by decide) ?_
                refine z_lk [(0, .ref 33), (1, .int (iz rk))] ⟨rfl, rfl, trivial⟩ ?_
                exact ih30 _ (by have : gI τ13 33 38 = (gI ρ30 33 38) - 1 := gI_iz (Fr.it frτ13 rfl (hI_at _ _ _ _)) (by omega); omega) τ13 rfl (by first | (exfalso; omega) | (have pq := pop_a (E := gI σ 57) (p := m) (by omega); exact ES.of (E := gI σ 57) (m) (c + 1) (by have : gI τ13 33 38 = (gI ρ30 33 38) - 1 := gI_iz (Fr.it frτ13 rfl (hI_at _ _ _ _)) (by omega); omega) (by omega) (by omega) (fun i hi => ((frτ13.g 57 i rfl).trans ((gI_eq (sk1t (by decide) rfl)).trans (frρ30.g 57 i rfl)))) (by have : gI τ13 33 7 = gI σ 33 7 := gI_iz (Fr.it frτ13 rfl (sk2t (by decide) (Fr.it frρ30 rfl (izg σ 33 7)))) (rgI _ _ _); omega) (by have : gI τ13 33 39 = gI ρ30 33 39 := gI_iz (Fr.it frτ13 rfl (sk2t (by decide) (izg ρ30 33 39))) (rgI _ _ _); omega) (by omega) (fun hh => hpi.pop) (Chain.put (y := cnt b12 (gI σ 57) (m + 1) + (1 - 0) - 1) hch hb.1 hc0.1 hc0.2 (fun k hk => ((eτ13_3 k (by omega)).1.trans (gI_eq (sk1t (by decide) rfl)))) (fun k hk => ((eτ13_3 k (by omega)).2.trans (gI_eq (sk1t (by decide) rfl)))) (by rw [eτ13_1]; exact Cd_two (by omega) (by decide))) (by omega))) (by have : gI τ13 33 38 = (gI ρ30 33 38) - 1 := gI_iz (Fr.it frτ13 rfl (hI_at _ _ _ _)) (by omega); omega) (fun k hk => ⟨((eτ13_3 k (by omega)).1.trans (gI_eq (sk1t (by decide) rfl))).trans (ff30_2 k hk).1, ((eτ13_3 k (by omega)).2.trans (gI_eq (sk1t (by decide) rfl))).trans (ff30_2 k hk).2⟩) ((frρ30.pI rfl).tr (frτ13.mono (V := [(51, 99999), (52, 99999), (33, 35), (33, 38), (33, 39)]) rfl))
            · refine z_bipush (pc := 107) (v := iz (126)) O dX9_behind_107 (by decide) ?_
              refine z_goto (pc := 109) (tgt := 132) O dX9_behind_109 (by decide) ?_
              refine z_iconst (pc := 132) (v := iz (0)) O dX9_behind_132 (by decide) ?_
              have pq9 := pop_ge (E := gI σ 57) (p := m) (by omega)
              refine z_callV (pc := 133) O cl_X9_347 (k9_put _ _ 126 (by decide) 0 (by decide) b c (frρ30.lay J) (by have : gI (sI ρ30 33 38 (iz ((gI ρ30 33 38) - 1))) 33 34 = gI σ 33 34 := gI_iz (sk2t (by decide) (Fr.it frρ30 rfl (izg σ 33 34))) (rgI _ _ _); omega) (by have : gI (sI ρ30 33 38 (iz ((gI ρ30 33 38) - 1))) 33 35 = gI ρ30 33 35 := gI_iz (sk2t (by decide) (izg ρ30 33 35)) (rgI _ _ _); omega) (by omega) (by omega)) (by decide) (jo_33 (frρ30.lay J)) kc_9 rfl rfl (Nat.le_of_ble_eq_true rfl) ⟨Nat.zero_le _, Nat.zero_le _⟩ dX9_behind_133 (fun r τ15 hp => ?_)
              obtain ⟨rfl, frτ15, eτ15_0, eτ15_1, eτ15_2, eτ15_3⟩ := hp
              refine z_goto (pc := 136) (tgt := 30) O dX9_behind_136 (by decide) ?_
              refine z_lk [(0, .ref 33), (1, .int (iz rk))] ⟨rfl, rfl, trivial⟩ ?_
              exact ih30 _ (by have : gI τ15 33 38 = (gI ρ30 33 38) - 1 := gI_iz (Fr.it frτ15 rfl (hI_at _ _ _ _)) (by omega); omega) τ15 rfl (by first | (exfalso; omega) | (have pq := pop_n (E := gI σ 57) (p := m) (by omega); exact ES.of (E := gI σ 57) (m) (c + 1) (by have : gI τ15 33 38 = (gI ρ30 33 38) - 1 := gI_iz (Fr.it frτ15 rfl (hI_at _ _ _ _)) (by omega); omega) (by omega) (by omega) (fun i hi => ((frτ15.g 57 i rfl).trans ((gI_eq (sk1t (by decide) rfl)).trans (frρ30.g 57 i rfl)))) (by have : gI τ15 33 7 = gI σ 33 7 := gI_iz (Fr.it frτ15 rfl (sk2t (by decide) (Fr.it frρ30 rfl (izg σ 33 7)))) (rgI _ _ _); omega) (by have : gI τ15 33 39 = gI ρ30 33 39 := gI_iz (Fr.it frτ15 rfl (sk2t (by decide) (izg ρ30 33 39))) (rgI _ _ _); omega) (by omega) (fun hh => hpi.pop) (Chain.put (y := cnt b12 (gI σ 57) (m + 1) + (1 - 0)) hch hb.1 hc0.1 hc0.2 (fun k hk => ((eτ15_3 k (by omega)).1.trans (gI_eq (sk1t (by decide) rfl)))) (fun k hk => ((eτ15_3 k (by omega)).2.trans (gI_eq (sk1t (by decide) rfl)))) (by rw [eτ15_1]; exact Cd_not (by omega))) (by omega))) (by have : gI τ15 33 38 = (gI ρ30 33 38) - 1 := gI_iz (Fr.it frτ15 rfl (hI_at _ _ _ _)) (by omega); omega) (fun k hk => ⟨((eτ15_3 k (by omega)).1.trans (gI_eq (sk1t (by decide) rfl))).trans (ff30_2 k hk).1, ((eτ15_3 k (by omega)).2.trans (gI_eq (sk1t (by decide) rfl))).trans (ff30_2 k hk).2⟩) ((frρ30.pI rfl).tr (frτ15.mono (V := [(51, 99999), (52, 99999), (33, 35), (33, 38), (33, 39)]) rfl))
          · refine z_aload_n (pc := 83) O dX9_behind_83 rfl ?_
            refine z_dup (pc := 84) O dX9_behind_84 rfl ?_
            refine zi_getv (pc := 85) (gI ρ30 33 39) O fl_X9_331 rfl (jo_33 (frρ30.lay J)) (sk2t (by decide) (izg ρ30 33 39)) dX9_behind_85 ?_
            have := rgI ρ30 33 39
            refine z_iconst (pc := 88) (v := iz (1)) O dX9_behind_88 (by decide) ?_
            refine zi_isub (pc := 89) O dX9_behind_89 ?_
            refine z_putI (pc := 90) O fl_X9_331 rfl ⟨rfl, rfl⟩ (jo_33 (frρ30.lay J)) dX9_behind_90 ?_
            refine z_aload_n (pc := 93) O dX9_behind_93 rfl ?_
            refine z_aload_n (pc := 94) O dX9_behind_94 rfl ?_
            refine z_getR (pc := 95) 57 O fl_X9_86 rfl (jo_33 (frρ30.lay J)) (jr_33_37 (frρ30.lay J)) dX9_behind_95 ?_
            refine z_aload_n (pc := 98) O dX9_behind_98 rfl ?_
            refine zi_getv (pc := 99) ((gI ρ30 33 38) - 1) O fl_X9_328 rfl (jo_33 (frρ30.lay J)) (sk2t (by decide) (hI_at _ _ _ _)) dX9_behind_99 ?_
            refine zi_ialdv (pc := 102) m (gI σ 57 m) O (ja_57 (frρ30.lay J)) (by omega) (by omega) (by omega) (sk1t (by decide) (sk1t (by decide) (Fr.it frρ30 rfl (izg σ 57 m)))) dX9_behind_102 ?_
            refine z_iconst (pc := 103) (v := iz (3)) O dX9_behind_103 (by decide) ?_
            refine zi_icmp_ne (pc := 104) (tgt := 112) O dX9_behind_104 (by decide) (by omega) (by decide) (fun h104 => ?_) (fun h104 => ?_)
            · refine z_aload_n (pc := 112) O dX9_behind_112 rfl ?_
              refine z_getR (pc := 113) 57 O fl_X9_86 rfl (jo_33 (frρ30.lay J)) (jr_33_37 (frρ30.lay J)) dX9_behind_113 ?_
              refine z_aload_n (pc := 116) O dX9_behind_116 rfl ?_
              refine zi_getv (pc := 117) ((gI ρ30 33 38) - 1) O fl_X9_328 rfl (jo_33 (frρ30.lay J)) (sk2t (by decide) (hI_at _ _ _ _)) dX9_behind_117 ?_
              refine zi_ialdv (pc := 120) m (gI σ 57 m) O (ja_57 (frρ30.lay J)) (by omega) (by omega) (by omega) (sk1t (by decide) (sk1t (by decide) (Fr.it frρ30 rfl (izg σ 57 m)))) dX9_behind_120 ?_
              refine z_iconst (pc := 121) (v := iz (2)) O dX9_behind_121 (by decide) ?_
              refine zi_icmp_ne (pc := 122) (tgt := 130) O dX9_behind_122 (by decide) (by omega) (by decide) (fun h122 => ?_) (fun h122 => ?_)
              · refine z_bipush (pc := 130) (v := iz (124)) O dX9_behind_130 (by decide) ?_
                refine z_iconst (pc := 132) (v := iz (0)) O dX9_behind_132 (by decide) ?_
                have pq9 := pop_ge (E := gI σ 57) (p := m) (by omega)
                refine z_callV (pc := 133) O cl_X9_347 (k9_put _ _ 124 (by decide) 0 (by decide) b c (frρ30.lay J) (by have : gI (sI (sI ρ30 33 38 (iz ((gI ρ30 33 38) - 1))) 33 39 (iz ((gI ρ30 33 39) - 1))) 33 34 = gI σ 33 34 := gI_iz (sk2t (by decide) (sk2t (by decide) (Fr.it frρ30 rfl (izg σ 33 34)))) (rgI _ _ _); omega) (by have : gI (sI (sI ρ30 33 38 (iz ((gI ρ30 33 38) - 1))) 33 39 (iz ((gI ρ30 33 39) - 1))) 33 35 = gI ρ30 33 35 := gI_iz (sk2t (by decide) (sk2t (by decide) (izg ρ30 33 35))) (rgI _ _ _); omega) (by omega) (by omega)) (by decide) (jo_33 (frρ30.lay J)) kc_9 rfl rfl (Nat.le_of_ble_eq_true rfl) ⟨Nat.zero_le _, Nat.zero_le _⟩ dX9_behind_133 (fun r τ17 hp => ?_)
                obtain ⟨rfl, frτ17, eτ17_0, eτ17_1, eτ17_2, eτ17_3⟩ := hp
                refine z_goto (pc := 136) (tgt := 30) O dX9_behind_136 (by decide) ?_
                refine z_lk [(0, .ref 33), (1, .int (iz rk))] ⟨rfl, rfl, trivial⟩ ?_
                exact ih30 _ (by have : gI τ17 33 38 = (gI ρ30 33 38) - 1 := gI_iz (Fr.it frτ17 rfl (sk2t (by decide) (hI_at _ _ _ _))) (by omega); omega) τ17 rfl (by first | (exfalso; omega) | (have pq := pop_a (E := gI σ 57) (p := m) (by omega); exact ES.of (E := gI σ 57) (m) (c + 1) (by have : gI τ17 33 38 = (gI ρ30 33 38) - 1 := gI_iz (Fr.it frτ17 rfl (sk2t (by decide) (hI_at _ _ _ _))) (by omega); omega) (by omega) (by omega) (fun i hi => ((frτ17.g 57 i rfl).trans ((gI_eq (sk1t (by decide) (sk1t (by decide) rfl))).trans (frρ30.g 57 i rfl)))) (by have : gI τ17 33 7 = gI σ 33 7 := gI_iz (Fr.it frτ17 rfl (sk2t (by decide) (sk2t (by decide) (Fr.it frρ30 rfl (izg σ 33 7))))) (rgI _ _ _); omega) (by have : gI τ17 33 39 = (gI ρ30 33 39) - 1 := gI_iz (Fr.it frτ17 rfl (hI_at _ _ _ _)) (by omega); omega) (by omega) (fun hh => hpi.pop) (Chain.put (y := cnt b12 (gI σ 57) (m + 1) + (1 - 0) - 1) hch hb.1 hc0.1 hc0.2 (fun k hk => ((eτ17_3 k (by omega)).1.trans (gI_eq (sk1t (by decide) (sk1t (by decide) rfl))))) (fun k hk => ((eτ17_3 k (by omega)).2.trans (gI_eq (sk1t (by decide) (sk1t (by decide) rfl))))) (by rw [eτ17_1]; exact Cd_two (by omega) (by decide))) (by omega))) (by have : gI τ17 33 38 = (gI ρ30 33 38) - 1 := gI_iz (Fr.it frτ17 rfl (sk2t (by decide) (hI_at _ _ _ _))) (by omega); omega) (fun k hk => ⟨((eτ17_3 k (by omega)).1.trans (gI_eq (sk1t (by decide) (sk1t (by decide) rfl)))).trans (ff30_2 k hk).1, ((eτ17_3 k (by omega)).2.trans (gI_eq (sk1t (by decide) (sk1t (by decide) rfl)))).trans (ff30_2 k hk).2⟩) (((frρ30.pI rfl).pI rfl).tr (frτ17.mono (V := [(51, 99999), (52, 99999), (33, 35), (33, 38), (33, 39)]) rfl))
              · refine z_bipush (pc := 125) (v := iz (38)) O dX9_behind_125 (by decide) ?_
                refine z_goto (pc := 127) (tgt := 132) O dX9_behind_127 (by decide) ?_
                refine z_iconst (pc := 132) (v := iz (0)) O dX9_behind_132 (by decide) ?_
                have pq9 := pop_ge (E := gI σ 57) (p := m) (by omega)
                refine z_callV (pc := 133) O cl_X9_347 (k9_put _ _ 38 (by decide) 0 (by decide) b c (frρ30.lay J) (by have : gI (sI (sI ρ30 33 38 (iz ((gI ρ30 33 38) - 1))) 33 39 (iz ((gI ρ30 33 39) - 1))) 33 34 = gI σ 33 34 := gI_iz (sk2t (by decide) (sk2t (by decide) (Fr.it frρ30 rfl (izg σ 33 34)))) (rgI _ _ _); omega) (by have : gI (sI (sI ρ30 33 38 (iz ((gI ρ30 33 38) - 1))) 33 39 (iz ((gI ρ30 33 39) - 1))) 33 35 = gI ρ30 33 35 := gI_iz (sk2t (by decide) (sk2t (by decide) (izg ρ30 33 35))) (rgI _ _ _); omega) (by omega) (by omega)) (by decide) (jo_33 (frρ30.lay J)) kc_9 rfl rfl (Nat.le_of_ble_eq_true rfl) ⟨Nat.zero_le _, Nat.zero_le _⟩ dX9_behind_133 (fun r τ19 hp => ?_)
                obtain ⟨rfl, frτ19, eτ19_0, eτ19_1, eτ19_2, eτ19_3⟩ := hp
                refine z_goto (pc := 136) (tgt := 30) O dX9_behind_136 (by decide) ?_
                refine z_lk [(0, .ref 33), (1, .int (iz rk))] ⟨rfl, rfl, trivial⟩ ?_
                exact ih30 _ (by have : gI τ19 33 38 = (gI ρ30 33 38) - 1 := gI_iz (Fr.it frτ19 rfl (sk2t (by decide) (hI_at _ _ _ _))) (by omega); omega) τ19 rfl (by first | (exfalso; omega) | (have pq := pop_a (E := gI σ 57) (p := m) (by omega); exact ES.of (E := gI σ 57) (m) (c + 1) (by have : gI τ19 33 38 = (gI ρ30 33 38) - 1 := gI_iz (Fr.it frτ19 rfl (sk2t (by decide) (hI_at _ _ _ _))) (by omega); omega) (by omega) (by omega) (fun i hi => ((frτ19.g 57 i rfl).trans ((gI_eq (sk1t (by decide) (sk1t (by decide) rfl))).trans (frρ30.g 57 i rfl)))) (by have : gI τ19 33 7 = gI σ 33 7 := gI_iz (Fr.it frτ19 rfl (sk2t (by decide) (sk2t (by decide) (Fr.it frρ30 rfl (izg σ 33 7))))) (rgI _ _ _); omega) (by have : gI τ19 33 39 = (gI ρ30 33 39) - 1 := gI_iz (Fr.it frτ19 rfl (hI_at _ _ _ _)) (by omega); omega) (by omega) (fun hh => hpi.pop) (Chain.put (y := cnt b12 (gI σ 57) (m + 1) + (1 - 0) - 1) hch hb.1 hc0.1 hc0.2 (fun k hk => ((eτ19_3 k (by omega)).1.trans (gI_eq (sk1t (by decide) (sk1t (by decide) rfl))))) (fun k hk => ((eτ19_3 k (by omega)).2.trans (gI_eq (sk1t (by decide) (sk1t (by decide) rfl))))) (by rw [eτ19_1]; exact Cd_two (by omega) (by decide))) (by omega))) (by have : gI τ19 33 38 = (gI ρ30 33 38) - 1 := gI_iz (Fr.it frτ19 rfl (sk2t (by decide) (hI_at _ _ _ _))) (by omega); omega) (fun k hk => ⟨((eτ19_3 k (by omega)).1.trans (gI_eq (sk1t (by decide) (sk1t (by decide) rfl)))).trans (ff30_2 k hk).1, ((eτ19_3 k (by omega)).2.trans (gI_eq (sk1t (by decide) (sk1t (by decide) rfl)))).trans (ff30_2 k hk).2⟩) (((frρ30.pI rfl).pI rfl).tr (frτ19.mono (V := [(51, 99999), (52, 99999), (33, 35), (33, 38), (33, 39)]) rfl))
            · refine z_bipush (pc := 107) (v := iz (126)) O dX9_behind_107 (by decide) ?_
              refine z_goto (pc := 109) (tgt := 132) O dX9_behind_109 (by decide) ?_
              refine z_iconst (pc := 132) (v := iz (0)) O dX9_behind_132 (by decide) ?_
              have pq9 := pop_ge (E := gI σ 57) (p := m) (by omega)
              refine z_callV (pc := 133) O cl_X9_347 (k9_put _ _ 126 (by decide) 0 (by decide) b c (frρ30.lay J) (by have : gI (sI (sI ρ30 33 38 (iz ((gI ρ30 33 38) - 1))) 33 39 (iz ((gI ρ30 33 39) - 1))) 33 34 = gI σ 33 34 := gI_iz (sk2t (by decide) (sk2t (by decide) (Fr.it frρ30 rfl (izg σ 33 34)))) (rgI _ _ _); omega) (by have : gI (sI (sI ρ30 33 38 (iz ((gI ρ30 33 38) - 1))) 33 39 (iz ((gI ρ30 33 39) - 1))) 33 35 = gI ρ30 33 35 := gI_iz (sk2t (by decide) (sk2t (by decide) (izg ρ30 33 35))) (rgI _ _ _); omega) (by omega) (by omega)) (by decide) (jo_33 (frρ30.lay J)) kc_9 rfl rfl (Nat.le_of_ble_eq_true rfl) ⟨Nat.zero_le _, Nat.zero_le _⟩ dX9_behind_133 (fun r τ21 hp => ?_)
              obtain ⟨rfl, frτ21, eτ21_0, eτ21_1, eτ21_2, eτ21_3⟩ := hp
              refine z_goto (pc := 136) (tgt := 30) O dX9_behind_136 (by decide) ?_
              refine z_lk [(0, .ref 33), (1, .int (iz rk))] ⟨rfl, rfl, trivial⟩ ?_
              exact ih30 _ (by have : gI τ21 33 38 = (gI ρ30 33 38) - 1 := gI_iz (Fr.it frτ21 rfl (sk2t (by decide) (hI_at _ _ _ _))) (by omega); omega) τ21 rfl (by first | (exfalso; omega) | (have pq := pop_n (E := gI σ 57) (p := m) (by omega); exact ES.of (E := gI σ 57) (m) (c + 1) (by have : gI τ21 33 38 = (gI ρ30 33 38) - 1 := gI_iz (Fr.it frτ21 rfl (sk2t (by decide) (hI_at _ _ _ _))) (by omega); omega) (by omega) (by omega) (fun i hi => ((frτ21.g 57 i rfl).trans ((gI_eq (sk1t (by decide) (sk1t (by decide) rfl))).trans (frρ30.g 57 i rfl)))) (by have : gI τ21 33 7 = gI σ 33 7 := gI_iz (Fr.it frτ21 rfl (sk2t (by decide) (sk2t (by decide) (Fr.it frρ30 rfl (izg σ 33 7))))) (rgI _ _ _); omega) (by have : gI τ21 33 39 = (gI ρ30 33 39) - 1 := gI_iz (Fr.it frτ21 rfl (hI_at _ _ _ _)) (by omega); omega) (by omega) (fun hh => hpi.pop) (Chain.put (y := cnt b12 (gI σ 57) (m + 1) + (1 - 0)) hch hb.1 hc0.1 hc0.2 (fun k hk => ((eτ21_3 k (by omega)).1.trans (gI_eq (sk1t (by decide) (sk1t (by decide) rfl))))) (fun k hk => ((eτ21_3 k (by omega)).2.trans (gI_eq (sk1t (by decide) (sk1t (by decide) rfl))))) (by rw [eτ21_1]; exact Cd_not (by omega))) (by omega))) (by have : gI τ21 33 38 = (gI ρ30 33 38) - 1 := gI_iz (Fr.it frτ21 rfl (sk2t (by decide) (hI_at _ _ _ _))) (by omega); omega) (fun k hk => ⟨((eτ21_3 k (by omega)).1.trans (gI_eq (sk1t (by decide) (sk1t (by decide) rfl)))).trans (ff30_2 k hk).1, ((eτ21_3 k (by omega)).2.trans (gI_eq (sk1t (by decide) (sk1t (by decide) rfl)))).trans (ff30_2 k hk).2⟩) (((frρ30.pI rfl).pI rfl).tr (frτ21.mono (V := [(51, 99999), (52, 99999), (33, 35), (33, 38), (33, 39)]) rfl))
    refine z_lk [(0, .ref 33), (1, .int (iz rk))] ⟨rfl, rfl, trivial⟩ ?_
    exact cut30 _ σ rfl es0 (by omega) (fun k hk => ⟨rfl, rfl⟩) (Fr.rf [(51, 99999), (52, 99999), (33, 35), (33, 38), (33, 39)] σ)
  refine z_aload_n (pc := 0) O dX9_behind_0 rfl ?_
  refine z_ldc2 (pc := 1) O tw_1026 dX9_behind_1 ?_
  refine z_callV (pc := 4) O cl_X9_263 (k9_isWord _ _ 6385252 J) (by decide) (jo_33 J) kc_9 rfl rfl (Nat.le_of_ble_eq_true rfl) ⟨Nat.zero_le _, Nat.zero_le _⟩ dX9_behind_4 (fun r τ23 hp => ?_)
  obtain ⟨z24, rfl, fτ23_0, fτ23_1, rfl⟩ := hp
  refine zi_if_eq (pc := 7) (tgt := 14) O dX9_behind_7 (by decide) (by omega) (fun h7 => ?_) (fun h7 => ?_)
  · refine z_aload_n (pc := 14) O dX9_behind_14 rfl ?_
    refine z_ldc2 (pc := 15) O tw_1025 dX9_behind_15 ?_
    refine z_callV (pc := 18) O cl_X9_263 (k9_isWord _ _ 28530 J) (by decide) (jo_33 J) kc_9 rfl rfl (Nat.le_of_ble_eq_true rfl) ⟨Nat.zero_le _, Nat.zero_le _⟩ dX9_behind_18 (fun r τ25 hp => ?_)
    obtain ⟨z26, rfl, fτ25_0, fτ25_1, rfl⟩ := hp
    refine zi_if_eq (pc := 21) (tgt := 28) O dX9_behind_21 (by decide) (by omega) (fun h21 => ?_) (fun h21 => ?_)
    · refine z_iconst (pc := 28) (v := iz (0)) O dX9_behind_28 (by decide) ?_
      refine z_lk [(0, .ref 33)] ⟨rfl, trivial⟩ ?_
      exact cut29 0 (by omega) (by omega) (by omega)
    · refine z_iconst (pc := 24) (v := iz (1)) O dX9_behind_24 (by decide) ?_
      refine z_goto (pc := 25) (tgt := 29) O dX9_behind_25 (by decide) ?_
      refine z_lk [(0, .ref 33)] ⟨rfl, trivial⟩ ?_
      exact cut29 1 (by omega) (by omega) (by omega)
  · refine z_iconst (pc := 10) (v := iz (2)) O dX9_behind_10 (by decide) ?_
    refine z_goto (pc := 11) (tgt := 29) O dX9_behind_11 (by decide) ?_
    refine z_lk [(0, .ref 33)] ⟨rfl, trivial⟩ ?_
    exact cut29 2 (by omega) (by omega) (by omega)
