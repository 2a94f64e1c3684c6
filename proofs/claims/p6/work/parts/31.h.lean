set_option maxHeartbeats 4000000 in
set_option maxRecDepth 20000 in
theorem g_loop (κ : Kx) (γ : Gh) (Q : State → Prop) (nm : String) (O : OK κ γ code 4 "BloodPriceLaw" 2000 ret nm) (hrc : κ.2.2.2.1.cells = 600000) (hrs : κ.2.2.2.1.slots = 7302250) (L : Nat) (hLγ : γ.2.2.2.2.2.2.1 = L) (hL : L ≤ 4096) (hend : ∀ (σ : VH) (cells slots : Nat) (ls : List (Nat × Value)), cells ≤ 600000 → slots ≤ 7302250 → Z κ γ 4 σ cells slots Q 1056 ls [.int (iz 1)]) : ∀ (n : Nat) (t : Nat) (σ : VH) (cells slots : Nat), n = 513 - t → t ≤ 512 → cells ≤ 1000 + 10 * t → slots ≤ 100000 + 863 * t → InvX σ → InvM σ → Cp σ → Cxt σ → Cl σ → Z κ γ 4 σ cells slots Q 18 [(0, .float 0), (1, .ref 2), (2, .ref 33), (3, .int (iz (8 * (t : Int))))] [] := by
  intro n
  induction n using Nat.strongRecOn with
  | ind n ih =>
    intro t σ cells slots hn ht hc hs IX IM K K2 K3
    have hnL : (nI γ.2.2.2.2.2.2.1).toInt = (L : Int) := by rw [hLγ]; exact nI_toInt (by omega)
    obtain ⟨i, ei⟩ : ∃ i : Int, 8 * (t : Int) = i := ⟨_, rfl⟩
    rw [ei]
    refine z_iload_n (pc := 18) O dL_law_18 rfl ?_
    refine z_aloadS (pc := 19) O dL_law_19 rfl ?_
    refine z_slen (pc := 20) O dL_law_20 ?_
    refine zi_val _ (izi _) ?_
    refine z_bipush (pc := 21) (v := iz (8)) O dL_law_21 (by decide) ?_
    refine zi_isub (pc := 23) O dL_law_23 ?_
    refine zi_icmp_gt (pc := 24) (tgt := 1055) O dL_law_24 (by decide) (by omega) (by omega) (fun h24 => ?_) (fun h24 => ?_)
    · refine z_iconst (pc := 1055) (v := iz 1) O dL_law_1055 (by decide) ?_
      exact hend _ _ _ _ (by omega) (by omega)
    · refine z_aloadS (pc := 27) O dL_law_27 rfl ?_
      refine z_iload_n (pc := 28) O dL_law_28 rfl ?_
      refine z_sld (pc := 29) ((i).toNat) O (iz_nI (by omega)) (by rw [hLγ]; omega) (by rw [hLγ]; omega) dL_law_29 ?_
      refine zi_val _ (izi _) ?_
      have := rng (γ.2.2.2.2.2.2.2 ((i).toNat))
      refine z_bipush (pc := 30) (v := iz (31)) O dL_law_30 (by decide) ?_
      refine z_iand (pc := 32) O dL_law_32 ?_
      refine zi_any (fun z1 rz1 ez1 => ?_)
      by_cases hs2 : z1 < 0 ∨ 22 < z1
      · refine zi_tableOut (pc := 33) (tgt := 1049) O dL_law_33 (by omega) hs2 (by decide) ?_
        refine zi_iinc (pc := 1049) (i + 8) [(0, .float 0), (1, .ref 2), (2, .ref 33), (3, .int (iz (i + 8)))] O dL_law_1049 rfl (by omega) (by decide) rfl ?_
        refine z_goto (pc := 1052) (tgt := 18) O dL_law_1052 (by decide) ?_
        have e8 : i + 8 = 8 * ((t + 1 : Nat) : Int) := by omega
        rw [e8]
        exact ih _ (by omega) (t + 1) _ _ _ rfl (by omega) (by omega) (by omega) IX IM K K2 K3
      · have hs2x : z1 = 0 ∨ z1 = 1 ∨ z1 = 2 ∨ z1 = 3 ∨ z1 = 4 ∨ z1 = 5 ∨ z1 = 6 ∨ z1 = 7 ∨ z1 = 8 ∨ z1 = 9 ∨ z1 = 10 ∨ z1 = 11 ∨ z1 = 12 ∨ z1 = 13 ∨ z1 = 14 ∨ z1 = 15 ∨ z1 = 16 ∨ z1 = 17 ∨ z1 = 18 ∨ z1 = 19 ∨ z1 = 20 ∨ z1 = 21 ∨ z1 = 22 := by omega
        obtain ⟨hs2a, hs2b⟩ := not_or.mp hs2
        rcases hs2x with hs2q | hs2q | hs2q | hs2q | hs2q | hs2q | hs2q | hs2q | hs2q | hs2q | hs2q | hs2q | hs2q | hs2q | hs2q | hs2q | hs2q | hs2q | hs2q | hs2q | hs2q | hs2q | hs2q
        · refine zi_tableIn (pc := 33) (tgt := 140) O dL_law_33 (by omega) hs2a hs2b (by rw [hs2q]; rfl) (by decide) ?_
          refine g_case0 κ γ Q nm O hrc hrs L hLγ hL i (by omega) σ cells slots (by omega) (by omega) IX IM K K2 K3 (fun τ c s IX9 IM9 K9 K29 K39 hc9 hs9 => ?_)
          refine zi_iinc (pc := 1049) (i + 8) [(0, .float 0), (1, .ref 2), (2, .ref 33), (3, .int (iz (i + 8)))] O dL_law_1049 rfl (by omega) (by decide) rfl ?_
          refine z_goto (pc := 1052) (tgt := 18) O dL_law_1052 (by decide) ?_
          have e8 : i + 8 = 8 * ((t + 1 : Nat) : Int) := by omega
          rw [e8]
          exact ih _ (by omega) (t + 1) _ _ _ rfl (by omega) (by omega) (by omega) IX9 IM9 K9 K29 K39
        · refine zi_tableIn (pc := 33) (tgt := 203) O dL_law_33 (by omega) hs2a hs2b (by rw [hs2q]; rfl) (by decide) ?_
          refine g_case1 κ γ Q nm O hrc hrs L hLγ hL i (by omega) σ cells slots (by omega) (by omega) IX IM K K2 K3 (fun τ c s IX9 IM9 K9 K29 K39 hc9 hs9 => ?_)
          refine zi_iinc (pc := 1049) (i + 8) [(0, .float 0), (1, .ref 2), (2, .ref 33), (3, .int (iz (i + 8)))] O dL_law_1049 rfl (by omega) (by decide) rfl ?_
          refine z_goto (pc := 1052) (tgt := 18) O dL_law_1052 (by decide) ?_
          have e8 : i + 8 = 8 * ((t + 1 : Nat) : Int) := by omega
          rw [e8]
          exact ih _ (by omega) (t + 1) _ _ _ rfl (by omega) (by omega) (by omega) IX9 IM9 K9 K29 K39
        · refine zi_tableIn (pc := 33) (tgt := 226) O dL_law_33 (by omega) hs2a hs2b (by rw [hs2q]; rfl) (by decide) ?_
          refine g_case2 κ γ Q nm O hrc hrs L hLγ hL i (by omega) σ cells slots (by omega) (by omega) IX IM K K2 K3 (fun τ c s IX9 IM9 K9 K29 K39 hc9 hs9 => ?_)
          refine zi_iinc (pc := 1049) (i + 8) [(0, .float 0), (1, .ref 2), (2, .ref 33), (3, .int (iz (i + 8)))] O dL_law_1049 rfl (by omega) (by decide) rfl ?_
          refine z_goto (pc := 1052) (tgt := 18) O dL_law_1052 (by decide) ?_
          have e8 : i + 8 = 8 * ((t + 1 : Nat) : Int) := by omega
          rw [e8]
          exact ih _ (by omega) (t + 1) _ _ _ rfl (by omega) (by omega) (by omega) IX9 IM9 K9 K29 K39
        · refine zi_tableIn (pc := 33) (tgt := 259) O dL_law_33 (by omega) hs2a hs2b (by rw [hs2q]; rfl) (by decide) ?_
          refine g_case3 κ γ Q nm O hrc hrs L hLγ hL i (by omega) σ cells slots (by omega) (by omega) IX IM K K2 K3 (fun τ c s IX9 IM9 K9 K29 K39 hc9 hs9 => ?_)
          refine zi_iinc (pc := 1049) (i + 8) [(0, .float 0), (1, .ref 2), (2, .ref 33), (3, .int (iz (i + 8)))] O dL_law_1049 rfl (by omega) (by decide) rfl ?_
          refine z_goto (pc := 1052) (tgt := 18) O dL_law_1052 (by decide) ?_
          have e8 : i + 8 = 8 * ((t + 1 : Nat) : Int) := by omega
          rw [e8]
          exact ih _ (by omega) (t + 1) _ _ _ rfl (by omega) (by omega) (by omega) IX9 IM9 K9 K29 K39
        · refine zi_tableIn (pc := 33) (tgt := 282) O dL_law_33 (by omega) hs2a hs2b (by rw [hs2q]; rfl) (by decide) ?_
          refine g_case4 κ γ Q nm O hrc hrs L hLγ hL i (by omega) σ cells slots (by omega) (by omega) IX IM K K2 K3 (fun τ c s IX9 IM9 K9 K29 K39 hc9 hs9 => ?_)
          refine zi_iinc (pc := 1049) (i + 8) [(0, .float 0), (1, .ref 2), (2, .ref 33), (3, .int (iz (i + 8)))] O dL_law_1049 rfl (by omega) (by decide) rfl ?_
          refine z_goto (pc := 1052) (tgt := 18) O dL_law_1052 (by decide) ?_
          have e8 : i + 8 = 8 * ((t + 1 : Nat) : Int) := by omega
          rw [e8]
          exact ih _ (by omega) (t + 1) _ _ _ rfl (by omega) (by omega) (by omega) IX9 IM9 K9 K29 K39
        · refine zi_tableIn (pc := 33) (tgt := 315) O dL_law_33 (by omega) hs2a hs2b (by rw [hs2q]; rfl) (by decide) ?_
          refine g_case5 κ γ Q nm O hrc hrs L hLγ hL i (by omega) σ cells slots (by omega) (by omega) IX IM K K2 K3 (fun τ c s IX9 IM9 K9 K29 K39 hc9 hs9 => ?_)
          refine zi_iinc (pc := 1049) (i + 8) [(0, .float 0), (1, .ref 2), (2, .ref 33), (3, .int (iz (i + 8)))] O dL_law_1049 rfl (by omega) (by decide) rfl ?_
          refine z_goto (pc := 1052) (tgt := 18) O dL_law_1052 (by decide) ?_
          have e8 : i + 8 = 8 * ((t + 1 : Nat) : Int) := by omega
          rw [e8]
          exact ih _ (by omega) (t + 1) _ _ _ rfl (by omega) (by omega) (by omega) IX9 IM9 K9 K29 K39
        · refine zi_tableIn (pc := 33) (tgt := 358) O dL_law_33 (by omega) hs2a hs2b (by rw [hs2q]; rfl) (by decide) ?_
          refine g_case6 κ γ Q nm O hrc hrs L hLγ hL i (by omega) σ cells slots (by omega) (by omega) IX IM K K2 K3 (fun τ c s IX9 IM9 K9 K29 K39 hc9 hs9 => ?_)
          refine zi_iinc (pc := 1049) (i + 8) [(0, .float 0), (1, .ref 2), (2, .ref 33), (3, .int (iz (i + 8)))] O dL_law_1049 rfl (by omega) (by decide) rfl ?_
          refine z_goto (pc := 1052) (tgt := 18) O dL_law_1052 (by decide) ?_
          have e8 : i + 8 = 8 * ((t + 1 : Nat) : Int) := by omega
          rw [e8]
          exact ih _ (by omega) (t + 1) _ _ _ rfl (by omega) (by omega) (by omega) IX9 IM9 K9 K29 K39
        · refine zi_tableIn (pc := 33) (tgt := 391) O dL_law_33 (by omega) hs2a hs2b (by rw [hs2q]; rfl) (by decide) ?_
          refine g_case7 κ γ Q nm O hrc hrs L hLγ hL i (by omega) σ cells slots (by omega) (by omega) IX IM K K2 K3 (fun τ c s IX9 IM9 K9 K29 K39 hc9 hs9 => ?_)
          refine zi_iinc (pc := 1049) (i + 8) [(0, .float 0), (1, .ref 2), (2, .ref 33), (3, .int (iz (i + 8)))] O dL_law_1049 rfl (by omega) (by decide) rfl ?_
          refine z_goto (pc := 1052) (tgt := 18) O dL_law_1052 (by decide) ?_
          have e8 : i + 8 = 8 * ((t + 1 : Nat) : Int) := by omega
          rw [e8]
          exact ih _ (by omega) (t + 1) _ _ _ rfl (by omega) (by omega) (by omega) IX9 IM9 K9 K29 K39
        · refine zi_tableIn (pc := 33) (tgt := 434) O dL_law_33 (by omega) hs2a hs2b (by rw [hs2q]; rfl) (by decide) ?_
          refine g_case8 κ γ Q nm O hrc hrs L hLγ hL i (by omega) σ cells slots (by omega) (by omega) IX IM K K2 K3 (fun τ c s IX9 IM9 K9 K29 K39 hc9 hs9 => ?_)
          refine zi_iinc (pc := 1049) (i + 8) [(0, .float 0), (1, .ref 2), (2, .ref 33), (3, .int (iz (i + 8)))] O dL_law_1049 rfl (by omega) (by decide) rfl ?_
          refine z_goto (pc := 1052) (tgt := 18) O dL_law_1052 (by decide) ?_
          have e8 : i + 8 = 8 * ((t + 1 : Nat) : Int) := by omega
          rw [e8]
          exact ih _ (by omega) (t + 1) _ _ _ rfl (by omega) (by omega) (by omega) IX9 IM9 K9 K29 K39
        · refine zi_tableIn (pc := 33) (tgt := 477) O dL_law_33 (by omega) hs2a hs2b (by rw [hs2q]; rfl) (by decide) ?_
          refine g_case9 κ γ Q nm O hrc hrs L hLγ hL i (by omega) σ cells slots (by omega) (by omega) IX IM K K2 K3 (fun τ c s IX9 IM9 K9 K29 K39 hc9 hs9 => ?_)
          refine zi_iinc (pc := 1049) (i + 8) [(0, .float 0), (1, .ref 2), (2, .ref 33), (3, .int (iz (i + 8)))] O dL_law_1049 rfl (by omega) (by decide) rfl ?_
          refine z_goto (pc := 1052) (tgt := 18) O dL_law_1052 (by decide) ?_
          have e8 : i + 8 = 8 * ((t + 1 : Nat) : Int) := by omega
          rw [e8]
          exact ih _ (by omega) (t + 1) _ _ _ rfl (by omega) (by omega) (by omega) IX9 IM9 K9 K29 K39
        · refine zi_tableIn (pc := 33) (tgt := 510) O dL_law_33 (by omega) hs2a hs2b (by rw [hs2q]; rfl) (by decide) ?_
          refine g_case10 κ γ Q nm O hrc hrs L hLγ hL i (by omega) σ cells slots (by omega) (by omega) IX IM K K2 K3 (fun τ c s IX9 IM9 K9 K29 K39 hc9 hs9 => ?_)
          refine zi_iinc (pc := 1049) (i + 8) [(0, .float 0), (1, .ref 2), (2, .ref 33), (3, .int (iz (i + 8)))] O dL_law_1049 rfl (by omega) (by decide) rfl ?_
          refine z_goto (pc := 1052) (tgt := 18) O dL_law_1052 (by decide) ?_
          have e8 : i + 8 = 8 * ((t + 1 : Nat) : Int) := by omega
          rw [e8]
          exact ih _ (by omega) (t + 1) _ _ _ rfl (by omega) (by omega) (by omega) IX9 IM9 K9 K29 K39
        · refine zi_tableIn (pc := 33) (tgt := 563) O dL_law_33 (by omega) hs2a hs2b (by rw [hs2q]; rfl) (by decide) ?_
          refine g_case11 κ γ Q nm O hrc hrs L hLγ hL i (by omega) σ cells slots (by omega) (by omega) IX IM K K2 K3 (fun τ c s IX9 IM9 K9 K29 K39 hc9 hs9 => ?_)
          refine zi_iinc (pc := 1049) (i + 8) [(0, .float 0), (1, .ref 2), (2, .ref 33), (3, .int (iz (i + 8)))] O dL_law_1049 rfl (by omega) (by decide) rfl ?_
          refine z_goto (pc := 1052) (tgt := 18) O dL_law_1052 (by decide) ?_
          have e8 : i + 8 = 8 * ((t + 1 : Nat) : Int) := by omega
          rw [e8]
          exact ih _ (by omega) (t + 1) _ _ _ rfl (by omega) (by omega) (by omega) IX9 IM9 K9 K29 K39
        · refine zi_tableIn (pc := 33) (tgt := 586) O dL_law_33 (by omega) hs2a hs2b (by rw [hs2q]; rfl) (by decide) ?_
          refine g_case12 κ γ Q nm O hrc hrs L hLγ hL i (by omega) σ cells slots (by omega) (by omega) IX IM K K2 K3 (fun τ c s IX9 IM9 K9 K29 K39 hc9 hs9 => ?_)
          refine zi_iinc (pc := 1049) (i + 8) [(0, .float 0), (1, .ref 2), (2, .ref 33), (3, .int (iz (i + 8)))] O dL_law_1049 rfl (by omega) (by decide) rfl ?_
          refine z_goto (pc := 1052) (tgt := 18) O dL_law_1052 (by decide) ?_
          have e8 : i + 8 = 8 * ((t + 1 : Nat) : Int) := by omega
          rw [e8]
          exact ih _ (by omega) (t + 1) _ _ _ rfl (by omega) (by omega) (by omega) IX9 IM9 K9 K29 K39
        · refine zi_tableIn (pc := 33) (tgt := 709) O dL_law_33 (by omega) hs2a hs2b (by rw [hs2q]; rfl) (by decide) ?_
          refine g_case13 κ γ Q nm O hrc hrs L hLγ hL i (by omega) σ cells slots (by omega) (by omega) IX IM K K2 K3 (fun τ c s IX9 IM9 K9 K29 K39 hc9 hs9 => ?_)
          refine zi_iinc (pc := 1049) (i + 8) [(0, .float 0), (1, .ref 2), (2, .ref 33), (3, .int (iz (i + 8)))] O dL_law_1049 rfl (by omega) (by decide) rfl ?_
          refine z_goto (pc := 1052) (tgt := 18) O dL_law_1052 (by decide) ?_
          have e8 : i + 8 = 8 * ((t + 1 : Nat) : Int) := by omega
          rw [e8]
          exact ih _ (by omega) (t + 1) _ _ _ rfl (by omega) (by omega) (by omega) IX9 IM9 K9 K29 K39
        · refine zi_tableIn (pc := 33) (tgt := 742) O dL_law_33 (by omega) hs2a hs2b (by rw [hs2q]; rfl) (by decide) ?_
          refine g_case14 κ γ Q nm O hrc hrs L hLγ hL i (by omega) σ cells slots (by omega) (by omega) IX IM K K2 K3 (fun τ c s IX9 IM9 K9 K29 K39 hc9 hs9 => ?_)
          refine zi_iinc (pc := 1049) (i + 8) [(0, .float 0), (1, .ref 2), (2, .ref 33), (3, .int (iz (i + 8)))] O dL_law_1049 rfl (by omega) (by decide) rfl ?_
          refine z_goto (pc := 1052) (tgt := 18) O dL_law_1052 (by decide) ?_
          have e8 : i + 8 = 8 * ((t + 1 : Nat) : Int) := by omega
          rw [e8]
          exact ih _ (by omega) (t + 1) _ _ _ rfl (by omega) (by omega) (by omega) IX9 IM9 K9 K29 K39
        · refine zi_tableIn (pc := 33) (tgt := 775) O dL_law_33 (by omega) hs2a hs2b (by rw [hs2q]; rfl) (by decide) ?_
          refine g_case15 κ γ Q nm O hrc hrs L hLγ hL i (by omega) σ cells slots (by omega) (by omega) IX IM K K2 K3 (fun τ c s IX9 IM9 K9 K29 K39 hc9 hs9 => ?_)
          refine zi_iinc (pc := 1049) (i + 8) [(0, .float 0), (1, .ref 2), (2, .ref 33), (3, .int (iz (i + 8)))] O dL_law_1049 rfl (by omega) (by decide) rfl ?_
          refine z_goto (pc := 1052) (tgt := 18) O dL_law_1052 (by decide) ?_
          have e8 : i + 8 = 8 * ((t + 1 : Nat) : Int) := by omega
          rw [e8]
          exact ih _ (by omega) (t + 1) _ _ _ rfl (by omega) (by omega) (by omega) IX9 IM9 K9 K29 K39
        · refine zi_tableIn (pc := 33) (tgt := 808) O dL_law_33 (by omega) hs2a hs2b (by rw [hs2q]; rfl) (by decide) ?_
          refine g_case16 κ γ Q nm O hrc hrs L hLγ hL i (by omega) σ cells slots (by omega) (by omega) IX IM K K2 K3 (fun τ c s IX9 IM9 K9 K29 K39 hc9 hs9 => ?_)
          refine zi_iinc (pc := 1049) (i + 8) [(0, .float 0), (1, .ref 2), (2, .ref 33), (3, .int (iz (i + 8)))] O dL_law_1049 rfl (by omega) (by decide) rfl ?_
          refine z_goto (pc := 1052) (tgt := 18) O dL_law_1052 (by decide) ?_
          have e8 : i + 8 = 8 * ((t + 1 : Nat) : Int) := by omega
          rw [e8]
          exact ih _ (by omega) (t + 1) _ _ _ rfl (by omega) (by omega) (by omega) IX9 IM9 K9 K29 K39
        · refine zi_tableIn (pc := 33) (tgt := 851) O dL_law_33 (by omega) hs2a hs2b (by rw [hs2q]; rfl) (by decide) ?_
          refine g_case17 κ γ Q nm O hrc hrs L hLγ hL i (by omega) σ cells slots (by omega) (by omega) IX IM K K2 K3 (fun τ c s IX9 IM9 K9 K29 K39 hc9 hs9 => ?_)
          refine zi_iinc (pc := 1049) (i + 8) [(0, .float 0), (1, .ref 2), (2, .ref 33), (3, .int (iz (i + 8)))] O dL_law_1049 rfl (by omega) (by decide) rfl ?_
          refine z_goto (pc := 1052) (tgt := 18) O dL_law_1052 (by decide) ?_
          have e8 : i + 8 = 8 * ((t + 1 : Nat) : Int) := by omega
          rw [e8]
          exact ih _ (by omega) (t + 1) _ _ _ rfl (by omega) (by omega) (by omega) IX9 IM9 K9 K29 K39
        · refine zi_tableIn (pc := 33) (tgt := 894) O dL_law_33 (by omega) hs2a hs2b (by rw [hs2q]; rfl) (by decide) ?_
          refine g_case18 κ γ Q nm O hrc hrs L hLγ hL i (by omega) σ cells slots (by omega) (by omega) IX IM K K2 K3 (fun τ c s IX9 IM9 K9 K29 K39 hc9 hs9 => ?_)
          refine zi_iinc (pc := 1049) (i + 8) [(0, .float 0), (1, .ref 2), (2, .ref 33), (3, .int (iz (i + 8)))] O dL_law_1049 rfl (by omega) (by decide) rfl ?_
          refine z_goto (pc := 1052) (tgt := 18) O dL_law_1052 (by decide) ?_
          have e8 : i + 8 = 8 * ((t + 1 : Nat) : Int) := by omega
          rw [e8]
          exact ih _ (by omega) (t + 1) _ _ _ rfl (by omega) (by omega) (by omega) IX9 IM9 K9 K29 K39
        · refine zi_tableIn (pc := 33) (tgt := 917) O dL_law_33 (by omega) hs2a hs2b (by rw [hs2q]; rfl) (by decide) ?_
          refine g_case19 κ γ Q nm O hrc hrs L hLγ hL i (by omega) σ cells slots (by omega) (by omega) IX IM K K2 K3 (fun τ c s IX9 IM9 K9 K29 K39 hc9 hs9 => ?_)
          refine zi_iinc (pc := 1049) (i + 8) [(0, .float 0), (1, .ref 2), (2, .ref 33), (3, .int (iz (i + 8)))] O dL_law_1049 rfl (by omega) (by decide) rfl ?_
          refine z_goto (pc := 1052) (tgt := 18) O dL_law_1052 (by decide) ?_
          have e8 : i + 8 = 8 * ((t + 1 : Nat) : Int) := by omega
          rw [e8]
          exact ih _ (by omega) (t + 1) _ _ _ rfl (by omega) (by omega) (by omega) IX9 IM9 K9 K29 K39
        · refine zi_tableIn (pc := 33) (tgt := 950) O dL_law_33 (by omega) hs2a hs2b (by rw [hs2q]; rfl) (by decide) ?_
          refine g_case20 κ γ Q nm O hrc hrs L hLγ hL i (by omega) σ cells slots (by omega) (by omega) IX IM K K2 K3 (fun τ c s IX9 IM9 K9 K29 K39 hc9 hs9 => ?_)
          refine zi_iinc (pc := 1049) (i + 8) [(0, .float 0), (1, .ref 2), (2, .ref 33), (3, .int (iz (i + 8)))] O dL_law_1049 rfl (by omega) (by decide) rfl ?_
          refine z_goto (pc := 1052) (tgt := 18) O dL_law_1052 (by decide) ?_
          have e8 : i + 8 = 8 * ((t + 1 : Nat) : Int) := by omega
          rw [e8]
          exact ih _ (by omega) (t + 1) _ _ _ rfl (by omega) (by omega) (by omega) IX9 IM9 K9 K29 K39
        · refine zi_tableIn (pc := 33) (tgt := 993) O dL_law_33 (by omega) hs2a hs2b (by rw [hs2q]; rfl) (by decide) ?_
          refine g_case21 κ γ Q nm O hrc hrs L hLγ hL i (by omega) σ cells slots (by omega) (by omega) IX IM K K2 K3 (fun τ c s IX9 IM9 K9 K29 K39 hc9 hs9 => ?_)
          refine zi_iinc (pc := 1049) (i + 8) [(0, .float 0), (1, .ref 2), (2, .ref 33), (3, .int (iz (i + 8)))] O dL_law_1049 rfl (by omega) (by decide) rfl ?_
          refine z_goto (pc := 1052) (tgt := 18) O dL_law_1052 (by decide) ?_
          have e8 : i + 8 = 8 * ((t + 1 : Nat) : Int) := by omega
          rw [e8]
          exact ih _ (by omega) (t + 1) _ _ _ rfl (by omega) (by omega) (by omega) IX9 IM9 K9 K29 K39
        · refine zi_tableIn (pc := 33) (tgt := 1026) O dL_law_33 (by omega) hs2a hs2b (by rw [hs2q]; rfl) (by decide) ?_
          refine g_case22 κ γ Q nm O hrc hrs L hLγ hL i (by omega) σ cells slots (by omega) (by omega) IX IM K K2 K3 (fun τ c s IX9 IM9 K9 K29 K39 hc9 hs9 => ?_)
          refine zi_iinc (pc := 1049) (i + 8) [(0, .float 0), (1, .ref 2), (2, .ref 33), (3, .int (iz (i + 8)))] O dL_law_1049 rfl (by omega) (by decide) rfl ?_
          refine z_goto (pc := 1052) (tgt := 18) O dL_law_1052 (by decide) ?_
          have e8 : i + 8 = 8 * ((t + 1 : Nat) : Int) := by omega
          rw [e8]
          exact ih _ (by omega) (t + 1) _ _ _ rfl (by omega) (by omega) (by omega) IX9 IM9 K9 K29 K39
