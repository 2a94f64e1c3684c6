set_option maxHeartbeats 4000000 in
set_option maxRecDepth 20000 in
theorem k8_hurt (l : Launch) (σ : VH) (y : Int) (ry : (-2147483648 ≤ y ∧ y < 2147483648)) (o : Int) (ro : (-2147483648 ≤ o ∧ o < 2147483648)) (v : Int64) (d : Int) (rd : (-2147483648 ≤ d ∧ d < 2147483648)) (p : Int) (rp : (-2147483648 ≤ p ∧ p < 2147483648)) (n : Int) (rn : n = 0 ∨ n = 1) (I : InvX σ) : Ct l yX8_hurt cX8_hurt 8 (some .int) 3 1 11 [.ref 2, .int (iz y), .int (iz o), .long v, .int (iz d), .int (iz p), .int (iz n)] σ (fun r τ => ∃ z : Int, r = some (.int (iz z)) ∧ (-2147483648 ≤ z ∧ z < 2147483648) ∧ (FrG [(2, 12)] σ τ) ∧ (InvX τ)) := by
  refine Ct.enter rfl (Nat.le_of_ble_eq_true rfl) ?_
  intro κ γ hκ O hrc hrs
  subst hκ
  have i1 := I.2.1
  unfold InvX1 at i1
  refine z_aload_n (pc := 0) O dX8_hurt_0 rfl ?_
  refine z_getR (pc := 1) 9 O fl_X8_37 rfl (jo_2 I.1) (jr_2_8 I.1) dX8_hurt_1 ?_
  refine z_iload_n (pc := 4) O dX8_hurt_4 rfl ?_
  refine z_callV (pc := 5) O cl_X8_130 (k3_isThere _ _ y (by omega) I.1) (by decide) (jo_9 I.1) kc_3 rfl rfl (Nat.le_of_ble_eq_true rfl) ⟨Nat.zero_le _, Nat.zero_le _⟩ dX8_hurt_5 (fun r τ1 hp => ?_)
  obtain ⟨z2, rfl, fτ1_0, fτ1_1, rfl⟩ := hp
  refine zi_if_eq (pc := 8) (tgt := 34) O dX8_hurt_8 (by decide) (by omega) (fun h8 => ?_) (fun h8 => ?_)
  · refine z_iconst (pc := 34) (v := iz (-1)) O dX8_hurt_34 (by decide) ?_
    refine z_widen (k := 1) (n := 11) (by decide) (by decide) ?_
    refine z_iret (pc := 35) O dX8_hurt_35 ?_
    exact ⟨-1, rfl, by decide, (Fr.rf [(2, 12)] σ).G, I⟩
  · refine z_aload_n (pc := 11) O dX8_hurt_11 rfl ?_
    refine z_getR (pc := 12) 9 O fl_X8_37 rfl (jo_2 I.1) (jr_2_8 I.1) dX8_hurt_12 ?_
    refine z_iload_n (pc := 15) O dX8_hurt_15 rfl ?_
    refine z_callV (pc := 16) O cl_X8_130 (k3_isThere _ _ o (by omega) I.1) (by decide) (jo_9 I.1) kc_3 rfl rfl (Nat.le_of_ble_eq_true rfl) ⟨Nat.zero_le _, Nat.zero_le _⟩ dX8_hurt_16 (fun r τ3 hp => ?_)
    obtain ⟨z4, rfl, fτ3_0, fτ3_1, rfl⟩ := hp
    refine zi_if_eq (pc := 19) (tgt := 34) O dX8_hurt_19 (by decide) (by omega) (fun h19 => ?_) (fun h19 => ?_)
    · refine z_iconst (pc := 34) (v := iz (-1)) O dX8_hurt_34 (by decide) ?_
      refine z_widen (k := 1) (n := 11) (by decide) (by decide) ?_
      refine z_iret (pc := 35) O dX8_hurt_35 ?_
      exact ⟨-1, rfl, by decide, (Fr.rf [(2, 12)] σ).G, I⟩
    · refine z_iload_n (pc := 22) O dX8_hurt_22 rfl ?_
      refine z_iload_n (pc := 23) O dX8_hurt_23 rfl ?_
      refine zi_icmp_eq (pc := 24) (tgt := 34) O dX8_hurt_24 (by decide) (by omega) (by omega) (fun h24 => ?_) (fun h24 => ?_)
      · refine z_iconst (pc := 34) (v := iz (-1)) O dX8_hurt_34 (by decide) ?_
        refine z_widen (k := 1) (n := 11) (by decide) (by decide) ?_
        refine z_iret (pc := 35) O dX8_hurt_35 ?_
        exact ⟨-1, rfl, by decide, (Fr.rf [(2, 12)] σ).G, I⟩
      · refine z_lload_n (pc := 27) O dX8_hurt_27 rfl ?_
        refine z_callS (pc := 28) O cl_X8_148 (k8_isName _ _ v) (by decide) rfl rfl (Nat.le_of_ble_eq_true rfl) ⟨Nat.zero_le _, Nat.zero_le _⟩ dX8_hurt_28 (fun r τ5 hp => ?_)
        obtain ⟨z6, rfl, fτ5_0, rfl⟩ := hp
        refine zi_if_ne (pc := 31) (tgt := 36) O dX8_hurt_31 (by decide) (by omega) (fun h31 => ?_) (fun h31 => ?_)
        · refine z_iload (pc := 36) O dX8_hurt_36 rfl ?_
          refine zi_if_lt (pc := 38) (tgt := 70) O dX8_hurt_38 (by decide) (by omega) (fun h38 => ?_) (fun h38 => ?_)
          · refine z_iconst (pc := 70) (v := iz (-1)) O dX8_hurt_70 (by decide) ?_
            refine z_widen (k := 1) (n := 11) (by decide) (by decide) ?_
            refine z_iret (pc := 71) O dX8_hurt_71 ?_
            exact ⟨-1, rfl, by decide, (Fr.rf [(2, 12)] σ).G, I⟩
          · refine z_iload (pc := 41) O dX8_hurt_41 rfl ?_
            refine z_aload_n (pc := 43) O dX8_hurt_43 rfl ?_
            refine zi_getv (pc := 44) (gI σ 2 7) O fl_X8_133 rfl (jo_2 I.1) (izg σ 2 7) dX8_hurt_44 ?_
            have := rgI σ 2 7
            refine zi_icmp_gt (pc := 47) (tgt := 70) O dX8_hurt_47 (by decide) (by omega) (by omega) (fun h47 => ?_) (fun h47 => ?_)
            · refine z_iconst (pc := 70) (v := iz (-1)) O dX8_hurt_70 (by decide) ?_
              refine z_widen (k := 1) (n := 11) (by decide) (by decide) ?_
              refine z_iret (pc := 71) O dX8_hurt_71 ?_
              exact ⟨-1, rfl, by decide, (Fr.rf [(2, 12)] σ).G, I⟩
            · refine z_iload (pc := 50) O dX8_hurt_50 rfl ?_
              refine zi_if_lt (pc := 52) (tgt := 70) O dX8_hurt_52 (by decide) (by omega) (fun h52 => ?_) (fun h52 => ?_)
              · refine z_iconst (pc := 70) (v := iz (-1)) O dX8_hurt_70 (by decide) ?_
                refine z_widen (k := 1) (n := 11) (by decide) (by decide) ?_
                refine z_iret (pc := 71) O dX8_hurt_71 ?_
                exact ⟨-1, rfl, by decide, (Fr.rf [(2, 12)] σ).G, I⟩
              · refine z_iload (pc := 55) O dX8_hurt_55 rfl ?_
                refine z_iconst (pc := 57) (v := iz (3)) O dX8_hurt_57 (by decide) ?_
                refine zi_icmp_gt (pc := 58) (tgt := 70) O dX8_hurt_58 (by decide) (by omega) (by decide) (fun h58 => ?_) (fun h58 => ?_)
                · refine z_iconst (pc := 70) (v := iz (-1)) O dX8_hurt_70 (by decide) ?_
                  refine z_widen (k := 1) (n := 11) (by decide) (by decide) ?_
                  refine z_iret (pc := 71) O dX8_hurt_71 ?_
                  exact ⟨-1, rfl, by decide, (Fr.rf [(2, 12)] σ).G, I⟩
                · refine z_aload_n (pc := 61) O dX8_hurt_61 rfl ?_
                  refine zi_getv (pc := 62) (gI σ 2 12) O fl_X8_152 rfl (jo_2 I.1) (izg σ 2 12) dX8_hurt_62 ?_
                  have := rgI σ 2 12
                  refine z_bipush (pc := 65) (v := iz (20)) O dX8_hurt_65 (by decide) ?_
                  refine zi_icmp_lt (pc := 67) (tgt := 72) O dX8_hurt_67 (by decide) (by omega) (by decide) (fun h67 => ?_) (fun h67 => ?_)
                  · refine z_aload_n (pc := 72) O dX8_hurt_72 rfl ?_
                    refine z_getR (pc := 73) 26 O fl_X8_57 rfl (jo_2 I.1) (jr_2_11 I.1) dX8_hurt_73 ?_
                    refine z_aload_n (pc := 76) O dX8_hurt_76 rfl ?_
                    refine zi_getv (pc := 77) (gI σ 2 12) O fl_X8_152 rfl (jo_2 I.1) (izg σ 2 12) dX8_hurt_77 ?_
                    have h87 : 87 ≤ hN σ := I.1.1
                    obtain ⟨b, eb⟩ : ∃ b, hN σ = b := ⟨_, rfl⟩
                    refine z_new (pc := 80) O kc_0 dv_0 tw_131 tw_558 tw_10 ⟨by rw [hrc]; decide, by rw [hrs]; decide⟩ dX8_hurt_80 ?_
                    have A1 : FrA b σ (sN σ (0, 0)) := FrA.nw (FrA.rf (Nat.le_of_eq eb.symm))
                    have t1 : Is (sN σ (0, 0)) b 0 := eb ▸ Is.top (by omega)
                    have s1 : hS (sN σ (0, 0)) b = (0, 0) := by rw [hS_sN, if_pos eb.symm]
                    refine z_top (st' := [.ref b, .int (iz (gI σ 2 12)), .ref 26]) (by first | (rw [eb]; done) | (rw [eb]; rfl)) ?_
                    refine z_dup (pc := 83) O dX8_hurt_83 rfl ?_
                    refine z_iload_n (pc := 84) O dX8_hurt_84 rfl ?_
                    refine z_iload_n (pc := 85) O dX8_hurt_85 rfl ?_
                    refine z_lload_n (pc := 86) O dX8_hurt_86 rfl ?_
                    refine z_iload (pc := 87) O dX8_hurt_87 rfl ?_
                    refine z_iload (pc := 89) O dX8_hurt_89 rfl ?_
                    refine z_iload (pc := 91) O dX8_hurt_91 rfl ?_
                    refine z_callI (pc := 93) O cl_X8_155 (c0_init _ b _ t1 y o v d p n (by omega)) (by decide) rfl rfl (Nat.le_of_ble_eq_true rfl) ⟨by rw [hrc]; decide, by rw [hrs]; decide⟩ dX8_hurt_93 (fun r ρ hp => ?_)
                    obtain ⟨rfl, hρ⟩ := hp
                    have Aρ : FrA b σ ρ := hρ ▸ A1.tr (FrA.X0 (by rw [hN_sN]; omega) (Nat.le_refl _))
                    have Cρ : CaseOK ρ b := ⟨by omega, by rw [hρ]; exact t1.2.1, by rw [hρ]; exact s1⟩
                    have Iρ : InvX ρ := I.frA (eb.symm ▸ Aρ)
                    clear hρ
                    refine z_top (st' := [.ref b, .int (iz (gI σ 2 12)), .ref 26]) rfl ?_
                    refine zi_aast (pc := 96) (t0 := 5) (ci := 0) ((gI σ 2 12).toNat) O (ja_26 Iρ.1) (by decide) rfl rfl (by decide) Cρ.is (by omega) (by omega) (by omega) dX8_hurt_96 ?_
                    refine z_aload_n (pc := 97) O dX8_hurt_97 rfl ?_
                    refine z_dup (pc := 98) O dX8_hurt_98 rfl ?_
                    refine zi_getv (pc := 99) (gI σ 2 12) O fl_X8_152 rfl (jo_2 (Lay.pR7 (σ := ρ) (a := 26) (j := ((gI σ 2 12).toNat)) (x := some b) (by decide) Iρ.1)) (skR (FrA.it Aρ (by omega) (izg σ 2 12))) dX8_hurt_99 ?_
                    refine z_iconst (pc := 102) (v := iz (1)) O dX8_hurt_102 (by decide) ?_
                    refine zi_iadd (pc := 103) O dX8_hurt_103 ?_
                    refine z_putI (pc := 104) O fl_X8_152 rfl ⟨rfl, rfl⟩ (jo_2 (Lay.pR7 (σ := ρ) (a := 26) (j := ((gI σ 2 12).toNat)) (x := some b) (by decide) Iρ.1)) dX8_hurt_104 ?_
                    refine z_aload_n (pc := 107) O dX8_hurt_107 rfl ?_
                    refine zi_getv (pc := 108) ((gI σ 2 12) + 1) O fl_X8_152 rfl (jo_2 (Lay.pR7 (σ := ρ) (a := 26) (j := ((gI σ 2 12).toNat)) (x := some b) (by decide) Iρ.1)) (hI_at _ _ _ _) dX8_hurt_108 ?_
                    refine z_iconst (pc := 111) (v := iz (1)) O dX8_hurt_111 (by decide) ?_
                    refine zi_isub (pc := 112) O dX8_hurt_112 ?_
                    refine z_widen (k := 1) (n := 11) (by decide) (by decide) ?_
                    refine z_iret (pc := 113) O dX8_hurt_113 ?_
                    have q2 : gI ρ 2 12 = gI σ 2 12 := gI_eq (Aρ.it (by omega) rfl)
                    have I8 := Iρ.addCase (j := (gI σ 2 12).toNat) Cρ (by omega)
                    rw [q2] at I8
                    exact ⟨(((gI σ 2 12) + 1) - 1), rfl, by omega, ((Aρ.G [(2, 12)] (by omega)).pR).pI rfl, I8⟩
                  · refine z_iconst (pc := 70) (v := iz (-1)) O dX8_hurt_70 (by decide) ?_
                    refine z_widen (k := 1) (n := 11) (by decide) (by decide) ?_
                    refine z_iret (pc := 71) O dX8_hurt_71 ?_
                    exact ⟨-1, rfl, by decide, (Fr.rf [(2, 12)] σ).G, I⟩
        · refine z_iconst (pc := 34) (v := iz (-1)) O dX8_hurt_34 (by decide) ?_
          refine z_widen (k := 1) (n := 11) (by decide) (by decide) ?_
          refine z_iret (pc := 35) O dX8_hurt_35 ?_
          exact ⟨-1, rfl, by decide, (Fr.rf [(2, 12)] σ).G, I⟩
