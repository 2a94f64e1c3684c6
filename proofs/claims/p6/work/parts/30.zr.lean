def Opq (p : Prop) : Prop := p
theorem Opq.get {p : Prop} (h : Opq p) : p := h
theorem Opq.mk {p : Prop} (h : p) : Opq p := h
def nmx (σ : VH) (b i : Nat) : Int := (hL σ (b + 1) i).toInt
theorem nmx_fr {b : Nat} {W : Wl} {σ τ : VH} (F : FrX b W σ τ) (w : ∀ i, wr W 1 i = false) (i : Nat) : nmx τ b i = nmx σ b i := congrArg Int64.toInt (F.2 1 i (by decide) (w i)).2
theorem flt_k {tk : Nat → Int} {j : Nat} {k : Int} (h : ¬ tk j = 0) : flt tk j k = k := by
  unfold flt
  rw [if_neg h]
/-- a name that is told already -/
theorem dup_iff {τ : VH} {b : Nat} {x : Int64} {t h z : Int} {N : Nat → Int} (hx : x.toInt = t) (ht : ¬ t = 0) (hh : 0 ≤ h ∧ h ≤ 12) (e : ∀ i, nmx τ b i = N i) (h0 : ∀ i : Nat, h ≤ (i : Int) → i < 12 → N i = 0) (p : (z = -1 ∧ ∀ i : Nat, i < 12 → ¬ (hL τ (b + 1) i).toInt = x.toInt) ∨ (0 ≤ z ∧ z < ((12 : Nat) : Int) ∧ (hL τ (b + 1) z.toNat).toInt = x.toInt)) : z = -1 ↔ ¬ ∃ i : Nat, (i : Int) < h ∧ N i = t := by
  rw [hx] at p
  rcases p with ⟨p1, p2⟩ | ⟨p1, p2, p3⟩
  · refine ⟨fun _ => ?_, fun _ => p1⟩
    rintro ⟨i, i1, i2⟩
    exact p2 i (by omega) ((e i).trans i2)
  · refine ⟨fun q => by omega, fun q => ?_⟩
    have e1 : N z.toNat = t := (e z.toNat).symm.trans p3
    by_cases hz : z < h
    · exact absurd ⟨z.toNat, by omega, e1⟩ q
    · have := h0 z.toNat (by omega) (by omega)
      omega
set_option maxHeartbeats 4000000 in
set_option maxRecDepth 20000 in
theorem k4_readHurt3 (l : Launch) (σ : VH) (b : Nat) (tk : Nat → Int) (pl : Nat → Int) (m : Nat) (j : Nat) (J : Lay σ) (R : RdS σ b tk pl m j) (hsr : SRw σ) (hnz : ∀ i : Nat, gI σ b 3 ≤ (i : Int) → i < 12 → nmx σ b i = 0) : Ct l yX4_readHurt cX4_readHurt 4 (some .boolean) 2 0 0 [.ref (b + 9)] σ (fun r τ => ∃ z : Int, r = some (.int (iz z)) ∧ (z = 0 ∨ z = 1) ∧ (FrX b [(9, 8), (9, 9), (9, 2), (9, 3), (1, 99999), (3, 99999), (0, 3)] σ τ) ∧ (RdX τ b) ∧ (Rt τ b tk pl m z (hurtR tk m j (gI σ b 3) (nmx σ b))) ∧ (z = 0 ∨ (gI τ b 3 = gI σ b 3 + 1 ∧ ∀ i : Nat, nmx τ b i = if (i : Int) = gI σ b 3 then tk (adv m j) else nmx σ b i))) := by
  refine Ct.enter rfl (Nat.le_of_ble_eq_true rfl) ?_
  intro κ γ hκ O hrc hrs
  subst hκ
  have hX := R.1
  have hR0 := hX.1.1
  have hR4 := hX.2.2.2.1
  have hR5 := hX.2.2.2.2
  have hR6 := hX.1.2.2.2.2.1
  have hR7 := hX.1.2.2.2.2.2.1
  have hT := R.2.1
  have hct := R.2.1.2.2.1
  have hat := R.2.2.1
  have hcur := R.2.2.2.1
  have hfl := R.2.2.2.2
  refine z_aload_n (pc := 0) O dX4_readHurt_0 rfl ?_
  refine z_getR (pc := 1) b O fl_X4_19 rfl (hX).2.1 (hX).2.2.1.2 dX4_readHurt_1 ?_
  refine zi_getv (pc := 4) (gI σ b 3) O fl_X4_63 rfl (hX).1.2.1 (izg σ b 3) dX4_readHurt_4 ?_
  have := rgI σ b 3
  refine z_bipush (pc := 7) (v := iz (12)) O dX4_readHurt_7 (by decide) ?_
  refine zi_icmp_lt (pc := 9) (tgt := 18) O dX4_readHurt_9 (by decide) (by omega) (by decide) (fun h9 => ?_) (fun h9 => ?_)
  · refine z_aload_n (pc := 18) O dX4_readHurt_18 rfl ?_
    refine z_callV (pc := 19) O cl_X4_68 (k4_advance3 _ _ b tk pl m j J R) (by decide) (hX).2.1 kc_4 rfl rfl (Nat.le_of_ble_eq_true rfl) ⟨Nat.zero_le _, Nat.zero_le _⟩ dX4_readHurt_19 (fun r τ1 hp => ?_)
    obtain ⟨rfl, frτ1, ivτ1_RdX, eτ1_0⟩ := hp
    have := (ivτ1_RdX).2.2.2.1
    have := (ivτ1_RdX).2.2.2.2
    have := (ivτ1_RdX).1.2.2.2.2.1
    have := (ivτ1_RdX).1.2.2.2.2.2.1
    have : gI τ1 4 2 = gI σ 4 2 := gI_iz (FrD.it frτ1.1 (by omega) (izg σ 4 2)) (rgI _ _ _)
    refine z_aload_n (pc := 22) O dX4_readHurt_22 rfl ?_
    refine zi_getLv (pc := 23) (hL τ1 (b + 9) 3) O fl_X4_29 rfl (ivτ1_RdX).2.1 rfl dX4_readHurt_23 ?_
    refine z_topl (pc := 26) (fun w3 ew3 => ?_)
    refine z_lstore_n (pc := 26) [(0, .ref (b + 9)), (1, .long w3)] O dX4_readHurt_26 (by decide) rfl ?_
    refine z_lload_n (pc := 27) O dX4_readHurt_27 rfl ?_
    refine z_callSN (pc := 28) O cl_X4_71 (k8_isName3 _ _ w3 (SRw.fr hsr ((FrX.rf b [(0, 99999), (1, 99999), (2, 99999), (3, 99999), (4, 99999), (5, 99999), (6, 99999), (7, 99999), (8, 99999), (9, 99999)] σ).tr (frτ1.mono (V := [(0, 99999), (1, 99999), (2, 99999), (3, 99999), (4, 99999), (5, 99999), (6, 99999), (7, 99999), (8, 99999), (9, 99999)]) rfl)) hR0)) (by decide) rfl rfl (Nat.le_of_ble_eq_true rfl) ⟨Nat.zero_le _, Nat.zero_le _⟩ dX4_readHurt_28 (fun r τ4 hp => ?_)
    obtain ⟨z5, rfl, fτ4_0, fτ4_1, rfl⟩ := hp
    have hcw := eτ1_0.2.2.2.1
    have hw1 : (w3).toInt = tk (adv m j) := by rw [ew3]; exact hcw
    have hnm := fτ4_1
    rw [hw1] at hnm
    refine zi_if_ne (pc := 31) (tgt := 40) O dX4_readHurt_31 (by decide) (by omega) (fun h31 => ?_) (fun h31 => ?_)
    · refine z_aload_n (pc := 40) O dX4_readHurt_40 rfl ?_
      refine z_getR (pc := 41) b O fl_X4_19 rfl (ivτ1_RdX).2.1 (ivτ1_RdX).2.2.1.2 dX4_readHurt_41 ?_
      refine z_getR (pc := 44) (b + 1) O fl_X4_75 rfl (ivτ1_RdX).1.2.1 (ivτ1_RdX).1.2.2.1.1 dX4_readHurt_44 ?_
      refine z_lload_n (pc := 47) O dX4_readHurt_47 rfl ?_
      refine z_callSN (pc := 48) O cl_X4_78 (k8_placeIn3 _ _ (b + 1) w3 12 (Or.inl (ivτ1_RdX).1.2.2.2.1.1) (by decide)) (by decide) rfl rfl (Nat.le_of_ble_eq_true rfl) ⟨Nat.zero_le _, Nat.zero_le _⟩ dX4_readHurt_48 (fun r τ6 hp => ?_)
      obtain ⟨z7, rfl, fτ6_0, fτ6_1, rfl⟩ := hp
      have hdp : Opq (z7 = -1 ↔ ¬ ∃ i : Nat, (i : Int) < gI σ b 3 ∧ nmx σ b i = tk (adv m j)) := dup_iff (τ := τ1) (b := b) hw1 (by have hyb := (hnm.mp (by omega)).1.bd; omega) (by omega) (fun i => nmx_fr frτ1 (fun _ => rfl) i) hnz fτ6_1
      refine z_iconst (pc := 51) (v := iz (-1)) O dX4_readHurt_51 (by decide) ?_
      refine zi_icmp_eq (pc := 52) (tgt := 61) O dX4_readHurt_52 (by decide) (by omega) (by decide) (fun h52 => ?_) (fun h52 => ?_)
      · refine z_aload_n (pc := 61) O dX4_readHurt_61 rfl ?_
        refine z_callV (pc := 62) O cl_X4_68 (k4_advance3 _ _ b tk pl m (adv m j) (frτ1.lay J) eτ1_0) (by decide) (ivτ1_RdX).2.1 kc_4 rfl rfl (Nat.le_of_ble_eq_true rfl) ⟨Nat.zero_le _, Nat.zero_le _⟩ dX4_readHurt_62 (fun r τ8 hp => ?_)
        obtain ⟨rfl, frτ8, ivτ8_RdX, eτ8_0⟩ := hp
        have := (ivτ8_RdX).2.2.2.1
        have := (ivτ8_RdX).2.2.2.2
        have := (ivτ8_RdX).1.2.2.2.2.1
        have := (ivτ8_RdX).1.2.2.2.2.2.1
        have : gI τ8 4 2 = gI σ 4 2 := gI_iz (FrD.it frτ8.1 (by omega) (FrD.it frτ1.1 (by omega) (izg σ 4 2))) (rgI _ _ _)
        refine z_aload_n (pc := 65) O dX4_readHurt_65 rfl ?_
        refine z_iconst (pc := 66) (v := iz (0)) O dX4_readHurt_66 (by decide) ?_
        refine z_ldc (pc := 67) O tw_394 dX4_readHurt_67 ?_
        refine zi_val (100000) (by decide) ?_
        refine z_callV (pc := 69) O cl_X4_83 (k4_readNumber3 _ _ b 0 (by decide) 100000 (by decide) tk pl m (adv m (adv m j)) (frτ8.lay (frτ1.lay J)) eτ8_0 (by omega)) (by decide) (ivτ8_RdX).2.1 kc_4 rfl rfl (Nat.le_of_ble_eq_true rfl) ⟨Nat.zero_le _, Nat.zero_le _⟩ dX4_readHurt_69 (fun r τ10 hp => ?_)
        obtain ⟨z11, rfl, fτ10_0, fτ10_1, frτ10, ivτ10_RdX, eτ10_0⟩ := hp
        have := (ivτ10_RdX).2.2.2.1
        have := (ivτ10_RdX).2.2.2.2
        have := (ivτ10_RdX).1.2.2.2.2.1
        have := (ivτ10_RdX).1.2.2.2.2.2.1
        have : gI τ10 4 2 = gI σ 4 2 := gI_iz (FrD.it frτ10.1 (by omega) (FrD.it frτ8.1 (by omega) (FrD.it frτ1.1 (by omega) (izg σ 4 2)))) (rgI _ _ _)
        refine z_istore_n (pc := 72) [(0, .ref (b + 9)), (1, .long w3), (3, .int (iz z11))] O dX4_readHurt_72 (by decide) rfl ?_
        refine z_iload_n (pc := 73) O dX4_readHurt_73 rfl ?_
        refine z_iconst (pc := 74) (v := iz (-1)) O dX4_readHurt_74 (by decide) ?_
        refine zi_icmp_eq (pc := 75) (tgt := 88) O dX4_readHurt_75 (by decide) (by omega) (by decide) (fun h75 => ?_) (fun h75 => ?_)
        · refine z_iconst (pc := 88) (v := iz (0)) O dX4_readHurt_88 (by decide) ?_
          refine z_zret (pc := 89) O dX4_readHurt_89 rfl ?_
          have hy := hnm.mp (by omega)
          have hyb := hy.1.bd
          have o1 := NmR.no eτ10_0 (by omega)
          have er : hurtR tk m j (gI σ b 3) (nmx σ b) = _ := (cif_neg (by omega)).trans ((cif_pos hy).trans ((cif_neg (hdp.get.mp (by omega))).trans (thn_f o1.1)))
          exact ⟨0, rfl, (by decide), ((((FrX.rf b [(9, 8), (9, 9), (9, 2), (9, 3), (1, 99999), (3, 99999), (0, 3)] σ).tr (frτ1.mono (V := [(9, 8), (9, 9), (9, 2), (9, 3), (1, 99999), (3, 99999), (0, 3)]) rfl)).tr (frτ8.mono (V := [(9, 8), (9, 9), (9, 2), (9, 3), (1, 99999), (3, 99999), (0, 3)]) rfl)).tr (frτ10.mono (V := [(9, 8), (9, 9), (9, 2), (9, 3), (1, 99999), (3, 99999), (0, 3)]) rfl)), ivτ10_RdX, (by rw [er]; exact Or.inr ⟨rfl, o1.1, o1.2⟩), (Or.inl (by omega))⟩
        · refine z_aload_n (pc := 78) O dX4_readHurt_78 rfl ?_
          refine z_ldc2 (pc := 79) O tw_400 dX4_readHurt_79 ?_
          refine z_callV (pc := 82) O cl_X4_89 (k4_expect3 _ _ b 59 tk pl m (adv m (adv m (adv m j))) (frτ10.lay (frτ8.lay (frτ1.lay J))) (NmR.ok eτ10_0 (by omega)).2.2.2) (by decide) (ivτ10_RdX).2.1 kc_4 rfl rfl (Nat.le_of_ble_eq_true rfl) ⟨Nat.zero_le _, Nat.zero_le _⟩ dX4_readHurt_82 (fun r τ12 hp => ?_)
          obtain ⟨z13, rfl, fτ12_0, frτ12, ivτ12_RdX, eτ12_0⟩ := hp
          have := (ivτ12_RdX).2.2.2.1
          have := (ivτ12_RdX).2.2.2.2
          have := (ivτ12_RdX).1.2.2.2.2.1
          have := (ivτ12_RdX).1.2.2.2.2.2.1
          have : gI τ12 4 2 = gI σ 4 2 := gI_iz (FrD.it frτ12.1 (by omega) (FrD.it frτ10.1 (by omega) (FrD.it frτ8.1 (by omega) (FrD.it frτ1.1 (by omega) (izg σ 4 2))))) (rgI _ _ _)
          rw [show (59 : Int64).toInt = 59 by decide] at eτ12_0
          refine zi_if_ne (pc := 85) (tgt := 90) O dX4_readHurt_85 (by decide) (by omega) (fun h85 => ?_) (fun h85 => ?_)
          · refine z_aload_n (pc := 90) O dX4_readHurt_90 rfl ?_
            refine z_getR (pc := 91) b O fl_X4_19 rfl (ivτ12_RdX).2.1 (ivτ12_RdX).2.2.1.2 dX4_readHurt_91 ?_
            refine z_lload_n (pc := 94) O dX4_readHurt_94 rfl ?_
            refine z_iload_n (pc := 95) O dX4_readHurt_95 rfl ?_
            refine z_callV (pc := 96) O cl_X4_92 (k1_addHurt3 _ _ b w3 z11 (by omega) (frτ12.lay (frτ10.lay (frτ8.lay (frτ1.lay J)))) ivτ12_RdX (by have q3 := (gI_iz (FrX.it 0 frτ12 rfl (FrX.it 0 frτ10 rfl (FrX.it 0 frτ8 rfl (FrX.it 0 frτ1 rfl (izg σ b 3))))) (rgI _ _ _) : gI τ12 b 3 = gI σ b 3); omega)) (by decide) (ivτ12_RdX).1.2.1 kc_1 rfl rfl (Nat.le_of_ble_eq_true rfl) ⟨Nat.zero_le _, Nat.zero_le _⟩ dX4_readHurt_96 (fun r τ14 hp => ?_)
            obtain ⟨rfl, frτ14, ivτ14_RdX, eτ14_0, eτ14_1⟩ := hp
            have := (ivτ14_RdX).2.2.2.1
            have := (ivτ14_RdX).2.2.2.2
            have := (ivτ14_RdX).1.2.2.2.2.1
            have := (ivτ14_RdX).1.2.2.2.2.2.1
            have : gI τ14 4 2 = gI σ 4 2 := gI_iz (FrD.it frτ14.1 (by omega) (FrD.it frτ12.1 (by omega) (FrD.it frτ10.1 (by omega) (FrD.it frτ8.1 (by omega) (FrD.it frτ1.1 (by omega) (izg σ 4 2)))))) (rgI _ _ _)
            refine z_iconst (pc := 99) (v := iz (1)) O dX4_readHurt_99 (by decide) ?_
            refine z_zret (pc := 100) O dX4_readHurt_100 rfl ?_
            have hy := hnm.mp (by omega)
            have hyb := hy.1.bd
            have o1 := NmR.ok eτ10_0 (by omega)
            have er : hurtR tk m j (gI σ b 3) (nmx σ b) = _ := (cif_neg (by omega)).trans ((cif_pos hy).trans ((cif_neg (hdp.get.mp (by omega))).trans (thn_ok o1.2.2.1)))
            have o2 := Rt.is1 eτ12_0 (by omega)
            have q3 := (gI_iz (FrX.it 0 frτ12 rfl (FrX.it 0 frτ10 rfl (FrX.it 0 frτ8 rfl (FrX.it 0 frτ1 rfl (izg σ b 3))))) (rgI _ _ _) : gI τ12 b 3 = gI σ b 3)
            have rw9 : ∀ i : Nat, nmx τ14 b i = if (i : Int) = gI σ b 3 then tk (adv m j) else nmx σ b i := fun i => by
              have h9 := eτ14_1 i
              rw [q3] at h9
              rw [show nmx τ14 b i = _ from h9, hw1]
              by_cases hi : (i : Int) = gI σ b 3
              · rw [if_pos hi, if_pos hi]
              · rw [if_neg hi, if_neg hi]
                exact nmx_fr (((((FrX.rf b [(9, 8), (9, 9), (9, 2), (9, 3)] σ).tr (frτ1.mono (V := [(9, 8), (9, 9), (9, 2), (9, 3)]) rfl)).tr (frτ8.mono (V := [(9, 8), (9, 9), (9, 2), (9, 3)]) rfl)).tr frτ10).tr frτ12) (fun _ => rfl) i
            exact ⟨1, rfl, (by decide), ((((((FrX.rf b [(9, 8), (9, 9), (9, 2), (9, 3), (1, 99999), (3, 99999), (0, 3)] σ).tr (frτ1.mono (V := [(9, 8), (9, 9), (9, 2), (9, 3), (1, 99999), (3, 99999), (0, 3)]) rfl)).tr (frτ8.mono (V := [(9, 8), (9, 9), (9, 2), (9, 3), (1, 99999), (3, 99999), (0, 3)]) rfl)).tr (frτ10.mono (V := [(9, 8), (9, 9), (9, 2), (9, 3), (1, 99999), (3, 99999), (0, 3)]) rfl)).tr (frτ12.mono (V := [(9, 8), (9, 9), (9, 2), (9, 3), (1, 99999), (3, 99999), (0, 3)]) rfl)).tr (frτ14.mono (V := [(9, 8), (9, 9), (9, 2), (9, 3), (1, 99999), (3, 99999), (0, 3)]) rfl)), ivτ14_RdX, (by rw [er]; exact Or.inl ⟨rfl, o2.1, RdS.fr o2.2 frτ14 ivτ14_RdX rfl rfl rfl rfl⟩), (Or.inr ⟨by omega, rw9⟩)⟩
          · refine z_iconst (pc := 88) (v := iz (0)) O dX4_readHurt_88 (by decide) ?_
            refine z_zret (pc := 89) O dX4_readHurt_89 rfl ?_
            have hy := hnm.mp (by omega)
            have hyb := hy.1.bd
            have o1 := NmR.ok eτ10_0 (by omega)
            have er : hurtR tk m j (gI σ b 3) (nmx σ b) = _ := (cif_neg (by omega)).trans ((cif_pos hy).trans ((cif_neg (hdp.get.mp (by omega))).trans (thn_ok o1.2.2.1)))
            have o2 := Rt.is0 eτ12_0 (by omega)
            exact ⟨0, rfl, (by decide), (((((FrX.rf b [(9, 8), (9, 9), (9, 2), (9, 3), (1, 99999), (3, 99999), (0, 3)] σ).tr (frτ1.mono (V := [(9, 8), (9, 9), (9, 2), (9, 3), (1, 99999), (3, 99999), (0, 3)]) rfl)).tr (frτ8.mono (V := [(9, 8), (9, 9), (9, 2), (9, 3), (1, 99999), (3, 99999), (0, 3)]) rfl)).tr (frτ10.mono (V := [(9, 8), (9, 9), (9, 2), (9, 3), (1, 99999), (3, 99999), (0, 3)]) rfl)).tr (frτ12.mono (V := [(9, 8), (9, 9), (9, 2), (9, 3), (1, 99999), (3, 99999), (0, 3)]) rfl)), ivτ12_RdX, (by rw [er]; exact Or.inr ⟨rfl, o2.1, o2.2⟩), (Or.inl (by omega))⟩
      · refine z_aload_n (pc := 55) O dX4_readHurt_55 rfl ?_
        refine z_iconst (pc := 56) (v := iz (3)) O dX4_readHurt_56 (by decide) ?_
        refine z_callV (pc := 57) O cl_X4_59 (k4_refuse3 _ _ b 3 (by decide) tk pl m (adv m j) (frτ1.lay J) eτ1_0) (by decide) (ivτ1_RdX).2.1 kc_4 rfl rfl (Nat.le_of_ble_eq_true rfl) ⟨Nat.zero_le _, Nat.zero_le _⟩ dX4_readHurt_57 (fun r τ16 hp => ?_)
        obtain ⟨z17, rfl, fτ16_0, fτ16_1, frτ16, ivτ16_RdX, eτ16_0⟩ := hp
        have := (ivτ16_RdX).2.2.2.1
        have := (ivτ16_RdX).2.2.2.2
        have := (ivτ16_RdX).1.2.2.2.2.1
        have := (ivτ16_RdX).1.2.2.2.2.2.1
        have : gI τ16 4 2 = gI σ 4 2 := gI_iz (FrD.it frτ16.1 (by omega) (FrD.it frτ1.1 (by omega) (izg σ 4 2))) (rgI _ _ _)
        refine z_zret (pc := 60) O dX4_readHurt_60 (nar_z (by omega)) ?_
        have hy := hnm.mp (by omega)
        have hyb := hy.1.bd
        rw [flt_k (by omega)] at eτ16_0
        exact ⟨z17, rfl, (by omega), (((FrX.rf b [(9, 8), (9, 9), (9, 2), (9, 3), (1, 99999), (3, 99999), (0, 3)] σ).tr (frτ1.mono (V := [(9, 8), (9, 9), (9, 2), (9, 3), (1, 99999), (3, 99999), (0, 3)]) rfl)).tr (frτ16.mono (V := [(9, 8), (9, 9), (9, 2), (9, 3), (1, 99999), (3, 99999), (0, 3)]) rfl)), ivτ16_RdX, (by rw [show z17 = 0 by omega]; exact Rt.no ((cif_neg (by omega)).trans ((cif_pos hy).trans (cif_pos (Classical.byContradiction fun q => absurd (hdp.get.mpr q) (by omega))))) (by decide) eτ16_0), (Or.inl (by omega))⟩
    · refine z_aload_n (pc := 34) O dX4_readHurt_34 rfl ?_
      refine z_iconst (pc := 35) (v := iz (2)) O dX4_readHurt_35 (by decide) ?_
      refine z_callV (pc := 36) O cl_X4_59 (k4_refuse3 _ _ b 2 (by decide) tk pl m (adv m j) (frτ1.lay J) eτ1_0) (by decide) (ivτ1_RdX).2.1 kc_4 rfl rfl (Nat.le_of_ble_eq_true rfl) ⟨Nat.zero_le _, Nat.zero_le _⟩ dX4_readHurt_36 (fun r τ18 hp => ?_)
      obtain ⟨z19, rfl, fτ18_0, fτ18_1, frτ18, ivτ18_RdX, eτ18_0⟩ := hp
      have := (ivτ18_RdX).2.2.2.1
      have := (ivτ18_RdX).2.2.2.2
      have := (ivτ18_RdX).1.2.2.2.2.1
      have := (ivτ18_RdX).1.2.2.2.2.2.1
      have : gI τ18 4 2 = gI σ 4 2 := gI_iz (FrD.it frτ18.1 (by omega) (FrD.it frτ1.1 (by omega) (izg σ 4 2))) (rgI _ _ _)
      refine z_zret (pc := 39) O dX4_readHurt_39 (nar_z (by omega)) ?_
      exact ⟨z19, rfl, (by omega), (((FrX.rf b [(9, 8), (9, 9), (9, 2), (9, 3), (1, 99999), (3, 99999), (0, 3)] σ).tr (frτ1.mono (V := [(9, 8), (9, 9), (9, 2), (9, 3), (1, 99999), (3, 99999), (0, 3)]) rfl)).tr (frτ18.mono (V := [(9, 8), (9, 9), (9, 2), (9, 3), (1, 99999), (3, 99999), (0, 3)]) rfl)), ivτ18_RdX, (by rw [show z19 = 0 by omega]; exact Rt.no ((cif_neg (by omega)).trans (cif_neg (fun q => absurd (hnm.mpr q) (by omega)))) (flt_ne (by decide)) eτ18_0), (Or.inl (by omega))⟩
  · refine z_aload_n (pc := 12) O dX4_readHurt_12 rfl ?_
    refine z_iconst (pc := 13) (v := iz (2)) O dX4_readHurt_13 (by decide) ?_
    refine z_callV (pc := 14) O cl_X4_59 (k4_refuse3 _ _ b 2 (by decide) tk pl m j J R) (by decide) (hX).2.1 kc_4 rfl rfl (Nat.le_of_ble_eq_true rfl) ⟨Nat.zero_le _, Nat.zero_le _⟩ dX4_readHurt_14 (fun r τ20 hp => ?_)
    obtain ⟨z21, rfl, fτ20_0, fτ20_1, frτ20, ivτ20_RdX, eτ20_0⟩ := hp
    have := (ivτ20_RdX).2.2.2.1
    have := (ivτ20_RdX).2.2.2.2
    have := (ivτ20_RdX).1.2.2.2.2.1
    have := (ivτ20_RdX).1.2.2.2.2.2.1
    have : gI τ20 4 2 = gI σ 4 2 := gI_iz (FrD.it frτ20.1 (by omega) (izg σ 4 2)) (rgI _ _ _)
    refine z_zret (pc := 17) O dX4_readHurt_17 (nar_z (by omega)) ?_
    exact ⟨z21, rfl, (by omega), ((FrX.rf b [(9, 8), (9, 9), (9, 2), (9, 3), (1, 99999), (3, 99999), (0, 3)] σ).tr (frτ20.mono (V := [(9, 8), (9, 9), (9, 2), (9, 3), (1, 99999), (3, 99999), (0, 3)]) rfl)), ivτ20_RdX, (by rw [show z21 = 0 by omega]; exact Rt.no (cif_pos (by omega)) (flt_ne (by decide)) eτ20_0), (Or.inl (by omega))⟩
