set_option maxHeartbeats 4000000 in
set_option maxRecDepth 20000 in
theorem g_case20 (κ : Kx) (γ : Gh) (Q : State → Prop) (nm : String) (O : OK κ γ code 4 "BloodPriceLaw" 2000 ret nm) (hrc : κ.2.2.2.1.cells = 600000) (hrs : κ.2.2.2.1.slots = 7302250) (L : Nat) (hLγ : γ.2.2.2.2.2.2.1 = L) (hL : L ≤ 4096) (i : Int) (hi : 0 ≤ i ∧ i + 8 ≤ L) (σ : VH) (cells slots : Nat) (hc : cells ≤ 500000) (hs : slots ≤ 7000000) (IX : InvX σ) (IM : InvM σ) (K : Cp σ) (K2 : Cxt σ) (K3 : Cl σ) (fin : ∀ (τ : VH) (c s : Nat), InvX τ → InvM τ → Cp τ → Cxt τ → Cl τ → c ≤ cells + 10 → s ≤ slots + 863 → Z κ γ 4 τ c s Q 1049 [(0, .float 0), (1, .ref 2), (2, .ref 33), (3, .int (iz i))] []) : Z κ γ 4 σ cells slots Q 950 [(0, .float 0), (1, .ref 2), (2, .ref 33), (3, .int (iz i))] [] := by
  unfold Cp at K
  have ix1 := IX.2.1
  unfold InvX1 at ix1
  have im1 := IM.2.1
  unfold InvM1 at im1
  refine z_aload_n (pc := 950) O dL_law_950 rfl ?_
  refine z_aloadS (pc := 951) O dL_law_951 rfl ?_
  refine z_iload_n (pc := 952) O dL_law_952 rfl ?_
  refine z_iconst (pc := 953) (v := iz (1)) O dL_law_953 (by decide) ?_
  refine zi_iadd (pc := 954) O dL_law_954 ?_
  refine z_sld (pc := 955) ((i + 1).toNat) O (iz_nI (by omega)) (by rw [hLγ]; omega) (by rw [hLγ]; omega) dL_law_955 ?_
  refine zi_val _ (izi _) ?_
  have := rng (γ.2.2.2.2.2.2.2 ((i + 1).toNat))
  refine z_aloadS (pc := 956) O dL_law_956 rfl ?_
  refine z_iload_n (pc := 957) O dL_law_957 rfl ?_
  refine z_iconst (pc := 958) (v := iz (2)) O dL_law_958 (by decide) ?_
  refine zi_iadd (pc := 959) O dL_law_959 ?_
  refine z_sld (pc := 960) ((i + 2).toNat) O (iz_nI (by omega)) (by rw [hLγ]; omega) (by rw [hLγ]; omega) dL_law_960 ?_
  refine zi_val _ (izi _) ?_
  have := rng (γ.2.2.2.2.2.2.2 ((i + 2).toNat))
  refine z_aloadS (pc := 961) O dL_law_961 rfl ?_
  refine z_iload_n (pc := 962) O dL_law_962 rfl ?_
  refine z_iconst (pc := 963) (v := iz (3)) O dL_law_963 (by decide) ?_
  refine zi_iadd (pc := 964) O dL_law_964 ?_
  refine z_sld (pc := 965) ((i + 3).toNat) O (iz_nI (by omega)) (by rw [hLγ]; omega) (by rw [hLγ]; omega) dL_law_965 ?_
  refine zi_val _ (izi _) ?_
  have := rng (γ.2.2.2.2.2.2.2 ((i + 3).toNat))
  refine z_callV (pc := 966) O cl_L_102 (k8_pay _ _ ((γ.2.2.2.2.2.2.2 ((i + 1).toNat)).toInt) (by omega) ((γ.2.2.2.2.2.2.2 ((i + 2).toNat)).toInt) (by omega) ((γ.2.2.2.2.2.2.2 ((i + 3).toNat)).toInt) (by omega) IX) (by decide) (jo_2 IX.1) kc_8 rfl rfl (Nat.le_of_ble_eq_true rfl) ⟨by rw [hrc]; omega, by rw [hrs]; omega⟩ dL_law_966 (fun r τ1 hp => ?_)
  obtain ⟨z2, rfl, fτ1_0, frτ1, ivτ1_InvX⟩ := hp
  have imτ1 : InvM τ1 := InvM.cls frτ1.G IM ivτ1_InvX.1 rfl
  have srτ1 : SRw τ1 := SRw.frW K2.2.2 frτ1.G (fun _ => rfl) (fun _ => rfl)
  have clτ1 : Cl τ1 := Cl.mv K3 IX IM (fun k => (gI_eq (Fr.it frτ1 rfl rfl : hI τ1 36 k = hI σ 36 k))) (fun k => (gI_eq (Fr.it frτ1 rfl rfl : hI τ1 37 k = hI σ 37 k))) (fun k => (gI_eq (Fr.it frτ1 rfl rfl : hI τ1 38 k = hI σ 38 k))) (gI_eq (Fr.it frτ1 rfl rfl : hI τ1 33 33 = hI σ 33 33)) (fun j => by rw [frτ1.2.2.1]) (Old.fr frτ1)
  refine z_pop (pc := 969) O dL_law_969 rfl ?_
  refine z_aload_n (pc := 970) O dL_law_970 rfl ?_
  refine z_aloadS (pc := 971) O dL_law_971 rfl ?_
  refine z_iload_n (pc := 972) O dL_law_972 rfl ?_
  refine z_iconst (pc := 973) (v := iz (1)) O dL_law_973 (by decide) ?_
  refine zi_iadd (pc := 974) O dL_law_974 ?_
  refine z_sld (pc := 975) ((i + 1).toNat) O (iz_nI (by omega)) (by rw [hLγ]; omega) (by rw [hLγ]; omega) dL_law_975 ?_
  refine zi_val _ (izi _) ?_
  have := rng (γ.2.2.2.2.2.2.2 ((i + 1).toNat))
  refine z_aloadS (pc := 976) O dL_law_976 rfl ?_
  refine z_iload_n (pc := 977) O dL_law_977 rfl ?_
  refine z_iconst (pc := 978) (v := iz (2)) O dL_law_978 (by decide) ?_
  refine zi_iadd (pc := 979) O dL_law_979 ?_
  refine z_sld (pc := 980) ((i + 2).toNat) O (iz_nI (by omega)) (by rw [hLγ]; omega) (by rw [hLγ]; omega) dL_law_980 ?_
  refine zi_val _ (izi _) ?_
  have := rng (γ.2.2.2.2.2.2.2 ((i + 2).toNat))
  refine z_aloadS (pc := 981) O dL_law_981 rfl ?_
  refine z_iload_n (pc := 982) O dL_law_982 rfl ?_
  refine z_iconst (pc := 983) (v := iz (3)) O dL_law_983 (by decide) ?_
  refine zi_iadd (pc := 984) O dL_law_984 ?_
  refine z_sld (pc := 985) ((i + 3).toNat) O (iz_nI (by omega)) (by rw [hLγ]; omega) (by rw [hLγ]; omega) dL_law_985 ?_
  refine zi_val _ (izi _) ?_
  have := rng (γ.2.2.2.2.2.2.2 ((i + 3).toNat))
  refine z_callV (pc := 986) O cl_L_105 (k9_pay _ _ ((γ.2.2.2.2.2.2.2 ((i + 1).toNat)).toInt) (by omega) ((γ.2.2.2.2.2.2.2 ((i + 2).toNat)).toInt) (by omega) ((γ.2.2.2.2.2.2.2 ((i + 3).toNat)).toInt) (by omega) imτ1) (by decide) (jo_33 (frτ1.lay IX.1)) kc_9 rfl rfl (Nat.le_of_ble_eq_true rfl) ⟨by rw [hrc]; omega, by rw [hrs]; omega⟩ dL_law_986 (fun r τ3 hp => ?_)
  obtain ⟨z4, rfl, fτ3_0, frτ3, ivτ3_InvM⟩ := hp
  have ixτ3 : InvX τ3 := InvX.mod frτ3 ivτ1_InvX rfl
  have srτ3 : SRw τ3 := SRw.frW srτ1 frτ3.G (fun _ => rfl) (fun _ => rfl)
  have clτ3 : Cl τ3 := Cl.mv clτ1 ivτ1_InvX imτ1 (fun k => (gI_eq (Fr.it frτ3 rfl rfl : hI τ3 36 k = hI τ1 36 k))) (fun k => (gI_eq (Fr.it frτ3 rfl rfl : hI τ3 37 k = hI τ1 37 k))) (fun k => (gI_eq (Fr.it frτ3 rfl rfl : hI τ3 38 k = hI τ1 38 k))) (gI_eq (Fr.it frτ3 rfl rfl : hI τ3 33 33 = hI τ1 33 33)) (fun j => by rw [frτ3.2.2.1]) (Old.fr frτ3)
  refine z_pop (pc := 989) O dL_law_989 rfl ?_
  refine z_goto (pc := 990) (tgt := 1049) O dL_law_990 (by decide) ?_
  exact fin τ3 _ _ ixτ3 ivτ3_InvM (by unfold Cp; have : gI τ3 2 15 = gI σ 2 15 := gI_iz (Fr.it frτ3 rfl (Fr.it frτ1 rfl (izg σ 2 15))) (rgI _ _ _); have : gI τ3 33 73 = gI σ 33 73 := gI_iz (Fr.it frτ3 rfl (Fr.it frτ1 rfl (izg σ 33 73))) (rgI _ _ _); have : gI τ3 2 7 = gI σ 2 7 := gI_iz (Fr.it frτ3 rfl (Fr.it frτ1 rfl (izg σ 2 7))) (rgI _ _ _); have : gI τ3 33 6 = gI σ 33 6 := gI_iz (Fr.it frτ3 rfl (Fr.it frτ1 rfl (izg σ 33 6))) (rgI _ _ _); have : gI τ3 21 4 = gI σ 21 4 := gI_iz (Fr.it frτ3 rfl (Fr.it frτ1 rfl (izg σ 21 4))) (rgI _ _ _); have : gI τ3 33 54 = gI σ 33 54 := gI_iz (Fr.it frτ3 rfl (Fr.it frτ1 rfl (izg σ 33 54))) (rgI _ _ _); have : gI τ3 9 7 = gI σ 9 7 := gI_iz (Fr.it frτ3 rfl (Fr.it frτ1 rfl (izg σ 9 7))) (rgI _ _ _); have : gI τ3 33 52 = gI σ 33 52 := gI_iz (Fr.it frτ3 rfl (Fr.it frτ1 rfl (izg σ 33 52))) (rgI _ _ _); have : gI τ3 16 4 = gI σ 16 4 := gI_iz (Fr.it frτ3 rfl (Fr.it frτ1 rfl (izg σ 16 4))) (rgI _ _ _); have : gI τ3 33 53 = gI σ 33 53 := gI_iz (Fr.it frτ3 rfl (Fr.it frτ1 rfl (izg σ 33 53))) (rgI _ _ _); have : gI τ3 2 1 = gI σ 2 1 := gI_iz (Fr.it frτ3 rfl (Fr.it frτ1 rfl (izg σ 2 1))) (rgI _ _ _); have : gI τ3 33 2 = gI σ 33 2 := gI_iz (Fr.it frτ3 rfl (Fr.it frτ1 rfl (izg σ 33 2))) (rgI _ _ _); have : gI τ3 2 5 = gI σ 2 5 := gI_iz (Fr.it frτ3 rfl (Fr.it frτ1 rfl (izg σ 2 5))) (rgI _ _ _); have : gI τ3 33 4 = gI σ 33 4 := gI_iz (Fr.it frτ3 rfl (Fr.it frτ1 rfl (izg σ 33 4))) (rgI _ _ _); have : gI τ3 2 6 = gI σ 2 6 := gI_iz (Fr.it frτ3 rfl (Fr.it frτ1 rfl (izg σ 2 6))) (rgI _ _ _); have : gI τ3 33 5 = gI σ 33 5 := gI_iz (Fr.it frτ3 rfl (Fr.it frτ1 rfl (izg σ 33 5))) (rgI _ _ _); omega) ⟨(fun k => by rw [(Fr.it frτ3 rfl rfl : hI τ3 3 k = hI τ1 3 k), (Fr.it frτ1 rfl rfl : hI τ1 3 k = hI σ 3 k), (Fr.it frτ3 rfl rfl : hI τ3 34 k = hI τ1 34 k), (Fr.it frτ1 rfl rfl : hI τ1 34 k = hI σ 34 k)]; exact K2.1 k), (fun k => by rw [(gI_eq (Fr.it frτ3 rfl rfl : hI τ3 8 k = hI τ1 8 k)), (gI_eq (Fr.it frτ1 rfl rfl : hI τ1 8 k = hI σ 8 k)), (gI_eq (Fr.it frτ3 rfl rfl : hI τ3 38 k = hI τ1 38 k)), (gI_eq (Fr.it frτ1 rfl rfl : hI τ1 38 k = hI σ 38 k))]; exact K2.2.1 k), srτ3⟩ clτ3 (by omega) (by omega)
set_option maxHeartbeats 4000000 in
set_option maxRecDepth 20000 in
theorem g_case21 (κ : Kx) (γ : Gh) (Q : State → Prop) (nm : String) (O : OK κ γ code 4 "BloodPriceLaw" 2000 ret nm) (hrc : κ.2.2.2.1.cells = 600000) (hrs : κ.2.2.2.1.slots = 7302250) (L : Nat) (hLγ : γ.2.2.2.2.2.2.1 = L) (hL : L ≤ 4096) (i : Int) (hi : 0 ≤ i ∧ i + 8 ≤ L) (σ : VH) (cells slots : Nat) (hc : cells ≤ 500000) (hs : slots ≤ 7000000) (IX : InvX σ) (IM : InvM σ) (K : Cp σ) (K2 : Cxt σ) (K3 : Cl σ) (fin : ∀ (τ : VH) (c s : Nat), InvX τ → InvM τ → Cp τ → Cxt τ → Cl τ → c ≤ cells + 10 → s ≤ slots + 863 → Z κ γ 4 τ c s Q 1049 [(0, .float 0), (1, .ref 2), (2, .ref 33), (3, .int (iz i))] []) : Z κ γ 4 σ cells slots Q 993 [(0, .float 0), (1, .ref 2), (2, .ref 33), (3, .int (iz i))] [] := by
  unfold Cp at K
  have ix1 := IX.2.1
  unfold InvX1 at ix1
  have im1 := IM.2.1
  unfold InvM1 at im1
  refine z_aload_n (pc := 993) O dL_law_993 rfl ?_
  refine z_aloadS (pc := 994) O dL_law_994 rfl ?_
  refine z_iload_n (pc := 995) O dL_law_995 rfl ?_
  refine z_iconst (pc := 996) (v := iz (1)) O dL_law_996 (by decide) ?_
  refine zi_iadd (pc := 997) O dL_law_997 ?_
  refine z_sld (pc := 998) ((i + 1).toNat) O (iz_nI (by omega)) (by rw [hLγ]; omega) (by rw [hLγ]; omega) dL_law_998 ?_
  refine zi_val _ (izi _) ?_
  have := rng (γ.2.2.2.2.2.2.2 ((i + 1).toNat))
  refine z_aloadS (pc := 999) O dL_law_999 rfl ?_
  refine z_iload_n (pc := 1000) O dL_law_1000 rfl ?_
  refine z_iconst (pc := 1001) (v := iz (2)) O dL_law_1001 (by decide) ?_
  refine zi_iadd (pc := 1002) O dL_law_1002 ?_
  refine z_sld (pc := 1003) ((i + 2).toNat) O (iz_nI (by omega)) (by rw [hLγ]; omega) (by rw [hLγ]; omega) dL_law_1003 ?_
  refine zi_val _ (izi _) ?_
  have := rng (γ.2.2.2.2.2.2.2 ((i + 2).toNat))
  refine z_callV (pc := 1004) O cl_L_106 (k8_owed _ _ ((γ.2.2.2.2.2.2.2 ((i + 1).toNat)).toInt) (by omega) ((γ.2.2.2.2.2.2.2 ((i + 2).toNat)).toInt) (by omega) IX) (by decide) (jo_2 IX.1) kc_8 rfl rfl (Nat.le_of_ble_eq_true rfl) ⟨by rw [hrc]; omega, by rw [hrs]; omega⟩ dL_law_1004 (fun r τ1 hp => ?_)
  obtain ⟨z2, rfl, fτ1_0, frτ1, ivτ1_InvX⟩ := hp
  have imτ1 : InvM τ1 := InvM.cls frτ1.G IM ivτ1_InvX.1 rfl
  have srτ1 : SRw τ1 := SRw.frW K2.2.2 frτ1.G (fun _ => rfl) (fun _ => rfl)
  have clτ1 : Cl τ1 := Cl.mv K3 IX IM (fun k => (gI_eq (Fr.it frτ1 rfl rfl : hI τ1 36 k = hI σ 36 k))) (fun k => (gI_eq (Fr.it frτ1 rfl rfl : hI τ1 37 k = hI σ 37 k))) (fun k => (gI_eq (Fr.it frτ1 rfl rfl : hI τ1 38 k = hI σ 38 k))) (gI_eq (Fr.it frτ1 rfl rfl : hI τ1 33 33 = hI σ 33 33)) (fun j => by rw [frτ1.2.2.1]) (Old.fr frτ1)
  refine z_pop (pc := 1007) O dL_law_1007 rfl ?_
  refine z_aload_n (pc := 1008) O dL_law_1008 rfl ?_
  refine z_aloadS (pc := 1009) O dL_law_1009 rfl ?_
  refine z_iload_n (pc := 1010) O dL_law_1010 rfl ?_
  refine z_iconst (pc := 1011) (v := iz (1)) O dL_law_1011 (by decide) ?_
  refine zi_iadd (pc := 1012) O dL_law_1012 ?_
  refine z_sld (pc := 1013) ((i + 1).toNat) O (iz_nI (by omega)) (by rw [hLγ]; omega) (by rw [hLγ]; omega) dL_law_1013 ?_
  refine zi_val _ (izi _) ?_
  have := rng (γ.2.2.2.2.2.2.2 ((i + 1).toNat))
  refine z_aloadS (pc := 1014) O dL_law_1014 rfl ?_
  refine z_iload_n (pc := 1015) O dL_law_1015 rfl ?_
  refine z_iconst (pc := 1016) (v := iz (2)) O dL_law_1016 (by decide) ?_
  refine zi_iadd (pc := 1017) O dL_law_1017 ?_
  refine z_sld (pc := 1018) ((i + 2).toNat) O (iz_nI (by omega)) (by rw [hLγ]; omega) (by rw [hLγ]; omega) dL_law_1018 ?_
  refine zi_val _ (izi _) ?_
  have := rng (γ.2.2.2.2.2.2.2 ((i + 2).toNat))
  refine z_callV (pc := 1019) O cl_L_109 (k9_owed _ _ ((γ.2.2.2.2.2.2.2 ((i + 1).toNat)).toInt) (by omega) ((γ.2.2.2.2.2.2.2 ((i + 2).toNat)).toInt) (by omega) imτ1) (by decide) (jo_33 (frτ1.lay IX.1)) kc_9 rfl rfl (Nat.le_of_ble_eq_true rfl) ⟨by rw [hrc]; omega, by rw [hrs]; omega⟩ dL_law_1019 (fun r τ3 hp => ?_)
  obtain ⟨z4, rfl, fτ3_0, frτ3, ivτ3_InvM⟩ := hp
  have ixτ3 : InvX τ3 := InvX.mod frτ3 ivτ1_InvX rfl
  have srτ3 : SRw τ3 := SRw.frW srτ1 frτ3.G (fun _ => rfl) (fun _ => rfl)
  have clτ3 : Cl τ3 := Cl.mv clτ1 ivτ1_InvX imτ1 (fun k => (gI_eq (Fr.it frτ3 rfl rfl : hI τ3 36 k = hI τ1 36 k))) (fun k => (gI_eq (Fr.it frτ3 rfl rfl : hI τ3 37 k = hI τ1 37 k))) (fun k => (gI_eq (Fr.it frτ3 rfl rfl : hI τ3 38 k = hI τ1 38 k))) (gI_eq (Fr.it frτ3 rfl rfl : hI τ3 33 33 = hI τ1 33 33)) (fun j => by rw [frτ3.2.2.1]) (Old.fr frτ3)
  refine z_pop (pc := 1022) O dL_law_1022 rfl ?_
  refine z_goto (pc := 1023) (tgt := 1049) O dL_law_1023 (by decide) ?_
  exact fin τ3 _ _ ixτ3 ivτ3_InvM (by unfold Cp; have : gI τ3 2 15 = gI σ 2 15 := gI_iz (Fr.it frτ3 rfl (Fr.it frτ1 rfl (izg σ 2 15))) (rgI _ _ _); have : gI τ3 33 73 = gI σ 33 73 := gI_iz (Fr.it frτ3 rfl (Fr.it frτ1 rfl (izg σ 33 73))) (rgI _ _ _); have : gI τ3 2 7 = gI σ 2 7 := gI_iz (Fr.it frτ3 rfl (Fr.it frτ1 rfl (izg σ 2 7))) (rgI _ _ _); have : gI τ3 33 6 = gI σ 33 6 := gI_iz (Fr.it frτ3 rfl (Fr.it frτ1 rfl (izg σ 33 6))) (rgI _ _ _); have : gI τ3 21 4 = gI σ 21 4 := gI_iz (Fr.it frτ3 rfl (Fr.it frτ1 rfl (izg σ 21 4))) (rgI _ _ _); have : gI τ3 33 54 = gI σ 33 54 := gI_iz (Fr.it frτ3 rfl (Fr.it frτ1 rfl (izg σ 33 54))) (rgI _ _ _); have : gI τ3 9 7 = gI σ 9 7 := gI_iz (Fr.it frτ3 rfl (Fr.it frτ1 rfl (izg σ 9 7))) (rgI _ _ _); have : gI τ3 33 52 = gI σ 33 52 := gI_iz (Fr.it frτ3 rfl (Fr.it frτ1 rfl (izg σ 33 52))) (rgI _ _ _); have : gI τ3 16 4 = gI σ 16 4 := gI_iz (Fr.it frτ3 rfl (Fr.it frτ1 rfl (izg σ 16 4))) (rgI _ _ _); have : gI τ3 33 53 = gI σ 33 53 := gI_iz (Fr.it frτ3 rfl (Fr.it frτ1 rfl (izg σ 33 53))) (rgI _ _ _); have : gI τ3 2 1 = gI σ 2 1 := gI_iz (Fr.it frτ3 rfl (Fr.it frτ1 rfl (izg σ 2 1))) (rgI _ _ _); have : gI τ3 33 2 = gI σ 33 2 := gI_iz (Fr.it frτ3 rfl (Fr.it frτ1 rfl (izg σ 33 2))) (rgI _ _ _); have : gI τ3 2 5 = gI σ 2 5 := gI_iz (Fr.it frτ3 rfl (Fr.it frτ1 rfl (izg σ 2 5))) (rgI _ _ _); have : gI τ3 33 4 = gI σ 33 4 := gI_iz (Fr.it frτ3 rfl (Fr.it frτ1 rfl (izg σ 33 4))) (rgI _ _ _); have : gI τ3 2 6 = gI σ 2 6 := gI_iz (Fr.it frτ3 rfl (Fr.it frτ1 rfl (izg σ 2 6))) (rgI _ _ _); have : gI τ3 33 5 = gI σ 33 5 := gI_iz (Fr.it frτ3 rfl (Fr.it frτ1 rfl (izg σ 33 5))) (rgI _ _ _); omega) ⟨(fun k => by rw [(Fr.it frτ3 rfl rfl : hI τ3 3 k = hI τ1 3 k), (Fr.it frτ1 rfl rfl : hI τ1 3 k = hI σ 3 k), (Fr.it frτ3 rfl rfl : hI τ3 34 k = hI τ1 34 k), (Fr.it frτ1 rfl rfl : hI τ1 34 k = hI σ 34 k)]; exact K2.1 k), (fun k => by rw [(gI_eq (Fr.it frτ3 rfl rfl : hI τ3 8 k = hI τ1 8 k)), (gI_eq (Fr.it frτ1 rfl rfl : hI τ1 8 k = hI σ 8 k)), (gI_eq (Fr.it frτ3 rfl rfl : hI τ3 38 k = hI τ1 38 k)), (gI_eq (Fr.it frτ1 rfl rfl : hI τ1 38 k = hI σ 38 k))]; exact K2.2.1 k), srτ3⟩ clτ3 (by omega) (by omega)
set_option maxHeartbeats 4000000 in
set_option maxRecDepth 20000 in
theorem g_case22 (κ : Kx) (γ : Gh) (Q : State → Prop) (nm : String) (O : OK κ γ code 4 "BloodPriceLaw" 2000 ret nm) (hrc : κ.2.2.2.1.cells = 600000) (hrs : κ.2.2.2.1.slots = 7302250) (L : Nat) (hLγ : γ.2.2.2.2.2.2.1 = L) (hL : L ≤ 4096) (i : Int) (hi : 0 ≤ i ∧ i + 8 ≤ L) (σ : VH) (cells slots : Nat) (hc : cells ≤ 500000) (hs : slots ≤ 7000000) (IX : InvX σ) (IM : InvM σ) (K : Cp σ) (K2 : Cxt σ) (K3 : Cl σ) (fin : ∀ (τ : VH) (c s : Nat), InvX τ → InvM τ → Cp τ → Cxt τ → Cl τ → c ≤ cells + 10 → s ≤ slots + 863 → Z κ γ 4 τ c s Q 1049 [(0, .float 0), (1, .ref 2), (2, .ref 33), (3, .int (iz i))] []) : Z κ γ 4 σ cells slots Q 1026 [(0, .float 0), (1, .ref 2), (2, .ref 33), (3, .int (iz i))] [] := by
  unfold Cp at K
  have ix1 := IX.2.1
  unfold InvX1 at ix1
  have im1 := IM.2.1
  unfold InvM1 at im1
  refine z_aload_n (pc := 1026) O dL_law_1026 rfl ?_
  refine z_aloadS (pc := 1027) O dL_law_1027 rfl ?_
  refine z_iload_n (pc := 1028) O dL_law_1028 rfl ?_
  refine z_iconst (pc := 1029) (v := iz (1)) O dL_law_1029 (by decide) ?_
  refine zi_iadd (pc := 1030) O dL_law_1030 ?_
  refine z_sld (pc := 1031) ((i + 1).toNat) O (iz_nI (by omega)) (by rw [hLγ]; omega) (by rw [hLγ]; omega) dL_law_1031 ?_
  refine zi_val _ (izi _) ?_
  have := rng (γ.2.2.2.2.2.2.2 ((i + 1).toNat))
  refine z_callV (pc := 1032) O cl_L_110 (k8_about _ _ ((γ.2.2.2.2.2.2.2 ((i + 1).toNat)).toInt) (by omega) IX) (by decide) (jo_2 IX.1) kc_8 rfl rfl (Nat.le_of_ble_eq_true rfl) ⟨by rw [hrc]; omega, by rw [hrs]; omega⟩ dL_law_1032 (fun r τ1 hp => ?_)
  obtain ⟨z2, rfl, fτ1_0, frτ1, ivτ1_InvX⟩ := hp
  have imτ1 : InvM τ1 := InvM.cls frτ1.G IM ivτ1_InvX.1 rfl
  have srτ1 : SRw τ1 := SRw.frW K2.2.2 frτ1.G (fun _ => rfl) (fun _ => rfl)
  have clτ1 : Cl τ1 := Cl.mv K3 IX IM (fun k => (gI_eq (Fr.it frτ1 rfl rfl : hI τ1 36 k = hI σ 36 k))) (fun k => (gI_eq (Fr.it frτ1 rfl rfl : hI τ1 37 k = hI σ 37 k))) (fun k => (gI_eq (Fr.it frτ1 rfl rfl : hI τ1 38 k = hI σ 38 k))) (gI_eq (Fr.it frτ1 rfl rfl : hI τ1 33 33 = hI σ 33 33)) (fun j => by rw [frτ1.2.2.1]) (Old.fr frτ1)
  refine z_pop (pc := 1035) O dL_law_1035 rfl ?_
  refine z_aload_n (pc := 1036) O dL_law_1036 rfl ?_
  refine z_aloadS (pc := 1037) O dL_law_1037 rfl ?_
  refine z_iload_n (pc := 1038) O dL_law_1038 rfl ?_
  refine z_iconst (pc := 1039) (v := iz (1)) O dL_law_1039 (by decide) ?_
  refine zi_iadd (pc := 1040) O dL_law_1040 ?_
  refine z_sld (pc := 1041) ((i + 1).toNat) O (iz_nI (by omega)) (by rw [hLγ]; omega) (by rw [hLγ]; omega) dL_law_1041 ?_
  refine zi_val _ (izi _) ?_
  have := rng (γ.2.2.2.2.2.2.2 ((i + 1).toNat))
  refine z_callV (pc := 1042) O cl_L_113 (k9_about _ _ ((γ.2.2.2.2.2.2.2 ((i + 1).toNat)).toInt) (by omega) imτ1) (by decide) (jo_33 (frτ1.lay IX.1)) kc_9 rfl rfl (Nat.le_of_ble_eq_true rfl) ⟨by rw [hrc]; omega, by rw [hrs]; omega⟩ dL_law_1042 (fun r τ3 hp => ?_)
  obtain ⟨z4, rfl, fτ3_0, frτ3, ivτ3_InvM⟩ := hp
  have ixτ3 : InvX τ3 := InvX.mod frτ3 ivτ1_InvX rfl
  have srτ3 : SRw τ3 := SRw.frW srτ1 frτ3.G (fun _ => rfl) (fun _ => rfl)
  have clτ3 : Cl τ3 := Cl.mv clτ1 ivτ1_InvX imτ1 (fun k => (gI_eq (Fr.it frτ3 rfl rfl : hI τ3 36 k = hI τ1 36 k))) (fun k => (gI_eq (Fr.it frτ3 rfl rfl : hI τ3 37 k = hI τ1 37 k))) (fun k => (gI_eq (Fr.it frτ3 rfl rfl : hI τ3 38 k = hI τ1 38 k))) (gI_eq (Fr.it frτ3 rfl rfl : hI τ3 33 33 = hI τ1 33 33)) (fun j => by rw [frτ3.2.2.1]) (Old.fr frτ3)
  refine z_pop (pc := 1045) O dL_law_1045 rfl ?_
  refine z_goto (pc := 1046) (tgt := 1049) O dL_law_1046 (by decide) ?_
  exact fin τ3 _ _ ixτ3 ivτ3_InvM (by unfold Cp; have : gI τ3 2 15 = gI σ 2 15 := gI_iz (Fr.it frτ3 rfl (Fr.it frτ1 rfl (izg σ 2 15))) (rgI _ _ _); have : gI τ3 33 73 = gI σ 33 73 := gI_iz (Fr.it frτ3 rfl (Fr.it frτ1 rfl (izg σ 33 73))) (rgI _ _ _); have : gI τ3 2 7 = gI σ 2 7 := gI_iz (Fr.it frτ3 rfl (Fr.it frτ1 rfl (izg σ 2 7))) (rgI _ _ _); have : gI τ3 33 6 = gI σ 33 6 := gI_iz (Fr.it frτ3 rfl (Fr.it frτ1 rfl (izg σ 33 6))) (rgI _ _ _); have : gI τ3 21 4 = gI σ 21 4 := gI_iz (Fr.it frτ3 rfl (Fr.it frτ1 rfl (izg σ 21 4))) (rgI _ _ _); have : gI τ3 33 54 = gI σ 33 54 := gI_iz (Fr.it frτ3 rfl (Fr.it frτ1 rfl (izg σ 33 54))) (rgI _ _ _); have : gI τ3 9 7 = gI σ 9 7 := gI_iz (Fr.it frτ3 rfl (Fr.it frτ1 rfl (izg σ 9 7))) (rgI _ _ _); have : gI τ3 33 52 = gI σ 33 52 := gI_iz (Fr.it frτ3 rfl (Fr.it frτ1 rfl (izg σ 33 52))) (rgI _ _ _); have : gI τ3 16 4 = gI σ 16 4 := gI_iz (Fr.it frτ3 rfl (Fr.it frτ1 rfl (izg σ 16 4))) (rgI _ _ _); have : gI τ3 33 53 = gI σ 33 53 := gI_iz (Fr.it frτ3 rfl (Fr.it frτ1 rfl (izg σ 33 53))) (rgI _ _ _); have : gI τ3 2 1 = gI σ 2 1 := gI_iz (Fr.it frτ3 rfl (Fr.it frτ1 rfl (izg σ 2 1))) (rgI _ _ _); have : gI τ3 33 2 = gI σ 33 2 := gI_iz (Fr.it frτ3 rfl (Fr.it frτ1 rfl (izg σ 33 2))) (rgI _ _ _); have : gI τ3 2 5 = gI σ 2 5 := gI_iz (Fr.it frτ3 rfl (Fr.it frτ1 rfl (izg σ 2 5))) (rgI _ _ _); have : gI τ3 33 4 = gI σ 33 4 := gI_iz (Fr.it frτ3 rfl (Fr.it frτ1 rfl (izg σ 33 4))) (rgI _ _ _); have : gI τ3 2 6 = gI σ 2 6 := gI_iz (Fr.it frτ3 rfl (Fr.it frτ1 rfl (izg σ 2 6))) (rgI _ _ _); have : gI τ3 33 5 = gI σ 33 5 := gI_iz (Fr.it frτ3 rfl (Fr.it frτ1 rfl (izg σ 33 5))) (rgI _ _ _); omega) ⟨(fun k => by rw [(Fr.it frτ3 rfl rfl : hI τ3 3 k = hI τ1 3 k), (Fr.it frτ1 rfl rfl : hI τ1 3 k = hI σ 3 k), (Fr.it frτ3 rfl rfl : hI τ3 34 k = hI τ1 34 k), (Fr.it frτ1 rfl rfl : hI τ1 34 k = hI σ 34 k)]; exact K2.1 k), (fun k => by rw [(gI_eq (Fr.it frτ3 rfl rfl : hI τ3 8 k = hI τ1 8 k)), (gI_eq (Fr.it frτ1 rfl rfl : hI τ1 8 k = hI σ 8 k)), (gI_eq (Fr.it frτ3 rfl rfl : hI τ3 38 k = hI τ1 38 k)), (gI_eq (Fr.it frτ1 rfl rfl : hI τ1 38 k = hI σ 38 k))]; exact K2.2.1 k), srτ3⟩ clτ3 (by omega) (by omega)
