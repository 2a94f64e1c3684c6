def Cp (σ : VH) : Prop := gI σ 2 15 = gI σ 33 73 ∧ gI σ 2 7 = gI σ 33 6 ∧ gI σ 21 4 = gI σ 33 54 ∧ gI σ 9 7 = gI σ 33 52 ∧ gI σ 16 4 = gI σ 33 53 ∧ gI σ 2 1 = gI σ 33 2 ∧ gI σ 2 5 = gI σ 33 4 ∧ gI σ 2 6 = gI σ 33 5 
set_option maxHeartbeats 4000000 in
set_option maxRecDepth 20000 in
theorem g_case0 (κ : Kx) (γ : Gh) (Q : State → Prop) (nm : String) (O : OK κ γ code 4 "BloodPriceLaw" 2000 ret nm) (hrc : κ.2.2.2.1.cells = 600000) (hrs : κ.2.2.2.1.slots = 7302250) (L : Nat) (hLγ : γ.2.2.2.2.2.2.1 = L) (hL : L ≤ 4096) (i : Int) (hi : 0 ≤ i ∧ i + 8 ≤ L) (σ : VH) (cells slots : Nat) (hc : cells ≤ 500000) (hs : slots ≤ 7000000) (IX : InvX σ) (IM : InvM σ) (K : Cp σ) (K2 : Cxt σ) (K3 : Cl σ) (fin : ∀ (τ : VH) (c s : Nat), InvX τ → InvM τ → Cp τ → Cxt τ → Cl τ → c ≤ cells + 10 → s ≤ slots + 863 → Z κ γ 4 τ c s Q 1049 [(0, .float 0), (1, .ref 2), (2, .ref 33), (3, .int (iz i))] []) : Z κ γ 4 σ cells slots Q 140 [(0, .float 0), (1, .ref 2), (2, .ref 33), (3, .int (iz i))] [] := by
  unfold Cp at K
  have ix1 := IX.2.1
  unfold InvX1 at ix1
  have im1 := IM.2.1
  unfold InvM1 at im1
  refine z_aload_n (pc := 140) O dL_law_140 rfl ?_
  refine z_aloadS (pc := 141) O dL_law_141 rfl ?_
  refine z_iload_n (pc := 142) O dL_law_142 rfl ?_
  refine z_iconst (pc := 143) (v := iz (1)) O dL_law_143 (by decide) ?_
  refine zi_iadd (pc := 144) O dL_law_144 ?_
  refine z_sld (pc := 145) ((i + 1).toNat) O (iz_nI (by omega)) (by rw [hLγ]; omega) (by rw [hLγ]; omega) dL_law_145 ?_
  refine zi_val _ (izi _) ?_
  have := rng (γ.2.2.2.2.2.2.2 ((i + 1).toNat))
  refine z_aloadS (pc := 146) O dL_law_146 rfl ?_
  refine z_iload_n (pc := 147) O dL_law_147 rfl ?_
  refine z_iconst (pc := 148) (v := iz (2)) O dL_law_148 (by decide) ?_
  refine zi_iadd (pc := 149) O dL_law_149 ?_
  refine z_sld (pc := 150) ((i + 2).toNat) O (iz_nI (by omega)) (by rw [hLγ]; omega) (by rw [hLγ]; omega) dL_law_150 ?_
  refine zi_val _ (izi _) ?_
  have := rng (γ.2.2.2.2.2.2.2 ((i + 2).toNat))
  refine z_aloadS (pc := 151) O dL_law_151 rfl ?_
  refine z_iload_n (pc := 152) O dL_law_152 rfl ?_
  refine z_iconst (pc := 153) (v := iz (3)) O dL_law_153 (by decide) ?_
  refine zi_iadd (pc := 154) O dL_law_154 ?_
  refine z_sld (pc := 155) ((i + 3).toNat) O (iz_nI (by omega)) (by rw [hLγ]; omega) (by rw [hLγ]; omega) dL_law_155 ?_
  refine zi_val _ (izi _) ?_
  have := rng (γ.2.2.2.2.2.2.2 ((i + 3).toNat))
  refine z_aloadS (pc := 156) O dL_law_156 rfl ?_
  refine z_iload_n (pc := 157) O dL_law_157 rfl ?_
  refine z_iconst (pc := 158) (v := iz (4)) O dL_law_158 (by decide) ?_
  refine zi_iadd (pc := 159) O dL_law_159 ?_
  refine z_sld (pc := 160) ((i + 4).toNat) O (iz_nI (by omega)) (by rw [hLγ]; omega) (by rw [hLγ]; omega) dL_law_160 ?_
  refine zi_val _ (izi _) ?_
  have := rng (γ.2.2.2.2.2.2.2 ((i + 4).toNat))
  refine z_aloadS (pc := 161) O dL_law_161 rfl ?_
  refine z_iload_n (pc := 162) O dL_law_162 rfl ?_
  refine z_iconst (pc := 163) (v := iz (5)) O dL_law_163 (by decide) ?_
  refine zi_iadd (pc := 164) O dL_law_164 ?_
  refine z_sld (pc := 165) ((i + 5).toNat) O (iz_nI (by omega)) (by rw [hLγ]; omega) (by rw [hLγ]; omega) dL_law_165 ?_
  refine zi_val _ (izi _) ?_
  have := rng (γ.2.2.2.2.2.2.2 ((i + 5).toNat))
  refine z_callV (pc := 166) O cl_L_13 (k8_feed3 _ _ ((γ.2.2.2.2.2.2.2 ((i + 1).toNat)).toInt) (by omega) ((γ.2.2.2.2.2.2.2 ((i + 2).toNat)).toInt) (by omega) ((γ.2.2.2.2.2.2.2 ((i + 3).toNat)).toInt) (by omega) ((γ.2.2.2.2.2.2.2 ((i + 4).toNat)).toInt) (by omega) ((γ.2.2.2.2.2.2.2 ((i + 5).toNat)).toInt) (by omega) IX) (by decide) (jo_2 IX.1) kc_8 rfl rfl (Nat.le_of_ble_eq_true rfl) ⟨by rw [hrc]; omega, by rw [hrs]; omega⟩ dL_law_166 (fun r τ1 hp => ?_)
  obtain ⟨z2, rfl, fτ1_0, fτ1_1, frτ1, ivτ1_InvX, eτ1_0, eτ1_1⟩ := hp
  have imτ1 : InvM τ1 := InvM.cls frτ1.G IM ivτ1_InvX.1 rfl
  have srτ1 : SRw τ1 := SRw.frW K2.2.2 frτ1.G (fun _ => rfl) (fun _ => rfl)
  have clτ1 : Cl τ1 := Cl.mv K3 IX IM (fun k => (gI_eq (Fr.it frτ1 rfl rfl : hI τ1 36 k = hI σ 36 k))) (fun k => (gI_eq (Fr.it frτ1 rfl rfl : hI τ1 37 k = hI σ 37 k))) (fun k => (gI_eq (Fr.it frτ1 rfl rfl : hI τ1 38 k = hI σ 38 k))) (gI_eq (Fr.it frτ1 rfl rfl : hI τ1 33 33 = hI σ 33 33)) (fun j => by rw [frτ1.2.2.1]) (Old.fr frτ1)
  refine z_pop (pc := 169) O dL_law_169 rfl ?_
  refine z_aload_n (pc := 170) O dL_law_170 rfl ?_
  refine z_aloadS (pc := 171) O dL_law_171 rfl ?_
  refine z_iload_n (pc := 172) O dL_law_172 rfl ?_
  refine z_iconst (pc := 173) (v := iz (1)) O dL_law_173 (by decide) ?_
  refine zi_iadd (pc := 174) O dL_law_174 ?_
  refine z_sld (pc := 175) ((i + 1).toNat) O (iz_nI (by omega)) (by rw [hLγ]; omega) (by rw [hLγ]; omega) dL_law_175 ?_
  refine zi_val _ (izi _) ?_
  have := rng (γ.2.2.2.2.2.2.2 ((i + 1).toNat))
  refine z_aloadS (pc := 176) O dL_law_176 rfl ?_
  refine z_iload_n (pc := 177) O dL_law_177 rfl ?_
  refine z_iconst (pc := 178) (v := iz (2)) O dL_law_178 (by decide) ?_
  refine zi_iadd (pc := 179) O dL_law_179 ?_
  refine z_sld (pc := 180) ((i + 2).toNat) O (iz_nI (by omega)) (by rw [hLγ]; omega) (by rw [hLγ]; omega) dL_law_180 ?_
  refine zi_val _ (izi _) ?_
  have := rng (γ.2.2.2.2.2.2.2 ((i + 2).toNat))
  refine z_aloadS (pc := 181) O dL_law_181 rfl ?_
  refine z_iload_n (pc := 182) O dL_law_182 rfl ?_
  refine z_iconst (pc := 183) (v := iz (3)) O dL_law_183 (by decide) ?_
  refine zi_iadd (pc := 184) O dL_law_184 ?_
  refine z_sld (pc := 185) ((i + 3).toNat) O (iz_nI (by omega)) (by rw [hLγ]; omega) (by rw [hLγ]; omega) dL_law_185 ?_
  refine zi_val _ (izi _) ?_
  have := rng (γ.2.2.2.2.2.2.2 ((i + 3).toNat))
  refine z_aloadS (pc := 186) O dL_law_186 rfl ?_
  refine z_iload_n (pc := 187) O dL_law_187 rfl ?_
  refine z_iconst (pc := 188) (v := iz (4)) O dL_law_188 (by decide) ?_
  refine zi_iadd (pc := 189) O dL_law_189 ?_
  refine z_sld (pc := 190) ((i + 4).toNat) O (iz_nI (by omega)) (by rw [hLγ]; omega) (by rw [hLγ]; omega) dL_law_190 ?_
  refine zi_val _ (izi _) ?_
  have := rng (γ.2.2.2.2.2.2.2 ((i + 4).toNat))
  refine z_aloadS (pc := 191) O dL_law_191 rfl ?_
  refine z_iload_n (pc := 192) O dL_law_192 rfl ?_
  refine z_iconst (pc := 193) (v := iz (5)) O dL_law_193 (by decide) ?_
  refine zi_iadd (pc := 194) O dL_law_194 ?_
  refine z_sld (pc := 195) ((i + 5).toNat) O (iz_nI (by omega)) (by rw [hLγ]; omega) (by rw [hLγ]; omega) dL_law_195 ?_
  refine zi_val _ (izi _) ?_
  have := rng (γ.2.2.2.2.2.2.2 ((i + 5).toNat))
  refine z_callV (pc := 196) O cl_L_17 (k9_feed3 _ _ ((γ.2.2.2.2.2.2.2 ((i + 1).toNat)).toInt) (by omega) ((γ.2.2.2.2.2.2.2 ((i + 2).toNat)).toInt) (by omega) ((γ.2.2.2.2.2.2.2 ((i + 3).toNat)).toInt) (by omega) ((γ.2.2.2.2.2.2.2 ((i + 4).toNat)).toInt) (by omega) ((γ.2.2.2.2.2.2.2 ((i + 5).toNat)).toInt) (by omega) imτ1) (by decide) (jo_33 (frτ1.lay IX.1)) kc_9 rfl rfl (Nat.le_of_ble_eq_true rfl) ⟨by rw [hrc]; omega, by rw [hrs]; omega⟩ dL_law_196 (fun r τ3 hp => ?_)
  obtain ⟨z4, rfl, fτ3_0, fτ3_1, frτ3, ivτ3_InvM, eτ3_0, eτ3_1⟩ := hp
  have : gI τ1 33 2 = gI σ 33 2 := gI_iz (Fr.it frτ1 rfl (izg σ 33 2)) (rgI _ _ _)
  have : gI τ1 33 2 = gI σ 33 2 := gI_iz (Fr.it frτ1 rfl (izg σ 33 2)) (rgI _ _ _)
  have : gI τ1 33 2 = gI σ 33 2 := gI_iz (Fr.it frτ1 rfl (izg σ 33 2)) (rgI _ _ _)
  have ixτ3 : InvX τ3 := InvX.mod frτ3 ivτ1_InvX rfl
  have srτ3 : SRw τ3 := SRw.frW srτ1 frτ3.G (fun _ => rfl) (fun _ => rfl)
  have clτ3 : Cl τ3 := Cl.mv clτ1 ivτ1_InvX imτ1 (fun k => (gI_eq (Fr.it frτ3 rfl rfl : hI τ3 36 k = hI τ1 36 k))) (fun k => (gI_eq (Fr.it frτ3 rfl rfl : hI τ3 37 k = hI τ1 37 k))) (fun k => (gI_eq (Fr.it frτ3 rfl rfl : hI τ3 38 k = hI τ1 38 k))) (gI_eq (Fr.it frτ3 rfl rfl : hI τ3 33 33 = hI τ1 33 33)) (fun j => by rw [frτ3.2.2.1]) (Old.fr frτ3)
  refine z_pop (pc := 199) O dL_law_199 rfl ?_
  refine z_goto (pc := 200) (tgt := 1049) O dL_law_200 (by decide) ?_
  exact fin τ3 _ _ ixτ3 ivτ3_InvM (by unfold Cp; have : gI τ3 2 15 = gI σ 2 15 := gI_iz (Fr.it frτ3 rfl (Fr.it frτ1 rfl (izg σ 2 15))) (rgI _ _ _); have : gI τ3 33 73 = gI σ 33 73 := gI_iz (Fr.it frτ3 rfl (Fr.it frτ1 rfl (izg σ 33 73))) (rgI _ _ _); have : gI τ3 2 7 = gI σ 2 7 := gI_iz (Fr.it frτ3 rfl (Fr.it frτ1 rfl (izg σ 2 7))) (rgI _ _ _); have : gI τ3 33 6 = gI σ 33 6 := gI_iz (Fr.it frτ3 rfl (Fr.it frτ1 rfl (izg σ 33 6))) (rgI _ _ _); have : gI τ3 21 4 = gI σ 21 4 := gI_iz (Fr.it frτ3 rfl (Fr.it frτ1 rfl (izg σ 21 4))) (rgI _ _ _); have : gI τ3 33 54 = gI σ 33 54 := gI_iz (Fr.it frτ3 rfl (Fr.it frτ1 rfl (izg σ 33 54))) (rgI _ _ _); have : gI τ3 9 7 = gI σ 9 7 := gI_iz (Fr.it frτ3 rfl (Fr.it frτ1 rfl (izg σ 9 7))) (rgI _ _ _); have : gI τ3 33 52 = gI σ 33 52 := gI_iz (Fr.it frτ3 rfl (Fr.it frτ1 rfl (izg σ 33 52))) (rgI _ _ _); have : gI τ3 16 4 = gI σ 16 4 := gI_iz (Fr.it frτ3 rfl (Fr.it frτ1 rfl (izg σ 16 4))) (rgI _ _ _); have : gI τ3 33 53 = gI σ 33 53 := gI_iz (Fr.it frτ3 rfl (Fr.it frτ1 rfl (izg σ 33 53))) (rgI _ _ _); have : gI τ3 2 1 = gI τ1 2 1 := gI_iz (Fr.it frτ3 rfl (izg τ1 2 1)) (rgI _ _ _); have : gI τ3 2 5 = gI σ 2 5 := gI_iz (Fr.it frτ3 rfl (Fr.it frτ1 rfl (izg σ 2 5))) (rgI _ _ _); have : gI τ3 33 4 = gI σ 33 4 := gI_iz (Fr.it frτ3 rfl (Fr.it frτ1 rfl (izg σ 33 4))) (rgI _ _ _); have : gI τ3 2 6 = gI σ 2 6 := gI_iz (Fr.it frτ3 rfl (Fr.it frτ1 rfl (izg σ 2 6))) (rgI _ _ _); have : gI τ3 33 5 = gI σ 33 5 := gI_iz (Fr.it frτ3 rfl (Fr.it frτ1 rfl (izg σ 33 5))) (rgI _ _ _); omega) ⟨(fun k => by rw [(Fr.it frτ3 rfl rfl : hI τ3 3 k = hI τ1 3 k)]; exact FdP.eq eτ1_1 eτ3_1 (by omega) (fun i => (K2.1 i).trans (congrArg (fun x => x &&& 255) (Fr.it frτ1 rfl rfl : hI τ1 34 i = hI σ 34 i).symm)) k), (fun k => by rw [(gI_eq (Fr.it frτ3 rfl rfl : hI τ3 8 k = hI τ1 8 k)), (gI_eq (Fr.it frτ1 rfl rfl : hI τ1 8 k = hI σ 8 k)), (gI_eq (Fr.it frτ3 rfl rfl : hI τ3 38 k = hI τ1 38 k)), (gI_eq (Fr.it frτ1 rfl rfl : hI τ1 38 k = hI σ 38 k))]; exact K2.2.1 k), srτ3⟩ clτ3 (by omega) (by omega)
set_option maxHeartbeats 4000000 in
set_option maxRecDepth 20000 in
theorem g_case1 (κ : Kx) (γ : Gh) (Q : State → Prop) (nm : String) (O : OK κ γ code 4 "BloodPriceLaw" 2000 ret nm) (hrc : κ.2.2.2.1.cells = 600000) (hrs : κ.2.2.2.1.slots = 7302250) (L : Nat) (hLγ : γ.2.2.2.2.2.2.1 = L) (hL : L ≤ 4096) (i : Int) (hi : 0 ≤ i ∧ i + 8 ≤ L) (σ : VH) (cells slots : Nat) (hc : cells ≤ 500000) (hs : slots ≤ 7000000) (IX : InvX σ) (IM : InvM σ) (K : Cp σ) (K2 : Cxt σ) (K3 : Cl σ) (fin : ∀ (τ : VH) (c s : Nat), InvX τ → InvM τ → Cp τ → Cxt τ → Cl τ → c ≤ cells + 10 → s ≤ slots + 863 → Z κ γ 4 τ c s Q 1049 [(0, .float 0), (1, .ref 2), (2, .ref 33), (3, .int (iz i))] []) : Z κ γ 4 σ cells slots Q 203 [(0, .float 0), (1, .ref 2), (2, .ref 33), (3, .int (iz i))] [] := by
  unfold Cp at K
  have ix1 := IX.2.1
  unfold InvX1 at ix1
  have im1 := IM.2.1
  unfold InvM1 at im1
  refine z_aload_n (pc := 203) O dL_law_203 rfl ?_
  refine z_aloadS (pc := 204) O dL_law_204 rfl ?_
  refine z_iload_n (pc := 205) O dL_law_205 rfl ?_
  refine z_iconst (pc := 206) (v := iz (1)) O dL_law_206 (by decide) ?_
  refine zi_iadd (pc := 207) O dL_law_207 ?_
  refine z_sld (pc := 208) ((i + 1).toNat) O (iz_nI (by omega)) (by rw [hLγ]; omega) (by rw [hLγ]; omega) dL_law_208 ?_
  refine zi_val _ (izi _) ?_
  have := rng (γ.2.2.2.2.2.2.2 ((i + 1).toNat))
  refine z_callV (pc := 209) O cl_L_18 (k8_end _ _ ((γ.2.2.2.2.2.2.2 ((i + 1).toNat)).toInt) (by omega) IX) (by decide) (jo_2 IX.1) kc_8 rfl rfl (Nat.le_of_ble_eq_true rfl) ⟨by rw [hrc]; omega, by rw [hrs]; omega⟩ dL_law_209 (fun r τ1 hp => ?_)
  obtain ⟨z2, rfl, fτ1_0, fτ1_1, frτ1, ivτ1_InvX, eτ1_0⟩ := hp
  have imτ1 : InvM τ1 := InvM.cls frτ1.G IM ivτ1_InvX.1 rfl
  have srτ1 : SRw τ1 := SRw.frW K2.2.2 frτ1.G (fun _ => rfl) (fun _ => rfl)
  have clτ1 : Cl τ1 := Cl.mv K3 IX IM (fun k => (gI_eq (Fr.it frτ1 rfl rfl : hI τ1 36 k = hI σ 36 k))) (fun k => (gI_eq (Fr.it frτ1 rfl rfl : hI τ1 37 k = hI σ 37 k))) (fun k => (gI_eq (Fr.it frτ1 rfl rfl : hI τ1 38 k = hI σ 38 k))) (gI_eq (Fr.it frτ1 rfl rfl : hI τ1 33 33 = hI σ 33 33)) (fun j => by rw [frτ1.2.2.1]) (Old.fr frτ1)
  refine z_pop (pc := 212) O dL_law_212 rfl ?_
  refine z_aload_n (pc := 213) O dL_law_213 rfl ?_
  refine z_aloadS (pc := 214) O dL_law_214 rfl ?_
  refine z_iload_n (pc := 215) O dL_law_215 rfl ?_
  refine z_iconst (pc := 216) (v := iz (1)) O dL_law_216 (by decide) ?_
  refine zi_iadd (pc := 217) O dL_law_217 ?_
  refine z_sld (pc := 218) ((i + 1).toNat) O (iz_nI (by omega)) (by rw [hLγ]; omega) (by rw [hLγ]; omega) dL_law_218 ?_
  refine zi_val _ (izi _) ?_
  have := rng (γ.2.2.2.2.2.2.2 ((i + 1).toNat))
  refine z_callV (pc := 219) O cl_L_22 (k9_end _ _ ((γ.2.2.2.2.2.2.2 ((i + 1).toNat)).toInt) (by omega) imτ1) (by decide) (jo_33 (frτ1.lay IX.1)) kc_9 rfl rfl (Nat.le_of_ble_eq_true rfl) ⟨by rw [hrc]; omega, by rw [hrs]; omega⟩ dL_law_219 (fun r τ3 hp => ?_)
  obtain ⟨z4, rfl, fτ3_0, fτ3_1, frτ3, ivτ3_InvM, eτ3_0⟩ := hp
  have : gI τ1 33 2 = gI σ 33 2 := gI_iz (Fr.it frτ1 rfl (izg σ 33 2)) (rgI _ _ _)
  have : gI τ1 33 2 = gI σ 33 2 := gI_iz (Fr.it frτ1 rfl (izg σ 33 2)) (rgI _ _ _)
  have ixτ3 : InvX τ3 := InvX.mod frτ3 ivτ1_InvX rfl
  have srτ3 : SRw τ3 := SRw.frW srτ1 frτ3.G (fun _ => rfl) (fun _ => rfl)
  have clτ3 : Cl τ3 := Cl.mv clτ1 ivτ1_InvX imτ1 (fun k => (gI_eq (Fr.it frτ3 rfl rfl : hI τ3 36 k = hI τ1 36 k))) (fun k => (gI_eq (Fr.it frτ3 rfl rfl : hI τ3 37 k = hI τ1 37 k))) (fun k => (gI_eq (Fr.it frτ3 rfl rfl : hI τ3 38 k = hI τ1 38 k))) (gI_eq (Fr.it frτ3 rfl rfl : hI τ3 33 33 = hI τ1 33 33)) (fun j => by rw [frτ3.2.2.1]) (Old.fr frτ3)
  refine z_pop (pc := 222) O dL_law_222 rfl ?_
  refine z_goto (pc := 223) (tgt := 1049) O dL_law_223 (by decide) ?_
  exact fin τ3 _ _ ixτ3 ivτ3_InvM (by unfold Cp; have : gI τ3 2 15 = gI σ 2 15 := gI_iz (Fr.it frτ3 rfl (Fr.it frτ1 rfl (izg σ 2 15))) (rgI _ _ _); have : gI τ3 33 73 = gI σ 33 73 := gI_iz (Fr.it frτ3 rfl (Fr.it frτ1 rfl (izg σ 33 73))) (rgI _ _ _); have : gI τ3 2 7 = gI σ 2 7 := gI_iz (Fr.it frτ3 rfl (Fr.it frτ1 rfl (izg σ 2 7))) (rgI _ _ _); have : gI τ3 33 6 = gI σ 33 6 := gI_iz (Fr.it frτ3 rfl (Fr.it frτ1 rfl (izg σ 33 6))) (rgI _ _ _); have : gI τ3 21 4 = gI σ 21 4 := gI_iz (Fr.it frτ3 rfl (Fr.it frτ1 rfl (izg σ 21 4))) (rgI _ _ _); have : gI τ3 33 54 = gI σ 33 54 := gI_iz (Fr.it frτ3 rfl (Fr.it frτ1 rfl (izg σ 33 54))) (rgI _ _ _); have : gI τ3 9 7 = gI σ 9 7 := gI_iz (Fr.it frτ3 rfl (Fr.it frτ1 rfl (izg σ 9 7))) (rgI _ _ _); have : gI τ3 33 52 = gI σ 33 52 := gI_iz (Fr.it frτ3 rfl (Fr.it frτ1 rfl (izg σ 33 52))) (rgI _ _ _); have : gI τ3 16 4 = gI σ 16 4 := gI_iz (Fr.it frτ3 rfl (Fr.it frτ1 rfl (izg σ 16 4))) (rgI _ _ _); have : gI τ3 33 53 = gI σ 33 53 := gI_iz (Fr.it frτ3 rfl (Fr.it frτ1 rfl (izg σ 33 53))) (rgI _ _ _); have : gI τ3 2 1 = gI τ1 2 1 := gI_iz (Fr.it frτ3 rfl (izg τ1 2 1)) (rgI _ _ _); have : gI τ3 2 5 = gI σ 2 5 := gI_iz (Fr.it frτ3 rfl (Fr.it frτ1 rfl (izg σ 2 5))) (rgI _ _ _); have : gI τ3 33 4 = gI σ 33 4 := gI_iz (Fr.it frτ3 rfl (Fr.it frτ1 rfl (izg σ 33 4))) (rgI _ _ _); have : gI τ3 2 6 = gI σ 2 6 := gI_iz (Fr.it frτ3 rfl (Fr.it frτ1 rfl (izg σ 2 6))) (rgI _ _ _); have : gI τ3 33 5 = gI σ 33 5 := gI_iz (Fr.it frτ3 rfl (Fr.it frτ1 rfl (izg σ 33 5))) (rgI _ _ _); omega) ⟨(fun k => by rw [(Fr.it frτ3 rfl rfl : hI τ3 3 k = hI τ1 3 k), (Fr.it frτ1 rfl rfl : hI τ1 3 k = hI σ 3 k), (Fr.it frτ3 rfl rfl : hI τ3 34 k = hI τ1 34 k), (Fr.it frτ1 rfl rfl : hI τ1 34 k = hI σ 34 k)]; exact K2.1 k), (fun k => by rw [(gI_eq (Fr.it frτ3 rfl rfl : hI τ3 8 k = hI τ1 8 k)), (gI_eq (Fr.it frτ1 rfl rfl : hI τ1 8 k = hI σ 8 k)), (gI_eq (Fr.it frτ3 rfl rfl : hI τ3 38 k = hI τ1 38 k)), (gI_eq (Fr.it frτ1 rfl rfl : hI τ1 38 k = hI σ 38 k))]; exact K2.2.1 k), srτ3⟩ clτ3 (by omega) (by omega)
set_option maxHeartbeats 4000000 in
set_option maxRecDepth 20000 in
theorem g_case2 (κ : Kx) (γ : Gh) (Q : State → Prop) (nm : String) (O : OK κ γ code 4 "BloodPriceLaw" 2000 ret nm) (hrc : κ.2.2.2.1.cells = 600000) (hrs : κ.2.2.2.1.slots = 7302250) (L : Nat) (hLγ : γ.2.2.2.2.2.2.1 = L) (hL : L ≤ 4096) (i : Int) (hi : 0 ≤ i ∧ i + 8 ≤ L) (σ : VH) (cells slots : Nat) (hc : cells ≤ 500000) (hs : slots ≤ 7000000) (IX : InvX σ) (IM : InvM σ) (K : Cp σ) (K2 : Cxt σ) (K3 : Cl σ) (fin : ∀ (τ : VH) (c s : Nat), InvX τ → InvM τ → Cp τ → Cxt τ → Cl τ → c ≤ cells + 10 → s ≤ slots + 863 → Z κ γ 4 τ c s Q 1049 [(0, .float 0), (1, .ref 2), (2, .ref 33), (3, .int (iz i))] []) : Z κ γ 4 σ cells slots Q 226 [(0, .float 0), (1, .ref 2), (2, .ref 33), (3, .int (iz i))] [] := by
  unfold Cp at K
  have ix1 := IX.2.1
  unfold InvX1 at ix1
  have im1 := IM.2.1
  unfold InvM1 at im1
  refine z_aload_n (pc := 226) O dL_law_226 rfl ?_
  refine z_aloadS (pc := 227) O dL_law_227 rfl ?_
  refine z_iload_n (pc := 228) O dL_law_228 rfl ?_
  refine z_iconst (pc := 229) (v := iz (1)) O dL_law_229 (by decide) ?_
  refine zi_iadd (pc := 230) O dL_law_230 ?_
  refine z_sld (pc := 231) ((i + 1).toNat) O (iz_nI (by omega)) (by rw [hLγ]; omega) (by rw [hLγ]; omega) dL_law_231 ?_
  refine zi_val _ (izi _) ?_
  have := rng (γ.2.2.2.2.2.2.2 ((i + 1).toNat))
  refine z_aloadS (pc := 232) O dL_law_232 rfl ?_
  refine z_iload_n (pc := 233) O dL_law_233 rfl ?_
  refine z_iconst (pc := 234) (v := iz (2)) O dL_law_234 (by decide) ?_
  refine zi_iadd (pc := 235) O dL_law_235 ?_
  refine z_sld (pc := 236) ((i + 2).toNat) O (iz_nI (by omega)) (by rw [hLγ]; omega) (by rw [hLγ]; omega) dL_law_236 ?_
  refine zi_val _ (izi _) ?_
  have := rng (γ.2.2.2.2.2.2.2 ((i + 2).toNat))
  refine z_callV (pc := 237) O cl_L_23 (k8_law6 _ _ ((γ.2.2.2.2.2.2.2 ((i + 1).toNat)).toInt) (by omega) ((γ.2.2.2.2.2.2.2 ((i + 2).toNat)).toInt) (by omega) IX K2.2.2) (by decide) (jo_2 IX.1) kc_8 rfl rfl (Nat.le_of_ble_eq_true rfl) ⟨by rw [hrc]; omega, by rw [hrs]; omega⟩ dL_law_237 (fun r τ1 hp => ?_)
  obtain ⟨z2, rfl, fτ1_0, frτ1, ivτ1_InvX, eτ1_0, eτ1_1⟩ := hp
  have imτ1 : InvM τ1 := InvM.cls frτ1 IM ivτ1_InvX.1 rfl
  have srτ1 : SRw τ1 := SRw.frW K2.2.2 frτ1 (fun _ => rfl) (fun _ => rfl)
  obtain ⟨tkq, plq, mq, LC⟩ := LawC0.out eτ1_0
  clear eτ1_0
  refine z_pop (pc := 240) O dL_law_240 rfl ?_
  refine z_aload_n (pc := 241) O dL_law_241 rfl ?_
  refine z_aloadS (pc := 242) O dL_law_242 rfl ?_
  refine z_iload_n (pc := 243) O dL_law_243 rfl ?_
  refine z_iconst (pc := 244) (v := iz (1)) O dL_law_244 (by decide) ?_
  refine zi_iadd (pc := 245) O dL_law_245 ?_
  refine z_sld (pc := 246) ((i + 1).toNat) O (iz_nI (by omega)) (by rw [hLγ]; omega) (by rw [hLγ]; omega) dL_law_246 ?_
  refine zi_val _ (izi _) ?_
  have := rng (γ.2.2.2.2.2.2.2 ((i + 1).toNat))
  refine z_aloadS (pc := 247) O dL_law_247 rfl ?_
  refine z_iload_n (pc := 248) O dL_law_248 rfl ?_
  refine z_iconst (pc := 249) (v := iz (2)) O dL_law_249 (by decide) ?_
  refine zi_iadd (pc := 250) O dL_law_250 ?_
  refine z_sld (pc := 251) ((i + 2).toNat) O (iz_nI (by omega)) (by rw [hLγ]; omega) (by rw [hLγ]; omega) dL_law_251 ?_
  refine zi_val _ (izi _) ?_
  have := rng (γ.2.2.2.2.2.2.2 ((i + 2).toNat))
  have hts := law_ts LC K2 (by omega) (by omega) (gI_eq (FrG.it frτ1 rfl rfl : hI τ1 33 2 = hI σ 33 2)) (fun k => (FrG.it frτ1 rfl rfl : hI τ1 34 k = hI σ 34 k)) (fun k => (gI_eq (FrG.it frτ1 rfl rfl : hI τ1 38 k = hI σ 38 k)))
  refine z_callV (pc := 252) O cl_L_27 (k9_law6 _ _ ((γ.2.2.2.2.2.2.2 ((i + 1).toNat)).toInt) (by omega) ((γ.2.2.2.2.2.2.2 ((i + 2).toNat)).toInt) (by omega) tkq plq mq imτ1 hts) (by decide) (jo_33 ivτ1_InvX.1) kc_9 rfl rfl (Nat.le_of_ble_eq_true rfl) ⟨by rw [hrc]; omega, by rw [hrs]; omega⟩ dL_law_252 (fun r τ3 hp => ?_)
  obtain ⟨z4, rfl, fτ3_0, frτ3, ivτ3_InvM, eτ3_0, eτ3_1⟩ := hp
  have ixτ3 : InvX τ3 := InvX.mod frτ3 ivτ1_InvX rfl
  have srτ3 : SRw τ3 := SRw.frW srτ1 frτ3.G (fun _ => rfl) (fun _ => rfl)
  obtain ⟨hz, c1, c5, c6, c8⟩ := law_eq LC eτ3_0 K2 (by omega) (by omega) (by omega) (gI_eq (FrG.it frτ1 rfl rfl : hI τ1 33 2 = hI σ 33 2)) (gI_eq (FrG.it frτ1 rfl rfl : hI τ1 33 4 = hI σ 33 4)) (gI_eq (FrG.it frτ1 rfl rfl : hI τ1 33 5 = hI σ 33 5)) (fun k => (gI_eq (FrG.it frτ1 rfl rfl : hI τ1 38 k = hI σ 38 k))) (gI_eq (Fr.it frτ3 rfl rfl : hI τ3 2 1 = hI τ1 2 1)) (gI_eq (Fr.it frτ3 rfl rfl : hI τ3 2 5 = hI τ1 2 5)) (gI_eq (Fr.it frτ3 rfl rfl : hI τ3 2 6 = hI τ1 2 6)) (fun k => (gI_eq (Fr.it frτ3 rfl rfl : hI τ3 8 k = hI τ1 8 k)))
  have clτ3 : Cl τ3 := Cl.law K3 IX IM ivτ1_InvX imτ1 K2.2.1 eτ1_1 eτ3_1 hz eτ3_0 (fun k => (gI_eq (FrG.it frτ1 rfl rfl : hI τ1 36 k = hI σ 36 k))) (fun k => (gI_eq (FrG.it frτ1 rfl rfl : hI τ1 37 k = hI σ 37 k))) (fun k => (gI_eq (FrG.it frτ1 rfl rfl : hI τ1 38 k = hI σ 38 k))) (gI_eq (FrG.it frτ1 rfl rfl : hI τ1 33 33 = hI σ 33 33)) frτ3
  refine z_pop (pc := 255) O dL_law_255 rfl ?_
  refine z_goto (pc := 256) (tgt := 1049) O dL_law_256 (by decide) ?_
  exact fin τ3 _ _ ixτ3 ivτ3_InvM (by unfold Cp; have : gI τ3 2 15 = gI σ 2 15 := gI_iz (Fr.it frτ3 rfl (FrG.it frτ1 rfl (izg σ 2 15))) (rgI _ _ _); have : gI τ3 33 73 = gI σ 33 73 := gI_iz (Fr.it frτ3 rfl (FrG.it frτ1 rfl (izg σ 33 73))) (rgI _ _ _); have : gI τ3 2 7 = gI σ 2 7 := gI_iz (Fr.it frτ3 rfl (FrG.it frτ1 rfl (izg σ 2 7))) (rgI _ _ _); have : gI τ3 33 6 = gI σ 33 6 := gI_iz (Fr.it frτ3 rfl (FrG.it frτ1 rfl (izg σ 33 6))) (rgI _ _ _); have : gI τ3 21 4 = gI σ 21 4 := gI_iz (Fr.it frτ3 rfl (FrG.it frτ1 rfl (izg σ 21 4))) (rgI _ _ _); have : gI τ3 33 54 = gI σ 33 54 := gI_iz (Fr.it frτ3 rfl (FrG.it frτ1 rfl (izg σ 33 54))) (rgI _ _ _); have : gI τ3 9 7 = gI σ 9 7 := gI_iz (Fr.it frτ3 rfl (FrG.it frτ1 rfl (izg σ 9 7))) (rgI _ _ _); have : gI τ3 33 52 = gI σ 33 52 := gI_iz (Fr.it frτ3 rfl (FrG.it frτ1 rfl (izg σ 33 52))) (rgI _ _ _); have : gI τ3 16 4 = gI σ 16 4 := gI_iz (Fr.it frτ3 rfl (FrG.it frτ1 rfl (izg σ 16 4))) (rgI _ _ _); have : gI τ3 33 53 = gI σ 33 53 := gI_iz (Fr.it frτ3 rfl (FrG.it frτ1 rfl (izg σ 33 53))) (rgI _ _ _); have : gI τ3 2 1 = gI τ1 2 1 := gI_iz (Fr.it frτ3 rfl (izg τ1 2 1)) (rgI _ _ _); have : gI τ3 2 5 = gI τ1 2 5 := gI_iz (Fr.it frτ3 rfl (izg τ1 2 5)) (rgI _ _ _); have : gI τ3 2 6 = gI τ1 2 6 := gI_iz (Fr.it frτ3 rfl (izg τ1 2 6)) (rgI _ _ _); omega) ⟨(fun k => by rw [(Fr.it frτ3 rfl rfl : hI τ3 3 k = hI τ1 3 k), (FrG.it frτ1 rfl rfl : hI τ1 3 k = hI σ 3 k), (Fr.it frτ3 rfl rfl : hI τ3 34 k = hI τ1 34 k), (FrG.it frτ1 rfl rfl : hI τ1 34 k = hI σ 34 k)]; exact K2.1 k), c8, srτ3⟩ clτ3 (by omega) (by omega)
set_option maxHeartbeats 4000000 in
set_option maxRecDepth 20000 in
theorem g_case3 (κ : Kx) (γ : Gh) (Q : State → Prop) (nm : String) (O : OK κ γ code 4 "BloodPriceLaw" 2000 ret nm) (hrc : κ.2.2.2.1.cells = 600000) (hrs : κ.2.2.2.1.slots = 7302250) (L : Nat) (hLγ : γ.2.2.2.2.2.2.1 = L) (hL : L ≤ 4096) (i : Int) (hi : 0 ≤ i ∧ i + 8 ≤ L) (σ : VH) (cells slots : Nat) (hc : cells ≤ 500000) (hs : slots ≤ 7000000) (IX : InvX σ) (IM : InvM σ) (K : Cp σ) (K2 : Cxt σ) (K3 : Cl σ) (fin : ∀ (τ : VH) (c s : Nat), InvX τ → InvM τ → Cp τ → Cxt τ → Cl τ → c ≤ cells + 10 → s ≤ slots + 863 → Z κ γ 4 τ c s Q 1049 [(0, .float 0), (1, .ref 2), (2, .ref 33), (3, .int (iz i))] []) : Z κ γ 4 σ cells slots Q 259 [(0, .float 0), (1, .ref 2), (2, .ref 33), (3, .int (iz i))] [] := by
  unfold Cp at K
  have ix1 := IX.2.1
  unfold InvX1 at ix1
  have im1 := IM.2.1
  unfold InvM1 at im1
  refine z_aload_n (pc := 259) O dL_law_259 rfl ?_
  refine z_aloadS (pc := 260) O dL_law_260 rfl ?_
  refine z_iload_n (pc := 261) O dL_law_261 rfl ?_
  refine z_iconst (pc := 262) (v := iz (1)) O dL_law_262 (by decide) ?_
  refine zi_iadd (pc := 263) O dL_law_263 ?_
  refine z_sld (pc := 264) ((i + 1).toNat) O (iz_nI (by omega)) (by rw [hLγ]; omega) (by rw [hLγ]; omega) dL_law_264 ?_
  refine zi_val _ (izi _) ?_
  have := rng (γ.2.2.2.2.2.2.2 ((i + 1).toNat))
  refine z_callV (pc := 265) O cl_L_28 (k8_fault3 _ _ ((γ.2.2.2.2.2.2.2 ((i + 1).toNat)).toInt) (by omega) IX) (by decide) (jo_2 IX.1) kc_8 rfl rfl (Nat.le_of_ble_eq_true rfl) ⟨by rw [hrc]; omega, by rw [hrs]; omega⟩ dL_law_265 (fun r τ1 hp => ?_)
  obtain ⟨z2, rfl, fτ1_0, fτ1_1, frτ1, ivτ1_InvX⟩ := hp
  have imτ1 : InvM τ1 := InvM.cls frτ1.G IM ivτ1_InvX.1 rfl
  have srτ1 : SRw τ1 := SRw.frW K2.2.2 frτ1.G (fun _ => rfl) (fun _ => rfl)
  have clτ1 : Cl τ1 := Cl.mv K3 IX IM (fun k => (gI_eq (Fr.it frτ1 rfl rfl : hI τ1 36 k = hI σ 36 k))) (fun k => (gI_eq (Fr.it frτ1 rfl rfl : hI τ1 37 k = hI σ 37 k))) (fun k => (gI_eq (Fr.it frτ1 rfl rfl : hI τ1 38 k = hI σ 38 k))) (gI_eq (Fr.it frτ1 rfl rfl : hI τ1 33 33 = hI σ 33 33)) (fun j => by rw [frτ1.2.2.1]) (Old.fr frτ1)
  refine z_pop (pc := 268) O dL_law_268 rfl ?_
  refine z_aload_n (pc := 269) O dL_law_269 rfl ?_
  refine z_aloadS (pc := 270) O dL_law_270 rfl ?_
  refine z_iload_n (pc := 271) O dL_law_271 rfl ?_
  refine z_iconst (pc := 272) (v := iz (1)) O dL_law_272 (by decide) ?_
  refine zi_iadd (pc := 273) O dL_law_273 ?_
  refine z_sld (pc := 274) ((i + 1).toNat) O (iz_nI (by omega)) (by rw [hLγ]; omega) (by rw [hLγ]; omega) dL_law_274 ?_
  refine zi_val _ (izi _) ?_
  have := rng (γ.2.2.2.2.2.2.2 ((i + 1).toNat))
  refine z_callV (pc := 275) O cl_L_31 (k9_fault3 _ _ ((γ.2.2.2.2.2.2.2 ((i + 1).toNat)).toInt) (by omega) imτ1) (by decide) (jo_33 (frτ1.lay IX.1)) kc_9 rfl rfl (Nat.le_of_ble_eq_true rfl) ⟨by rw [hrc]; omega, by rw [hrs]; omega⟩ dL_law_275 (fun r τ3 hp => ?_)
  obtain ⟨z4, rfl, fτ3_0, fτ3_1, frτ3, ivτ3_InvM⟩ := hp
  have : gI τ1 33 4 = gI σ 33 4 := gI_iz (Fr.it frτ1 rfl (izg σ 33 4)) (rgI _ _ _)
  have : gI τ1 33 5 = gI σ 33 5 := gI_iz (Fr.it frτ1 rfl (izg σ 33 5)) (rgI _ _ _)
  have ixτ3 : InvX τ3 := InvX.mod frτ3 ivτ1_InvX rfl
  have srτ3 : SRw τ3 := SRw.frW srτ1 frτ3.G (fun _ => rfl) (fun _ => rfl)
  have clτ3 : Cl τ3 := Cl.mv clτ1 ivτ1_InvX imτ1 (fun k => (gI_eq (Fr.it frτ3 rfl rfl : hI τ3 36 k = hI τ1 36 k))) (fun k => (gI_eq (Fr.it frτ3 rfl rfl : hI τ3 37 k = hI τ1 37 k))) (fun k => (gI_eq (Fr.it frτ3 rfl rfl : hI τ3 38 k = hI τ1 38 k))) (gI_eq (Fr.it frτ3 rfl rfl : hI τ3 33 33 = hI τ1 33 33)) (fun j => by rw [frτ3.2.2.1]) (Old.fr frτ3)
  refine z_pop (pc := 278) O dL_law_278 rfl ?_
  refine z_goto (pc := 279) (tgt := 1049) O dL_law_279 (by decide) ?_
  exact fin τ3 _ _ ixτ3 ivτ3_InvM (by unfold Cp; have : gI τ3 2 15 = gI σ 2 15 := gI_iz (Fr.it frτ3 rfl (Fr.it frτ1 rfl (izg σ 2 15))) (rgI _ _ _); have : gI τ3 33 73 = gI σ 33 73 := gI_iz (Fr.it frτ3 rfl (Fr.it frτ1 rfl (izg σ 33 73))) (rgI _ _ _); have : gI τ3 2 7 = gI σ 2 7 := gI_iz (Fr.it frτ3 rfl (Fr.it frτ1 rfl (izg σ 2 7))) (rgI _ _ _); have : gI τ3 33 6 = gI σ 33 6 := gI_iz (Fr.it frτ3 rfl (Fr.it frτ1 rfl (izg σ 33 6))) (rgI _ _ _); have : gI τ3 21 4 = gI σ 21 4 := gI_iz (Fr.it frτ3 rfl (Fr.it frτ1 rfl (izg σ 21 4))) (rgI _ _ _); have : gI τ3 33 54 = gI σ 33 54 := gI_iz (Fr.it frτ3 rfl (Fr.it frτ1 rfl (izg σ 33 54))) (rgI _ _ _); have : gI τ3 9 7 = gI σ 9 7 := gI_iz (Fr.it frτ3 rfl (Fr.it frτ1 rfl (izg σ 9 7))) (rgI _ _ _); have : gI τ3 33 52 = gI σ 33 52 := gI_iz (Fr.it frτ3 rfl (Fr.it frτ1 rfl (izg σ 33 52))) (rgI _ _ _); have : gI τ3 16 4 = gI σ 16 4 := gI_iz (Fr.it frτ3 rfl (Fr.it frτ1 rfl (izg σ 16 4))) (rgI _ _ _); have : gI τ3 33 53 = gI σ 33 53 := gI_iz (Fr.it frτ3 rfl (Fr.it frτ1 rfl (izg σ 33 53))) (rgI _ _ _); have : gI τ3 2 1 = gI σ 2 1 := gI_iz (Fr.it frτ3 rfl (Fr.it frτ1 rfl (izg σ 2 1))) (rgI _ _ _); have : gI τ3 33 2 = gI σ 33 2 := gI_iz (Fr.it frτ3 rfl (Fr.it frτ1 rfl (izg σ 33 2))) (rgI _ _ _); have : gI τ3 2 5 = gI σ 2 5 := gI_iz (Fr.it frτ3 rfl (Fr.it frτ1 rfl (izg σ 2 5))) (rgI _ _ _); have : gI τ3 33 4 = gI σ 33 4 := gI_iz (Fr.it frτ3 rfl (Fr.it frτ1 rfl (izg σ 33 4))) (rgI _ _ _); have : gI τ3 2 6 = gI σ 2 6 := gI_iz (Fr.it frτ3 rfl (Fr.it frτ1 rfl (izg σ 2 6))) (rgI _ _ _); have : gI τ3 33 5 = gI σ 33 5 := gI_iz (Fr.it frτ3 rfl (Fr.it frτ1 rfl (izg σ 33 5))) (rgI _ _ _); omega) ⟨(fun k => by rw [(Fr.it frτ3 rfl rfl : hI τ3 3 k = hI τ1 3 k), (Fr.it frτ1 rfl rfl : hI τ1 3 k = hI σ 3 k), (Fr.it frτ3 rfl rfl : hI τ3 34 k = hI τ1 34 k), (Fr.it frτ1 rfl rfl : hI τ1 34 k = hI σ 34 k)]; exact K2.1 k), (fun k => by rw [(gI_eq (Fr.it frτ3 rfl rfl : hI τ3 8 k = hI τ1 8 k)), (gI_eq (Fr.it frτ1 rfl rfl : hI τ1 8 k = hI σ 8 k)), (gI_eq (Fr.it frτ3 rfl rfl : hI τ3 38 k = hI τ1 38 k)), (gI_eq (Fr.it frτ1 rfl rfl : hI τ1 38 k = hI σ 38 k))]; exact K2.2.1 k), srτ3⟩ clτ3 (by omega) (by omega)
