def σX : VH := in_X8 2 (sN σ00 (8, 0))
def σM : VH := in_X9 33 (sN σX (9, 0))
theorem hN_σX : hN σX = 33 := by decide +kernel
def Q2 (x : Int32) (σ : VH) : Prop := 3 ≤ hN σ ∧ (∀ v k, ¬ (v = 2 ∧ k = 6) → hI σ v k = 0) ∧ hI σ 2 6 = x
theorem Q2.new {x : Int32} {σ : VH} (sh : Nat × Nat) (h : Q2 x σ) : Q2 x (sN σ sh) := ⟨by rw [hN_sN]; have := h.1; omega, fun v k hn => by rw [hI_sN]; split; rfl; exact h.2.1 v k hn, by rw [hI_sN, if_neg (by have := h.1; omega)]; exact h.2.2⟩
theorem Q2.pR {x : Int32} {σ : VH} (a k : Nat) (r : Option Nat) (h : Q2 x σ) : Q2 x (sR σ a k r) := h
theorem Q2.nf {x : Int32} {σ : VH} (b k : Nat) (sh : Nat × Nat) (h : Q2 x σ) : Q2 x (nf b k sh σ) := Q2.pR _ _ _ (Q2.new _ h)
theorem Q2.pI {x : Int32} {σ : VH} (y : Int32) (h : Q2 x σ) : Q2 y (sI σ 2 6 y) := ⟨h.1, fun v k hn => by rw [hI_sI, if_neg hn]; exact h.2.1 v k hn, by rw [hI_sI, if_pos ⟨rfl, rfl⟩]⟩
theorem Q2.no {x : Int32} {σ : VH} (b k ci : Nat) (f : Nat → VH → VH) (hf : ∀ a ρ, Q2 x ρ → Q2 x (f a ρ)) (h : Q2 x σ) : Q2 x (no b k ci f σ) := Q2.pR _ _ _ (hf _ _ (Q2.new _ h))
def Q3 (x : Int32) (σ : VH) : Prop := 34 ≤ hN σ ∧ (∀ v k, ¬ (v = 2 ∧ k = 6) → ¬ (v = 33 ∧ k = 5) → hI σ v k = 0) ∧ hI σ 2 6 = -1 ∧ hI σ 33 5 = x
theorem Q3.new {x : Int32} {σ : VH} (sh : Nat × Nat) (h : Q3 x σ) : Q3 x (sN σ sh) := ⟨by rw [hN_sN]; have := h.1; omega, fun v k hn hm => by rw [hI_sN]; split; rfl; exact h.2.1 v k hn hm, by rw [hI_sN, if_neg (by have := h.1; omega)]; exact h.2.2.1, by rw [hI_sN, if_neg (by have := h.1; omega)]; exact h.2.2.2⟩
theorem Q3.nf {x : Int32} {σ : VH} (b k : Nat) (sh : Nat × Nat) (h : Q3 x σ) : Q3 x (nf b k sh σ) := Q3.new (σ := σ) sh h
theorem Q3.pI {x : Int32} {σ : VH} (y : Int32) (h : Q3 x σ) : Q3 y (sI σ 33 5 y) := ⟨h.1, fun v k hn hm => by rw [hI_sI, if_neg hm]; exact h.2.1 v k hn hm, by rw [hI_sI, if_neg (by decide)]; exact h.2.2.1, by rw [hI_sI, if_pos ⟨rfl, rfl⟩]⟩
theorem q2_X2 {x : Int32} (a : Nat) (ρ : VH) (h : Q2 x ρ) : Q2 x (in_X2 a ρ) := by
  unfold in_X2
  repeat (first | with_reducible exact h | with_reducible refine Q2.nf _ _ _ ?_)
theorem q2_X3 {x : Int32} (a : Nat) (ρ : VH) (h : Q2 x ρ) : Q2 x (in_X3 a ρ) := by
  unfold in_X3
  repeat (first | with_reducible exact h | with_reducible refine Q2.nf _ _ _ ?_)
theorem q2_X5 {x : Int32} (a : Nat) (ρ : VH) (h : Q2 x ρ) : Q2 x (in_X5 a ρ) := by
  unfold in_X5
  repeat (first | with_reducible exact h | with_reducible refine Q2.nf _ _ _ ?_)
theorem q2_X6 {x : Int32} (a : Nat) (ρ : VH) (h : Q2 x ρ) : Q2 x (in_X6 a ρ) := by
  unfold in_X6
  repeat (first | with_reducible exact h | with_reducible refine Q2.nf _ _ _ ?_)
theorem q2_X7 {x : Int32} (a : Nat) (ρ : VH) (h : Q2 x ρ) : Q2 x (in_X7 a ρ) := by
  unfold in_X7
  repeat (first | with_reducible exact h | with_reducible refine Q2.nf _ _ _ ?_)
theorem q2_σX : Q2 (-1) σX := by
  have h : Q2 0 (sN σ00 (8, 0)) := ⟨Nat.le_refl 3, fun v k _ => by rw [hI_sN]; split <;> rfl, rfl⟩
  unfold σX in_X8
  repeat (first | with_reducible exact h | with_reducible refine Q2.nf _ _ _ ?_ | with_reducible refine Q2.pI (x := 0) _ ?_ | with_reducible refine Q2.no _ _ _ _ q2_X2 ?_ | with_reducible refine Q2.no _ _ _ _ q2_X3 ?_ | with_reducible refine Q2.no _ _ _ _ q2_X5 ?_ | with_reducible refine Q2.no _ _ _ _ q2_X6 ?_ | with_reducible refine Q2.no _ _ _ _ q2_X7 ?_)
theorem q3_σM : Q3 (-1) σM := by
  have h : Q3 0 (sN σX (9, 0)) := ⟨by rw [hN_sN, hN_σX]; decide, fun v k hn hm => by rw [hI_sN]; split; rfl; exact q2_σX.2.1 v k hn, by rw [hI_sN, if_neg (by rw [hN_σX]; decide)]; exact q2_σX.2.2, by rw [hI_sN, if_pos (by rw [hN_σX])]⟩
  unfold σM in_X9
  repeat (first | with_reducible exact h | with_reducible refine Q3.nf _ _ _ ?_ | with_reducible refine Q3.pI (x := 0) _ ?_)
set_option maxRecDepth 20000 in
theorem lay_σM : Lay σM := ⟨by decide +kernel, by decide +kernel, by decide +kernel⟩
theorem fr_σM : Fr σM := ⟨lay_σM, fun v k h1 h2 => by
  have h := q3_σM
  by_cases ha : v = 2 ∧ k = 6
  · rw [if_pos (Or.inl ha), ha.1, ha.2]; exact h.2.2.1
  · by_cases hb : v = 33 ∧ k = 5
    · rw [if_pos (Or.inr hb), hb.1, hb.2]; exact h.2.2.2
    · rw [if_neg (fun e => e.elim ha hb)]; exact h.2.1 v k ha hb⟩
set_option maxHeartbeats 4000000 in
set_option maxRecDepth 20000 in
theorem p1_fin (κ : Kx) (γ : Gh) (Q : State → Prop) (nm : String) (O : OK κ γ code 4 "BloodPriceLaw" 2000 ret nm) (hrc : κ.2.2.2.1.cells = 600000) (hrs : κ.2.2.2.1.slots = 7302250) (hend : ∀ (σ : VH) (cells slots : Nat) (ls : List (Nat × Value)), cells ≤ 600000 → slots ≤ 7302250 → Z κ γ 4 σ cells slots Q 1056 ls [.int 1]) (hL8 : γ.2.2.2.2.2.2.1 = 8) : ∀ (τ : VH) (cells slots : Nat), cells ≤ 600000 → slots ≤ 7302250 → Z κ γ 4 τ cells slots Q 1049 [(0, .float 0), (1, .ref 2), (2, .ref 33), (3, .int 0)] [] := by
  intro τ cells slots hc hs
  refine z_iinc (pc := 1049) 8 _ O dL_law_1049 rfl (by decide) (by decide) rfl ?_
  refine z_goto (pc := 1052) (tgt := 18) O dL_law_1052 (by decide) ?_
  refine z_iload_n (pc := 18) O dL_law_18 rfl ?_
  refine z_aloadS (pc := 19) O dL_law_19 rfl ?_
  refine z_slen (pc := 20) O dL_law_20 ?_
  rw [hL8]
  refine z_bipush (pc := 21) (v := 8) O dL_law_21 (by decide) ?_
  refine z_isub (pc := 23) O dL_law_23 ?_
  refine z_icmp_gt (pc := 24) (tgt := 1055) O dL_law_24 (by decide) (fun _ => ?_) (fun h => absurd (by decide) h)
  refine z_iconst (pc := 1055) (v := 1) O dL_law_1055 (by decide) ?_
  exact hend _ _ _ _ hc hs
set_option maxHeartbeats 4000000 in
set_option maxRecDepth 20000 in
theorem p1_case0 (κ : Kx) (γ : Gh) (Q : State → Prop) (nm : String) (O : OK κ γ code 4 "BloodPriceLaw" 2000 ret nm) (hrc : κ.2.2.2.1.cells = 600000) (hrs : κ.2.2.2.1.slots = 7302250) (hend : ∀ (σ : VH) (cells slots : Nat) (ls : List (Nat × Value)), cells ≤ 600000 → slots ≤ 7302250 → Z κ γ 4 σ cells slots Q 1056 ls [.int 1]) (hL8 : γ.2.2.2.2.2.2.1 = 8) (cells slots : Nat) (hcc : cells ≤ 1000) (hss : slots ≤ 100000) : Z κ γ 4 σM cells slots Q 140 [(0, .float 0), (1, .ref 2), (2, .ref 33), (3, .int 0)] [] := by
  have fin := p1_fin κ γ Q nm O hrc hrs hend hL8
  refine z_aload_n (pc := 140) O dL_law_140 rfl ?_
  refine z_aloadS (pc := 141) O dL_law_141 rfl ?_
  refine z_iload_n (pc := 142) O dL_law_142 rfl ?_
  refine z_iconst (pc := 143) (v := 1) O dL_law_143 (by decide) ?_
  refine z_iadd (pc := 144) O dL_law_144 ?_
  refine z_topv (pc := 145) (1) (by decide) ?_
  refine z_sld (pc := 145) 1 O rfl (by rw [hL8]; decide) (by rw [hL8]; decide) dL_law_145 ?_
  refine z_aloadS (pc := 146) O dL_law_146 rfl ?_
  refine z_iload_n (pc := 147) O dL_law_147 rfl ?_
  refine z_iconst (pc := 148) (v := 2) O dL_law_148 (by decide) ?_
  refine z_iadd (pc := 149) O dL_law_149 ?_
  refine z_topv (pc := 150) (2) (by decide) ?_
  refine z_sld (pc := 150) 2 O rfl (by rw [hL8]; decide) (by rw [hL8]; decide) dL_law_150 ?_
  refine z_aloadS (pc := 151) O dL_law_151 rfl ?_
  refine z_iload_n (pc := 152) O dL_law_152 rfl ?_
  refine z_iconst (pc := 153) (v := 3) O dL_law_153 (by decide) ?_
  refine z_iadd (pc := 154) O dL_law_154 ?_
  refine z_topv (pc := 155) (3) (by decide) ?_
  refine z_sld (pc := 155) 3 O rfl (by rw [hL8]; decide) (by rw [hL8]; decide) dL_law_155 ?_
  refine z_aloadS (pc := 156) O dL_law_156 rfl ?_
  refine z_iload_n (pc := 157) O dL_law_157 rfl ?_
  refine z_iconst (pc := 158) (v := 4) O dL_law_158 (by decide) ?_
  refine z_iadd (pc := 159) O dL_law_159 ?_
  refine z_topv (pc := 160) (4) (by decide) ?_
  refine z_sld (pc := 160) 4 O rfl (by rw [hL8]; decide) (by rw [hL8]; decide) dL_law_160 ?_
  refine z_aloadS (pc := 161) O dL_law_161 rfl ?_
  refine z_iload_n (pc := 162) O dL_law_162 rfl ?_
  refine z_iconst (pc := 163) (v := 5) O dL_law_163 (by decide) ?_
  refine z_iadd (pc := 164) O dL_law_164 ?_
  refine z_topv (pc := 165) (5) (by decide) ?_
  refine z_sld (pc := 165) 5 O rfl (by rw [hL8]; decide) (by rw [hL8]; decide) dL_law_165 ?_
  refine z_callV (pc := 166) O cl_L_13 (p1x_feed _ _ fr_σM _ _ _ _ _) (by decide) (jo_2 lay_σM) kc_8 rfl rfl (Nat.le_of_ble_eq_true rfl) ⟨by rw [hrc]; omega, by rw [hrs]; omega⟩ dL_law_166 (fun r τ hp => ?_)
  obtain ⟨rfl, FM⟩ := hp
  refine z_aload_n (pc := 169) O dL_law_169 rfl ?_
  refine z_aloadS (pc := 170) O dL_law_170 rfl ?_
  refine z_iload_n (pc := 171) O dL_law_171 rfl ?_
  refine z_iconst (pc := 172) (v := 1) O dL_law_172 (by decide) ?_
  refine z_iadd (pc := 173) O dL_law_173 ?_
  refine z_topv (pc := 174) (1) (by decide) ?_
  refine z_sld (pc := 174) 1 O rfl (by rw [hL8]; decide) (by rw [hL8]; decide) dL_law_174 ?_
  refine z_aloadS (pc := 175) O dL_law_175 rfl ?_
  refine z_iload_n (pc := 176) O dL_law_176 rfl ?_
  refine z_iconst (pc := 177) (v := 2) O dL_law_177 (by decide) ?_
  refine z_iadd (pc := 178) O dL_law_178 ?_
  refine z_topv (pc := 179) (2) (by decide) ?_
  refine z_sld (pc := 179) 2 O rfl (by rw [hL8]; decide) (by rw [hL8]; decide) dL_law_179 ?_
  refine z_aloadS (pc := 180) O dL_law_180 rfl ?_
  refine z_iload_n (pc := 181) O dL_law_181 rfl ?_
  refine z_iconst (pc := 182) (v := 3) O dL_law_182 (by decide) ?_
  refine z_iadd (pc := 183) O dL_law_183 ?_
  refine z_topv (pc := 184) (3) (by decide) ?_
  refine z_sld (pc := 184) 3 O rfl (by rw [hL8]; decide) (by rw [hL8]; decide) dL_law_184 ?_
  refine z_aloadS (pc := 185) O dL_law_185 rfl ?_
  refine z_iload_n (pc := 186) O dL_law_186 rfl ?_
  refine z_iconst (pc := 187) (v := 4) O dL_law_187 (by decide) ?_
  refine z_iadd (pc := 188) O dL_law_188 ?_
  refine z_topv (pc := 189) (4) (by decide) ?_
  refine z_sld (pc := 189) 4 O rfl (by rw [hL8]; decide) (by rw [hL8]; decide) dL_law_189 ?_
  refine z_aloadS (pc := 190) O dL_law_190 rfl ?_
  refine z_iload_n (pc := 191) O dL_law_191 rfl ?_
  refine z_iconst (pc := 192) (v := 5) O dL_law_192 (by decide) ?_
  refine z_iadd (pc := 193) O dL_law_193 ?_
  refine z_topv (pc := 194) (5) (by decide) ?_
  refine z_sld (pc := 194) 5 O rfl (by rw [hL8]; decide) (by rw [hL8]; decide) dL_law_194 ?_
  refine z_callV (pc := 195) O cl_L_17 (p1m_feed _ _ FM _ _ _ _ _) (by decide) (jo_33 FM.1) kc_9 rfl rfl (Nat.le_of_ble_eq_true rfl) ⟨by rw [hrc]; omega, by rw [hrs]; omega⟩ dL_law_195 (fun r τ hp => ?_)
  obtain rfl := hp
  refine z_icmp_eq (pc := 198) (tgt := 1049) O dL_law_198 (by decide) (fun h198 => ?_) (fun h198 => ?_)
  · exact fin _ _ _ (by omega) (by omega)
  · exact absurd rfl h198
set_option maxHeartbeats 4000000 in
set_option maxRecDepth 20000 in
theorem p1_case1 (κ : Kx) (γ : Gh) (Q : State → Prop) (nm : String) (O : OK κ γ code 4 "BloodPriceLaw" 2000 ret nm) (hrc : κ.2.2.2.1.cells = 600000) (hrs : κ.2.2.2.1.slots = 7302250) (hend : ∀ (σ : VH) (cells slots : Nat) (ls : List (Nat × Value)), cells ≤ 600000 → slots ≤ 7302250 → Z κ γ 4 σ cells slots Q 1056 ls [.int 1]) (hL8 : γ.2.2.2.2.2.2.1 = 8) (cells slots : Nat) (hcc : cells ≤ 1000) (hss : slots ≤ 100000) : Z κ γ 4 σM cells slots Q 203 [(0, .float 0), (1, .ref 2), (2, .ref 33), (3, .int 0)] [] := by
  have fin := p1_fin κ γ Q nm O hrc hrs hend hL8
  refine z_aload_n (pc := 203) O dL_law_203 rfl ?_
  refine z_aloadS (pc := 204) O dL_law_204 rfl ?_
  refine z_iload_n (pc := 205) O dL_law_205 rfl ?_
  refine z_iconst (pc := 206) (v := 1) O dL_law_206 (by decide) ?_
  refine z_iadd (pc := 207) O dL_law_207 ?_
  refine z_topv (pc := 208) (1) (by decide) ?_
  refine z_sld (pc := 208) 1 O rfl (by rw [hL8]; decide) (by rw [hL8]; decide) dL_law_208 ?_
  refine z_callV (pc := 209) O cl_L_18 (p1x_end _ _ fr_σM _) (by decide) (jo_2 lay_σM) kc_8 rfl rfl (Nat.le_of_ble_eq_true rfl) ⟨by rw [hrc]; omega, by rw [hrs]; omega⟩ dL_law_209 (fun r τ hp => ?_)
  obtain ⟨rfl, FM⟩ := hp
  refine z_aload_n (pc := 212) O dL_law_212 rfl ?_
  refine z_aloadS (pc := 213) O dL_law_213 rfl ?_
  refine z_iload_n (pc := 214) O dL_law_214 rfl ?_
  refine z_iconst (pc := 215) (v := 1) O dL_law_215 (by decide) ?_
  refine z_iadd (pc := 216) O dL_law_216 ?_
  refine z_topv (pc := 217) (1) (by decide) ?_
  refine z_sld (pc := 217) 1 O rfl (by rw [hL8]; decide) (by rw [hL8]; decide) dL_law_217 ?_
  refine z_callV (pc := 218) O cl_L_22 (p1m_end _ _ FM _) (by decide) (jo_33 FM.1) kc_9 rfl rfl (Nat.le_of_ble_eq_true rfl) ⟨by rw [hrc]; omega, by rw [hrs]; omega⟩ dL_law_218 (fun r τ hp => ?_)
  obtain rfl := hp
  refine z_icmp_eq (pc := 221) (tgt := 1049) O dL_law_221 (by decide) (fun h221 => ?_) (fun h221 => ?_)
  · exact fin _ _ _ (by omega) (by omega)
  · exact absurd rfl h221
set_option maxHeartbeats 4000000 in
set_option maxRecDepth 20000 in
theorem p1_case2 (κ : Kx) (γ : Gh) (Q : State → Prop) (nm : String) (O : OK κ γ code 4 "BloodPriceLaw" 2000 ret nm) (hrc : κ.2.2.2.1.cells = 600000) (hrs : κ.2.2.2.1.slots = 7302250) (hend : ∀ (σ : VH) (cells slots : Nat) (ls : List (Nat × Value)), cells ≤ 600000 → slots ≤ 7302250 → Z κ γ 4 σ cells slots Q 1056 ls [.int 1]) (hL8 : γ.2.2.2.2.2.2.1 = 8) (cells slots : Nat) (hcc : cells ≤ 1000) (hss : slots ≤ 100000) : Z κ γ 4 σM cells slots Q 226 [(0, .float 0), (1, .ref 2), (2, .ref 33), (3, .int 0)] [] := by
  have fin := p1_fin κ γ Q nm O hrc hrs hend hL8
  refine z_aload_n (pc := 226) O dL_law_226 rfl ?_
  refine z_aloadS (pc := 227) O dL_law_227 rfl ?_
  refine z_iload_n (pc := 228) O dL_law_228 rfl ?_
  refine z_iconst (pc := 229) (v := 1) O dL_law_229 (by decide) ?_
  refine z_iadd (pc := 230) O dL_law_230 ?_
  refine z_topv (pc := 231) (1) (by decide) ?_
  refine z_sld (pc := 231) 1 O rfl (by rw [hL8]; decide) (by rw [hL8]; decide) dL_law_231 ?_
  refine z_aloadS (pc := 232) O dL_law_232 rfl ?_
  refine z_iload_n (pc := 233) O dL_law_233 rfl ?_
  refine z_iconst (pc := 234) (v := 2) O dL_law_234 (by decide) ?_
  refine z_iadd (pc := 235) O dL_law_235 ?_
  refine z_topv (pc := 236) (2) (by decide) ?_
  refine z_sld (pc := 236) 2 O rfl (by rw [hL8]; decide) (by rw [hL8]; decide) dL_law_236 ?_
  refine z_callV (pc := 237) O cl_L_23 (p1x_law _ _ fr_σM _ _) (by decide) (jo_2 lay_σM) kc_8 rfl rfl (Nat.le_of_ble_eq_true rfl) ⟨by rw [hrc]; omega, by rw [hrs]; omega⟩ dL_law_237 (fun r τ hp => ?_)
  obtain ⟨rfl, FM⟩ := hp
  refine z_aload_n (pc := 240) O dL_law_240 rfl ?_
  refine z_aloadS (pc := 241) O dL_law_241 rfl ?_
  refine z_iload_n (pc := 242) O dL_law_242 rfl ?_
  refine z_iconst (pc := 243) (v := 1) O dL_law_243 (by decide) ?_
  refine z_iadd (pc := 244) O dL_law_244 ?_
  refine z_topv (pc := 245) (1) (by decide) ?_
  refine z_sld (pc := 245) 1 O rfl (by rw [hL8]; decide) (by rw [hL8]; decide) dL_law_245 ?_
  refine z_aloadS (pc := 246) O dL_law_246 rfl ?_
  refine z_iload_n (pc := 247) O dL_law_247 rfl ?_
  refine z_iconst (pc := 248) (v := 2) O dL_law_248 (by decide) ?_
  refine z_iadd (pc := 249) O dL_law_249 ?_
  refine z_topv (pc := 250) (2) (by decide) ?_
  refine z_sld (pc := 250) 2 O rfl (by rw [hL8]; decide) (by rw [hL8]; decide) dL_law_250 ?_
  refine z_callV (pc := 251) O cl_L_27 (p1m_law _ _ FM _ _) (by decide) (jo_33 FM.1) kc_9 rfl rfl (Nat.le_of_ble_eq_true rfl) ⟨by rw [hrc]; omega, by rw [hrs]; omega⟩ dL_law_251 (fun r τ hp => ?_)
  obtain rfl := hp
  refine z_icmp_eq (pc := 254) (tgt := 1049) O dL_law_254 (by decide) (fun h254 => ?_) (fun h254 => ?_)
  · exact fin _ _ _ (by omega) (by omega)
  · exact absurd rfl h254
set_option maxHeartbeats 4000000 in
set_option maxRecDepth 20000 in
theorem p1_case3 (κ : Kx) (γ : Gh) (Q : State → Prop) (nm : String) (O : OK κ γ code 4 "BloodPriceLaw" 2000 ret nm) (hrc : κ.2.2.2.1.cells = 600000) (hrs : κ.2.2.2.1.slots = 7302250) (hend : ∀ (σ : VH) (cells slots : Nat) (ls : List (Nat × Value)), cells ≤ 600000 → slots ≤ 7302250 → Z κ γ 4 σ cells slots Q 1056 ls [.int 1]) (hL8 : γ.2.2.2.2.2.2.1 = 8) (cells slots : Nat) (hcc : cells ≤ 1000) (hss : slots ≤ 100000) : Z κ γ 4 σM cells slots Q 259 [(0, .float 0), (1, .ref 2), (2, .ref 33), (3, .int 0)] [] := by
  have fin := p1_fin κ γ Q nm O hrc hrs hend hL8
  refine z_aload_n (pc := 259) O dL_law_259 rfl ?_
  refine z_aloadS (pc := 260) O dL_law_260 rfl ?_
  refine z_iload_n (pc := 261) O dL_law_261 rfl ?_
  refine z_iconst (pc := 262) (v := 1) O dL_law_262 (by decide) ?_
  refine z_iadd (pc := 263) O dL_law_263 ?_
  refine z_topv (pc := 264) (1) (by decide) ?_
  refine z_sld (pc := 264) 1 O rfl (by rw [hL8]; decide) (by rw [hL8]; decide) dL_law_264 ?_
  refine z_callV (pc := 265) O cl_L_28 (p1x_fault _ _ fr_σM _) (by decide) (jo_2 lay_σM) kc_8 rfl rfl (Nat.le_of_ble_eq_true rfl) ⟨by rw [hrc]; omega, by rw [hrs]; omega⟩ dL_law_265 (fun r τ hp => ?_)
  obtain ⟨rfl, FM⟩ := hp
  refine z_aload_n (pc := 268) O dL_law_268 rfl ?_
  refine z_aloadS (pc := 269) O dL_law_269 rfl ?_
  refine z_iload_n (pc := 270) O dL_law_270 rfl ?_
  refine z_iconst (pc := 271) (v := 1) O dL_law_271 (by decide) ?_
  refine z_iadd (pc := 272) O dL_law_272 ?_
  refine z_topv (pc := 273) (1) (by decide) ?_
  refine z_sld (pc := 273) 1 O rfl (by rw [hL8]; decide) (by rw [hL8]; decide) dL_law_273 ?_
  refine z_callV (pc := 274) O cl_L_31 (p1m_fault _ _ FM _) (by decide) (jo_33 FM.1) kc_9 rfl rfl (Nat.le_of_ble_eq_true rfl) ⟨by rw [hrc]; omega, by rw [hrs]; omega⟩ dL_law_274 (fun r τ hp => ?_)
  obtain rfl := hp
  refine z_icmp_eq (pc := 277) (tgt := 1049) O dL_law_277 (by decide) (fun h277 => ?_) (fun h277 => ?_)
  · exact fin _ _ _ (by omega) (by omega)
  · exact absurd rfl h277
set_option maxHeartbeats 4000000 in
set_option maxRecDepth 20000 in
theorem p1_case4 (κ : Kx) (γ : Gh) (Q : State → Prop) (nm : String) (O : OK κ γ code 4 "BloodPriceLaw" 2000 ret nm) (hrc : κ.2.2.2.1.cells = 600000) (hrs : κ.2.2.2.1.slots = 7302250) (hend : ∀ (σ : VH) (cells slots : Nat) (ls : List (Nat × Value)), cells ≤ 600000 → slots ≤ 7302250 → Z κ γ 4 σ cells slots Q 1056 ls [.int 1]) (hL8 : γ.2.2.2.2.2.2.1 = 8) (cells slots : Nat) (hcc : cells ≤ 1000) (hss : slots ≤ 100000) : Z κ γ 4 σM cells slots Q 282 [(0, .float 0), (1, .ref 2), (2, .ref 33), (3, .int 0)] [] := by
  have fin := p1_fin κ γ Q nm O hrc hrs hend hL8
  refine z_aload_n (pc := 282) O dL_law_282 rfl ?_
  refine z_aloadS (pc := 283) O dL_law_283 rfl ?_
  refine z_iload_n (pc := 284) O dL_law_284 rfl ?_
  refine z_iconst (pc := 285) (v := 1) O dL_law_285 (by decide) ?_
  refine z_iadd (pc := 286) O dL_law_286 ?_
  refine z_topv (pc := 287) (1) (by decide) ?_
  refine z_sld (pc := 287) 1 O rfl (by rw [hL8]; decide) (by rw [hL8]; decide) dL_law_287 ?_
  refine z_aloadS (pc := 288) O dL_law_288 rfl ?_
  refine z_iload_n (pc := 289) O dL_law_289 rfl ?_
  refine z_iconst (pc := 290) (v := 2) O dL_law_290 (by decide) ?_
  refine z_iadd (pc := 291) O dL_law_291 ?_
  refine z_topv (pc := 292) (2) (by decide) ?_
  refine z_sld (pc := 292) 2 O rfl (by rw [hL8]; decide) (by rw [hL8]; decide) dL_law_292 ?_
  refine z_callV (pc := 293) O cl_L_32 (p1x_lawOn _ _ fr_σM _ _) (by decide) (jo_2 lay_σM) kc_8 rfl rfl (Nat.le_of_ble_eq_true rfl) ⟨by rw [hrc]; omega, by rw [hrs]; omega⟩ dL_law_293 (fun r τ hp => ?_)
  obtain ⟨rfl, FM⟩ := hp
  refine z_aload_n (pc := 296) O dL_law_296 rfl ?_
  refine z_aloadS (pc := 297) O dL_law_297 rfl ?_
  refine z_iload_n (pc := 298) O dL_law_298 rfl ?_
  refine z_iconst (pc := 299) (v := 1) O dL_law_299 (by decide) ?_
  refine z_iadd (pc := 300) O dL_law_300 ?_
  refine z_topv (pc := 301) (1) (by decide) ?_
  refine z_sld (pc := 301) 1 O rfl (by rw [hL8]; decide) (by rw [hL8]; decide) dL_law_301 ?_
  refine z_aloadS (pc := 302) O dL_law_302 rfl ?_
  refine z_iload_n (pc := 303) O dL_law_303 rfl ?_
  refine z_iconst (pc := 304) (v := 2) O dL_law_304 (by decide) ?_
  refine z_iadd (pc := 305) O dL_law_305 ?_
  refine z_topv (pc := 306) (2) (by decide) ?_
  refine z_sld (pc := 306) 2 O rfl (by rw [hL8]; decide) (by rw [hL8]; decide) dL_law_306 ?_
  refine z_callV (pc := 307) O cl_L_35 (p1m_lawOn _ _ FM _ _) (by decide) (jo_33 FM.1) kc_9 rfl rfl (Nat.le_of_ble_eq_true rfl) ⟨by rw [hrc]; omega, by rw [hrs]; omega⟩ dL_law_307 (fun r τ hp => ?_)
  obtain rfl := hp
  refine z_icmp_eq (pc := 310) (tgt := 1049) O dL_law_310 (by decide) (fun h310 => ?_) (fun h310 => ?_)
  · exact fin _ _ _ (by omega) (by omega)
  · exact absurd rfl h310
set_option maxHeartbeats 4000000 in
set_option maxRecDepth 20000 in
theorem p1_case5 (κ : Kx) (γ : Gh) (Q : State → Prop) (nm : String) (O : OK κ γ code 4 "BloodPriceLaw" 2000 ret nm) (hrc : κ.2.2.2.1.cells = 600000) (hrs : κ.2.2.2.1.slots = 7302250) (hend : ∀ (σ : VH) (cells slots : Nat) (ls : List (Nat × Value)), cells ≤ 600000 → slots ≤ 7302250 → Z κ γ 4 σ cells slots Q 1056 ls [.int 1]) (hL8 : γ.2.2.2.2.2.2.1 = 8) (cells slots : Nat) (hcc : cells ≤ 1000) (hss : slots ≤ 100000) : Z κ γ 4 σM cells slots Q 315 [(0, .float 0), (1, .ref 2), (2, .ref 33), (3, .int 0)] [] := by
  have fin := p1_fin κ γ Q nm O hrc hrs hend hL8
  refine z_aload_n (pc := 315) O dL_law_315 rfl ?_
  refine z_aloadS (pc := 316) O dL_law_316 rfl ?_
  refine z_iload_n (pc := 317) O dL_law_317 rfl ?_
  refine z_iconst (pc := 318) (v := 1) O dL_law_318 (by decide) ?_
  refine z_iadd (pc := 319) O dL_law_319 ?_
  refine z_topv (pc := 320) (1) (by decide) ?_
  refine z_sld (pc := 320) 1 O rfl (by rw [hL8]; decide) (by rw [hL8]; decide) dL_law_320 ?_
  refine z_aloadS (pc := 321) O dL_law_321 rfl ?_
  refine z_iload_n (pc := 322) O dL_law_322 rfl ?_
  refine z_iconst (pc := 323) (v := 2) O dL_law_323 (by decide) ?_
  refine z_iadd (pc := 324) O dL_law_324 ?_
  refine z_topv (pc := 325) (2) (by decide) ?_
  refine z_sld (pc := 325) 2 O rfl (by rw [hL8]; decide) (by rw [hL8]; decide) dL_law_325 ?_
  refine z_aloadS (pc := 326) O dL_law_326 rfl ?_
  refine z_iload_n (pc := 327) O dL_law_327 rfl ?_
  refine z_iconst (pc := 328) (v := 3) O dL_law_328 (by decide) ?_
  refine z_iadd (pc := 329) O dL_law_329 ?_
  refine z_topv (pc := 330) (3) (by decide) ?_
  refine z_sld (pc := 330) 3 O rfl (by rw [hL8]; decide) (by rw [hL8]; decide) dL_law_330 ?_
  refine z_callV (pc := 331) O cl_L_36 (p1x_person _ _ fr_σM _ _ _) (by decide) (jo_2 lay_σM) kc_8 rfl rfl (Nat.le_of_ble_eq_true rfl) ⟨by rw [hrc]; omega, by rw [hrs]; omega⟩ dL_law_331 (fun r τ hp => ?_)
  obtain ⟨rfl, FM⟩ := hp
  refine z_aload_n (pc := 334) O dL_law_334 rfl ?_
  refine z_aloadS (pc := 335) O dL_law_335 rfl ?_
  refine z_iload_n (pc := 336) O dL_law_336 rfl ?_
  refine z_iconst (pc := 337) (v := 1) O dL_law_337 (by decide) ?_
  refine z_iadd (pc := 338) O dL_law_338 ?_
  refine z_topv (pc := 339) (1) (by decide) ?_
  refine z_sld (pc := 339) 1 O rfl (by rw [hL8]; decide) (by rw [hL8]; decide) dL_law_339 ?_
  refine z_aloadS (pc := 340) O dL_law_340 rfl ?_
  refine z_iload_n (pc := 341) O dL_law_341 rfl ?_
  refine z_iconst (pc := 342) (v := 2) O dL_law_342 (by decide) ?_
  refine z_iadd (pc := 343) O dL_law_343 ?_
  refine z_topv (pc := 344) (2) (by decide) ?_
  refine z_sld (pc := 344) 2 O rfl (by rw [hL8]; decide) (by rw [hL8]; decide) dL_law_344 ?_
  refine z_aloadS (pc := 345) O dL_law_345 rfl ?_
  refine z_iload_n (pc := 346) O dL_law_346 rfl ?_
  refine z_iconst (pc := 347) (v := 3) O dL_law_347 (by decide) ?_
  refine z_iadd (pc := 348) O dL_law_348 ?_
  refine z_topv (pc := 349) (3) (by decide) ?_
  refine z_sld (pc := 349) 3 O rfl (by rw [hL8]; decide) (by rw [hL8]; decide) dL_law_349 ?_
  refine z_callV (pc := 350) O cl_L_40 (p1m_person _ _ FM _ _ _) (by decide) (jo_33 FM.1) kc_9 rfl rfl (Nat.le_of_ble_eq_true rfl) ⟨by rw [hrc]; omega, by rw [hrs]; omega⟩ dL_law_350 (fun r τ hp => ?_)
  obtain rfl := hp
  refine z_icmp_eq (pc := 353) (tgt := 1049) O dL_law_353 (by decide) (fun h353 => ?_) (fun h353 => ?_)
  · exact fin _ _ _ (by omega) (by omega)
  · exact absurd rfl h353
set_option maxHeartbeats 4000000 in
set_option maxRecDepth 20000 in
theorem p1_case6 (κ : Kx) (γ : Gh) (Q : State → Prop) (nm : String) (O : OK κ γ code 4 "BloodPriceLaw" 2000 ret nm) (hrc : κ.2.2.2.1.cells = 600000) (hrs : κ.2.2.2.1.slots = 7302250) (hend : ∀ (σ : VH) (cells slots : Nat) (ls : List (Nat × Value)), cells ≤ 600000 → slots ≤ 7302250 → Z κ γ 4 σ cells slots Q 1056 ls [.int 1]) (hL8 : γ.2.2.2.2.2.2.1 = 8) (cells slots : Nat) (hcc : cells ≤ 1000) (hss : slots ≤ 100000) : Z κ γ 4 σM cells slots Q 358 [(0, .float 0), (1, .ref 2), (2, .ref 33), (3, .int 0)] [] := by
  have fin := p1_fin κ γ Q nm O hrc hrs hend hL8
  refine z_aload_n (pc := 358) O dL_law_358 rfl ?_
  refine z_aloadS (pc := 359) O dL_law_359 rfl ?_
  refine z_iload_n (pc := 360) O dL_law_360 rfl ?_
  refine z_iconst (pc := 361) (v := 1) O dL_law_361 (by decide) ?_
  refine z_iadd (pc := 362) O dL_law_362 ?_
  refine z_topv (pc := 363) (1) (by decide) ?_
  refine z_sld (pc := 363) 1 O rfl (by rw [hL8]; decide) (by rw [hL8]; decide) dL_law_363 ?_
  refine z_aloadS (pc := 364) O dL_law_364 rfl ?_
  refine z_iload_n (pc := 365) O dL_law_365 rfl ?_
  refine z_iconst (pc := 366) (v := 2) O dL_law_366 (by decide) ?_
  refine z_iadd (pc := 367) O dL_law_367 ?_
  refine z_topv (pc := 368) (2) (by decide) ?_
  refine z_sld (pc := 368) 2 O rfl (by rw [hL8]; decide) (by rw [hL8]; decide) dL_law_368 ?_
  refine z_callV (pc := 369) O cl_L_41 (p1x_degree _ _ fr_σM _ _) (by decide) (jo_2 lay_σM) kc_8 rfl rfl (Nat.le_of_ble_eq_true rfl) ⟨by rw [hrc]; omega, by rw [hrs]; omega⟩ dL_law_369 (fun r τ hp => ?_)
  obtain ⟨rfl, FM⟩ := hp
  refine z_aload_n (pc := 372) O dL_law_372 rfl ?_
  refine z_aloadS (pc := 373) O dL_law_373 rfl ?_
  refine z_iload_n (pc := 374) O dL_law_374 rfl ?_
  refine z_iconst (pc := 375) (v := 1) O dL_law_375 (by decide) ?_
  refine z_iadd (pc := 376) O dL_law_376 ?_
  refine z_topv (pc := 377) (1) (by decide) ?_
  refine z_sld (pc := 377) 1 O rfl (by rw [hL8]; decide) (by rw [hL8]; decide) dL_law_377 ?_
  refine z_aloadS (pc := 378) O dL_law_378 rfl ?_
  refine z_iload_n (pc := 379) O dL_law_379 rfl ?_
  refine z_iconst (pc := 380) (v := 2) O dL_law_380 (by decide) ?_
  refine z_iadd (pc := 381) O dL_law_381 ?_
  refine z_topv (pc := 382) (2) (by decide) ?_
  refine z_sld (pc := 382) 2 O rfl (by rw [hL8]; decide) (by rw [hL8]; decide) dL_law_382 ?_
  refine z_callV (pc := 383) O cl_L_44 (p1m_degree _ _ FM _ _) (by decide) (jo_33 FM.1) kc_9 rfl rfl (Nat.le_of_ble_eq_true rfl) ⟨by rw [hrc]; omega, by rw [hrs]; omega⟩ dL_law_383 (fun r τ hp => ?_)
  obtain rfl := hp
  refine z_icmp_eq (pc := 386) (tgt := 1049) O dL_law_386 (by decide) (fun h386 => ?_) (fun h386 => ?_)
  · exact fin _ _ _ (by omega) (by omega)
  · exact absurd rfl h386
set_option maxHeartbeats 4000000 in
set_option maxRecDepth 20000 in
theorem p1_case7 (κ : Kx) (γ : Gh) (Q : State → Prop) (nm : String) (O : OK κ γ code 4 "BloodPriceLaw" 2000 ret nm) (hrc : κ.2.2.2.1.cells = 600000) (hrs : κ.2.2.2.1.slots = 7302250) (hend : ∀ (σ : VH) (cells slots : Nat) (ls : List (Nat × Value)), cells ≤ 600000 → slots ≤ 7302250 → Z κ γ 4 σ cells slots Q 1056 ls [.int 1]) (hL8 : γ.2.2.2.2.2.2.1 = 8) (cells slots : Nat) (hcc : cells ≤ 1000) (hss : slots ≤ 100000) : Z κ γ 4 σM cells slots Q 391 [(0, .float 0), (1, .ref 2), (2, .ref 33), (3, .int 0)] [] := by
  have fin := p1_fin κ γ Q nm O hrc hrs hend hL8
  refine z_aload_n (pc := 391) O dL_law_391 rfl ?_
  refine z_aloadS (pc := 392) O dL_law_392 rfl ?_
  refine z_iload_n (pc := 393) O dL_law_393 rfl ?_
  refine z_iconst (pc := 394) (v := 1) O dL_law_394 (by decide) ?_
  refine z_iadd (pc := 395) O dL_law_395 ?_
  refine z_topv (pc := 396) (1) (by decide) ?_
  refine z_sld (pc := 396) 1 O rfl (by rw [hL8]; decide) (by rw [hL8]; decide) dL_law_396 ?_
  refine z_aloadS (pc := 397) O dL_law_397 rfl ?_
  refine z_iload_n (pc := 398) O dL_law_398 rfl ?_
  refine z_iconst (pc := 399) (v := 2) O dL_law_399 (by decide) ?_
  refine z_iadd (pc := 400) O dL_law_400 ?_
  refine z_topv (pc := 401) (2) (by decide) ?_
  refine z_sld (pc := 401) 2 O rfl (by rw [hL8]; decide) (by rw [hL8]; decide) dL_law_401 ?_
  refine z_aloadS (pc := 402) O dL_law_402 rfl ?_
  refine z_iload_n (pc := 403) O dL_law_403 rfl ?_
  refine z_iconst (pc := 404) (v := 3) O dL_law_404 (by decide) ?_
  refine z_iadd (pc := 405) O dL_law_405 ?_
  refine z_topv (pc := 406) (3) (by decide) ?_
  refine z_sld (pc := 406) 3 O rfl (by rw [hL8]; decide) (by rw [hL8]; decide) dL_law_406 ?_
  refine z_callV (pc := 407) O cl_L_45 (p1x_rank _ _ fr_σM _ _ _) (by decide) (jo_2 lay_σM) kc_8 rfl rfl (Nat.le_of_ble_eq_true rfl) ⟨by rw [hrc]; omega, by rw [hrs]; omega⟩ dL_law_407 (fun r τ hp => ?_)
  obtain ⟨rfl, FM⟩ := hp
  refine z_aload_n (pc := 410) O dL_law_410 rfl ?_
  refine z_aloadS (pc := 411) O dL_law_411 rfl ?_
  refine z_iload_n (pc := 412) O dL_law_412 rfl ?_
  refine z_iconst (pc := 413) (v := 1) O dL_law_413 (by decide) ?_
  refine z_iadd (pc := 414) O dL_law_414 ?_
  refine z_topv (pc := 415) (1) (by decide) ?_
  refine z_sld (pc := 415) 1 O rfl (by rw [hL8]; decide) (by rw [hL8]; decide) dL_law_415 ?_
  refine z_aloadS (pc := 416) O dL_law_416 rfl ?_
  refine z_iload_n (pc := 417) O dL_law_417 rfl ?_
  refine z_iconst (pc := 418) (v := 2) O dL_law_418 (by decide) ?_
  refine z_iadd (pc := 419) O dL_law_419 ?_
  refine z_topv (pc := 420) (2) (by decide) ?_
  refine z_sld (pc := 420) 2 O rfl (by rw [hL8]; decide) (by rw [hL8]; decide) dL_law_420 ?_
  refine z_aloadS (pc := 421) O dL_law_421 rfl ?_
  refine z_iload_n (pc := 422) O dL_law_422 rfl ?_
  refine z_iconst (pc := 423) (v := 3) O dL_law_423 (by decide) ?_
  refine z_iadd (pc := 424) O dL_law_424 ?_
  refine z_topv (pc := 425) (3) (by decide) ?_
  refine z_sld (pc := 425) 3 O rfl (by rw [hL8]; decide) (by rw [hL8]; decide) dL_law_425 ?_
  refine z_callV (pc := 426) O cl_L_48 (p1m_rank _ _ FM _ _ _) (by decide) (jo_33 FM.1) kc_9 rfl rfl (Nat.le_of_ble_eq_true rfl) ⟨by rw [hrc]; omega, by rw [hrs]; omega⟩ dL_law_426 (fun r τ hp => ?_)
  obtain rfl := hp
  refine z_icmp_eq (pc := 429) (tgt := 1049) O dL_law_429 (by decide) (fun h429 => ?_) (fun h429 => ?_)
  · exact fin _ _ _ (by omega) (by omega)
  · exact absurd rfl h429
set_option maxHeartbeats 4000000 in
set_option maxRecDepth 20000 in
theorem p1_case8 (κ : Kx) (γ : Gh) (Q : State → Prop) (nm : String) (O : OK κ γ code 4 "BloodPriceLaw" 2000 ret nm) (hrc : κ.2.2.2.1.cells = 600000) (hrs : κ.2.2.2.1.slots = 7302250) (hend : ∀ (σ : VH) (cells slots : Nat) (ls : List (Nat × Value)), cells ≤ 600000 → slots ≤ 7302250 → Z κ γ 4 σ cells slots Q 1056 ls [.int 1]) (hL8 : γ.2.2.2.2.2.2.1 = 8) (cells slots : Nat) (hcc : cells ≤ 1000) (hss : slots ≤ 100000) : Z κ γ 4 σM cells slots Q 434 [(0, .float 0), (1, .ref 2), (2, .ref 33), (3, .int 0)] [] := by
  have fin := p1_fin κ γ Q nm O hrc hrs hend hL8
  refine z_aload_n (pc := 434) O dL_law_434 rfl ?_
  refine z_aloadS (pc := 435) O dL_law_435 rfl ?_
  refine z_iload_n (pc := 436) O dL_law_436 rfl ?_
  refine z_iconst (pc := 437) (v := 1) O dL_law_437 (by decide) ?_
  refine z_iadd (pc := 438) O dL_law_438 ?_
  refine z_topv (pc := 439) (1) (by decide) ?_
  refine z_sld (pc := 439) 1 O rfl (by rw [hL8]; decide) (by rw [hL8]; decide) dL_law_439 ?_
  refine z_aloadS (pc := 440) O dL_law_440 rfl ?_
  refine z_iload_n (pc := 441) O dL_law_441 rfl ?_
  refine z_iconst (pc := 442) (v := 2) O dL_law_442 (by decide) ?_
  refine z_iadd (pc := 443) O dL_law_443 ?_
  refine z_topv (pc := 444) (2) (by decide) ?_
  refine z_sld (pc := 444) 2 O rfl (by rw [hL8]; decide) (by rw [hL8]; decide) dL_law_444 ?_
  refine z_aloadS (pc := 445) O dL_law_445 rfl ?_
  refine z_iload_n (pc := 446) O dL_law_446 rfl ?_
  refine z_iconst (pc := 447) (v := 3) O dL_law_447 (by decide) ?_
  refine z_iadd (pc := 448) O dL_law_448 ?_
  refine z_topv (pc := 449) (3) (by decide) ?_
  refine z_sld (pc := 449) 3 O rfl (by rw [hL8]; decide) (by rw [hL8]; decide) dL_law_449 ?_
  refine z_callV (pc := 450) O cl_L_49 (p1x_ranked _ _ fr_σM _ _ _) (by decide) (jo_2 lay_σM) kc_8 rfl rfl (Nat.le_of_ble_eq_true rfl) ⟨by rw [hrc]; omega, by rw [hrs]; omega⟩ dL_law_450 (fun r τ hp => ?_)
  obtain ⟨rfl, FM⟩ := hp
  refine z_aload_n (pc := 453) O dL_law_453 rfl ?_
  refine z_aloadS (pc := 454) O dL_law_454 rfl ?_
  refine z_iload_n (pc := 455) O dL_law_455 rfl ?_
  refine z_iconst (pc := 456) (v := 1) O dL_law_456 (by decide) ?_
  refine z_iadd (pc := 457) O dL_law_457 ?_
  refine z_topv (pc := 458) (1) (by decide) ?_
  refine z_sld (pc := 458) 1 O rfl (by rw [hL8]; decide) (by rw [hL8]; decide) dL_law_458 ?_
  refine z_aloadS (pc := 459) O dL_law_459 rfl ?_
  refine z_iload_n (pc := 460) O dL_law_460 rfl ?_
  refine z_iconst (pc := 461) (v := 2) O dL_law_461 (by decide) ?_
  refine z_iadd (pc := 462) O dL_law_462 ?_
  refine z_topv (pc := 463) (2) (by decide) ?_
  refine z_sld (pc := 463) 2 O rfl (by rw [hL8]; decide) (by rw [hL8]; decide) dL_law_463 ?_
  refine z_aloadS (pc := 464) O dL_law_464 rfl ?_
  refine z_iload_n (pc := 465) O dL_law_465 rfl ?_
  refine z_iconst (pc := 466) (v := 3) O dL_law_466 (by decide) ?_
  refine z_iadd (pc := 467) O dL_law_467 ?_
  refine z_topv (pc := 468) (3) (by decide) ?_
  refine z_sld (pc := 468) 3 O rfl (by rw [hL8]; decide) (by rw [hL8]; decide) dL_law_468 ?_
  refine z_callV (pc := 469) O cl_L_52 (p1m_ranked _ _ FM _ _ _) (by decide) (jo_33 FM.1) kc_9 rfl rfl (Nat.le_of_ble_eq_true rfl) ⟨by rw [hrc]; omega, by rw [hrs]; omega⟩ dL_law_469 (fun r τ hp => ?_)
  obtain rfl := hp
  refine z_icmp_eq (pc := 472) (tgt := 1049) O dL_law_472 (by decide) (fun h472 => ?_) (fun h472 => ?_)
  · exact fin _ _ _ (by omega) (by omega)
  · exact absurd rfl h472
set_option maxHeartbeats 4000000 in
set_option maxRecDepth 20000 in
theorem p1_case9 (κ : Kx) (γ : Gh) (Q : State → Prop) (nm : String) (O : OK κ γ code 4 "BloodPriceLaw" 2000 ret nm) (hrc : κ.2.2.2.1.cells = 600000) (hrs : κ.2.2.2.1.slots = 7302250) (hend : ∀ (σ : VH) (cells slots : Nat) (ls : List (Nat × Value)), cells ≤ 600000 → slots ≤ 7302250 → Z κ γ 4 σ cells slots Q 1056 ls [.int 1]) (hL8 : γ.2.2.2.2.2.2.1 = 8) (cells slots : Nat) (hcc : cells ≤ 1000) (hss : slots ≤ 100000) : Z κ γ 4 σM cells slots Q 477 [(0, .float 0), (1, .ref 2), (2, .ref 33), (3, .int 0)] [] := by
  have fin := p1_fin κ γ Q nm O hrc hrs hend hL8
  refine z_aload_n (pc := 477) O dL_law_477 rfl ?_
  refine z_aloadS (pc := 478) O dL_law_478 rfl ?_
  refine z_iload_n (pc := 479) O dL_law_479 rfl ?_
  refine z_iconst (pc := 480) (v := 1) O dL_law_480 (by decide) ?_
  refine z_iadd (pc := 481) O dL_law_481 ?_
  refine z_topv (pc := 482) (1) (by decide) ?_
  refine z_sld (pc := 482) 1 O rfl (by rw [hL8]; decide) (by rw [hL8]; decide) dL_law_482 ?_
  refine z_aloadS (pc := 483) O dL_law_483 rfl ?_
  refine z_iload_n (pc := 484) O dL_law_484 rfl ?_
  refine z_iconst (pc := 485) (v := 2) O dL_law_485 (by decide) ?_
  refine z_iadd (pc := 486) O dL_law_486 ?_
  refine z_topv (pc := 487) (2) (by decide) ?_
  refine z_sld (pc := 487) 2 O rfl (by rw [hL8]; decide) (by rw [hL8]; decide) dL_law_487 ?_
  refine z_callV (pc := 488) O cl_L_53 (p1x_dead _ _ fr_σM _ _) (by decide) (jo_2 lay_σM) kc_8 rfl rfl (Nat.le_of_ble_eq_true rfl) ⟨by rw [hrc]; omega, by rw [hrs]; omega⟩ dL_law_488 (fun r τ hp => ?_)
  obtain ⟨rfl, FM⟩ := hp
  refine z_aload_n (pc := 491) O dL_law_491 rfl ?_
  refine z_aloadS (pc := 492) O dL_law_492 rfl ?_
  refine z_iload_n (pc := 493) O dL_law_493 rfl ?_
  refine z_iconst (pc := 494) (v := 1) O dL_law_494 (by decide) ?_
  refine z_iadd (pc := 495) O dL_law_495 ?_
  refine z_topv (pc := 496) (1) (by decide) ?_
  refine z_sld (pc := 496) 1 O rfl (by rw [hL8]; decide) (by rw [hL8]; decide) dL_law_496 ?_
  refine z_aloadS (pc := 497) O dL_law_497 rfl ?_
  refine z_iload_n (pc := 498) O dL_law_498 rfl ?_
  refine z_iconst (pc := 499) (v := 2) O dL_law_499 (by decide) ?_
  refine z_iadd (pc := 500) O dL_law_500 ?_
  refine z_topv (pc := 501) (2) (by decide) ?_
  refine z_sld (pc := 501) 2 O rfl (by rw [hL8]; decide) (by rw [hL8]; decide) dL_law_501 ?_
  refine z_callV (pc := 502) O cl_L_57 (p1m_dead _ _ FM _ _) (by decide) (jo_33 FM.1) kc_9 rfl rfl (Nat.le_of_ble_eq_true rfl) ⟨by rw [hrc]; omega, by rw [hrs]; omega⟩ dL_law_502 (fun r τ hp => ?_)
  obtain rfl := hp
  refine z_icmp_eq (pc := 505) (tgt := 1049) O dL_law_505 (by decide) (fun h505 => ?_) (fun h505 => ?_)
  · exact fin _ _ _ (by omega) (by omega)
  · exact absurd rfl h505
set_option maxHeartbeats 4000000 in
set_option maxRecDepth 20000 in
theorem p1_case10 (κ : Kx) (γ : Gh) (Q : State → Prop) (nm : String) (O : OK κ γ code 4 "BloodPriceLaw" 2000 ret nm) (hrc : κ.2.2.2.1.cells = 600000) (hrs : κ.2.2.2.1.slots = 7302250) (hend : ∀ (σ : VH) (cells slots : Nat) (ls : List (Nat × Value)), cells ≤ 600000 → slots ≤ 7302250 → Z κ γ 4 σ cells slots Q 1056 ls [.int 1]) (hL8 : γ.2.2.2.2.2.2.1 = 8) (cells slots : Nat) (hcc : cells ≤ 1000) (hss : slots ≤ 100000) : Z κ γ 4 σM cells slots Q 510 [(0, .float 0), (1, .ref 2), (2, .ref 33), (3, .int 0)] [] := by
  have fin := p1_fin κ γ Q nm O hrc hrs hend hL8
  refine z_aload_n (pc := 510) O dL_law_510 rfl ?_
  refine z_aloadS (pc := 511) O dL_law_511 rfl ?_
  refine z_iload_n (pc := 512) O dL_law_512 rfl ?_
  refine z_iconst (pc := 513) (v := 1) O dL_law_513 (by decide) ?_
  refine z_iadd (pc := 514) O dL_law_514 ?_
  refine z_topv (pc := 515) (1) (by decide) ?_
  refine z_sld (pc := 515) 1 O rfl (by rw [hL8]; decide) (by rw [hL8]; decide) dL_law_515 ?_
  refine z_aloadS (pc := 516) O dL_law_516 rfl ?_
  refine z_iload_n (pc := 517) O dL_law_517 rfl ?_
  refine z_iconst (pc := 518) (v := 2) O dL_law_518 (by decide) ?_
  refine z_iadd (pc := 519) O dL_law_519 ?_
  refine z_topv (pc := 520) (2) (by decide) ?_
  refine z_sld (pc := 520) 2 O rfl (by rw [hL8]; decide) (by rw [hL8]; decide) dL_law_520 ?_
  refine z_aloadS (pc := 521) O dL_law_521 rfl ?_
  refine z_iload_n (pc := 522) O dL_law_522 rfl ?_
  refine z_iconst (pc := 523) (v := 3) O dL_law_523 (by decide) ?_
  refine z_iadd (pc := 524) O dL_law_524 ?_
  refine z_topv (pc := 525) (3) (by decide) ?_
  refine z_sld (pc := 525) 3 O rfl (by rw [hL8]; decide) (by rw [hL8]; decide) dL_law_525 ?_
  refine z_aloadS (pc := 526) O dL_law_526 rfl ?_
  refine z_iload_n (pc := 527) O dL_law_527 rfl ?_
  refine z_iconst (pc := 528) (v := 4) O dL_law_528 (by decide) ?_
  refine z_iadd (pc := 529) O dL_law_529 ?_
  refine z_topv (pc := 530) (4) (by decide) ?_
  refine z_sld (pc := 530) 4 O rfl (by rw [hL8]; decide) (by rw [hL8]; decide) dL_law_530 ?_
  refine z_callV (pc := 531) O cl_L_58 (p1x_truce _ _ fr_σM _ _ _ _) (by decide) (jo_2 lay_σM) kc_8 rfl rfl (Nat.le_of_ble_eq_true rfl) ⟨by rw [hrc]; omega, by rw [hrs]; omega⟩ dL_law_531 (fun r τ hp => ?_)
  obtain ⟨rfl, FM⟩ := hp
  refine z_aload_n (pc := 534) O dL_law_534 rfl ?_
  refine z_aloadS (pc := 535) O dL_law_535 rfl ?_
  refine z_iload_n (pc := 536) O dL_law_536 rfl ?_
  refine z_iconst (pc := 537) (v := 1) O dL_law_537 (by decide) ?_
  refine z_iadd (pc := 538) O dL_law_538 ?_
  refine z_topv (pc := 539) (1) (by decide) ?_
  refine z_sld (pc := 539) 1 O rfl (by rw [hL8]; decide) (by rw [hL8]; decide) dL_law_539 ?_
  refine z_aloadS (pc := 540) O dL_law_540 rfl ?_
  refine z_iload_n (pc := 541) O dL_law_541 rfl ?_
  refine z_iconst (pc := 542) (v := 2) O dL_law_542 (by decide) ?_
  refine z_iadd (pc := 543) O dL_law_543 ?_
  refine z_topv (pc := 544) (2) (by decide) ?_
  refine z_sld (pc := 544) 2 O rfl (by rw [hL8]; decide) (by rw [hL8]; decide) dL_law_544 ?_
  refine z_aloadS (pc := 545) O dL_law_545 rfl ?_
  refine z_iload_n (pc := 546) O dL_law_546 rfl ?_
  refine z_iconst (pc := 547) (v := 3) O dL_law_547 (by decide) ?_
  refine z_iadd (pc := 548) O dL_law_548 ?_
  refine z_topv (pc := 549) (3) (by decide) ?_
  refine z_sld (pc := 549) 3 O rfl (by rw [hL8]; decide) (by rw [hL8]; decide) dL_law_549 ?_
  refine z_aloadS (pc := 550) O dL_law_550 rfl ?_
  refine z_iload_n (pc := 551) O dL_law_551 rfl ?_
  refine z_iconst (pc := 552) (v := 4) O dL_law_552 (by decide) ?_
  refine z_iadd (pc := 553) O dL_law_553 ?_
  refine z_topv (pc := 554) (4) (by decide) ?_
  refine z_sld (pc := 554) 4 O rfl (by rw [hL8]; decide) (by rw [hL8]; decide) dL_law_554 ?_
  refine z_callV (pc := 555) O cl_L_62 (p1m_truce _ _ FM _ _ _ _) (by decide) (jo_33 FM.1) kc_9 rfl rfl (Nat.le_of_ble_eq_true rfl) ⟨by rw [hrc]; omega, by rw [hrs]; omega⟩ dL_law_555 (fun r τ hp => ?_)
  obtain rfl := hp
  refine z_icmp_eq (pc := 558) (tgt := 1049) O dL_law_558 (by decide) (fun h558 => ?_) (fun h558 => ?_)
  · exact fin _ _ _ (by omega) (by omega)
  · exact absurd rfl h558
set_option maxHeartbeats 4000000 in
set_option maxRecDepth 20000 in
theorem p1_case11 (κ : Kx) (γ : Gh) (Q : State → Prop) (nm : String) (O : OK κ γ code 4 "BloodPriceLaw" 2000 ret nm) (hrc : κ.2.2.2.1.cells = 600000) (hrs : κ.2.2.2.1.slots = 7302250) (hend : ∀ (σ : VH) (cells slots : Nat) (ls : List (Nat × Value)), cells ≤ 600000 → slots ≤ 7302250 → Z κ γ 4 σ cells slots Q 1056 ls [.int 1]) (hL8 : γ.2.2.2.2.2.2.1 = 8) (cells slots : Nat) (hcc : cells ≤ 1000) (hss : slots ≤ 100000) : Z κ γ 4 σM cells slots Q 563 [(0, .float 0), (1, .ref 2), (2, .ref 33), (3, .int 0)] [] := by
  have fin := p1_fin κ γ Q nm O hrc hrs hend hL8
  refine z_aload_n (pc := 563) O dL_law_563 rfl ?_
  refine z_aloadS (pc := 564) O dL_law_564 rfl ?_
  refine z_iload_n (pc := 565) O dL_law_565 rfl ?_
  refine z_iconst (pc := 566) (v := 1) O dL_law_566 (by decide) ?_
  refine z_iadd (pc := 567) O dL_law_567 ?_
  refine z_topv (pc := 568) (1) (by decide) ?_
  refine z_sld (pc := 568) 1 O rfl (by rw [hL8]; decide) (by rw [hL8]; decide) dL_law_568 ?_
  refine z_callV (pc := 569) O cl_L_63 (p1x_later _ _ fr_σM _) (by decide) (jo_2 lay_σM) kc_8 rfl rfl (Nat.le_of_ble_eq_true rfl) ⟨by rw [hrc]; omega, by rw [hrs]; omega⟩ dL_law_569 (fun r τ hp => ?_)
  obtain ⟨rfl, FM⟩ := hp
  refine z_aload_n (pc := 572) O dL_law_572 rfl ?_
  refine z_aloadS (pc := 573) O dL_law_573 rfl ?_
  refine z_iload_n (pc := 574) O dL_law_574 rfl ?_
  refine z_iconst (pc := 575) (v := 1) O dL_law_575 (by decide) ?_
  refine z_iadd (pc := 576) O dL_law_576 ?_
  refine z_topv (pc := 577) (1) (by decide) ?_
  refine z_sld (pc := 577) 1 O rfl (by rw [hL8]; decide) (by rw [hL8]; decide) dL_law_577 ?_
  refine z_callV (pc := 578) O cl_L_66 (p1m_later _ _ FM _) (by decide) (jo_33 FM.1) kc_9 rfl rfl (Nat.le_of_ble_eq_true rfl) ⟨by rw [hrc]; omega, by rw [hrs]; omega⟩ dL_law_578 (fun r τ hp => ?_)
  obtain rfl := hp
  refine z_icmp_eq (pc := 581) (tgt := 1049) O dL_law_581 (by decide) (fun h581 => ?_) (fun h581 => ?_)
  · exact fin _ _ _ (by omega) (by omega)
  · exact absurd rfl h581
set_option maxHeartbeats 4000000 in
set_option maxRecDepth 20000 in
theorem p1_case12 (κ : Kx) (γ : Gh) (Q : State → Prop) (nm : String) (O : OK κ γ code 4 "BloodPriceLaw" 2000 ret nm) (hrc : κ.2.2.2.1.cells = 600000) (hrs : κ.2.2.2.1.slots = 7302250) (hend : ∀ (σ : VH) (cells slots : Nat) (ls : List (Nat × Value)), cells ≤ 600000 → slots ≤ 7302250 → Z κ γ 4 σ cells slots Q 1056 ls [.int 1]) (hL8 : γ.2.2.2.2.2.2.1 = 8) (cells slots : Nat) (hcc : cells ≤ 1000) (hss : slots ≤ 100000) : Z κ γ 4 σM cells slots Q 586 [(0, .float 0), (1, .ref 2), (2, .ref 33), (3, .int 0)] [] := by
  have fin := p1_fin κ γ Q nm O hrc hrs hend hL8
  refine z_aload_n (pc := 586) O dL_law_586 rfl ?_
  refine z_aloadS (pc := 587) O dL_law_587 rfl ?_
  refine z_iload_n (pc := 588) O dL_law_588 rfl ?_
  refine z_iconst (pc := 589) (v := 1) O dL_law_589 (by decide) ?_
  refine z_iadd (pc := 590) O dL_law_590 ?_
  refine z_topv (pc := 591) (1) (by decide) ?_
  refine z_sld (pc := 591) 1 O rfl (by rw [hL8]; decide) (by rw [hL8]; decide) dL_law_591 ?_
  refine z_aloadS (pc := 592) O dL_law_592 rfl ?_
  refine z_iload_n (pc := 593) O dL_law_593 rfl ?_
  refine z_iconst (pc := 594) (v := 2) O dL_law_594 (by decide) ?_
  refine z_iadd (pc := 595) O dL_law_595 ?_
  refine z_topv (pc := 596) (2) (by decide) ?_
  refine z_sld (pc := 596) 2 O rfl (by rw [hL8]; decide) (by rw [hL8]; decide) dL_law_596 ?_
  refine z_aloadS (pc := 597) O dL_law_597 rfl ?_
  refine z_iload_n (pc := 598) O dL_law_598 rfl ?_
  refine z_iconst (pc := 599) (v := 3) O dL_law_599 (by decide) ?_
  refine z_iadd (pc := 600) O dL_law_600 ?_
  refine z_topv (pc := 601) (3) (by decide) ?_
  refine z_sld (pc := 601) 3 O rfl (by rw [hL8]; decide) (by rw [hL8]; decide) dL_law_601 ?_
  refine z_i2l (pc := 602) O dL_law_602 ?_
  refine z_bipush (pc := 603) (v := 32) O dL_law_603 (by decide) ?_
  refine z_lshl (pc := 605) O dL_law_605 ?_
  refine z_aloadS (pc := 606) O dL_law_606 rfl ?_
  refine z_iload_n (pc := 607) O dL_law_607 rfl ?_
  refine z_iconst (pc := 608) (v := 4) O dL_law_608 (by decide) ?_
  refine z_iadd (pc := 609) O dL_law_609 ?_
  refine z_topv (pc := 610) (4) (by decide) ?_
  refine z_sld (pc := 610) 4 O rfl (by rw [hL8]; decide) (by rw [hL8]; decide) dL_law_610 ?_
  refine z_i2l (pc := 611) O dL_law_611 ?_
  refine z_ldc2 (pc := 612) O tw_1271 dL_law_612 ?_
  refine z_land (pc := 615) O dL_law_615 ?_
  refine z_lor (pc := 616) O dL_law_616 ?_
  refine z_aloadS (pc := 617) O dL_law_617 rfl ?_
  refine z_iload_n (pc := 618) O dL_law_618 rfl ?_
  refine z_iconst (pc := 619) (v := 5) O dL_law_619 (by decide) ?_
  refine z_iadd (pc := 620) O dL_law_620 ?_
  refine z_topv (pc := 621) (5) (by decide) ?_
  refine z_sld (pc := 621) 5 O rfl (by rw [hL8]; decide) (by rw [hL8]; decide) dL_law_621 ?_
  refine z_aloadS (pc := 622) O dL_law_622 rfl ?_
  refine z_iload_n (pc := 623) O dL_law_623 rfl ?_
  refine z_bipush (pc := 624) (v := 6) O dL_law_624 (by decide) ?_
  refine z_iadd (pc := 626) O dL_law_626 ?_
  refine z_topv (pc := 627) (6) (by decide) ?_
  refine z_sld (pc := 627) 6 O rfl (by rw [hL8]; decide) (by rw [hL8]; decide) dL_law_627 ?_
  refine z_aloadS (pc := 628) O dL_law_628 rfl ?_
  refine z_iload_n (pc := 629) O dL_law_629 rfl ?_
  refine z_bipush (pc := 630) (v := 7) O dL_law_630 (by decide) ?_
  refine z_iadd (pc := 632) O dL_law_632 ?_
  refine z_topv (pc := 633) (7) (by decide) ?_
  refine z_sld (pc := 633) 7 O rfl (by rw [hL8]; decide) (by rw [hL8]; decide) dL_law_633 ?_
  refine z_if_eq (pc := 634) (tgt := 641) O dL_law_634 (by decide) (fun h634 => ?_) (fun h634 => ?_)
  · refine z_iconst (pc := 641) (v := 0) O dL_law_641 (by decide) ?_
    refine z_callV (pc := 642) O cl_L_69 (p1x_hurt _ _ fr_σM _ _ _ _ _ _) (by decide) (jo_2 lay_σM) kc_8 rfl rfl (Nat.le_of_ble_eq_true rfl) ⟨by rw [hrc]; omega, by rw [hrs]; omega⟩ dL_law_642 (fun r τ hp => ?_)
    obtain ⟨rfl, FM⟩ := hp
    refine z_aload_n (pc := 645) O dL_law_645 rfl ?_
    refine z_aloadS (pc := 646) O dL_law_646 rfl ?_
    refine z_iload_n (pc := 647) O dL_law_647 rfl ?_
    refine z_iconst (pc := 648) (v := 1) O dL_law_648 (by decide) ?_
    refine z_iadd (pc := 649) O dL_law_649 ?_
    refine z_topv (pc := 650) (1) (by decide) ?_
    refine z_sld (pc := 650) 1 O rfl (by rw [hL8]; decide) (by rw [hL8]; decide) dL_law_650 ?_
    refine z_aloadS (pc := 651) O dL_law_651 rfl ?_
    refine z_iload_n (pc := 652) O dL_law_652 rfl ?_
    refine z_iconst (pc := 653) (v := 2) O dL_law_653 (by decide) ?_
    refine z_iadd (pc := 654) O dL_law_654 ?_
    refine z_topv (pc := 655) (2) (by decide) ?_
    refine z_sld (pc := 655) 2 O rfl (by rw [hL8]; decide) (by rw [hL8]; decide) dL_law_655 ?_
    refine z_aloadS (pc := 656) O dL_law_656 rfl ?_
    refine z_iload_n (pc := 657) O dL_law_657 rfl ?_
    refine z_iconst (pc := 658) (v := 3) O dL_law_658 (by decide) ?_
    refine z_iadd (pc := 659) O dL_law_659 ?_
    refine z_topv (pc := 660) (3) (by decide) ?_
    refine z_sld (pc := 660) 3 O rfl (by rw [hL8]; decide) (by rw [hL8]; decide) dL_law_660 ?_
    refine z_i2l (pc := 661) O dL_law_661 ?_
    refine z_bipush (pc := 662) (v := 32) O dL_law_662 (by decide) ?_
    refine z_lshl (pc := 664) O dL_law_664 ?_
    refine z_aloadS (pc := 665) O dL_law_665 rfl ?_
    refine z_iload_n (pc := 666) O dL_law_666 rfl ?_
    refine z_iconst (pc := 667) (v := 4) O dL_law_667 (by decide) ?_
    refine z_iadd (pc := 668) O dL_law_668 ?_
    refine z_topv (pc := 669) (4) (by decide) ?_
    refine z_sld (pc := 669) 4 O rfl (by rw [hL8]; decide) (by rw [hL8]; decide) dL_law_669 ?_
    refine z_i2l (pc := 670) O dL_law_670 ?_
    refine z_ldc2 (pc := 671) O tw_1271 dL_law_671 ?_
    refine z_land (pc := 674) O dL_law_674 ?_
    refine z_lor (pc := 675) O dL_law_675 ?_
    refine z_aloadS (pc := 676) O dL_law_676 rfl ?_
    refine z_iload_n (pc := 677) O dL_law_677 rfl ?_
    refine z_iconst (pc := 678) (v := 5) O dL_law_678 (by decide) ?_
    refine z_iadd (pc := 679) O dL_law_679 ?_
    refine z_topv (pc := 680) (5) (by decide) ?_
    refine z_sld (pc := 680) 5 O rfl (by rw [hL8]; decide) (by rw [hL8]; decide) dL_law_680 ?_
    refine z_aloadS (pc := 681) O dL_law_681 rfl ?_
    refine z_iload_n (pc := 682) O dL_law_682 rfl ?_
    refine z_bipush (pc := 683) (v := 6) O dL_law_683 (by decide) ?_
    refine z_iadd (pc := 685) O dL_law_685 ?_
    refine z_topv (pc := 686) (6) (by decide) ?_
    refine z_sld (pc := 686) 6 O rfl (by rw [hL8]; decide) (by rw [hL8]; decide) dL_law_686 ?_
    refine z_aloadS (pc := 687) O dL_law_687 rfl ?_
    refine z_iload_n (pc := 688) O dL_law_688 rfl ?_
    refine z_bipush (pc := 689) (v := 7) O dL_law_689 (by decide) ?_
    refine z_iadd (pc := 691) O dL_law_691 ?_
    refine z_topv (pc := 692) (7) (by decide) ?_
    refine z_sld (pc := 692) 7 O rfl (by rw [hL8]; decide) (by rw [hL8]; decide) dL_law_692 ?_
    refine z_if_eq (pc := 693) (tgt := 700) O dL_law_693 (by decide) (fun h693 => ?_) (fun h693 => ?_)
    · refine z_iconst (pc := 700) (v := 0) O dL_law_700 (by decide) ?_
      refine z_callV (pc := 701) O cl_L_73 (p1m_hurt _ _ FM _ _ _ _ _ _) (by decide) (jo_33 FM.1) kc_9 rfl rfl (Nat.le_of_ble_eq_true rfl) ⟨by rw [hrc]; omega, by rw [hrs]; omega⟩ dL_law_701 (fun r τ hp => ?_)
      obtain rfl := hp
      refine z_icmp_eq (pc := 704) (tgt := 1049) O dL_law_704 (by decide) (fun h704 => ?_) (fun h704 => ?_)
      · exact fin _ _ _ (by omega) (by omega)
      · exact absurd rfl h704
    · refine z_iconst (pc := 696) (v := 1) O dL_law_696 (by decide) ?_
      refine z_goto (pc := 697) (tgt := 701) O dL_law_697 (by decide) ?_
      refine z_callV (pc := 701) O cl_L_73 (p1m_hurt _ _ FM _ _ _ _ _ _) (by decide) (jo_33 FM.1) kc_9 rfl rfl (Nat.le_of_ble_eq_true rfl) ⟨by rw [hrc]; omega, by rw [hrs]; omega⟩ dL_law_701 (fun r τ hp => ?_)
      obtain rfl := hp
      refine z_icmp_eq (pc := 704) (tgt := 1049) O dL_law_704 (by decide) (fun h704 => ?_) (fun h704 => ?_)
      · exact fin _ _ _ (by omega) (by omega)
      · exact absurd rfl h704
  · refine z_iconst (pc := 637) (v := 1) O dL_law_637 (by decide) ?_
    refine z_goto (pc := 638) (tgt := 642) O dL_law_638 (by decide) ?_
    refine z_callV (pc := 642) O cl_L_69 (p1x_hurt _ _ fr_σM _ _ _ _ _ _) (by decide) (jo_2 lay_σM) kc_8 rfl rfl (Nat.le_of_ble_eq_true rfl) ⟨by rw [hrc]; omega, by rw [hrs]; omega⟩ dL_law_642 (fun r τ hp => ?_)
    obtain ⟨rfl, FM⟩ := hp
    refine z_aload_n (pc := 645) O dL_law_645 rfl ?_
    refine z_aloadS (pc := 646) O dL_law_646 rfl ?_
    refine z_iload_n (pc := 647) O dL_law_647 rfl ?_
    refine z_iconst (pc := 648) (v := 1) O dL_law_648 (by decide) ?_
    refine z_iadd (pc := 649) O dL_law_649 ?_
    refine z_topv (pc := 650) (1) (by decide) ?_
    refine z_sld (pc := 650) 1 O rfl (by rw [hL8]; decide) (by rw [hL8]; decide) dL_law_650 ?_
    refine z_aloadS (pc := 651) O dL_law_651 rfl ?_
    refine z_iload_n (pc := 652) O dL_law_652 rfl ?_
    refine z_iconst (pc := 653) (v := 2) O dL_law_653 (by decide) ?_
    refine z_iadd (pc := 654) O dL_law_654 ?_
    refine z_topv (pc := 655) (2) (by decide) ?_
    refine z_sld (pc := 655) 2 O rfl (by rw [hL8]; decide) (by rw [hL8]; decide) dL_law_655 ?_
    refine z_aloadS (pc := 656) O dL_law_656 rfl ?_
    refine z_iload_n (pc := 657) O dL_law_657 rfl ?_
    refine z_iconst (pc := 658) (v := 3) O dL_law_658 (by decide) ?_
    refine z_iadd (pc := 659) O dL_law_659 ?_
    refine z_topv (pc := 660) (3) (by decide) ?_
    refine z_sld (pc := 660) 3 O rfl (by rw [hL8]; decide) (by rw [hL8]; decide) dL_law_660 ?_
    refine z_i2l (pc := 661) O dL_law_661 ?_
    refine z_bipush (pc := 662) (v := 32) O dL_law_662 (by decide) ?_
    refine z_lshl (pc := 664) O dL_law_664 ?_
    refine z_aloadS (pc := 665) O dL_law_665 rfl ?_
    refine z_iload_n (pc := 666) O dL_law_666 rfl ?_
    refine z_iconst (pc := 667) (v := 4) O dL_law_667 (by decide) ?_
    refine z_iadd (pc := 668) O dL_law_668 ?_
    refine z_topv (pc := 669) (4) (by decide) ?_
    refine z_sld (pc := 669) 4 O rfl (by rw [hL8]; decide) (by rw [hL8]; decide) dL_law_669 ?_
    refine z_i2l (pc := 670) O dL_law_670 ?_
    refine z_ldc2 (pc := 671) O tw_1271 dL_law_671 ?_
    refine z_land (pc := 674) O dL_law_674 ?_
    refine z_lor (pc := 675) O dL_law_675 ?_
    refine z_aloadS (pc := 676) O dL_law_676 rfl ?_
    refine z_iload_n (pc := 677) O dL_law_677 rfl ?_
    refine z_iconst (pc := 678) (v := 5) O dL_law_678 (by decide) ?_
    refine z_iadd (pc := 679) O dL_law_679 ?_
    refine z_topv (pc := 680) (5) (by decide) ?_
    refine z_sld (pc := 680) 5 O rfl (by rw [hL8]; decide) (by rw [hL8]; decide) dL_law_680 ?_
    refine z_aloadS (pc := 681) O dL_law_681 rfl ?_
    refine z_iload_n (pc := 682) O dL_law_682 rfl ?_
    refine z_bipush (pc := 683) (v := 6) O dL_law_683 (by decide) ?_
    refine z_iadd (pc := 685) O dL_law_685 ?_
    refine z_topv (pc := 686) (6) (by decide) ?_
    refine z_sld (pc := 686) 6 O rfl (by rw [hL8]; decide) (by rw [hL8]; decide) dL_law_686 ?_
    refine z_aloadS (pc := 687) O dL_law_687 rfl ?_
    refine z_iload_n (pc := 688) O dL_law_688 rfl ?_
    refine z_bipush (pc := 689) (v := 7) O dL_law_689 (by decide) ?_
    refine z_iadd (pc := 691) O dL_law_691 ?_
    refine z_topv (pc := 692) (7) (by decide) ?_
    refine z_sld (pc := 692) 7 O rfl (by rw [hL8]; decide) (by rw [hL8]; decide) dL_law_692 ?_
    refine z_if_eq (pc := 693) (tgt := 700) O dL_law_693 (by decide) (fun h693 => ?_) (fun h693 => ?_)
    · refine z_iconst (pc := 700) (v := 0) O dL_law_700 (by decide) ?_
      refine z_callV (pc := 701) O cl_L_73 (p1m_hurt _ _ FM _ _ _ _ _ _) (by decide) (jo_33 FM.1) kc_9 rfl rfl (Nat.le_of_ble_eq_true rfl) ⟨by rw [hrc]; omega, by rw [hrs]; omega⟩ dL_law_701 (fun r τ hp => ?_)
      obtain rfl := hp
      refine z_icmp_eq (pc := 704) (tgt := 1049) O dL_law_704 (by decide) (fun h704 => ?_) (fun h704 => ?_)
      · exact fin _ _ _ (by omega) (by omega)
      · exact absurd rfl h704
    · refine z_iconst (pc := 696) (v := 1) O dL_law_696 (by decide) ?_
      refine z_goto (pc := 697) (tgt := 701) O dL_law_697 (by decide) ?_
      refine z_callV (pc := 701) O cl_L_73 (p1m_hurt _ _ FM _ _ _ _ _ _) (by decide) (jo_33 FM.1) kc_9 rfl rfl (Nat.le_of_ble_eq_true rfl) ⟨by rw [hrc]; omega, by rw [hrs]; omega⟩ dL_law_701 (fun r τ hp => ?_)
      obtain rfl := hp
      refine z_icmp_eq (pc := 704) (tgt := 1049) O dL_law_704 (by decide) (fun h704 => ?_) (fun h704 => ?_)
      · exact fin _ _ _ (by omega) (by omega)
      · exact absurd rfl h704
set_option maxHeartbeats 4000000 in
set_option maxRecDepth 20000 in
theorem p1_case13 (κ : Kx) (γ : Gh) (Q : State → Prop) (nm : String) (O : OK κ γ code 4 "BloodPriceLaw" 2000 ret nm) (hrc : κ.2.2.2.1.cells = 600000) (hrs : κ.2.2.2.1.slots = 7302250) (hend : ∀ (σ : VH) (cells slots : Nat) (ls : List (Nat × Value)), cells ≤ 600000 → slots ≤ 7302250 → Z κ γ 4 σ cells slots Q 1056 ls [.int 1]) (hL8 : γ.2.2.2.2.2.2.1 = 8) (cells slots : Nat) (hcc : cells ≤ 1000) (hss : slots ≤ 100000) : Z κ γ 4 σM cells slots Q 709 [(0, .float 0), (1, .ref 2), (2, .ref 33), (3, .int 0)] [] := by
  have fin := p1_fin κ γ Q nm O hrc hrs hend hL8
  refine z_aload_n (pc := 709) O dL_law_709 rfl ?_
  refine z_aloadS (pc := 710) O dL_law_710 rfl ?_
  refine z_iload_n (pc := 711) O dL_law_711 rfl ?_
  refine z_iconst (pc := 712) (v := 1) O dL_law_712 (by decide) ?_
  refine z_iadd (pc := 713) O dL_law_713 ?_
  refine z_topv (pc := 714) (1) (by decide) ?_
  refine z_sld (pc := 714) 1 O rfl (by rw [hL8]; decide) (by rw [hL8]; decide) dL_law_714 ?_
  refine z_aloadS (pc := 715) O dL_law_715 rfl ?_
  refine z_iload_n (pc := 716) O dL_law_716 rfl ?_
  refine z_iconst (pc := 717) (v := 2) O dL_law_717 (by decide) ?_
  refine z_iadd (pc := 718) O dL_law_718 ?_
  refine z_topv (pc := 719) (2) (by decide) ?_
  refine z_sld (pc := 719) 2 O rfl (by rw [hL8]; decide) (by rw [hL8]; decide) dL_law_719 ?_
  refine z_callV (pc := 720) O cl_L_74 (p1x_sum _ _ fr_σM _ _) (by decide) (jo_2 lay_σM) kc_8 rfl rfl (Nat.le_of_ble_eq_true rfl) ⟨by rw [hrc]; omega, by rw [hrs]; omega⟩ dL_law_720 (fun r τ hp => ?_)
  obtain ⟨rfl, FM⟩ := hp
  refine z_aload_n (pc := 723) O dL_law_723 rfl ?_
  refine z_aloadS (pc := 724) O dL_law_724 rfl ?_
  refine z_iload_n (pc := 725) O dL_law_725 rfl ?_
  refine z_iconst (pc := 726) (v := 1) O dL_law_726 (by decide) ?_
  refine z_iadd (pc := 727) O dL_law_727 ?_
  refine z_topv (pc := 728) (1) (by decide) ?_
  refine z_sld (pc := 728) 1 O rfl (by rw [hL8]; decide) (by rw [hL8]; decide) dL_law_728 ?_
  refine z_aloadS (pc := 729) O dL_law_729 rfl ?_
  refine z_iload_n (pc := 730) O dL_law_730 rfl ?_
  refine z_iconst (pc := 731) (v := 2) O dL_law_731 (by decide) ?_
  refine z_iadd (pc := 732) O dL_law_732 ?_
  refine z_topv (pc := 733) (2) (by decide) ?_
  refine z_sld (pc := 733) 2 O rfl (by rw [hL8]; decide) (by rw [hL8]; decide) dL_law_733 ?_
  refine z_callV (pc := 734) O cl_L_77 (p1m_sum _ _ FM _ _) (by decide) (jo_33 FM.1) kc_9 rfl rfl (Nat.le_of_ble_eq_true rfl) ⟨by rw [hrc]; omega, by rw [hrs]; omega⟩ dL_law_734 (fun r τ hp => ?_)
  obtain rfl := hp
  refine z_icmp_eq (pc := 737) (tgt := 1049) O dL_law_737 (by decide) (fun h737 => ?_) (fun h737 => ?_)
  · exact fin _ _ _ (by omega) (by omega)
  · exact absurd rfl h737
set_option maxHeartbeats 4000000 in
set_option maxRecDepth 20000 in
theorem p1_case14 (κ : Kx) (γ : Gh) (Q : State → Prop) (nm : String) (O : OK κ γ code 4 "BloodPriceLaw" 2000 ret nm) (hrc : κ.2.2.2.1.cells = 600000) (hrs : κ.2.2.2.1.slots = 7302250) (hend : ∀ (σ : VH) (cells slots : Nat) (ls : List (Nat × Value)), cells ≤ 600000 → slots ≤ 7302250 → Z κ γ 4 σ cells slots Q 1056 ls [.int 1]) (hL8 : γ.2.2.2.2.2.2.1 = 8) (cells slots : Nat) (hcc : cells ≤ 1000) (hss : slots ≤ 100000) : Z κ γ 4 σM cells slots Q 742 [(0, .float 0), (1, .ref 2), (2, .ref 33), (3, .int 0)] [] := by
  have fin := p1_fin κ γ Q nm O hrc hrs hend hL8
  refine z_aload_n (pc := 742) O dL_law_742 rfl ?_
  refine z_aloadS (pc := 743) O dL_law_743 rfl ?_
  refine z_iload_n (pc := 744) O dL_law_744 rfl ?_
  refine z_iconst (pc := 745) (v := 1) O dL_law_745 (by decide) ?_
  refine z_iadd (pc := 746) O dL_law_746 ?_
  refine z_topv (pc := 747) (1) (by decide) ?_
  refine z_sld (pc := 747) 1 O rfl (by rw [hL8]; decide) (by rw [hL8]; decide) dL_law_747 ?_
  refine z_aloadS (pc := 748) O dL_law_748 rfl ?_
  refine z_iload_n (pc := 749) O dL_law_749 rfl ?_
  refine z_iconst (pc := 750) (v := 2) O dL_law_750 (by decide) ?_
  refine z_iadd (pc := 751) O dL_law_751 ?_
  refine z_topv (pc := 752) (2) (by decide) ?_
  refine z_sld (pc := 752) 2 O rfl (by rw [hL8]; decide) (by rw [hL8]; decide) dL_law_752 ?_
  refine z_callV (pc := 753) O cl_L_78 (p1x_oath _ _ fr_σM _ _) (by decide) (jo_2 lay_σM) kc_8 rfl rfl (Nat.le_of_ble_eq_true rfl) ⟨by rw [hrc]; omega, by rw [hrs]; omega⟩ dL_law_753 (fun r τ hp => ?_)
  obtain ⟨rfl, FM⟩ := hp
  refine z_aload_n (pc := 756) O dL_law_756 rfl ?_
  refine z_aloadS (pc := 757) O dL_law_757 rfl ?_
  refine z_iload_n (pc := 758) O dL_law_758 rfl ?_
  refine z_iconst (pc := 759) (v := 1) O dL_law_759 (by decide) ?_
  refine z_iadd (pc := 760) O dL_law_760 ?_
  refine z_topv (pc := 761) (1) (by decide) ?_
  refine z_sld (pc := 761) 1 O rfl (by rw [hL8]; decide) (by rw [hL8]; decide) dL_law_761 ?_
  refine z_aloadS (pc := 762) O dL_law_762 rfl ?_
  refine z_iload_n (pc := 763) O dL_law_763 rfl ?_
  refine z_iconst (pc := 764) (v := 2) O dL_law_764 (by decide) ?_
  refine z_iadd (pc := 765) O dL_law_765 ?_
  refine z_topv (pc := 766) (2) (by decide) ?_
  refine z_sld (pc := 766) 2 O rfl (by rw [hL8]; decide) (by rw [hL8]; decide) dL_law_766 ?_
  refine z_callV (pc := 767) O cl_L_81 (p1m_oath _ _ FM _ _) (by decide) (jo_33 FM.1) kc_9 rfl rfl (Nat.le_of_ble_eq_true rfl) ⟨by rw [hrc]; omega, by rw [hrs]; omega⟩ dL_law_767 (fun r τ hp => ?_)
  obtain rfl := hp
  refine z_icmp_eq (pc := 770) (tgt := 1049) O dL_law_770 (by decide) (fun h770 => ?_) (fun h770 => ?_)
  · exact fin _ _ _ (by omega) (by omega)
  · exact absurd rfl h770
set_option maxHeartbeats 4000000 in
set_option maxRecDepth 20000 in
theorem p1_case15 (κ : Kx) (γ : Gh) (Q : State → Prop) (nm : String) (O : OK κ γ code 4 "BloodPriceLaw" 2000 ret nm) (hrc : κ.2.2.2.1.cells = 600000) (hrs : κ.2.2.2.1.slots = 7302250) (hend : ∀ (σ : VH) (cells slots : Nat) (ls : List (Nat × Value)), cells ≤ 600000 → slots ≤ 7302250 → Z κ γ 4 σ cells slots Q 1056 ls [.int 1]) (hL8 : γ.2.2.2.2.2.2.1 = 8) (cells slots : Nat) (hcc : cells ≤ 1000) (hss : slots ≤ 100000) : Z κ γ 4 σM cells slots Q 775 [(0, .float 0), (1, .ref 2), (2, .ref 33), (3, .int 0)] [] := by
  have fin := p1_fin κ γ Q nm O hrc hrs hend hL8
  refine z_aload_n (pc := 775) O dL_law_775 rfl ?_
  refine z_aloadS (pc := 776) O dL_law_776 rfl ?_
  refine z_iload_n (pc := 777) O dL_law_777 rfl ?_
  refine z_iconst (pc := 778) (v := 1) O dL_law_778 (by decide) ?_
  refine z_iadd (pc := 779) O dL_law_779 ?_
  refine z_topv (pc := 780) (1) (by decide) ?_
  refine z_sld (pc := 780) 1 O rfl (by rw [hL8]; decide) (by rw [hL8]; decide) dL_law_780 ?_
  refine z_aloadS (pc := 781) O dL_law_781 rfl ?_
  refine z_iload_n (pc := 782) O dL_law_782 rfl ?_
  refine z_iconst (pc := 783) (v := 2) O dL_law_783 (by decide) ?_
  refine z_iadd (pc := 784) O dL_law_784 ?_
  refine z_topv (pc := 785) (2) (by decide) ?_
  refine z_sld (pc := 785) 2 O rfl (by rw [hL8]; decide) (by rw [hL8]; decide) dL_law_785 ?_
  refine z_callV (pc := 786) O cl_L_82 (p1x_of _ _ fr_σM _ _) (by decide) (jo_2 lay_σM) kc_8 rfl rfl (Nat.le_of_ble_eq_true rfl) ⟨by rw [hrc]; omega, by rw [hrs]; omega⟩ dL_law_786 (fun r τ hp => ?_)
  obtain ⟨rfl, FM⟩ := hp
  refine z_aload_n (pc := 789) O dL_law_789 rfl ?_
  refine z_aloadS (pc := 790) O dL_law_790 rfl ?_
  refine z_iload_n (pc := 791) O dL_law_791 rfl ?_
  refine z_iconst (pc := 792) (v := 1) O dL_law_792 (by decide) ?_
  refine z_iadd (pc := 793) O dL_law_793 ?_
  refine z_topv (pc := 794) (1) (by decide) ?_
  refine z_sld (pc := 794) 1 O rfl (by rw [hL8]; decide) (by rw [hL8]; decide) dL_law_794 ?_
  refine z_aloadS (pc := 795) O dL_law_795 rfl ?_
  refine z_iload_n (pc := 796) O dL_law_796 rfl ?_
  refine z_iconst (pc := 797) (v := 2) O dL_law_797 (by decide) ?_
  refine z_iadd (pc := 798) O dL_law_798 ?_
  refine z_topv (pc := 799) (2) (by decide) ?_
  refine z_sld (pc := 799) 2 O rfl (by rw [hL8]; decide) (by rw [hL8]; decide) dL_law_799 ?_
  refine z_callV (pc := 800) O cl_L_85 (p1m_of _ _ FM _ _) (by decide) (jo_33 FM.1) kc_9 rfl rfl (Nat.le_of_ble_eq_true rfl) ⟨by rw [hrc]; omega, by rw [hrs]; omega⟩ dL_law_800 (fun r τ hp => ?_)
  obtain rfl := hp
  refine z_icmp_eq (pc := 803) (tgt := 1049) O dL_law_803 (by decide) (fun h803 => ?_) (fun h803 => ?_)
  · exact fin _ _ _ (by omega) (by omega)
  · exact absurd rfl h803
set_option maxHeartbeats 4000000 in
set_option maxRecDepth 20000 in
theorem p1_case16 (κ : Kx) (γ : Gh) (Q : State → Prop) (nm : String) (O : OK κ γ code 4 "BloodPriceLaw" 2000 ret nm) (hrc : κ.2.2.2.1.cells = 600000) (hrs : κ.2.2.2.1.slots = 7302250) (hend : ∀ (σ : VH) (cells slots : Nat) (ls : List (Nat × Value)), cells ≤ 600000 → slots ≤ 7302250 → Z κ γ 4 σ cells slots Q 1056 ls [.int 1]) (hL8 : γ.2.2.2.2.2.2.1 = 8) (cells slots : Nat) (hcc : cells ≤ 1000) (hss : slots ≤ 100000) : Z κ γ 4 σM cells slots Q 808 [(0, .float 0), (1, .ref 2), (2, .ref 33), (3, .int 0)] [] := by
  have fin := p1_fin κ γ Q nm O hrc hrs hend hL8
  refine z_aload_n (pc := 808) O dL_law_808 rfl ?_
  refine z_aloadS (pc := 809) O dL_law_809 rfl ?_
  refine z_iload_n (pc := 810) O dL_law_810 rfl ?_
  refine z_iconst (pc := 811) (v := 1) O dL_law_811 (by decide) ?_
  refine z_iadd (pc := 812) O dL_law_812 ?_
  refine z_topv (pc := 813) (1) (by decide) ?_
  refine z_sld (pc := 813) 1 O rfl (by rw [hL8]; decide) (by rw [hL8]; decide) dL_law_813 ?_
  refine z_aloadS (pc := 814) O dL_law_814 rfl ?_
  refine z_iload_n (pc := 815) O dL_law_815 rfl ?_
  refine z_iconst (pc := 816) (v := 2) O dL_law_816 (by decide) ?_
  refine z_iadd (pc := 817) O dL_law_817 ?_
  refine z_topv (pc := 818) (2) (by decide) ?_
  refine z_sld (pc := 818) 2 O rfl (by rw [hL8]; decide) (by rw [hL8]; decide) dL_law_818 ?_
  refine z_aloadS (pc := 819) O dL_law_819 rfl ?_
  refine z_iload_n (pc := 820) O dL_law_820 rfl ?_
  refine z_iconst (pc := 821) (v := 3) O dL_law_821 (by decide) ?_
  refine z_iadd (pc := 822) O dL_law_822 ?_
  refine z_topv (pc := 823) (3) (by decide) ?_
  refine z_sld (pc := 823) 3 O rfl (by rw [hL8]; decide) (by rw [hL8]; decide) dL_law_823 ?_
  refine z_callV (pc := 824) O cl_L_86 (p1x_pays _ _ fr_σM _ _ _) (by decide) (jo_2 lay_σM) kc_8 rfl rfl (Nat.le_of_ble_eq_true rfl) ⟨by rw [hrc]; omega, by rw [hrs]; omega⟩ dL_law_824 (fun r τ hp => ?_)
  obtain ⟨rfl, FM⟩ := hp
  refine z_aload_n (pc := 827) O dL_law_827 rfl ?_
  refine z_aloadS (pc := 828) O dL_law_828 rfl ?_
  refine z_iload_n (pc := 829) O dL_law_829 rfl ?_
  refine z_iconst (pc := 830) (v := 1) O dL_law_830 (by decide) ?_
  refine z_iadd (pc := 831) O dL_law_831 ?_
  refine z_topv (pc := 832) (1) (by decide) ?_
  refine z_sld (pc := 832) 1 O rfl (by rw [hL8]; decide) (by rw [hL8]; decide) dL_law_832 ?_
  refine z_aloadS (pc := 833) O dL_law_833 rfl ?_
  refine z_iload_n (pc := 834) O dL_law_834 rfl ?_
  refine z_iconst (pc := 835) (v := 2) O dL_law_835 (by decide) ?_
  refine z_iadd (pc := 836) O dL_law_836 ?_
  refine z_topv (pc := 837) (2) (by decide) ?_
  refine z_sld (pc := 837) 2 O rfl (by rw [hL8]; decide) (by rw [hL8]; decide) dL_law_837 ?_
  refine z_aloadS (pc := 838) O dL_law_838 rfl ?_
  refine z_iload_n (pc := 839) O dL_law_839 rfl ?_
  refine z_iconst (pc := 840) (v := 3) O dL_law_840 (by decide) ?_
  refine z_iadd (pc := 841) O dL_law_841 ?_
  refine z_topv (pc := 842) (3) (by decide) ?_
  refine z_sld (pc := 842) 3 O rfl (by rw [hL8]; decide) (by rw [hL8]; decide) dL_law_842 ?_
  refine z_callV (pc := 843) O cl_L_89 (p1m_pays _ _ FM _ _ _) (by decide) (jo_33 FM.1) kc_9 rfl rfl (Nat.le_of_ble_eq_true rfl) ⟨by rw [hrc]; omega, by rw [hrs]; omega⟩ dL_law_843 (fun r τ hp => ?_)
  obtain rfl := hp
  refine z_icmp_eq (pc := 846) (tgt := 1049) O dL_law_846 (by decide) (fun h846 => ?_) (fun h846 => ?_)
  · exact fin _ _ _ (by omega) (by omega)
  · exact absurd rfl h846
set_option maxHeartbeats 4000000 in
set_option maxRecDepth 20000 in
theorem p1_case17 (κ : Kx) (γ : Gh) (Q : State → Prop) (nm : String) (O : OK κ γ code 4 "BloodPriceLaw" 2000 ret nm) (hrc : κ.2.2.2.1.cells = 600000) (hrs : κ.2.2.2.1.slots = 7302250) (hend : ∀ (σ : VH) (cells slots : Nat) (ls : List (Nat × Value)), cells ≤ 600000 → slots ≤ 7302250 → Z κ γ 4 σ cells slots Q 1056 ls [.int 1]) (hL8 : γ.2.2.2.2.2.2.1 = 8) (cells slots : Nat) (hcc : cells ≤ 1000) (hss : slots ≤ 100000) : Z κ γ 4 σM cells slots Q 851 [(0, .float 0), (1, .ref 2), (2, .ref 33), (3, .int 0)] [] := by
  have fin := p1_fin κ γ Q nm O hrc hrs hend hL8
  refine z_aload_n (pc := 851) O dL_law_851 rfl ?_
  refine z_aloadS (pc := 852) O dL_law_852 rfl ?_
  refine z_iload_n (pc := 853) O dL_law_853 rfl ?_
  refine z_iconst (pc := 854) (v := 1) O dL_law_854 (by decide) ?_
  refine z_iadd (pc := 855) O dL_law_855 ?_
  refine z_topv (pc := 856) (1) (by decide) ?_
  refine z_sld (pc := 856) 1 O rfl (by rw [hL8]; decide) (by rw [hL8]; decide) dL_law_856 ?_
  refine z_aloadS (pc := 857) O dL_law_857 rfl ?_
  refine z_iload_n (pc := 858) O dL_law_858 rfl ?_
  refine z_iconst (pc := 859) (v := 2) O dL_law_859 (by decide) ?_
  refine z_iadd (pc := 860) O dL_law_860 ?_
  refine z_topv (pc := 861) (2) (by decide) ?_
  refine z_sld (pc := 861) 2 O rfl (by rw [hL8]; decide) (by rw [hL8]; decide) dL_law_861 ?_
  refine z_aloadS (pc := 862) O dL_law_862 rfl ?_
  refine z_iload_n (pc := 863) O dL_law_863 rfl ?_
  refine z_iconst (pc := 864) (v := 3) O dL_law_864 (by decide) ?_
  refine z_iadd (pc := 865) O dL_law_865 ?_
  refine z_topv (pc := 866) (3) (by decide) ?_
  refine z_sld (pc := 866) 3 O rfl (by rw [hL8]; decide) (by rw [hL8]; decide) dL_law_866 ?_
  refine z_callV (pc := 867) O cl_L_90 (p1x_has _ _ fr_σM _ _ _) (by decide) (jo_2 lay_σM) kc_8 rfl rfl (Nat.le_of_ble_eq_true rfl) ⟨by rw [hrc]; omega, by rw [hrs]; omega⟩ dL_law_867 (fun r τ hp => ?_)
  obtain ⟨rfl, FM⟩ := hp
  refine z_aload_n (pc := 870) O dL_law_870 rfl ?_
  refine z_aloadS (pc := 871) O dL_law_871 rfl ?_
  refine z_iload_n (pc := 872) O dL_law_872 rfl ?_
  refine z_iconst (pc := 873) (v := 1) O dL_law_873 (by decide) ?_
  refine z_iadd (pc := 874) O dL_law_874 ?_
  refine z_topv (pc := 875) (1) (by decide) ?_
  refine z_sld (pc := 875) 1 O rfl (by rw [hL8]; decide) (by rw [hL8]; decide) dL_law_875 ?_
  refine z_aloadS (pc := 876) O dL_law_876 rfl ?_
  refine z_iload_n (pc := 877) O dL_law_877 rfl ?_
  refine z_iconst (pc := 878) (v := 2) O dL_law_878 (by decide) ?_
  refine z_iadd (pc := 879) O dL_law_879 ?_
  refine z_topv (pc := 880) (2) (by decide) ?_
  refine z_sld (pc := 880) 2 O rfl (by rw [hL8]; decide) (by rw [hL8]; decide) dL_law_880 ?_
  refine z_aloadS (pc := 881) O dL_law_881 rfl ?_
  refine z_iload_n (pc := 882) O dL_law_882 rfl ?_
  refine z_iconst (pc := 883) (v := 3) O dL_law_883 (by decide) ?_
  refine z_iadd (pc := 884) O dL_law_884 ?_
  refine z_topv (pc := 885) (3) (by decide) ?_
  refine z_sld (pc := 885) 3 O rfl (by rw [hL8]; decide) (by rw [hL8]; decide) dL_law_885 ?_
  refine z_callV (pc := 886) O cl_L_93 (p1m_has _ _ FM _ _ _) (by decide) (jo_33 FM.1) kc_9 rfl rfl (Nat.le_of_ble_eq_true rfl) ⟨by rw [hrc]; omega, by rw [hrs]; omega⟩ dL_law_886 (fun r τ hp => ?_)
  obtain rfl := hp
  refine z_icmp_eq (pc := 889) (tgt := 1049) O dL_law_889 (by decide) (fun h889 => ?_) (fun h889 => ?_)
  · exact fin _ _ _ (by omega) (by omega)
  · exact absurd rfl h889
set_option maxHeartbeats 4000000 in
set_option maxRecDepth 20000 in
theorem p1_case18 (κ : Kx) (γ : Gh) (Q : State → Prop) (nm : String) (O : OK κ γ code 4 "BloodPriceLaw" 2000 ret nm) (hrc : κ.2.2.2.1.cells = 600000) (hrs : κ.2.2.2.1.slots = 7302250) (hend : ∀ (σ : VH) (cells slots : Nat) (ls : List (Nat × Value)), cells ≤ 600000 → slots ≤ 7302250 → Z κ γ 4 σ cells slots Q 1056 ls [.int 1]) (hL8 : γ.2.2.2.2.2.2.1 = 8) (cells slots : Nat) (hcc : cells ≤ 1000) (hss : slots ≤ 100000) : Z κ γ 4 σM cells slots Q 894 [(0, .float 0), (1, .ref 2), (2, .ref 33), (3, .int 0)] [] := by
  have fin := p1_fin κ γ Q nm O hrc hrs hend hL8
  refine z_aload_n (pc := 894) O dL_law_894 rfl ?_
  refine z_aloadS (pc := 895) O dL_law_895 rfl ?_
  refine z_iload_n (pc := 896) O dL_law_896 rfl ?_
  refine z_iconst (pc := 897) (v := 1) O dL_law_897 (by decide) ?_
  refine z_iadd (pc := 898) O dL_law_898 ?_
  refine z_topv (pc := 899) (1) (by decide) ?_
  refine z_sld (pc := 899) 1 O rfl (by rw [hL8]; decide) (by rw [hL8]; decide) dL_law_899 ?_
  refine z_callV (pc := 900) O cl_L_94 (p1x_judge _ _ fr_σM _) (by decide) (jo_2 lay_σM) kc_8 rfl rfl (Nat.le_of_ble_eq_true rfl) ⟨by rw [hrc]; omega, by rw [hrs]; omega⟩ dL_law_900 (fun r τ hp => ?_)
  obtain ⟨rfl, FM⟩ := hp
  refine z_aload_n (pc := 903) O dL_law_903 rfl ?_
  refine z_aloadS (pc := 904) O dL_law_904 rfl ?_
  refine z_iload_n (pc := 905) O dL_law_905 rfl ?_
  refine z_iconst (pc := 906) (v := 1) O dL_law_906 (by decide) ?_
  refine z_iadd (pc := 907) O dL_law_907 ?_
  refine z_topv (pc := 908) (1) (by decide) ?_
  refine z_sld (pc := 908) 1 O rfl (by rw [hL8]; decide) (by rw [hL8]; decide) dL_law_908 ?_
  refine z_callV (pc := 909) O cl_L_97 (p1m_judge _ _ FM _) (by decide) (jo_33 FM.1) kc_9 rfl rfl (Nat.le_of_ble_eq_true rfl) ⟨by rw [hrc]; omega, by rw [hrs]; omega⟩ dL_law_909 (fun r τ hp => ?_)
  obtain rfl := hp
  refine z_icmp_eq (pc := 912) (tgt := 1049) O dL_law_912 (by decide) (fun h912 => ?_) (fun h912 => ?_)
  · exact fin _ _ _ (by omega) (by omega)
  · exact absurd rfl h912
set_option maxHeartbeats 4000000 in
set_option maxRecDepth 20000 in
theorem p1_case19 (κ : Kx) (γ : Gh) (Q : State → Prop) (nm : String) (O : OK κ γ code 4 "BloodPriceLaw" 2000 ret nm) (hrc : κ.2.2.2.1.cells = 600000) (hrs : κ.2.2.2.1.slots = 7302250) (hend : ∀ (σ : VH) (cells slots : Nat) (ls : List (Nat × Value)), cells ≤ 600000 → slots ≤ 7302250 → Z κ γ 4 σ cells slots Q 1056 ls [.int 1]) (hL8 : γ.2.2.2.2.2.2.1 = 8) (cells slots : Nat) (hcc : cells ≤ 1000) (hss : slots ≤ 100000) : Z κ γ 4 σM cells slots Q 917 [(0, .float 0), (1, .ref 2), (2, .ref 33), (3, .int 0)] [] := by
  have fin := p1_fin κ γ Q nm O hrc hrs hend hL8
  refine z_aload_n (pc := 917) O dL_law_917 rfl ?_
  refine z_aloadS (pc := 918) O dL_law_918 rfl ?_
  refine z_iload_n (pc := 919) O dL_law_919 rfl ?_
  refine z_iconst (pc := 920) (v := 1) O dL_law_920 (by decide) ?_
  refine z_iadd (pc := 921) O dL_law_921 ?_
  refine z_topv (pc := 922) (1) (by decide) ?_
  refine z_sld (pc := 922) 1 O rfl (by rw [hL8]; decide) (by rw [hL8]; decide) dL_law_922 ?_
  refine z_aloadS (pc := 923) O dL_law_923 rfl ?_
  refine z_iload_n (pc := 924) O dL_law_924 rfl ?_
  refine z_iconst (pc := 925) (v := 2) O dL_law_925 (by decide) ?_
  refine z_iadd (pc := 926) O dL_law_926 ?_
  refine z_topv (pc := 927) (2) (by decide) ?_
  refine z_sld (pc := 927) 2 O rfl (by rw [hL8]; decide) (by rw [hL8]; decide) dL_law_927 ?_
  refine z_callV (pc := 928) O cl_L_98 (p1x_rate _ _ fr_σM _ _) (by decide) (jo_2 lay_σM) kc_8 rfl rfl (Nat.le_of_ble_eq_true rfl) ⟨by rw [hrc]; omega, by rw [hrs]; omega⟩ dL_law_928 (fun r τ hp => ?_)
  obtain ⟨rfl, FM⟩ := hp
  refine z_aload_n (pc := 931) O dL_law_931 rfl ?_
  refine z_aloadS (pc := 932) O dL_law_932 rfl ?_
  refine z_iload_n (pc := 933) O dL_law_933 rfl ?_
  refine z_iconst (pc := 934) (v := 1) O dL_law_934 (by decide) ?_
  refine z_iadd (pc := 935) O dL_law_935 ?_
  refine z_topv (pc := 936) (1) (by decide) ?_
  refine z_sld (pc := 936) 1 O rfl (by rw [hL8]; decide) (by rw [hL8]; decide) dL_law_936 ?_
  refine z_aloadS (pc := 937) O dL_law_937 rfl ?_
  refine z_iload_n (pc := 938) O dL_law_938 rfl ?_
  refine z_iconst (pc := 939) (v := 2) O dL_law_939 (by decide) ?_
  refine z_iadd (pc := 940) O dL_law_940 ?_
  refine z_topv (pc := 941) (2) (by decide) ?_
  refine z_sld (pc := 941) 2 O rfl (by rw [hL8]; decide) (by rw [hL8]; decide) dL_law_941 ?_
  refine z_callV (pc := 942) O cl_L_101 (p1m_rate _ _ FM _ _) (by decide) (jo_33 FM.1) kc_9 rfl rfl (Nat.le_of_ble_eq_true rfl) ⟨by rw [hrc]; omega, by rw [hrs]; omega⟩ dL_law_942 (fun r τ hp => ?_)
  obtain rfl := hp
  refine z_icmp_eq (pc := 945) (tgt := 1049) O dL_law_945 (by decide) (fun h945 => ?_) (fun h945 => ?_)
  · exact fin _ _ _ (by omega) (by omega)
  · exact absurd rfl h945
set_option maxHeartbeats 4000000 in
set_option maxRecDepth 20000 in
theorem p1_case20 (κ : Kx) (γ : Gh) (Q : State → Prop) (nm : String) (O : OK κ γ code 4 "BloodPriceLaw" 2000 ret nm) (hrc : κ.2.2.2.1.cells = 600000) (hrs : κ.2.2.2.1.slots = 7302250) (hend : ∀ (σ : VH) (cells slots : Nat) (ls : List (Nat × Value)), cells ≤ 600000 → slots ≤ 7302250 → Z κ γ 4 σ cells slots Q 1056 ls [.int 1]) (hL8 : γ.2.2.2.2.2.2.1 = 8) (cells slots : Nat) (hcc : cells ≤ 1000) (hss : slots ≤ 100000) : Z κ γ 4 σM cells slots Q 950 [(0, .float 0), (1, .ref 2), (2, .ref 33), (3, .int 0)] [] := by
  have fin := p1_fin κ γ Q nm O hrc hrs hend hL8
  refine z_aload_n (pc := 950) O dL_law_950 rfl ?_
  refine z_aloadS (pc := 951) O dL_law_951 rfl ?_
  refine z_iload_n (pc := 952) O dL_law_952 rfl ?_
  refine z_iconst (pc := 953) (v := 1) O dL_law_953 (by decide) ?_
  refine z_iadd (pc := 954) O dL_law_954 ?_
  refine z_topv (pc := 955) (1) (by decide) ?_
  refine z_sld (pc := 955) 1 O rfl (by rw [hL8]; decide) (by rw [hL8]; decide) dL_law_955 ?_
  refine z_aloadS (pc := 956) O dL_law_956 rfl ?_
  refine z_iload_n (pc := 957) O dL_law_957 rfl ?_
  refine z_iconst (pc := 958) (v := 2) O dL_law_958 (by decide) ?_
  refine z_iadd (pc := 959) O dL_law_959 ?_
  refine z_topv (pc := 960) (2) (by decide) ?_
  refine z_sld (pc := 960) 2 O rfl (by rw [hL8]; decide) (by rw [hL8]; decide) dL_law_960 ?_
  refine z_aloadS (pc := 961) O dL_law_961 rfl ?_
  refine z_iload_n (pc := 962) O dL_law_962 rfl ?_
  refine z_iconst (pc := 963) (v := 3) O dL_law_963 (by decide) ?_
  refine z_iadd (pc := 964) O dL_law_964 ?_
  refine z_topv (pc := 965) (3) (by decide) ?_
  refine z_sld (pc := 965) 3 O rfl (by rw [hL8]; decide) (by rw [hL8]; decide) dL_law_965 ?_
  refine z_callV (pc := 966) O cl_L_102 (p1x_pay _ _ fr_σM _ _ _) (by decide) (jo_2 lay_σM) kc_8 rfl rfl (Nat.le_of_ble_eq_true rfl) ⟨by rw [hrc]; omega, by rw [hrs]; omega⟩ dL_law_966 (fun r τ hp => ?_)
  obtain ⟨rfl, FM⟩ := hp
  refine z_aload_n (pc := 969) O dL_law_969 rfl ?_
  refine z_aloadS (pc := 970) O dL_law_970 rfl ?_
  refine z_iload_n (pc := 971) O dL_law_971 rfl ?_
  refine z_iconst (pc := 972) (v := 1) O dL_law_972 (by decide) ?_
  refine z_iadd (pc := 973) O dL_law_973 ?_
  refine z_topv (pc := 974) (1) (by decide) ?_
  refine z_sld (pc := 974) 1 O rfl (by rw [hL8]; decide) (by rw [hL8]; decide) dL_law_974 ?_
  refine z_aloadS (pc := 975) O dL_law_975 rfl ?_
  refine z_iload_n (pc := 976) O dL_law_976 rfl ?_
  refine z_iconst (pc := 977) (v := 2) O dL_law_977 (by decide) ?_
  refine z_iadd (pc := 978) O dL_law_978 ?_
  refine z_topv (pc := 979) (2) (by decide) ?_
  refine z_sld (pc := 979) 2 O rfl (by rw [hL8]; decide) (by rw [hL8]; decide) dL_law_979 ?_
  refine z_aloadS (pc := 980) O dL_law_980 rfl ?_
  refine z_iload_n (pc := 981) O dL_law_981 rfl ?_
  refine z_iconst (pc := 982) (v := 3) O dL_law_982 (by decide) ?_
  refine z_iadd (pc := 983) O dL_law_983 ?_
  refine z_topv (pc := 984) (3) (by decide) ?_
  refine z_sld (pc := 984) 3 O rfl (by rw [hL8]; decide) (by rw [hL8]; decide) dL_law_984 ?_
  refine z_callV (pc := 985) O cl_L_105 (p1m_pay _ _ FM _ _ _) (by decide) (jo_33 FM.1) kc_9 rfl rfl (Nat.le_of_ble_eq_true rfl) ⟨by rw [hrc]; omega, by rw [hrs]; omega⟩ dL_law_985 (fun r τ hp => ?_)
  obtain rfl := hp
  refine z_icmp_eq (pc := 988) (tgt := 1049) O dL_law_988 (by decide) (fun h988 => ?_) (fun h988 => ?_)
  · exact fin _ _ _ (by omega) (by omega)
  · exact absurd rfl h988
set_option maxHeartbeats 4000000 in
set_option maxRecDepth 20000 in
theorem p1_case21 (κ : Kx) (γ : Gh) (Q : State → Prop) (nm : String) (O : OK κ γ code 4 "BloodPriceLaw" 2000 ret nm) (hrc : κ.2.2.2.1.cells = 600000) (hrs : κ.2.2.2.1.slots = 7302250) (hend : ∀ (σ : VH) (cells slots : Nat) (ls : List (Nat × Value)), cells ≤ 600000 → slots ≤ 7302250 → Z κ γ 4 σ cells slots Q 1056 ls [.int 1]) (hL8 : γ.2.2.2.2.2.2.1 = 8) (cells slots : Nat) (hcc : cells ≤ 1000) (hss : slots ≤ 100000) : Z κ γ 4 σM cells slots Q 993 [(0, .float 0), (1, .ref 2), (2, .ref 33), (3, .int 0)] [] := by
  have fin := p1_fin κ γ Q nm O hrc hrs hend hL8
  refine z_aload_n (pc := 993) O dL_law_993 rfl ?_
  refine z_aloadS (pc := 994) O dL_law_994 rfl ?_
  refine z_iload_n (pc := 995) O dL_law_995 rfl ?_
  refine z_iconst (pc := 996) (v := 1) O dL_law_996 (by decide) ?_
  refine z_iadd (pc := 997) O dL_law_997 ?_
  refine z_topv (pc := 998) (1) (by decide) ?_
  refine z_sld (pc := 998) 1 O rfl (by rw [hL8]; decide) (by rw [hL8]; decide) dL_law_998 ?_
  refine z_aloadS (pc := 999) O dL_law_999 rfl ?_
  refine z_iload_n (pc := 1000) O dL_law_1000 rfl ?_
  refine z_iconst (pc := 1001) (v := 2) O dL_law_1001 (by decide) ?_
  refine z_iadd (pc := 1002) O dL_law_1002 ?_
  refine z_topv (pc := 1003) (2) (by decide) ?_
  refine z_sld (pc := 1003) 2 O rfl (by rw [hL8]; decide) (by rw [hL8]; decide) dL_law_1003 ?_
  refine z_callV (pc := 1004) O cl_L_106 (p1x_owed _ _ fr_σM _ _) (by decide) (jo_2 lay_σM) kc_8 rfl rfl (Nat.le_of_ble_eq_true rfl) ⟨by rw [hrc]; omega, by rw [hrs]; omega⟩ dL_law_1004 (fun r τ hp => ?_)
  obtain ⟨rfl, FM⟩ := hp
  refine z_aload_n (pc := 1007) O dL_law_1007 rfl ?_
  refine z_aloadS (pc := 1008) O dL_law_1008 rfl ?_
  refine z_iload_n (pc := 1009) O dL_law_1009 rfl ?_
  refine z_iconst (pc := 1010) (v := 1) O dL_law_1010 (by decide) ?_
  refine z_iadd (pc := 1011) O dL_law_1011 ?_
  refine z_topv (pc := 1012) (1) (by decide) ?_
  refine z_sld (pc := 1012) 1 O rfl (by rw [hL8]; decide) (by rw [hL8]; decide) dL_law_1012 ?_
  refine z_aloadS (pc := 1013) O dL_law_1013 rfl ?_
  refine z_iload_n (pc := 1014) O dL_law_1014 rfl ?_
  refine z_iconst (pc := 1015) (v := 2) O dL_law_1015 (by decide) ?_
  refine z_iadd (pc := 1016) O dL_law_1016 ?_
  refine z_topv (pc := 1017) (2) (by decide) ?_
  refine z_sld (pc := 1017) 2 O rfl (by rw [hL8]; decide) (by rw [hL8]; decide) dL_law_1017 ?_
  refine z_callV (pc := 1018) O cl_L_109 (p1m_owed _ _ FM _ _) (by decide) (jo_33 FM.1) kc_9 rfl rfl (Nat.le_of_ble_eq_true rfl) ⟨by rw [hrc]; omega, by rw [hrs]; omega⟩ dL_law_1018 (fun r τ hp => ?_)
  obtain rfl := hp
  refine z_icmp_eq (pc := 1021) (tgt := 1049) O dL_law_1021 (by decide) (fun h1021 => ?_) (fun h1021 => ?_)
  · exact fin _ _ _ (by omega) (by omega)
  · exact absurd rfl h1021
set_option maxHeartbeats 4000000 in
set_option maxRecDepth 20000 in
theorem p1_case22 (κ : Kx) (γ : Gh) (Q : State → Prop) (nm : String) (O : OK κ γ code 4 "BloodPriceLaw" 2000 ret nm) (hrc : κ.2.2.2.1.cells = 600000) (hrs : κ.2.2.2.1.slots = 7302250) (hend : ∀ (σ : VH) (cells slots : Nat) (ls : List (Nat × Value)), cells ≤ 600000 → slots ≤ 7302250 → Z κ γ 4 σ cells slots Q 1056 ls [.int 1]) (hL8 : γ.2.2.2.2.2.2.1 = 8) (cells slots : Nat) (hcc : cells ≤ 1000) (hss : slots ≤ 100000) : Z κ γ 4 σM cells slots Q 1026 [(0, .float 0), (1, .ref 2), (2, .ref 33), (3, .int 0)] [] := by
  have fin := p1_fin κ γ Q nm O hrc hrs hend hL8
  refine z_aload_n (pc := 1026) O dL_law_1026 rfl ?_
  refine z_aloadS (pc := 1027) O dL_law_1027 rfl ?_
  refine z_iload_n (pc := 1028) O dL_law_1028 rfl ?_
  refine z_iconst (pc := 1029) (v := 1) O dL_law_1029 (by decide) ?_
  refine z_iadd (pc := 1030) O dL_law_1030 ?_
  refine z_topv (pc := 1031) (1) (by decide) ?_
  refine z_sld (pc := 1031) 1 O rfl (by rw [hL8]; decide) (by rw [hL8]; decide) dL_law_1031 ?_
  refine z_callV (pc := 1032) O cl_L_110 (p1x_about _ _ fr_σM _) (by decide) (jo_2 lay_σM) kc_8 rfl rfl (Nat.le_of_ble_eq_true rfl) ⟨by rw [hrc]; omega, by rw [hrs]; omega⟩ dL_law_1032 (fun r τ hp => ?_)
  obtain ⟨rfl, FM⟩ := hp
  refine z_aload_n (pc := 1035) O dL_law_1035 rfl ?_
  refine z_aloadS (pc := 1036) O dL_law_1036 rfl ?_
  refine z_iload_n (pc := 1037) O dL_law_1037 rfl ?_
  refine z_iconst (pc := 1038) (v := 1) O dL_law_1038 (by decide) ?_
  refine z_iadd (pc := 1039) O dL_law_1039 ?_
  refine z_topv (pc := 1040) (1) (by decide) ?_
  refine z_sld (pc := 1040) 1 O rfl (by rw [hL8]; decide) (by rw [hL8]; decide) dL_law_1040 ?_
  refine z_callV (pc := 1041) O cl_L_113 (p1m_about _ _ FM _) (by decide) (jo_33 FM.1) kc_9 rfl rfl (Nat.le_of_ble_eq_true rfl) ⟨by rw [hrc]; omega, by rw [hrs]; omega⟩ dL_law_1041 (fun r τ hp => ?_)
  obtain rfl := hp
  refine z_icmp_eq (pc := 1044) (tgt := 1049) O dL_law_1044 (by decide) (fun h1044 => ?_) (fun h1044 => ?_)
  · exact fin _ _ _ (by omega) (by omega)
  · exact absurd rfl h1044
set_option maxHeartbeats 4000000 in
set_option maxRecDepth 20000 in
theorem p1_law (L : Nat) (hL : L ≤ 8) (κ : Kx) (γ : Gh) (Q : State → Prop) (nm : String) (O : OK κ γ code 4 "BloodPriceLaw" 2000 ret nm) (hrc : κ.2.2.2.1.cells = 600000) (hrs : κ.2.2.2.1.slots = 7302250) (hend : ∀ (σ : VH) (cells slots : Nat) (ls : List (Nat × Value)), cells ≤ 600000 → slots ≤ 7302250 → Z κ γ 4 σ cells slots Q 1056 ls [.int 1]) (hLγ : γ.2.2.2.2.2.2.1 = L) : Z κ γ 4 σ00 0 0 Q 0 [(0, .float 0)] [] := by
  refine z_new (pc := 0) O kc_8 dv_8 tw_13 tw_14 tw_1 ⟨by rw [hrc]; decide, by rw [hrs]; decide⟩ dL_law_0 ?_
  refine z_top (st' := [.ref 2]) rfl ?_
  refine z_dup (pc := 3) O dL_law_3 rfl ?_
  refine z_callI (pc := 4) O cl_L_9 (ct_X8_init _ 2 _ ⟨by decide, by decide, rfl⟩) (by decide) rfl rfl (Nat.le_of_ble_eq_true rfl) ⟨by rw [hrc]; decide, by rw [hrs]; decide⟩ dL_law_4 (fun r τ hp => ?_)
  obtain ⟨rfl, rfl⟩ := hp
  refine z_heap (τ := σX) rfl ?_
  refine z_top (st' := [.ref 2]) rfl ?_
  refine z_astore_n (pc := 7) _ O dL_law_7 (by decide) rfl ?_
  refine z_new (pc := 8) O kc_9 dv_9 tw_753 tw_754 tw_7 ⟨by rw [hrc]; decide, by rw [hrs]; decide⟩ dL_law_8 ?_
  refine z_top (st' := [.ref 33]) (by rw [hN_σX]) ?_
  refine z_dup (pc := 11) O dL_law_11 rfl ?_
  refine z_callI (pc := 12) O cl_L_12 (ct_X9_init _ 33 _ ⟨by decide, by rw [hN_sN, hN_σX]; decide, by rw [hS_sN, if_pos (by rw [hN_σX])]⟩) (by decide) rfl rfl (Nat.le_of_ble_eq_true rfl) ⟨by rw [hrc]; decide, by rw [hrs]; decide⟩ dL_law_12 (fun r τ hp => ?_)
  obtain ⟨rfl, rfl⟩ := hp
  refine z_heap (τ := σM) rfl ?_
  refine z_top (st' := [.ref 33]) rfl ?_
  refine z_astore_n (pc := 15) _ O dL_law_15 (by decide) rfl ?_
  refine z_iconst (pc := 16) (v := 0) O dL_law_16 (by decide) ?_
  refine z_istore_n (pc := 17) _ O dL_law_17 (by decide) rfl ?_
  refine z_lk [(0, .float 0), (1, .ref 2), (2, .ref 33), (3, .int 0)] ⟨rfl, rfl, rfl, rfl, trivial⟩ ?_
  refine z_iload_n (pc := 18) O dL_law_18 rfl ?_
  refine z_aloadS (pc := 19) O dL_law_19 rfl ?_
  refine z_slen (pc := 20) O dL_law_20 ?_
  refine z_bipush (pc := 21) (v := 8) O dL_law_21 (by decide) ?_
  refine z_isub (pc := 23) O dL_law_23 ?_
  refine z_icmp_gt (pc := 24) (tgt := 1055) O dL_law_24 (by decide) (fun h24 => ?_) (fun h24 => ?_)
  · refine z_iconst (pc := 1055) (v := 1) O dL_law_1055 (by decide) ?_
    exact hend _ _ _ _ (by decide) (by decide)
  · have hL8 : γ.2.2.2.2.2.2.1 = 8 := by
      rw [hLγ] at h24 ⊢
      have e1 : (nI L - 8).toInt = (L : Int) - 8 := by
        have e2 := nI_toInt (n := L) (by omega)
        have e3 : (8 : Int32).toInt = 8 := by decide
        rw [subI (by omega) (by omega), e2, e3]
      rw [Int32.lt_iff_toInt_lt, e1] at h24
      have e4 : (0 : Int32).toInt = 0 := by decide
      omega
    refine z_aloadS (pc := 27) O dL_law_27 rfl ?_
    refine z_iload_n (pc := 28) O dL_law_28 rfl ?_
    refine z_sld (pc := 29) 0 O rfl (by rw [hL8]; decide) (by rw [hL8]; decide) dL_law_29 ?_
    refine z_bipush (pc := 30) (v := 31) O dL_law_30 (by decide) ?_
    refine z_iand (pc := 32) O dL_law_32 ?_
    refine z_topi (fun w ew => ?_)
    by_cases hsw : w.toInt < 0 ∨ 22 < w.toInt
    · refine z_tableOut (pc := 33) (tgt := 1049) O dL_law_33 hsw (by decide) ?_
      exact p1_fin κ γ Q nm O hrc hrs hend hL8 _ _ _ (by decide) (by decide)
    · obtain ⟨hs1, hs2⟩ := not_or.mp hsw
      have hsx : w.toInt = 0 ∨ w.toInt = 1 ∨ w.toInt = 2 ∨ w.toInt = 3 ∨ w.toInt = 4 ∨ w.toInt = 5 ∨ w.toInt = 6 ∨ w.toInt = 7 ∨ w.toInt = 8 ∨ w.toInt = 9 ∨ w.toInt = 10 ∨ w.toInt = 11 ∨ w.toInt = 12 ∨ w.toInt = 13 ∨ w.toInt = 14 ∨ w.toInt = 15 ∨ w.toInt = 16 ∨ w.toInt = 17 ∨ w.toInt = 18 ∨ w.toInt = 19 ∨ w.toInt = 20 ∨ w.toInt = 21 ∨ w.toInt = 22 := by omega
      rcases hsx with hsx | hsx | hsx | hsx | hsx | hsx | hsx | hsx | hsx | hsx | hsx | hsx | hsx | hsx | hsx | hsx | hsx | hsx | hsx | hsx | hsx | hsx | hsx
      · refine z_tableIn (pc := 33) (tgt := 140) O dL_law_33 hs1 hs2 (by rw [hsx]; rfl) (by decide) ?_
        exact p1_case0 κ γ Q nm O hrc hrs hend hL8 _ _ (by decide) (by decide)
      · refine z_tableIn (pc := 33) (tgt := 203) O dL_law_33 hs1 hs2 (by rw [hsx]; rfl) (by decide) ?_
        exact p1_case1 κ γ Q nm O hrc hrs hend hL8 _ _ (by decide) (by decide)
      · refine z_tableIn (pc := 33) (tgt := 226) O dL_law_33 hs1 hs2 (by rw [hsx]; rfl) (by decide) ?_
        exact p1_case2 κ γ Q nm O hrc hrs hend hL8 _ _ (by decide) (by decide)
      · refine z_tableIn (pc := 33) (tgt := 259) O dL_law_33 hs1 hs2 (by rw [hsx]; rfl) (by decide) ?_
        exact p1_case3 κ γ Q nm O hrc hrs hend hL8 _ _ (by decide) (by decide)
      · refine z_tableIn (pc := 33) (tgt := 282) O dL_law_33 hs1 hs2 (by rw [hsx]; rfl) (by decide) ?_
        exact p1_case4 κ γ Q nm O hrc hrs hend hL8 _ _ (by decide) (by decide)
      · refine z_tableIn (pc := 33) (tgt := 315) O dL_law_33 hs1 hs2 (by rw [hsx]; rfl) (by decide) ?_
        exact p1_case5 κ γ Q nm O hrc hrs hend hL8 _ _ (by decide) (by decide)
      · refine z_tableIn (pc := 33) (tgt := 358) O dL_law_33 hs1 hs2 (by rw [hsx]; rfl) (by decide) ?_
        exact p1_case6 κ γ Q nm O hrc hrs hend hL8 _ _ (by decide) (by decide)
      · refine z_tableIn (pc := 33) (tgt := 391) O dL_law_33 hs1 hs2 (by rw [hsx]; rfl) (by decide) ?_
        exact p1_case7 κ γ Q nm O hrc hrs hend hL8 _ _ (by decide) (by decide)
      · refine z_tableIn (pc := 33) (tgt := 434) O dL_law_33 hs1 hs2 (by rw [hsx]; rfl) (by decide) ?_
        exact p1_case8 κ γ Q nm O hrc hrs hend hL8 _ _ (by decide) (by decide)
      · refine z_tableIn (pc := 33) (tgt := 477) O dL_law_33 hs1 hs2 (by rw [hsx]; rfl) (by decide) ?_
        exact p1_case9 κ γ Q nm O hrc hrs hend hL8 _ _ (by decide) (by decide)
      · refine z_tableIn (pc := 33) (tgt := 510) O dL_law_33 hs1 hs2 (by rw [hsx]; rfl) (by decide) ?_
        exact p1_case10 κ γ Q nm O hrc hrs hend hL8 _ _ (by decide) (by decide)
      · refine z_tableIn (pc := 33) (tgt := 563) O dL_law_33 hs1 hs2 (by rw [hsx]; rfl) (by decide) ?_
        exact p1_case11 κ γ Q nm O hrc hrs hend hL8 _ _ (by decide) (by decide)
      · refine z_tableIn (pc := 33) (tgt := 586) O dL_law_33 hs1 hs2 (by rw [hsx]; rfl) (by decide) ?_
        exact p1_case12 κ γ Q nm O hrc hrs hend hL8 _ _ (by decide) (by decide)
      · refine z_tableIn (pc := 33) (tgt := 709) O dL_law_33 hs1 hs2 (by rw [hsx]; rfl) (by decide) ?_
        exact p1_case13 κ γ Q nm O hrc hrs hend hL8 _ _ (by decide) (by decide)
      · refine z_tableIn (pc := 33) (tgt := 742) O dL_law_33 hs1 hs2 (by rw [hsx]; rfl) (by decide) ?_
        exact p1_case14 κ γ Q nm O hrc hrs hend hL8 _ _ (by decide) (by decide)
      · refine z_tableIn (pc := 33) (tgt := 775) O dL_law_33 hs1 hs2 (by rw [hsx]; rfl) (by decide) ?_
        exact p1_case15 κ γ Q nm O hrc hrs hend hL8 _ _ (by decide) (by decide)
      · refine z_tableIn (pc := 33) (tgt := 808) O dL_law_33 hs1 hs2 (by rw [hsx]; rfl) (by decide) ?_
        exact p1_case16 κ γ Q nm O hrc hrs hend hL8 _ _ (by decide) (by decide)
      · refine z_tableIn (pc := 33) (tgt := 851) O dL_law_33 hs1 hs2 (by rw [hsx]; rfl) (by decide) ?_
        exact p1_case17 κ γ Q nm O hrc hrs hend hL8 _ _ (by decide) (by decide)
      · refine z_tableIn (pc := 33) (tgt := 894) O dL_law_33 hs1 hs2 (by rw [hsx]; rfl) (by decide) ?_
        exact p1_case18 κ γ Q nm O hrc hrs hend hL8 _ _ (by decide) (by decide)
      · refine z_tableIn (pc := 33) (tgt := 917) O dL_law_33 hs1 hs2 (by rw [hsx]; rfl) (by decide) ?_
        exact p1_case19 κ γ Q nm O hrc hrs hend hL8 _ _ (by decide) (by decide)
      · refine z_tableIn (pc := 33) (tgt := 950) O dL_law_33 hs1 hs2 (by rw [hsx]; rfl) (by decide) ?_
        exact p1_case20 κ γ Q nm O hrc hrs hend hL8 _ _ (by decide) (by decide)
      · refine z_tableIn (pc := 33) (tgt := 993) O dL_law_33 hs1 hs2 (by rw [hsx]; rfl) (by decide) ?_
        exact p1_case21 κ γ Q nm O hrc hrs hend hL8 _ _ (by decide) (by decide)
      · refine z_tableIn (pc := 33) (tgt := 1026) O dL_law_33 hs1 hs2 (by rw [hsx]; rfl) (by decide) ?_
        exact p1_case22 κ γ Q nm O hrc hrs hend hL8 _ _ (by decide) (by decide)
set_option maxHeartbeats 4000000 in
theorem p1_start {p : Program} {e : Env} {s : State} {m : MethodId} {below : List Frame} {meth : Method} {c : Code} (l : Launch) {b L : Nat} {xs : Nat → Int32} (hL : L ≤ 8) (C0 : lw_At p s m meth c b L xs) : W p l e room_1 s m #[Value.ref b] below meth c s.heap [] 0 0 (lw_Z below #[Value.ref b] s) (entryFrame m ([Value.ref b] : List Value).toArray 4) := by
  obtain ⟨γ, hV, hSt, hH, hB, hb, hLg, hxs⟩ := start_ok C0
  obtain ⟨hx, hbc, hr, hml, hown, hts, hX, hbl, hlocks, hgv⟩ := C0
  have O : OK (p, l, e, room_1, s, m, #[Value.ref b], below, meth, c) γ code 4 "BloodPriceLaw" 2000 ret meth.name := ⟨hx, hbc, hml, hown, gw_hts hts, hlocks, hV, hSt, ⟨Nat.le_of_ble_eq_true rfl, Nat.le_of_ble_eq_true rfl⟩, hr, rfl, by rw [hB]; exact Nat.le_refl _⟩
  have hl := lv_entry ([.ref b]) (n := 4) (Nat.le_of_ble_eq_true rfl)
  rw [lg_entry_eq]
  refine p1_law L hL (p, l, e, room_1, s, m, #[Value.ref b], below, meth, c) γ (lw_Z below #[Value.ref b] s) meth.name O rfl rfl ?_ hLg s.heap [] _ hH va_S.rf ?_
  · intro σ cells slots ls h1 h2 H locs la g1 g2 g3
    refine va_forget (fun q hq => ?_) (W.widen h1 h2 (lw_ret hx hbc hr hlocks dL_law_1056))
    have := g2.2.2 q hq
    rw [hB] at this
    exact this
  · show lv_has _ 4 [(0, .ref γ.2.2.2.2.2.1)]
    rw [hb]
    exact hl
