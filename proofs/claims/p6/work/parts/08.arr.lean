/-! rows of arrays, of what is new -/
theorem cellOf_i {γ : Gh} {σ : VH} {v kd len : Nat} (h : hS σ v = (kd, len)) (h1 : 10 ≤ kd) (h2 : kd < 23) : cellOf γ σ v = .inl (γ.2.2.2.2.1 kd, len, .inl (hI σ v)) := by
  unfold cellOf
  rw [h, if_neg (by omega), if_pos h2]
theorem cellOf_l {γ : Gh} {σ : VH} {v len : Nat} (h : hS σ v = (23, len)) : cellOf γ σ v = .inl (γ.2.2.2.2.1 23, len, .inr (.inl (hL σ v))) := by
  unfold cellOf
  rw [h, if_neg (by show ¬ (23 : Nat) < 10; decide), if_neg (by show ¬ (23 : Nat) < 23; decide), if_pos rfl]
theorem cellOf_q {γ : Gh} {σ : VH} {v kd len : Nat} (h : hS σ v = (kd, len)) (h1 : 24 ≤ kd) : cellOf γ σ v = .inl (γ.2.2.2.2.1 kd, len, .inr (.inr (.inr (.inr (fun j => (hR σ v j).map (ad γ)))))) := by
  unfold cellOf
  rw [h, if_neg (by show ¬ kd < 10; omega), if_neg (by show ¬ kd < 23; omega), if_neg (by show ¬ kd = 23; omega)]
theorem one_P {γ : Gh} {H : Heap} {a : Nat} {e : va_E} (h : va_at γ.1 classes (a, e) H) : va_P γ.1 classes [(a, e)] H := fun k q hq => by
  match k, hq with
  | 0, hq => cases hq; exact h
  | k + 1, hq => simp at hq
theorem in_of {i : Int32} {j len : Nat} (hi : i = nI j) (hj : j < len) (hl : len < 2147483648) : vp_in i len ∧ i.toNatClampNeg = j := by
  rw [hi]
  exact ⟨vp_in_nI hj hl, nI_clamp (by omega)⟩
theorem arrV_iset {cA : ClassId} {n j : Nat} {f g : Nat → Value} {x : Value} {H1 : Heap} {a : Nat} (e : H1[a]? = some ((arrV cA n f).setSlot j x)) (hg : ∀ q, g q = if q = j then x else f q) : H1[a]? = some (arrV cA n g) := by
  rw [e, arrV_store]
  congr 2
  funext q
  rw [hg q]
  unfold updV
  rfl
section ZA
variable {κ : Kx} {γ : Gh} {cc : ByteArray} {nL D : Nat} {own nm : String} {ret : Option FieldType} {σ : VH} {cells slots pc : Nat} {Q : State → Prop} {ls : List (Nat × Value)} {st : List Value}
theorem z_iald {v len : Nat} {i : Int32} (j : Nat) (O : OK κ γ cc nL own D ret nm) (ha : Ar σ v 22 len) (hi : i = nI j) (hj : j < len) (hl : len < 2147483648) (d : decode cc pc = .ok (.iaload, 1)) (kk : Z κ γ nL σ cells slots Q (pc + 1) ls (.int (hI σ v j) :: st)) : Z κ γ nL σ cells slots Q pc ls (.int i :: .ref v :: st) := by
  intro H locs la h1 h2 h3
  have hat := h1.2.2.1 v ha.1 ha.2.1
  rw [cellOf_i ha.2.2 (by decide) (by decide)] at hat
  obtain ⟨hin, hc⟩ := in_of hi hj hl
  refine va_iald O.1 O.2.1 O.2.2.2.2.2.2.1.1 (one_P hat) 0 2 rfl rfl hin d ?_
  rw [hc]
  exact kk H locs la h1 h2 h3
theorem z_bald {v len : Nat} {i : Int32} (j : Nat) (O : OK κ γ cc nL own D ret nm) (ha : Ar σ v 21 len) (hi : i = nI j) (hj : j < len) (hl : len < 2147483648) (d : decode cc pc = .ok (.baload, 1)) (kk : Z κ γ nL σ cells slots Q (pc + 1) ls (.int (hI σ v j) :: st)) : Z κ γ nL σ cells slots Q pc ls (.int i :: .ref v :: st) := by
  intro H locs la h1 h2 h3
  have hat := h1.2.2.1 v ha.1 ha.2.1
  rw [cellOf_i ha.2.2 (by decide) (by decide)] at hat
  obtain ⟨hin, hc⟩ := in_of hi hj hl
  refine va_bald O.1 O.2.1 O.2.2.2.2.2.2.1.1 (one_P hat) 0 1 rfl rfl hin d ?_
  rw [hc]
  exact kk H locs la h1 h2 h3
theorem z_zald {v len : Nat} {i : Int32} (j : Nat) (O : OK κ γ cc nL own D ret nm) (ha : Ar σ v 20 len) (hi : i = nI j) (hj : j < len) (hl : len < 2147483648) (d : decode cc pc = .ok (.baload, 1)) (kk : Z κ γ nL σ cells slots Q (pc + 1) ls (.int (hI σ v j) :: st)) : Z κ γ nL σ cells slots Q pc ls (.int i :: .ref v :: st) := by
  intro H locs la h1 h2 h3
  have hat := h1.2.2.1 v ha.1 ha.2.1
  rw [cellOf_i ha.2.2 (by decide) (by decide)] at hat
  obtain ⟨hin, hc⟩ := in_of hi hj hl
  refine va_zald O.1 O.2.1 O.2.2.2.2.2.2.1.1 (one_P hat) 0 0 rfl rfl hin d ?_
  rw [hc]
  exact kk H locs la h1 h2 h3
/-- a row of longs: a new one, or one of the two static rows -/
def ArL (σ : VH) (v len : Nat) : Prop := Ar σ v 23 len ∨ (v = 0 ∧ len = 21) ∨ (v = 1 ∧ len = 7)
theorem z_lald {v len : Nat} {i : Int32} (j : Nat) (O : OK κ γ cc nL own D ret nm) (ha : ArL σ v len) (hi : i = nI j) (hj : j < len) (hl : len < 2147483648) (d : decode cc pc = .ok (.laload, 1)) (kk : Z κ γ nL σ cells slots Q (pc + 1) ls (.long (hL σ v j) :: st)) : Z κ γ nL σ cells slots Q pc ls (.int i :: .ref v :: st) := by
  intro H locs la h1 h2 h3
  obtain ⟨hin, hc⟩ := in_of hi hj hl
  rcases ha with ha | ⟨rfl, rfl⟩ | ⟨rfl, rfl⟩
  · have hat := h1.2.2.1 v ha.1 ha.2.1
    rw [cellOf_l ha.2.2] at hat
    refine va_lald O.1 O.2.1 O.2.2.2.2.2.2.1.1 (one_P hat) 0 3 rfl rfl hin d ?_
    rw [hc]
    exact kk H locs la h1 h2 h3
  · refine va_tl O.1 O.2.1 O.2.2.2.2.2.2.2.1.2.2.1 h2 hin (v := .long (hL σ 0 j)) ?_ d (kk H locs la h1 h2 h3)
    rw [hc, h1.2.2.2.2.2.1]
  · refine va_tl O.1 O.2.1 O.2.2.2.2.2.2.2.1.2.2.2.1 h2 hin (v := .long (hL σ 1 j)) ?_ d (kk H locs la h1 h2 h3)
    rw [hc, h1.2.2.2.2.2.2]
theorem z_aald {v kd len t0 : Nat} {i : Int32} {C : String} (j : Nat) (O : OK κ γ cc nL own D ret nm) (ha : Ar σ v kd len) (hkd : 24 ≤ kd) (ht : (tysG γ)[t0]? = some (γ.2.2.2.2.1 kd, .object C)) (hi : i = nI j) (hj : j < len) (hl : len < 2147483648) (d : decode cc pc = .ok (.aaload, 1)) (kk : Z κ γ nL σ cells slots Q (pc + 1) ls (va_rf (hR σ v j) :: st)) : Z κ γ nL σ cells slots Q pc ls (.int i :: .ref v :: st) := by
  intro H locs la h1 h2 h3
  have hat := h1.2.2.1 v ha.1 ha.2.1
  rw [cellOf_q ha.2.2 hkd] at hat
  obtain ⟨hin, hc⟩ := in_of hi hj hl
  refine va_aldq O.1 O.2.1 O.2.2.2.2.2.2.1.1 (one_P hat) 0 t0 rfl ht hin d ?_
  rw [hc]
  have h9 := kk H locs la h1 h2 h3
  rw [List.map_cons, cv_rf] at h9
  exact h9
theorem z_alen {v kd len t0 : Nat} {n : Int32} {ty : FieldType} (O : OK κ γ cc nL own D ret nm) (ha : Ar σ v kd len) (hkd : 10 ≤ kd) (ht : (tysG γ)[t0]? = some (γ.2.2.2.2.1 kd, ty)) (hn : nI len = n) (d : decode cc pc = .ok (.arraylength, 1)) (kk : Z κ γ nL σ cells slots Q (pc + 1) ls (.int n :: st)) : Z κ γ nL σ cells slots Q pc ls (.ref v :: st) := by
  intro H locs la h1 h2 h3
  have hat := h1.2.2.1 v ha.1 ha.2.1
  have hc : ∃ x : vp_A, cellOf γ σ v = .inl (γ.2.2.2.2.1 kd, x) ∧ x.1 = len := by
    rcases Nat.lt_or_ge kd 23 with h | h
    · exact ⟨_, cellOf_i ha.2.2 hkd h, rfl⟩
    · rcases Nat.lt_or_ge kd 24 with h' | h'
      · obtain rfl : kd = 23 := by omega
        exact ⟨_, cellOf_l ha.2.2, rfl⟩
      · exact ⟨_, cellOf_q ha.2.2 h', rfl⟩
  obtain ⟨x, hx, hx1⟩ := hc
  rw [hx] at hat
  exact va_alen O.1 O.2.1 O.2.2.2.2.2.2.1.1 (one_P hat) 0 t0 rfl ht (by rw [hx1]; exact hn) d (kk H locs la h1 h2 h3)
theorem z_alenL {v len : Nat} {n : Int32} (O : OK κ γ cc nL own D ret nm) (ha : ArL σ v len) (hn : nI len = n) (d : decode cc pc = .ok (.arraylength, 1)) (kk : Z κ γ nL σ cells slots Q (pc + 1) ls (.int n :: st)) : Z κ γ nL σ cells slots Q pc ls (.ref v :: st) := by
  rcases ha with ha | ⟨rfl, rfl⟩ | ⟨rfl, rfl⟩
  · exact z_alen (t0 := 3) O ha (by decide) rfl hn d kk
  · exact fun H locs la h1 h2 h3 => va_tlen O.1 O.2.1 O.2.2.2.2.2.2.2.1.2.2.1 h2 hn d (kk H locs la h1 h2 h3)
  · exact fun H locs la h1 h2 h3 => va_tlen O.1 O.2.1 O.2.2.2.2.2.2.2.1.2.2.2.1 h2 hn d (kk H locs la h1 h2 h3)
/-- the script: a float stands for the reference to it, in the law alone -/
theorem z_aloadS {i : Fin 4} {x : UInt32} (O : OK κ γ cc nL own D ret nm) (d : decode cc pc = .ok (.aload_n i, 1)) (hl : lkL ls (i : Nat) = some (.float x)) (k : Z κ γ nL σ cells slots Q (pc + 1) ls (.float x :: st)) : Z κ γ nL σ cells slots Q pc ls st := fun H locs la h1 h2 h3 => lv_aload_n O.1 O.2.1 d rfl (lk_at h3 hl) (k H locs la h1 h2 h3)
theorem z_sld {x : UInt32} {i : Int32} (j : Nat) (O : OK κ γ cc nL own D ret nm) (hi : i = nI j) (hj : j < γ.2.2.2.2.2.2.1) (hl : γ.2.2.2.2.2.2.1 < 2147483648) (d : decode cc pc = .ok (.iaload, 1)) (kk : Z κ γ nL σ cells slots Q (pc + 1) ls (.int (γ.2.2.2.2.2.2.2 j) :: st)) : Z κ γ nL σ cells slots Q pc ls (.int i :: .float x :: st) := by
  intro H locs la h1 h2 h3
  obtain ⟨hin, hc⟩ := in_of hi hj hl
  have hX := O.2.2.2.2.2.2.2.1.2.2.2.2.1
  have hbl : γ.2.2.2.2.2.1 < κ.2.2.2.2.1.heap.size := by
    obtain ⟨scr, h7, -⟩ := hX
    exact (Array.getElem?_eq_some_iff.mp h7).1
  refine va_sld (A := fun q => gB γ ≤ q) O.1 O.2.1 hX hbl O.2.2.2.2.2.2.2.1.2.2.2.2.2 h2 hin d ?_
  rw [hc]
  exact kk H locs la h1 h2 h3
theorem z_slen {x : UInt32} (O : OK κ γ cc nL own D ret nm) (d : decode cc pc = .ok (.arraylength, 1)) (kk : Z κ γ nL σ cells slots Q (pc + 1) ls (.int (nI γ.2.2.2.2.2.2.1) :: st)) : Z κ γ nL σ cells slots Q pc ls (.float x :: st) := by
  intro H locs la h1 h2 h3
  have hX := O.2.2.2.2.2.2.2.1.2.2.2.2.1
  have hbl : γ.2.2.2.2.2.1 < κ.2.2.2.2.1.heap.size := by
    obtain ⟨scr, h7, -⟩ := hX
    exact (Array.getElem?_eq_some_iff.mp h7).1
  exact va_slen (A := fun q => gB γ ≤ q) O.1 O.2.1 hX hbl O.2.2.2.2.2.2.2.1.2.2.2.2.2 h2 d (kk H locs la h1 h2 h3)
theorem z_getsN {own' : String} (O : OK κ γ cc nL own' D ret nm) {index : Nat} (hw : Cond.fieldLink own' index "BloodPrice" "NO_NAMES" "[J" ∈ GW) (d : decode cc pc = .ok (.getstatic index, 3)) (kk : Z κ γ nL σ cells slots Q (pc + 3) ls (.ref 0 :: st)) : Z κ γ nL σ cells slots Q pc ls st := fun H locs la h1 h2 h3 => va_gets O.1 O.2.1 O.2.2.2.2.2.2.2.1.1 h2 O.2.2.2.1 (O.2.2.2.2.1 _ hw) (fun _ h9 => h9) d (kk H locs la h1 h2 h3)
theorem z_getsF (O : OK κ γ cc nL "BloodPrice$Reader" D ret nm) (d : decode cc pc = .ok (.getstatic 168, 3)) (kk : Z κ γ nL σ cells slots Q (pc + 3) ls (.ref 1 :: st)) : Z κ γ nL σ cells slots Q pc ls st := fun H locs la h1 h2 h3 => va_getsN O.1 O.2.1 O.2.2.2.2.2.2.2.1.2.1 h2 O.2.2.2.1 (va_Nw.use rfl O.2.2.2.2.2.2.1.2.2.1) (fun _ h9 => h9) d (kk H locs la h1 h2 h3)
theorem z_iast {v len : Nat} {i x : Int32} (j : Nat) (O : OK κ γ cc nL own D ret nm) (ha : Ar σ v 22 len) (hi : i = nI j) (hj : j < len) (hl : len < 2147483648) (d : decode cc pc = .ok (.iastore, 1)) (kk : Z κ γ nL (sI σ v j x) cells slots Q (pc + 1) ls st) : Z κ γ nL σ cells slots Q pc ls (.int x :: .int i :: .ref v :: st) := by
  intro H locs la h1 h2 h3
  have hat := h1.2.2.1 v ha.1 ha.2.1
  rw [cellOf_i ha.2.2 (by decide) (by decide)] at hat
  obtain ⟨hin, hc⟩ := in_of hi hj hl
  refine W.iast O.1 O.2.1 hat ((O.2.2.2.2.2.2.1.1.2 2 _ rfl).1 len (fun j => .int (hI σ v j))) (fun q => by cases q) (by show ¬ (i < 0 ∨ (arrV _ _ _).slots.size ≤ _); rw [arrV_size]; exact hin) rfl rfl d fun H1 e z oq => ?_
  refine kk H1 _ la (h1.put (τ := sI σ v j x) ha.1 rfl rfl (fun u h => pI_hI h) (fun _ _ => rfl) (fun _ _ => rfl) ?_ z oq) (h2.put z oq (ad_ge ha.1)) h3
  rw [cellOf_i (show hS (sI σ v j x) v = (22, len) from ha.2.2) (by decide) (by decide)]
  rw [hc] at e
  exact arrV_iset (g := fun q => .int (hI (sI σ v j x) v q)) e (fun q => by
    show Value.int (hI (sI σ v j x) v q) = _
    rw [hI_sI]
    by_cases hq : q = j
    · rw [if_pos hq, if_pos ⟨rfl, hq⟩]
    · rw [if_neg hq, if_neg (fun e => hq e.2)])
theorem z_bast {v len : Nat} {i x : Int32} (j : Nat) (O : OK κ γ cc nL own D ret nm) (ha : Ar σ v 21 len) (hi : i = nI j) (hj : j < len) (hl : len < 2147483648) (d : decode cc pc = .ok (.bastore, 1)) (kk : Z κ γ nL (sI σ v j x.toInt8.toInt32) cells slots Q (pc + 1) ls st) : Z κ γ nL σ cells slots Q pc ls (.int x :: .int i :: .ref v :: st) := by
  intro H locs la h1 h2 h3
  have hat := h1.2.2.1 v ha.1 ha.2.1
  rw [cellOf_i ha.2.2 (by decide) (by decide)] at hat
  obtain ⟨hin, hc⟩ := in_of hi hj hl
  refine W.bast O.1 O.2.1 hat ((O.2.2.2.2.2.2.1.1.2 1 _ rfl).1 len (fun j => .int (hI σ v j))) (fun q => by cases q) (by show ¬ (i < 0 ∨ (arrV _ _ _).slots.size ≤ _); rw [arrV_size]; exact hin) rfl rfl d fun H1 e z oq => ?_
  refine kk H1 _ la (h1.put (τ := sI σ v j x.toInt8.toInt32) ha.1 rfl rfl (fun u h => pI_hI h) (fun _ _ => rfl) (fun _ _ => rfl) ?_ z oq) (h2.put z oq (ad_ge ha.1)) h3
  rw [cellOf_i (show hS (sI σ v j x.toInt8.toInt32) v = (21, len) from ha.2.2) (by decide) (by decide)]
  rw [hc] at e
  exact arrV_iset (g := fun q => .int (hI (sI σ v j x.toInt8.toInt32) v q)) e (fun q => by
    show Value.int (hI (sI σ v j x.toInt8.toInt32) v q) = _
    rw [hI_sI]
    by_cases hq : q = j
    · rw [if_pos hq, if_pos ⟨rfl, hq⟩]
      rfl
    · rw [if_neg hq, if_neg (fun e => hq e.2)])
theorem z_zast {v len : Nat} {i x : Int32} (j : Nat) (O : OK κ γ cc nL own D ret nm) (ha : Ar σ v 20 len) (hx : narrow .boolean (.int x) = .int x) (hi : i = nI j) (hj : j < len) (hl : len < 2147483648) (d : decode cc pc = .ok (.bastore, 1)) (kk : Z κ γ nL (sI σ v j x) cells slots Q (pc + 1) ls st) : Z κ γ nL σ cells slots Q pc ls (.int x :: .int i :: .ref v :: st) := by
  intro H locs la h1 h2 h3
  have hat := h1.2.2.1 v ha.1 ha.2.1
  rw [cellOf_i ha.2.2 (by decide) (by decide)] at hat
  obtain ⟨hin, hc⟩ := in_of hi hj hl
  refine W.zast O.1 O.2.1 hat ((O.2.2.2.2.2.2.1.1.2 0 _ rfl).1 len (fun j => .int (hI σ v j))) (fun q => by cases q) (by show ¬ (i < 0 ∨ (arrV _ _ _).slots.size ≤ _); rw [arrV_size]; exact hin) rfl rfl d fun H1 e z oq => ?_
  refine kk H1 _ la (h1.put (τ := sI σ v j x) ha.1 rfl rfl (fun u h => pI_hI h) (fun _ _ => rfl) (fun _ _ => rfl) ?_ z oq) (h2.put z oq (ad_ge ha.1)) h3
  rw [cellOf_i (show hS (sI σ v j x) v = (20, len) from ha.2.2) (by decide) (by decide)]
  rw [hc, hx] at e
  exact arrV_iset (g := fun q => .int (hI (sI σ v j x) v q)) e (fun q => by
    show Value.int (hI (sI σ v j x) v q) = _
    rw [hI_sI]
    by_cases hq : q = j
    · rw [if_pos hq, if_pos ⟨rfl, hq⟩]
    · rw [if_neg hq, if_neg (fun e => hq e.2)])
theorem z_last {v len : Nat} {i : Int32} {x : Int64} (j : Nat) (O : OK κ γ cc nL own D ret nm) (ha : Ar σ v 23 len) (hi : i = nI j) (hj : j < len) (hl : len < 2147483648) (d : decode cc pc = .ok (.lastore, 1)) (kk : Z κ γ nL (sL σ v j x) cells slots Q (pc + 1) ls st) : Z κ γ nL σ cells slots Q pc ls (.long x :: .int i :: .ref v :: st) := by
  intro H locs la h1 h2 h3
  have hat := h1.2.2.1 v ha.1 ha.2.1
  rw [cellOf_l ha.2.2] at hat
  obtain ⟨hin, hc⟩ := in_of hi hj hl
  refine W.last O.1 O.2.1 hat ((O.2.2.2.2.2.2.1.1.2 3 _ rfl).1 len (fun j => .long (hL σ v j))) (fun q => by cases q) (by show ¬ (i < 0 ∨ (arrV _ _ _).slots.size ≤ _); rw [arrV_size]; exact hin) rfl rfl d fun H1 e z oq => ?_
  refine kk H1 _ la (h1.put (τ := sL σ v j x) ha.1 rfl rfl (fun _ _ => rfl) (fun u h => pL_hL h) (fun _ _ => rfl) ?_ z oq) (h2.put z oq (ad_ge ha.1)) h3
  rw [cellOf_l (show hS (sL σ v j x) v = (23, len) from ha.2.2)]
  rw [hc] at e
  exact arrV_iset (g := fun q => .long (hL (sL σ v j x) v q)) e (fun q => by
    show Value.long (hL (sL σ v j x) v q) = _
    rw [hL_sL]
    by_cases hq : q = j
    · rw [if_pos hq, if_pos ⟨rfl, hq⟩]
    · rw [if_neg hq, if_neg (fun e => hq e.2)])
theorem z_aast {v kd len t0 w ci : Nat} {i : Int32} {r : vw_C} (j : Nat) (O : OK κ γ cc nL own D ret nm) (ha : Ar σ v kd len) (hkd : 24 ≤ kd) (ht : (tysG γ)[t0]? = some (γ.2.2.2.2.1 kd, .object r.1)) (hc : classes[ci]? = some r) (hci : ci < 10) (hw : Is σ w ci) (hi : i = nI j) (hj : j < len) (hl : len < 2147483648) (d : decode cc pc = .ok (.aastore, 1)) (kk : Z κ γ nL (sR σ v j (some w)) cells slots Q (pc + 1) ls st) : Z κ γ nL σ cells slots Q pc ls (.ref w :: .int i :: .ref v :: st) := by
  intro H locs la h1 h2 h3
  have hat := h1.2.2.1 v ha.1 ha.2.1
  have hak := h1.2.2.1 w hw.1 hw.2.1
  rw [cellOf_q ha.2.2 hkd] at hat
  rw [cellOf_obj hw.2.2 hci] at hak
  obtain ⟨hin, hcl⟩ := in_of hi hj hl
  have hlt : i.toNatClampNeg < len := by rw [hcl]; exact hj
  have h0 : ¬ i < 0 := fun q => hin (Or.inl q)
  obtain ⟨r', hr', cellV, g1, g2, g3, -⟩ := hak
  have hK := O.2.2.2.2.2.2.1.1
  have hcls := (hK.1 ci r hc).2
  obtain ⟨kA, comp, k1, k2, k3, -⟩ := (hK.2 t0 _ ht).2
  have hcomp : comp = γ.1.1 ci := Option.some.inj (k3.symm.trans hcls.1)
  subst hcomp
  obtain ⟨kC, hkC, -⟩ := hcls.2
  refine W.aast O.1 O.2.1 hat (fun q h => by cases h) (fun h => by cases h) k1 k2 rfl hkC ⟨h0, by show _ < (arrV _ _ _).slots.size; rw [arrV_size]; exact hlt⟩ g1 (fun q h => by rw [g3] at h; cases h) (by rw [g2]; exact hkC) (by rw [g2]; exact va_assign hcls) rfl rfl d fun H1 e z oq => ?_
  refine kk H1 _ la (h1.put (τ := sR σ v j (some w)) ha.1 rfl rfl (fun _ _ => rfl) (fun _ _ => rfl) (fun u h => pR_hR h) ?_ z oq) (h2.put z oq (ad_ge ha.1)) h3
  rw [cellOf_q (show hS (sR σ v j (some w)) v = (kd, len) from ha.2.2) hkd]
  rw [hcl] at e
  exact arrV_iset (g := fun q => va_rf ((hR (sR σ v j (some w)) v q).map (ad γ))) e (fun q => by
    show va_rf ((hR (sR σ v j (some w)) v q).map (ad γ)) = _
    rw [hR_sR]
    by_cases hq : q = j
    · rw [if_pos hq, if_pos ⟨rfl, hq⟩]
      rfl
    · rw [if_neg hq, if_neg (fun e => hq e.2)])
theorem z_newa {kd t0 N : Nat} {n : Int32} {ty : FieldType} {atype : ArrayType} (O : OK κ γ cc nL own D ret nm) (hkd : 20 ≤ kd ∧ kd ≤ 23) (hty : newarray.typeOf atype = ty) (ht : (tysG γ)[t0]? = some (γ.2.2.2.2.1 kd, ty)) (hw : Cond.arrayClass ty ∈ GW) (hdv : defaultValue ty = if kd = 23 then .long 0 else .int 0) (hra : ∀ (U : State) (cA : ClassId), va_RA U cA ty → U.vm.findClass ("[" ++ ty.toString) = some cA) (hn : n = nI N) (hNb : N < 100000) (hb8 : componentBytes ty ≤ 8) (hcell : cells + 1 ≤ κ.2.2.2.1.cells ∧ slots + N ≤ κ.2.2.2.1.slots) (d : decode cc pc = .ok (.newarray atype, 2)) (kk : Z κ γ nL (sN σ (kd, N)) (cells + 1) (slots + N) Q (pc + 2) ls (.ref (hN σ) :: st)) : Z κ γ nL σ cells slots Q pc ls (.int n :: st) := by
  intro H locs la h1 h2 h3
  subst hty
  have hN1 : n.toNatClampNeg = N := by rw [hn]; exact nI_clamp (by omega)
  have hn0 : ¬ n < 0 := by rw [hn]; exact nI_pos (by omega)
  have hK := O.2.2.2.2.2.2.1.1
  have hw6 := O.2.2.2.2.1 _ hw
  have hhs : H.size = ad γ (hN σ) := by have := ad_new (γ := γ) h1.2.1; have := h1.1; omega
  refine va_newaK O.1 O.2.1 hw6 rfl d rfl hn0 hN1 ?_ hcell.1 hcell.2 hhs fun H' cA e1 e2 e3 e4 e5 => ?_
  · have h8 : N * componentBytes (newarray.typeOf atype) ≤ N * 8 := Nat.mul_le_mul_left N hb8
    omega
  have hcA : cA = γ.2.2.2.2.1 kd := Option.some.inj (e5.symm.trans (hra _ _ (hK.2 t0 _ ht).2))
  subst hcA
  have hsh : hS (sN σ (kd, N)) (hN σ) = (kd, N) := by rw [hS_sN, if_pos rfl]
  refine kk H' locs la (h1.new ?_ (by rw [e2, hhs]) (fun q hq => e3 q (by rw [hhs] at hq; exact hq))) ⟨Nat.le_trans h2.1 (by rw [e2, ← hhs]; omega), fun q hq hA => by rw [e3 q (by rw [← hhs]; exact Nat.lt_of_lt_of_le hq h2.1)]; exact h2.2.1 q hq hA, h2.2.2⟩ h3
  by_cases h23 : kd = 23
  · subst h23
    rw [cellOf_l hsh]
    rw [hdv, if_pos rfl] at e1
    show H'[ad γ (hN σ)]? = some (vp_cell _ _)
    rw [e1, vp_cell_l]
    congr 2
    funext q
    rw [hL_sN, if_pos rfl]
  · rw [cellOf_i hsh (by omega) (by omega)]
    rw [hdv, if_neg h23] at e1
    show H'[ad γ (hN σ)]? = some (vp_cell _ _)
    rw [e1, vp_cell_i]
    congr 2
    funext q
    rw [hI_sN, if_pos rfl]
theorem z_newq {kd t0 N index : Nat} {n : Int32} {C : String} (O : OK κ γ cc nL own D ret nm) (hkd : 24 ≤ kd) (ht : (tysG γ)[t0]? = some (γ.2.2.2.2.1 kd, .object C)) (hao : va_AO C κ.2.2.2.2.1) (hw : Cond.classLink own index C ∈ GW) (hn : n = nI N) (hNb : N < 100000) (hcell : cells + 1 ≤ κ.2.2.2.1.cells ∧ slots + N ≤ κ.2.2.2.1.slots) (d : decode cc pc = .ok (.anewarray index, 3)) (kk : Z κ γ nL (sN σ (kd, N)) (cells + 1) (slots + N) Q (pc + 3) ls (.ref (hN σ) :: st)) : Z κ γ nL σ cells slots Q pc ls (.int n :: st) := by
  intro H locs la h1 h2 h3
  have hN1 : n.toNatClampNeg = N := by rw [hn]; exact nI_clamp (by omega)
  have hn0 : ¬ n < 0 := by rw [hn]; exact nI_pos (by omega)
  have hK := O.2.2.2.2.2.2.1.1
  have hw6 := O.2.2.2.2.1 _ hw
  have hhs : H.size = ad γ (hN σ) := by have := ad_new (γ := γ) h1.2.1; have := h1.1; omega
  subst hN1
  refine W.anew O.1 O.2.1 O.2.2.2.1 hw6 (va_AO.use hao) rfl d rfl hn0 (by omega) hcell.1 hcell.2 fun cA kA comp f1 f2 f3 f4 => ?_
  obtain ⟨kA', comp', -, -, -, f5⟩ := (hK.2 t0 _ ht).2
  have hcA : cA = γ.2.2.2.2.1 kd := Option.some.inj (f1.symm.trans f5)
  subst hcA
  generalize hH1 : H.push ({ cls := γ.2.2.2.2.1 kd, slots := Array.replicate n.toNatClampNeg .null, vm := .none } : Cell) = H1
  have e2 : H1.size = H.size + 1 := by rw [← hH1, Array.size_push]
  have e1 : H1[H.size]? = some (arrV (γ.2.2.2.2.1 kd) n.toNatClampNeg (fun _ => .null)) := by rw [← hH1, Array.getElem?_push_size, ← arrV_new]
  have e3 : ∀ q : Nat, q < H.size → H1[q]? = H[q]? := fun q hq => by rw [← hH1, Array.getElem?_push, if_neg (Nat.ne_of_lt hq)]
  have hsh : hS (sN σ (kd, n.toNatClampNeg)) (hN σ) = (kd, n.toNatClampNeg) := by rw [hS_sN, if_pos rfl]
  have h9 := kk H1 locs la (h1.new ?_ e2 e3) ⟨Nat.le_trans h2.1 (by omega), fun q hq hA => by rw [e3 q (Nat.lt_of_lt_of_le hq h2.1)]; exact h2.2.1 q hq hA, h2.2.2⟩ h3
  · show W _ _ _ _ _ _ _ _ _ _ _ _ _ _ _ (F0 _ (pc + 3) la (.ref H.size :: List.map (cv γ) st))
    rw [hhs]
    exact h9
  · rw [cellOf_q hsh hkd, ← hhs]
    show H1[H.size]? = some (vp_cell _ _)
    rw [e1, vp_cell_q]
    congr 2
    funext q
    rw [hR_sN, if_pos rfl]
    rfl
theorem z_new {ci index : Nat} {C : String} {T : u_T} (O : OK κ γ cc nL own D ret nm) (hc : KC ci C T) (hdv : ∀ j, j < clN ci → defaultValue (tyOf ci j) = if tk (tyOf ci j) = 0 then .int 0 else if tk (tyOf ci j) = 1 then .long 0 else .null) (w1 : Cond.classLink own index C ∈ GW) (w2 : Cond.instantiable C (clN ci) ∈ GW) (w3 : Cond.initialized C ∈ GW) (hcell : cells + 1 ≤ κ.2.2.2.1.cells ∧ slots + clN ci ≤ κ.2.2.2.1.slots) (d : decode cc pc = .ok (.new index, 3)) (kk : Z κ γ nL (sN σ (ci, 0)) (cells + 1) (slots + clN ci) Q (pc + 3) ls (.ref (hN σ) :: st)) : Z κ γ nL σ cells slots Q pc ls st := by
  intro H locs la h1 h2 h3
  obtain ⟨c0, c1, c2, c3, c4⟩ := hc
  have hK := O.2.2.2.2.2.2.1.1
  have hKn := hK.1 ci _ c1
  have hhs : H.size = ad γ (hN σ) := by have := ad_new (γ := γ) h1.2.1; have := h1.1; omega
  refine W.newcK O.1 O.2.1 O.2.2.2.1 (O.2.2.2.2.1 _ w1) (O.2.2.2.2.1 _ w2) (O.2.2.2.2.1 _ w3) rfl d hcell.1 hcell.2 hKn.2.1 hhs fun H1 kC hkC e1 e2 e3 => ?_
  have hsh : (hS (sN σ (ci, 0)) (hN σ)).1 = ci := by rw [hS_sN, if_pos rfl]
  refine kk H1 locs la (h1.new ?_ (by rw [e2, hhs]) (fun q hq => e3 q (by rw [hhs] at hq; exact hq))) ⟨Nat.le_trans h2.1 (by rw [e2, ← hhs]; omega), fun q hq hA => by rw [e3 q (by rw [← hhs]; exact Nat.lt_of_lt_of_le hq h2.1)]; exact h2.2.1 q hq hA, h2.2.2⟩ h3
  rw [cellOf_obj hsh c0]
  refine ⟨_, c1, (u_born (tyOf ci) O.2.2.2.2.1 c2 hKn hkC e1 c3).to (fun j hj => ?_)⟩
  have hj' : j < clN ci := hj
  rw [fv_V hj', hdv j hj']
  unfold fval
  rw [hI_sN, if_pos rfl, hL_sN, if_pos rfl, hR_sN, if_pos rfl]
  rfl
end ZA
