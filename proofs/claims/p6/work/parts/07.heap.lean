/-! rows of the heap's instructions over Z -/
/-- an object of class ci stands at v -/
def Is (σ : VH) (v ci : Nat) : Prop := 2 ≤ v ∧ v < hN σ ∧ (hS σ v).1 = ci
/-- a row of that kind and length stands at v -/
def Ar (σ : VH) (v kd len : Nat) : Prop := 2 ≤ v ∧ v < hN σ ∧ hS σ v = (kd, len)
def KC (ci : Nat) (C : String) (T : u_T) : Prop := ci < 10 ∧ classes[ci]? = some (C, T, clN ci) ∧ (∀ w ∈ u_ws C T (clN ci), w ∈ GW) ∧ (∀ j, j < clN ci → parseFieldDescriptor (T j).2.2.1 = some (tyOf ci j)) ∧ (∀ a, a < clN ci → ∀ b, b < clN ci → a ≠ b → (T a).2.1 ≠ (T b).2.1)
/-- field k of class ci, linked in own's pool at index; final or not -/
def FL (own : String) (index ci k : Nat) (fin : Bool) : Prop := ∃ (C : String) (T : u_T), KC ci C T ∧ k < clN ci ∧ (T k).1 = C ∧ (T k).2.2.2 = fin ∧ Cond.fieldLink own index C (T k).2.1 (T k).2.2.1 ∈ GW
theorem cellOf_obj {γ : Gh} {σ : VH} {v ci : Nat} (h : (hS σ v).1 = ci) (hc : ci < 10) : cellOf γ σ v = .inr (ci, (List.range (clN ci)).map (fval γ σ ci v)) := by
  unfold cellOf
  rw [if_pos (by rw [h]; exact hc), h]
theorem fv_get {γ : Gh} {σ : VH} {v ci N k : Nat} (hk : k < N) : ((List.range N).map (fval γ σ ci v))[k]? = some (fval γ σ ci v k) := by
  simp [hk]
theorem fv_V {γ : Gh} {σ : VH} {v ci N k : Nat} (hk : k < N) : vp_V ((List.range N).map (fval γ σ ci v)) k = fval γ σ ci v k := by
  simp [vp_V, hk]
section ZH
variable {κ : Kx} {γ : Gh} {cc : ByteArray} {nL D : Nat} {own nm : String} {ret : Option FieldType} {σ : VH} {cells slots pc : Nat} {Q : State → Prop} {ls : List (Nat × Value)} {st : List Value}
theorem z_get0 {index ci k v : Nat} {fin : Bool} (O : OK κ γ cc nL own D ret nm) (f : FL own index ci k fin) (hv : Is σ v ci) (d : decode cc pc = .ok (.getfield index, 3)) (x : Value) (hx : fval γ σ ci v k = cv γ x) (kk : Z κ γ nL σ cells slots Q (pc + 3) ls (x :: st)) : Z κ γ nL σ cells slots Q pc ls (.ref v :: st) := by
  intro H locs la h1 h2 h3
  obtain ⟨C, T, ⟨c0, c1, c2, c3, c4⟩, hk, hT, hf, hw⟩ := f
  have hat := h1.2.2.1 v hv.1 hv.2.1
  rw [cellOf_obj hv.2.2 c0] at hat
  subst hT
  refine va_get (D := γ.1) (cl := classes) (ws := [(ad γ v, .inr (ci, (List.range (clN ci)).map (fval γ σ ci v)))]) (tys := tysG γ) O.1 O.2.1 O.2.2.2.2.1 c2 O.2.2.2.1 O.2.2.2.2.2.2.1.1 (fun k q hq => ?_) 0 rfl c1 k hk (O.2.2.2.2.1 _ hw) (fun _ h9 => h9) (fv_get hk) d ?_
  · match k, hq with
    | 0, hq => cases hq; exact hat
    | k + 1, hq => simp at hq
  · rw [hx]
    exact kk H locs la h1 h2 h3
theorem z_getI {index ci k v : Nat} {fin : Bool} (O : OK κ γ cc nL own D ret nm) (f : FL own index ci k fin) (ht : tk (tyOf ci k) = 0) (hv : Is σ v ci) (d : decode cc pc = .ok (.getfield index, 3)) (kk : Z κ γ nL σ cells slots Q (pc + 3) ls (.int (hI σ v k) :: st)) : Z κ γ nL σ cells slots Q pc ls (.ref v :: st) := z_get0 O f hv d _ (by unfold fval; rw [if_pos ht]; rfl) kk
theorem z_getL {index ci k v : Nat} {fin : Bool} (O : OK κ γ cc nL own D ret nm) (f : FL own index ci k fin) (ht : tk (tyOf ci k) = 1) (hv : Is σ v ci) (d : decode cc pc = .ok (.getfield index, 3)) (kk : Z κ γ nL σ cells slots Q (pc + 3) ls (.long (hL σ v k) :: st)) : Z κ γ nL σ cells slots Q pc ls (.ref v :: st) := z_get0 O f hv d _ (by unfold fval; rw [if_neg (by rw [ht]; decide), if_pos ht]; rfl) kk
theorem z_getR {index ci k v : Nat} {fin : Bool} (w : Nat) (O : OK κ γ cc nL own D ret nm) (f : FL own index ci k fin) (ht : tk (tyOf ci k) = 2) (hv : Is σ v ci) (hr : hR σ v k = some w) (d : decode cc pc = .ok (.getfield index, 3)) (kk : Z κ γ nL σ cells slots Q (pc + 3) ls (.ref w :: st)) : Z κ γ nL σ cells slots Q pc ls (.ref v :: st) := z_get0 O f hv d _ (by unfold fval; rw [if_neg (by rw [ht]; decide), if_neg (by rw [ht]; decide), hr]; rfl) kk
theorem ob_put {τ : VH} {ci k v : Nat} {H1 : Heap} {cell : Cell} {N : Nat} {V : Nat → Value} {x : Value} {iS : Nat → Nat} {cC : ClassId} (q2 : cell.cls = cC) (q3 : cell.vm = .none) (q4 : ∀ j, j < N → cell.slots[iS j]? = some (V j)) (hap : ∀ a b, a < N → b < N → a ≠ b → iS a ≠ iS b) (hk : k < N) (e1 : H1[ad γ v]? = some (cell.setSlot (iS k) x)) (hV : ∀ j, j < N → updV V k x j = fval γ τ ci v j) : t_OB (ad γ v) cC N iS H1 (vp_V ((List.range N).map (fval γ τ ci v))) :=
  t_OB.to (V := updV V k x) ⟨_, e1, q2, q3, t_set q4 hap hk x⟩ (fun j hj => by rw [hV j hj, fv_V hj])
/-- a field is written: τ is σ but for field k of v -/
theorem z_put0 {index ci k v : Nat} {τ : VH} (O : OK κ γ cc nL own D ret nm) (f : FL own index ci k false) (hv : Is σ v ci) (x : Value) (hn : narrow (tyOf ci k) (cv γ x) = cv γ x) (hfit : fits (tyOf ci k) (cv γ x) = true)
    (hN' : hN τ = hN σ) (hS' : hS τ = hS σ) (hI' : ∀ u, u ≠ v → hI τ u = hI σ u) (hL' : ∀ u, u ≠ v → hL τ u = hL σ u) (hR' : ∀ u, u ≠ v → hR τ u = hR σ u) (hV : ∀ j, j < clN ci → updV (fval γ σ ci v) k (cv γ x) j = fval γ τ ci v j)
    (d : decode cc pc = .ok (.putfield index, 3)) (kk : Z κ γ nL τ cells slots Q (pc + 3) ls st) : Z κ γ nL σ cells slots Q pc ls (x :: .ref v :: st) := by
  intro H locs la h1 h2 h3
  obtain ⟨C, T, ⟨c0, c1, c2, c3, c4⟩, hk, hT, hf, hw⟩ := f
  have hat := h1.2.2.1 v hv.1 hv.2.1
  rw [cellOf_obj hv.2.2 c0] at hat
  subst hT
  have hK := O.2.2.2.2.2.2.1.1
  have hap := va_apart (own := own) O.2.2.2.2.1 c2 (tyOf ci) c3 c4 hK c1
  obtain ⟨r, r1, cell, q1, q2, q3, q4⟩ := hat
  have hr : r = ((T k).1, T, clN ci) := Option.some.inj (r1.symm.trans c1)
  subst hr
  obtain ⟨hS, hfc, kC, hkC, hkind⟩ := hK.1 ci _ c1
  obtain ⟨cf, kf, fi, fd, hi, hsl⟩ := hS k hk
  have hlay := O.2.2.2.2.1 _ (c2 _ (u_in_lay hk))
  unfold u_lay at hlay
  rw [if_neg (by rw [hf]; decide)] at hlay
  have hst := (u_facts hfc hkC (u_lays O.2.2.2.2.1 c2 hk) hi).1
  have h6 := u_store hfc hkC hkind hlay hi (c3 k hk) hn hfit
  have hw6 := O.2.2.2.2.1 _ hw
  refine W.putK O.1 O.2.1 (f := fd) ⟨O.2.2.2.1, hw6, ⟨_, _, _, hi⟩, hst⟩ (by rw [q2]; exact h6) q1 q3 (by rw [hsl]; exact k2_hasslot (q4 k hk)) rfl rfl d fun H' e1 e2 e3 => ?_
  rw [hsl] at e1
  refine kk H' _ la (h1.put hv.1 hN' hS' hI' hL' hR' ?_ e2 e3) (h2.put e2 e3 (ad_ge hv.1)) h3
  rw [cellOf_obj (by rw [hS']; exact hv.2.2) c0]
  exact ⟨_, c1, ob_put q2 q3 q4 hap hk e1 (fun j hj => by
    rw [← hV j hj]
    unfold updV
    split
    · rfl
    · rw [fv_V hj])⟩
theorem z_putF0 {index ci k v : Nat} {τ : VH} (O : OK κ γ cc nL own D ret "<init>") (f : FL own index ci k true) (hown : ∀ C T, classes[ci]? = some (C, T, clN ci) → C = own) (hv : Is σ v ci) (x : Value) (hn : narrow (tyOf ci k) (cv γ x) = cv γ x) (hfit : fits (tyOf ci k) (cv γ x) = true)
    (hN' : hN τ = hN σ) (hS' : hS τ = hS σ) (hI' : ∀ u, u ≠ v → hI τ u = hI σ u) (hL' : ∀ u, u ≠ v → hL τ u = hL σ u) (hR' : ∀ u, u ≠ v → hR τ u = hR σ u) (hV : ∀ j, j < clN ci → updV (fval γ σ ci v) k (cv γ x) j = fval γ τ ci v j)
    (d : decode cc pc = .ok (.putfield index, 3)) (kk : Z κ γ nL τ cells slots Q (pc + 3) ls st) : Z κ γ nL σ cells slots Q pc ls (x :: .ref v :: st) := by
  intro H locs la h1 h2 h3
  obtain ⟨C, T, ⟨c0, c1, c2, c3, c4⟩, hk, hT, hf, hw⟩ := f
  have hat := h1.2.2.1 v hv.1 hv.2.1
  rw [cellOf_obj hv.2.2 c0] at hat
  have hCo := hown C T c1
  subst hT
  have hK := O.2.2.2.2.2.2.1.1
  have hap := va_apart (own := own) O.2.2.2.2.1 c2 (tyOf ci) c3 c4 hK c1
  obtain ⟨r, r1, cell, q1, q2, q3, q4⟩ := hat
  have hr : r = ((T k).1, T, clN ci) := Option.some.inj (r1.symm.trans c1)
  subst hr
  obtain ⟨hS, hfc, kC, hkC, hkind⟩ := hK.1 ci _ c1
  obtain ⟨cf, kf, fi, fd, hi, hsl⟩ := hS k hk
  have hlay := O.2.2.2.2.1 _ (c2 _ (u_in_lay hk))
  unfold u_lay at hlay
  rw [if_pos hf] at hlay
  have hst := (u_facts hfc hkC (u_lays O.2.2.2.2.1 c2 hk) hi).1
  have hcf : κ.2.2.2.2.2.1.cls = cf := by
    obtain ⟨_, _, c', _, _, _, -, -, hf', -, -, -, hown2, -⟩ := Cond.laysFinal_spec hlay
    have e1 : c' = cf := by have := hi.symm.trans hf'; simp at this; exact this.1.symm
    rw [hCo] at hown2
    rw [← e1]; exact Option.some.inj (O.2.2.2.1.symm.trans hown2)
  have h6 := u_fits hfc hkC hkind (Or.inr hlay) hi (c3 k hk) hn hfit
  have hw6 := O.2.2.2.2.1 _ hw
  refine W.putFinK O.1 O.2.1 O.2.2.2.1 hw6 hi hst hcf O.2.2.2.2.2.2.2.2.2.2.1 (by rw [q2]; exact h6) q1 q3 (by rw [hsl]; exact k2_hasslot (q4 k hk)) rfl rfl d fun H' e1 e2 e3 => ?_
  rw [hsl] at e1
  refine kk H' _ la (h1.put hv.1 hN' hS' hI' hL' hR' ?_ e2 e3) (h2.put e2 e3 (ad_ge hv.1)) h3
  rw [cellOf_obj (by rw [hS']; exact hv.2.2) c0]
  exact ⟨_, c1, ob_put q2 q3 q4 hap hk e1 (fun j hj => by
    rw [← hV j hj]
    unfold updV
    split
    · rfl
    · rw [fv_V hj])⟩
theorem pI_hI {v k u : Nat} {x : Int32} (h : u ≠ v) : hI (sI σ v k x) u = hI σ u := by
  funext j
  rw [hI_sI, if_neg (fun e => h e.1)]
theorem pI_V {ci k v : Nat} {x : Int32} (ht : tk (tyOf ci k) = 0) : ∀ j, j < clN ci → updV (fval γ σ ci v) k (cv γ (.int x)) j = fval γ (sI σ v k x) ci v j := by
  intro j _
  unfold updV
  by_cases hj : j = k
  · subst hj
    rw [if_pos rfl]
    unfold fval
    rw [if_pos ht, hI_sI, if_pos ⟨rfl, rfl⟩]
    rfl
  · rw [if_neg hj]
    unfold fval
    have e : hI (sI σ v k x) v j = hI σ v j := by rw [hI_sI, if_neg (fun e => hj e.2)]
    rw [e]
    rfl
theorem pL_hL {v k u : Nat} {x : Int64} (h : u ≠ v) : hL (sL σ v k x) u = hL σ u := by
  funext j
  rw [hL_sL, if_neg (fun e => h e.1)]
theorem pL_V {ci k v : Nat} {x : Int64} (ht : tk (tyOf ci k) = 1) : ∀ j, j < clN ci → updV (fval γ σ ci v) k (cv γ (.long x)) j = fval γ (sL σ v k x) ci v j := by
  intro j _
  unfold updV
  by_cases hj : j = k
  · subst hj
    rw [if_pos rfl]
    unfold fval
    rw [if_neg (by rw [ht]; decide), if_pos ht, hL_sL, if_pos ⟨rfl, rfl⟩]
    rfl
  · rw [if_neg hj]
    unfold fval
    have e : hL (sL σ v k x) v j = hL σ v j := by rw [hL_sL, if_neg (fun e => hj e.2)]
    rw [e]
    rfl
theorem pR_hR {v k u : Nat} {x : Option Nat} (h : u ≠ v) : hR (sR σ v k x) u = hR σ u := by
  funext j
  rw [hR_sR, if_neg (fun e => h e.1)]
theorem pR_V {ci k v w : Nat} (ht : tk (tyOf ci k) = 2) : ∀ j, j < clN ci → updV (fval γ σ ci v) k (cv γ (.ref w)) j = fval γ (sR σ v k (some w)) ci v j := by
  intro j _
  unfold updV
  by_cases hj : j = k
  · subst hj
    rw [if_pos rfl]
    unfold fval
    rw [if_neg (by rw [ht]; decide), if_neg (by rw [ht]; decide), hR_sR, if_pos ⟨rfl, rfl⟩]
    rfl
  · rw [if_neg hj]
    unfold fval
    have e : hR (sR σ v k (some w)) v j = hR σ v j := by rw [hR_sR, if_neg (fun e => hj e.2)]
    rw [e]
    rfl
theorem z_putI {index ci k v : Nat} {x : Int32} (O : OK κ γ cc nL own D ret nm) (f : FL own index ci k false) (ht : tk (tyOf ci k) = 0) (hn : narrow (tyOf ci k) (.int x) = .int x ∧ fits (tyOf ci k) (.int x) = true) (hv : Is σ v ci) (d : decode cc pc = .ok (.putfield index, 3)) (kk : Z κ γ nL (sI σ v k x) cells slots Q (pc + 3) ls st) : Z κ γ nL σ cells slots Q pc ls (.int x :: .ref v :: st) :=
  z_put0 (τ := sI σ v k x) O f hv (.int x) hn.1 hn.2 rfl rfl (fun u h => pI_hI h) (fun _ _ => rfl) (fun _ _ => rfl) (pI_V ht) d kk
theorem z_putL {index ci k v : Nat} {x : Int64} (O : OK κ γ cc nL own D ret nm) (f : FL own index ci k false) (ht : tk (tyOf ci k) = 1) (hn : narrow (tyOf ci k) (.long x) = .long x ∧ fits (tyOf ci k) (.long x) = true) (hv : Is σ v ci) (d : decode cc pc = .ok (.putfield index, 3)) (kk : Z κ γ nL (sL σ v k x) cells slots Q (pc + 3) ls st) : Z κ γ nL σ cells slots Q pc ls (.long x :: .ref v :: st) :=
  z_put0 (τ := sL σ v k x) O f hv (.long x) hn.1 hn.2 rfl rfl (fun _ _ => rfl) (fun u h => pL_hL h) (fun _ _ => rfl) (pL_V ht) d kk
theorem z_putFI {index ci k v : Nat} {x : Int32} (O : OK κ γ cc nL own D ret "<init>") (f : FL own index ci k true) (hown : ∀ C T, classes[ci]? = some (C, T, clN ci) → C = own) (ht : tk (tyOf ci k) = 0) (hn : narrow (tyOf ci k) (.int x) = .int x ∧ fits (tyOf ci k) (.int x) = true) (hv : Is σ v ci) (d : decode cc pc = .ok (.putfield index, 3)) (kk : Z κ γ nL (sI σ v k x) cells slots Q (pc + 3) ls st) : Z κ γ nL σ cells slots Q pc ls (.int x :: .ref v :: st) :=
  z_putF0 (τ := sI σ v k x) O f hown hv (.int x) hn.1 hn.2 rfl rfl (fun u h => pI_hI h) (fun _ _ => rfl) (fun _ _ => rfl) (pI_V ht) d kk
theorem z_putFL {index ci k v : Nat} {x : Int64} (O : OK κ γ cc nL own D ret "<init>") (f : FL own index ci k true) (hown : ∀ C T, classes[ci]? = some (C, T, clN ci) → C = own) (ht : tk (tyOf ci k) = 1) (hn : narrow (tyOf ci k) (.long x) = .long x ∧ fits (tyOf ci k) (.long x) = true) (hv : Is σ v ci) (d : decode cc pc = .ok (.putfield index, 3)) (kk : Z κ γ nL (sL σ v k x) cells slots Q (pc + 3) ls st) : Z κ γ nL σ cells slots Q pc ls (.long x :: .ref v :: st) :=
  z_putF0 (τ := sL σ v k x) O f hown hv (.long x) hn.1 hn.2 rfl rfl (fun _ _ => rfl) (fun u h => pL_hL h) (fun _ _ => rfl) (pL_V ht) d kk
theorem z_putFR {index ci k v w : Nat} (O : OK κ γ cc nL own D ret "<init>") (f : FL own index ci k true) (hown : ∀ C T, classes[ci]? = some (C, T, clN ci) → C = own) (ht : tk (tyOf ci k) = 2) (hn : ∀ a : Nat, narrow (tyOf ci k) (.ref a) = .ref a ∧ fits (tyOf ci k) (.ref a) = true) (hv : Is σ v ci) (d : decode cc pc = .ok (.putfield index, 3)) (kk : Z κ γ nL (sR σ v k (some w)) cells slots Q (pc + 3) ls st) : Z κ γ nL σ cells slots Q pc ls (.ref w :: .ref v :: st) :=
  z_putF0 (τ := sR σ v k (some w)) O f hown hv (.ref w) (hn _).1 (hn _).2 rfl rfl (fun _ _ => rfl) (fun _ _ => rfl) (fun u h => pR_hR h) (pR_V ht) d kk
end ZH
