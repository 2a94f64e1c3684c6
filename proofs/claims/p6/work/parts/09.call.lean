/-! contracts over the flat heap; calls; returns -/
def QQ (γ : Gh) (P : Option Value → VH → Prop) : Array Value → State → Outcome → State → Prop := fun _ st oc t =>
  (∃ (r : Option Value) (τ : VH), oc = .returned (r.map (cv γ)) ∧ P r τ ∧ RH γ τ t.heap) ∧ va_F (fun q => gB γ ≤ q) st t
def rmD (d mc ms : Nat) : Room := { frames := d, cells := mc, slots := ms, locals := 40 * d }
def PP (γ : Gh) (as : List Value) (σ : VH) : Array Value → State → Prop := va_Pc (as.map (cv γ)) (fun U => RV γ U ∧ RS γ U ∧ RH γ σ U.heap)
/-- a method's contract: from σ, with these values, it returns some r and leaves some τ with P r τ -/
def Ct (l : Launch) (y : MethodName) (cc : ByteArray) (mL : Nat) (ret : Option FieldType) (d mc ms : Nat) (as : List Value) (σ : VH) (P : Option Value → VH → Prop) : Prop :=
  ∀ γ : Gh, Met l y (Cond.code y cc mL ret :: GW) (rmD d mc ms) (PP γ as σ) (QQ γ P) mc ms (fun q => gB γ ≤ q)
/-- a method's end -/
def QM (κ : Kx) (γ : Gh) (P : Option Value → VH → Prop) (mc ms : Nat) : State → Prop := MQ κ.2.2.2.2.2.2.2.1 (QQ γ P) κ.2.2.2.2.2.2.1 κ.2.2.2.2.1 mc ms (fun q => gB γ ≤ q)
theorem PP.blind {γ : Gh} {as : List Value} {σ : VH} : FrameBlind (PP γ as σ) := fun a U g mk h => ⟨h.1, h.2.1.calling, h.2.2.1.calling, h.2.2.2⟩
theorem Ct.enter {l : Launch} {y : MethodName} {cc : ByteArray} {mL : Nat} {ret : Option FieldType} {d mc ms : Nat} {as : List Value} {σ : VH} {P : Option Value → VH → Prop} (hy : plainName y.cls = true) (hlen : (lg_sl as).length ≤ mL)
    (body : ∀ (κ : Kx) (γ : Gh), κ.2.1 = l → OK κ γ cc mL y.cls d ret y.name → κ.2.2.2.1.cells = mc → κ.2.2.2.1.slots = ms → Z κ γ mL σ 0 0 (QM κ γ P mc ms) 0 (lv_args 0 as) []) : Ct l y cc mL ret d mc ms as σ P := by
  intro γ
  refine Met.ofW (cc := cc) (maxL := mL) (ret := ret) hy rfl ?_
  intro p e s m args below meth c s₁ B hml hv
  obtain ⟨rfl, hV, hSt, hH⟩ := hv
  have hts := atoms_spec (ws := Cond.code y cc mL ret :: GW) B.pre
  have hown : s.vm.findClass y.cls = some m.cls := findClass_of_methodNamed B.named
  have hin : meth.name = y.name := (name_of_methodNamed B.named B.method).1
  have hcat : lg_sl (as.map (cv γ)) = (lg_sl as).map (fun z => match z with | .val v => .val (cv γ v) | w => w) := by
    unfold lg_sl
    rw [List.flatMap_map, List.map_flatMap]
    congr 1
    funext v
    rw [cv_cat]
    split <;> rfl
  have hlen2 : (lg_sl (as.map (cv γ))).length ≤ mL := by rw [hcat, List.length_map]; exact hlen
  have hl := lv_entry (as.map (cv γ)) (n := mL) hlen2
  rw [lg_entry_eq]
  have hargs : ∀ (i : Nat) (vs : List Value), lv_args i (vs.map (cv γ)) = (lv_args i vs).map (fun q => (q.1, cv γ q.2)) := by
    intro i vs
    induction vs generalizing i with
    | nil => rfl
    | cons v vs ih =>
      show (i, cv γ v) :: lv_args _ _ = (i, cv γ v) :: _
      rw [cv_cat, ih]
  rw [hargs] at hl
  refine body (p, l, e, (headSpec (Cond.code y cc mL ret :: GW) (rmD d mc ms)).room, s, m, (as.map (cv γ)).toArray, below, meth, c) γ rfl ?_ rfl rfl s.heap [] _ hH va_S.rf hl
  have hb0 : gB γ ≤ s.heap.size := by have := hH.1; have := hH.2.1; omega
  exact ⟨B.exec, B.bytes, hml, hown, fun w hw => hts w (List.mem_cons_of_mem _ hw), B.notSynchronized, hV, hSt, ⟨Nat.le_refl _, Nat.le_refl _⟩, B.returns, hin, hb0⟩
section ZC
variable {κ : Kx} {γ : Gh} {cc : ByteArray} {nL D : Nat} {own nm : String} {ret : Option FieldType} {σ : VH} {cells slots pc : Nat} {Q : State → Prop} {ls : List (Nat × Value)} {st : List Value} {P : Option Value → VH → Prop} {mc ms : Nat}
theorem QQ.of {t : State} {H : Heap} {locs : List Loc} {r : Option Value} {a : Array Value} (hP : P r σ) (h1 : RH γ σ H) (h2 : va_S (fun q => gB γ ≤ q) κ.2.2.2.2.1.heap H locs) (ht : t.heap = H) : QQ γ P a κ.2.2.2.2.1 (.returned (r.map (cv γ))) t := ⟨⟨r, σ, rfl, hP, by rw [ht]; exact h1⟩, h2.F ht⟩
theorem z_iret {x : Int32} (O : OK κ γ cc nL own D (some .int) nm) (d : decode cc pc = .ok (.ireturn, 1)) (hP : P (some (.int x)) σ) : Z κ γ nL σ cells slots (QM κ γ P cells slots) pc ls [.int x] := fun H locs la h1 h2 h3 => W.iret (v := x) O.1 O.2.1 O.2.2.2.2.2.2.2.2.2.1 (fun t ht _ => QQ.of hP h1 h2 ht) h2.2.2 d O.2.2.2.2.2.1
theorem z_zret {x : Int32} (O : OK κ γ cc nL own D (some .boolean) nm) (d : decode cc pc = .ok (.ireturn, 1)) (hx : narrow .boolean (.int x) = .int x) (hP : P (some (.int x)) σ) : Z κ γ nL σ cells slots (QM κ γ P cells slots) pc ls [.int x] := fun H locs la h1 h2 h3 => W.zret (v := x) O.1 O.2.1 O.2.2.2.2.2.2.2.2.2.1 hx (fun t ht _ => QQ.of hP h1 h2 ht) h2.2.2 d O.2.2.2.2.2.1
theorem z_lret {x : Int64} (O : OK κ γ cc nL own D (some .long) nm) (d : decode cc pc = .ok (.lreturn, 1)) (hP : P (some (.long x)) σ) : Z κ γ nL σ cells slots (QM κ γ P cells slots) pc ls [.long x] := fun H locs la h1 h2 h3 => W.lret (v := x) O.1 O.2.1 O.2.2.2.2.2.2.2.2.2.1 (fun t ht _ => QQ.of hP h1 h2 ht) h2.2.2 d O.2.2.2.2.2.1
theorem z_vret (O : OK κ γ cc nL own D none nm) (d : decode cc pc = .ok (.return_, 1)) (hP : P none σ) : Z κ γ nL σ cells slots (QM κ γ P cells slots) pc ls [] := fun H locs la h1 h2 h3 => W.vret O.1 O.2.1 O.2.2.2.2.2.2.2.2.2.1 (fun t ht _ => QQ.of hP h1 h2 ht) h2.2.2 d O.2.2.2.2.2.1
theorem z_aret {C : String} {x : Option Nat} (O : OK κ γ cc nL own D (some (.object C)) nm) (d : decode cc pc = .ok (.areturn, 1)) (hP : P (some (va_rf x)) σ) : Z κ γ nL σ cells slots (QM κ γ P cells slots) pc ls [va_rf x] := fun H locs la h1 h2 h3 => W.aret (v := cv γ (va_rf x)) O.1 O.2.1 O.2.2.2.2.2.2.2.2.2.1 (Or.inl ⟨_, rfl⟩) (by rw [cv_rf]; exact va_rf_or _) (fun t ht _ => QQ.of (r := some (va_rf x)) hP h1 h2 ht) h2.2.2 d O.2.2.2.2.2.1
/-- behind any call -/
theorem z_ran {stk rest : List Value} {a : Array Value} {mc ms : Nat} (hr : ∀ (H : Heap) (locs : List Loc) (la : Array Slot), RH γ σ H → va_S (fun q => gB γ ≤ q) κ.2.2.2.2.1.heap H locs → lv_has la nL (ls.map (fun q => (q.1, cv γ q.2))) → va_Run κ.1 κ.2.1 κ.2.2.1 κ.2.2.2.1 κ.2.2.2.2.1 κ.2.2.2.2.2.1 κ.2.2.2.2.2.2.1 κ.2.2.2.2.2.2.2.1 κ.2.2.2.2.2.2.2.2.1 κ.2.2.2.2.2.2.2.2.2 H locs cells slots mc ms (F0 κ.2.2.2.2.2.1 pc la (stk.map (cv γ))) (rest.map (cv γ)) (QQ γ P a) (fun q => gB γ ≤ q))
    (kk : ∀ (r : Option Value) (τ : VH), P r τ → Z κ γ nL τ (cells + mc) (slots + ms) Q (pc + 3) ls (r.toList ++ rest)) : Z κ γ nL σ cells slots Q pc ls stk := by
  intro H locs la h1 h2 h3 T hT X
  obtain ⟨v, st₀, t, T', L, h0, X', hL, e1, e2, ⟨⟨r, τ, hv, hp, hb⟩, hz, hk⟩, stp⟩ := hr H locs la h1 h2 h3 T hT X
  cases hv
  rw [h0] at hz hk
  obtain ⟨t2, a1, b1⟩ := kk r τ hp T'.heap (locs ++ L) la (by rw [e1]; exact hb)
    ⟨Nat.le_trans h2.1 (by rw [e1]; exact hz), fun q g1 g2 => by rw [e1, hk q (Nat.lt_of_lt_of_le g1 h2.1) g2]; exact h2.2.1 q g1 g2, fun q hq => by
      rcases List.mem_append.mp hq with h | h
      · exact h2.2.2 q h
      · exact hL q h⟩ h3 T' rfl X'
  refine ⟨t2, stp t2 ?_, b1⟩
  have e9 : (r.toList ++ rest).map (cv γ) = (r.map (cv γ)).toList ++ rest.map (cv γ) := by
    rw [List.map_append]
    cases r <;> rfl
  rw [e9] at a1
  exact a1
theorem cat_room {rest : List Value} {pc : Nat} {la : Array Slot} {m : MethodId} {stk : List Value} (h : (rest.map fun v => v.category).sum ≤ 8) : 2 * (F0 m pc la stk).monitorRoom + ((rest.map (cv γ)).map fun v => v.category).sum ≤ 8 := by
  refine lv_room ?_
  rw [List.map_map]
  have e : ((fun v : Value => v.category) ∘ cv γ) = fun v => v.category := by funext v; exact cv_cat γ v
  rw [e]
  exact h
/-- the words of a call of an instance method -/
def CLV (own : String) (index : Nat) (y : MethodName) (cc : ByteArray) (mL : Nat) (ret : Option FieldType) (n : Nat) : Prop :=
  (Cond.methodLink own index y ∈ GW ∧ Cond.instanceMethod y ∈ GW ∧ Cond.selects y.cls y y ∈ GW ∧ Cond.initialized y.cls ∈ GW ∧ Cond.code y cc mL ret ∈ GW) ∧ (y.cls ≠ "java/lang/invoke/MethodHandle" ∧ y.cls ≠ "java/lang/invoke/VarHandle" ∧ (parseMethodDescriptor y.desc).map (fun d => d.parameters.length) = some n) ∧ mL ≤ 21
/-- of a static method -/
def CLS (own : String) (index : Nat) (y : MethodName) (cc : ByteArray) (mL : Nat) (ret : Option FieldType) (n : Nat) : Prop :=
  (Cond.methodLink own index y ∈ GW ∧ Cond.static y ∈ GW ∧ Cond.initialized y.cls ∈ GW ∧ Cond.code y cc mL ret ∈ GW) ∧ (y.cls ≠ "java/lang/invoke/MethodHandle" ∧ y.cls ≠ "java/lang/invoke/VarHandle" ∧ (parseMethodDescriptor y.desc).map (fun d => d.parameters.length) = some n) ∧ mL ≤ 21
def CLSN (own : String) (index : Nat) (y : MethodName) (cc : ByteArray) (mL : Nat) (ret : Option FieldType) (n : Nat) : Prop :=
  (Cond.methodLinkNest own index y "BloodPrice" ∈ nestW ∧ Cond.static y ∈ GW ∧ Cond.initialized y.cls ∈ GW ∧ Cond.code y cc mL ret ∈ GW) ∧ (y.cls ≠ "java/lang/invoke/MethodHandle" ∧ y.cls ≠ "java/lang/invoke/VarHandle" ∧ (parseMethodDescriptor y.desc).map (fun d => d.parameters.length) = some n) ∧ mL ≤ 21
/-- of a constructor -/
def CLI (own : String) (index : Nat) (y : MethodName) (cc : ByteArray) (mL : Nat) (n : Nat) : Prop :=
  (Cond.methodLink own index y ∈ GW ∧ Cond.instanceMethod y ∈ GW ∧ Cond.initialized y.cls ∈ GW ∧ Cond.code y cc mL none ∈ GW) ∧ y.name = "<init>" ∧ (y.cls ≠ "java/lang/invoke/MethodHandle" ∧ y.cls ≠ "java/lang/invoke/VarHandle" ∧ (parseMethodDescriptor y.desc).map (fun d => d.parameters.length) = some n) ∧ mL ≤ 21
def CLIN (own : String) (index : Nat) (y : MethodName) (cc : ByteArray) (mL : Nat) (n : Nat) : Prop :=
  (Cond.methodLinkNest own index y "BloodPrice" ∈ nestW ∧ Cond.instanceMethod y ∈ GW ∧ Cond.initialized y.cls ∈ GW ∧ Cond.code y cc mL none ∈ GW) ∧ y.name = "<init>" ∧ (y.cls ≠ "java/lang/invoke/MethodHandle" ∧ y.cls ≠ "java/lang/invoke/VarHandle" ∧ (parseMethodDescriptor y.desc).map (fun d => d.parameters.length) = some n) ∧ mL ≤ 21
theorem pp_of {as : List Value} {H : Heap} {locs : List Loc} (O : OK κ γ cc nL own D ret nm) (h1 : RH γ σ H) (h2 : va_S (fun q => gB γ ≤ q) κ.2.2.2.2.1.heap H locs) : ∀ U : State, U.heap = H → κ.2.2.2.2.1.WarmedH U.vm → PP γ as σ (as.map (cv γ)).toArray U := fun U hU hW => ⟨rfl, O.2.2.2.2.2.2.1.warm hW, O.2.2.2.2.2.2.2.1.to hW.alike h2 hU, by rw [hU]; exact h1⟩
theorem rm_of {d mL : Nat} (O : OK κ γ cc nL own D ret nm) (hd : d + 1 ≤ D) (hm : mL ≤ 21) : (rmD d mc ms).frames + 1 ≤ κ.2.2.2.1.frames ∧ 8 + (mL + 11) + (rmD d mc ms).locals ≤ κ.2.2.2.1.locals := by
  obtain ⟨h1, h2⟩ := O.2.2.2.2.2.2.2.2.1
  refine ⟨Nat.le_trans hd h1, Nat.le_trans ?_ h2⟩
  show 8 + (mL + 11) + 40 * d ≤ 40 * D
  omega
theorem z_callV {index n d mc ms b ci mL : Nat} {y : MethodName} {c2 : ByteArray} {r2 : Option FieldType} {As rest : List Value} {T : u_T} (O : OK κ γ cc nL own D ret nm) (C : CLV own index y c2 mL r2 n) (hM : Ct κ.2.1 y c2 mL r2 d mc ms (.ref b :: As) σ P) (hd : d + 1 ≤ D) (hb : Is σ b ci) (hk : KC ci y.cls T) (hn : As.length = n) (hs : st = As.reverse ++ .ref b :: rest) (hr : (rest.map fun v => v.category).sum ≤ 8) (hcell : cells + mc ≤ κ.2.2.2.1.cells ∧ slots + ms ≤ κ.2.2.2.1.slots) (de : decode cc pc = .ok (.invokevirtual index, 3))
    (kk : ∀ (r : Option Value) (τ : VH), P r τ → Z κ γ nL τ (cells + mc) (slots + ms) Q (pc + 3) ls (r.toList ++ rest)) : Z κ γ nL σ cells slots Q pc ls st := by
  subst hs
  obtain ⟨⟨w1, w2, w3, w4, w5⟩, hy, hm⟩ := C
  refine z_ran (a := ((.ref b :: As).map (cv γ)).toArray) (fun H locs la h1 h2 h3 => ?_) kk
  have hts := O.2.2.2.2.1
  refine va_runV (Ts := GW) (C := y.cls) (b := ad γ b) (As := As.map (cv γ)) (rest := rest.map (cv γ)) ⟨O.1, O.2.1, O.2.2.1, O.2.2.2.1, hts⟩ (hM γ) ⟨callB_of n hts (gw_good w5) rfl rfl rfl (hts _ w4) (hts _ w1) hy (rm_of O hd hm), hts _ w2, hts _ w3⟩ ⟨PP.blind, ?_, pp_of O h1 h2⟩ rfl (by rw [List.length_map]; exact hn) h3.1 (by simp [cv]) (cat_room hr) de hcell
  have hat := h1.2.2.1 b hb.1 hb.2.1
  rw [cellOf_obj hb.2.2 hk.1] at hat
  exact va_recv (q0 := 0) O.2.2.2.2.2.2.1.1 (one_P hat) hk.2.1 rfl
theorem z_callS {index n d mc ms mL : Nat} {y : MethodName} {c2 : ByteArray} {r2 : Option FieldType} {As rest : List Value} (O : OK κ γ cc nL own D ret nm) (C : CLS own index y c2 mL r2 n) (hM : Ct κ.2.1 y c2 mL r2 d mc ms As σ P) (hd : d + 1 ≤ D) (hn : As.length = n) (hs : st = As.reverse ++ rest) (hr : (rest.map fun v => v.category).sum ≤ 8) (hcell : cells + mc ≤ κ.2.2.2.1.cells ∧ slots + ms ≤ κ.2.2.2.1.slots) (de : decode cc pc = .ok (.invokestatic index, 3))
    (kk : ∀ (r : Option Value) (τ : VH), P r τ → Z κ γ nL τ (cells + mc) (slots + ms) Q (pc + 3) ls (r.toList ++ rest)) : Z κ γ nL σ cells slots Q pc ls st := by
  subst hs
  obtain ⟨⟨w1, w2, w4, w5⟩, hy, hm⟩ := C
  refine z_ran (a := (As.map (cv γ)).toArray) (fun H locs la h1 h2 h3 => ?_) kk
  have hts := O.2.2.2.2.1
  exact va_runS (Ts := GW) (As := As.map (cv γ)) (rest := rest.map (cv γ)) ⟨O.1, O.2.1, O.2.2.1, O.2.2.2.1, hts⟩ (hM γ) ⟨callB_of n hts (gw_good w5) rfl rfl rfl (hts _ w4) (hts _ w1) hy (rm_of O hd hm), hts _ w2⟩ ⟨PP.blind, pp_of O h1 h2⟩ rfl (by rw [List.length_map]; exact hn) h3.1 (by simp) (cat_room hr) de hcell
theorem z_callSN {index n d mc ms mL : Nat} {y : MethodName} {c2 : ByteArray} {r2 : Option FieldType} {As rest : List Value} (O : OK κ γ cc nL own D ret nm) (C : CLSN own index y c2 mL r2 n) (hM : Ct κ.2.1 y c2 mL r2 d mc ms As σ P) (hd : d + 1 ≤ D) (hn : As.length = n) (hs : st = As.reverse ++ rest) (hr : (rest.map fun v => v.category).sum ≤ 8) (hcell : cells + mc ≤ κ.2.2.2.1.cells ∧ slots + ms ≤ κ.2.2.2.1.slots) (de : decode cc pc = .ok (.invokestatic index, 3))
    (kk : ∀ (r : Option Value) (τ : VH), P r τ → Z κ γ nL τ (cells + mc) (slots + ms) Q (pc + 3) ls (r.toList ++ rest)) : Z κ γ nL σ cells slots Q pc ls st := by
  subst hs
  obtain ⟨⟨w1, w2, w4, w5⟩, hy, hm⟩ := C
  refine z_ran (a := (As.map (cv γ)).toArray) (fun H locs la h1 h2 h3 => ?_) kk
  have hts := O.2.2.2.2.1
  exact va_runSN (Ts := GW) (As := As.map (cv γ)) (rest := rest.map (cv γ)) ⟨O.1, O.2.1, O.2.2.1, O.2.2.2.1, hts⟩ (hM γ) ⟨va_cnB n hts (gw_good w5) rfl rfl rfl (O.2.2.2.2.2.2.1.2.1 _ w1) (hts _ w4) hy (rm_of O hd hm), hts _ w2, trivial⟩ ⟨PP.blind, pp_of O h1 h2⟩ rfl (by rw [List.length_map]; exact hn) h3.1 (by simp) (cat_room hr) de hcell
theorem z_callI {index n d mc ms mL b : Nat} {y : MethodName} {c2 : ByteArray} {As rest : List Value} (O : OK κ γ cc nL own D ret nm) (C : CLI own index y c2 mL n) (hM : Ct κ.2.1 y c2 mL none d mc ms (.ref b :: As) σ P) (hd : d + 1 ≤ D) (hn : As.length = n) (hs : st = As.reverse ++ .ref b :: rest) (hr : (rest.map fun v => v.category).sum ≤ 8) (hcell : cells + mc ≤ κ.2.2.2.1.cells ∧ slots + ms ≤ κ.2.2.2.1.slots) (de : decode cc pc = .ok (.invokespecial index, 3))
    (kk : ∀ (r : Option Value) (τ : VH), P r τ → Z κ γ nL τ (cells + mc) (slots + ms) Q (pc + 3) ls (r.toList ++ rest)) : Z κ γ nL σ cells slots Q pc ls st := by
  subst hs
  obtain ⟨⟨w1, w2, w4, w5⟩, hnm, hy, hm⟩ := C
  refine z_ran (a := ((.ref b :: As).map (cv γ)).toArray) (fun H locs la h1 h2 h3 => ?_) kk
  have hts := O.2.2.2.2.1
  exact va_runI (Ts := GW) (b := ad γ b) (As := As.map (cv γ)) (rest := rest.map (cv γ)) ⟨O.1, O.2.1, O.2.2.1, O.2.2.2.1, hts⟩ (hM γ) ⟨callB_of n hts (gw_good w5) rfl rfl rfl (hts _ w4) (hts _ w1) hy (rm_of O hd hm), hnm, hts _ w2⟩ ⟨PP.blind, pp_of O h1 h2⟩ rfl (by rw [List.length_map]; exact hn) h3.1 (by simp [cv]) (cat_room hr) de hcell
theorem z_callIN {index n d mc ms mL b : Nat} {y : MethodName} {c2 : ByteArray} {As rest : List Value} (O : OK κ γ cc nL own D ret nm) (C : CLIN own index y c2 mL n) (hM : Ct κ.2.1 y c2 mL none d mc ms (.ref b :: As) σ P) (hd : d + 1 ≤ D) (hn : As.length = n) (hs : st = As.reverse ++ .ref b :: rest) (hr : (rest.map fun v => v.category).sum ≤ 8) (hcell : cells + mc ≤ κ.2.2.2.1.cells ∧ slots + ms ≤ κ.2.2.2.1.slots) (de : decode cc pc = .ok (.invokespecial index, 3))
    (kk : ∀ (r : Option Value) (τ : VH), P r τ → Z κ γ nL τ (cells + mc) (slots + ms) Q (pc + 3) ls (r.toList ++ rest)) : Z κ γ nL σ cells slots Q pc ls st := by
  subst hs
  obtain ⟨⟨w1, w2, w4, w5⟩, hnm, hy, hm⟩ := C
  refine z_ran (a := ((.ref b :: As).map (cv γ)).toArray) (fun H locs la h1 h2 h3 => ?_) kk
  have hts := O.2.2.2.2.1
  exact va_runIN (Ts := GW) (b := ad γ b) (As := As.map (cv γ)) (rest := rest.map (cv γ)) ⟨O.1, O.2.1, O.2.2.1, O.2.2.2.1, hts⟩ (hM γ) ⟨va_cnB n hts (gw_good w5) rfl rfl rfl (O.2.2.2.2.2.2.1.2.1 _ w1) (hts _ w4) hy (rm_of O hd hm), hnm, hts _ w2⟩ ⟨PP.blind, pp_of O h1 h2⟩ rfl (by rw [List.length_map]; exact hn) h3.1 (by simp [cv]) (cat_room hr) de hcell
/-- Object's constructor -/
theorem z_objInit {index b : Nat} (O : OK κ γ cc nL own D ret nm) (hD : 1 ≤ D) (w1 : Cond.methodLink own index objectInit ∈ GW) (w2 : Cond.instanceMethod objectInit ∈ GW) (w3 : Cond.code objectInit ⟨#[0xb1]⟩ 1 none ∈ GW) (hr : (st.map fun v => v.category).sum ≤ 8) (de : decode cc pc = .ok (.invokespecial index, 3)) (kk : Z κ γ nL σ cells slots Q (pc + 3) ls st) : Z κ γ nL σ cells slots Q pc ls (.ref b :: st) := by
  intro H locs la h1 h2 h3
  obtain ⟨r1, r2⟩ := O.2.2.2.2.2.2.2.2.1
  have hts := O.2.2.2.2.1
  refine W.objInit O.1 O.2.1 O.2.2.2.1 (hts _ w1) (hts _ w2) (hts _ w3) rfl (by rw [O.2.2.1]; exact h3.1) rfl de (by omega) ?_ (kk H locs la h1 h2 h3)
  have h9 := cat_room (γ := γ) (pc := pc) (la := la) (m := κ.2.2.2.2.2.1) (stk := (.ref b :: st).map (cv γ)) hr
  refine Nat.le_trans (Nat.add_le_add_right h9 12) ?_
  omega
end ZC
