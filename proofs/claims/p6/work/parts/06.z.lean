/-! A judgement over W that hides the machine: Z at a pc, with the flat heap, the locals by number and the stack, in numbers of cells. -/
abbrev Kx : Type := Program × Launch × Env × Room × State × MethodId × Array Value × List Frame × Method × Code
def cv (γ : Gh) : Value → Value
  | .ref a => .ref (ad γ a)
  | .float _ => .ref γ.2.2.2.2.2.1
  | v => v
def Z (κ : Kx) (γ : Gh) (nL : Nat) (σ : VH) (cells slots : Nat) (Q : State → Prop) (pc : Nat) (ls : List (Nat × Value)) (st : List Value) : Prop :=
  ∀ (H : Heap) (locs : List Loc) (la : Array Slot), RH γ σ H → va_S (fun q => gB γ ≤ q) κ.2.2.2.2.1.heap H locs → lv_has la nL (ls.map (fun q => (q.1, cv γ q.2))) →
    W κ.1 κ.2.1 κ.2.2.1 κ.2.2.2.1 κ.2.2.2.2.1 κ.2.2.2.2.2.1 κ.2.2.2.2.2.2.1 κ.2.2.2.2.2.2.2.1 κ.2.2.2.2.2.2.2.2.1 κ.2.2.2.2.2.2.2.2.2 H locs cells slots Q (F0 κ.2.2.2.2.2.1 pc la (st.map (cv γ)))
/-- what holds of the machine all through a method: code, locals, its class, depth and room, what it returns, its name -/
def OK (κ : Kx) (γ : Gh) (cc : ByteArray) (nL : Nat) (own : String) (D : Nat) (ret : Option FieldType) (nm : String) : Prop :=
  κ.1.tables.exec = Jvm.exec ∧ κ.2.2.2.2.2.2.2.2.2.code = cc ∧ κ.2.2.2.2.2.2.2.2.2.maxLocals = nL ∧ κ.2.2.2.2.1.vm.findClass own = some κ.2.2.2.2.2.1.cls ∧ (∀ w ∈ GW, w.before κ.2.2.2.2.2.2.1 κ.2.2.2.2.1 = true) ∧
  κ.2.2.2.2.2.2.2.2.1.locks = false ∧ RV γ κ.2.2.2.2.1 ∧ RS γ κ.2.2.2.2.1 ∧ (D ≤ κ.2.2.2.1.frames ∧ 40 * D ≤ κ.2.2.2.1.locals) ∧ κ.2.2.2.2.2.2.2.2.1.sig.returnType = ret ∧ κ.2.2.2.2.2.2.2.2.1.name = nm ∧ gB γ ≤ κ.2.2.2.2.1.heap.size
def lkL : List (Nat × Value) → Nat → Option Value
  | [], _ => none
  | q :: r, i => if q.1 = i then some q.2 else lkL r i
def insL (i : Nat) (v : Value) : List (Nat × Value) → List (Nat × Value)
  | [] => [(i, v)]
  | q :: r => if i < q.1 then (i, v) :: q :: r else q :: insL i v r
def st1 (i : Nat) (v : Value) (ls : List (Nat × Value)) : List (Nat × Value) := insL i v (ls.filter (fun q => !(q.1 == i) && !(q.1 + 1 == i && q.2.category == 2)))
def st2 (i : Nat) (v : Value) (ls : List (Nat × Value)) : List (Nat × Value) := insL i v (ls.filter (fun q => !(q.1 == i) && (!(q.1 == i + 1) && !(q.1 + 1 == i && q.2.category == 2))))
theorem lkL_mem {i : Nat} {v : Value} : ∀ {ls : List (Nat × Value)}, lkL ls i = some v → (i, v) ∈ ls
  | [], h => by cases h
  | q :: r, h => by
    unfold lkL at h
    split at h
    · rename_i e
      cases h
      rw [← e]
      exact List.mem_cons_self
    · exact List.mem_cons_of_mem _ (lkL_mem h)
theorem insL_mem {i : Nat} {v : Value} {q : Nat × Value} : ∀ {ls : List (Nat × Value)}, q ∈ insL i v ls → q = (i, v) ∨ q ∈ ls
  | [], h => by
    simp [insL] at h
    exact Or.inl h
  | p :: r, h => by
    unfold insL at h
    split at h
    · rcases List.mem_cons.mp h with e | e
      · exact Or.inl e
      · exact Or.inr e
    · rcases List.mem_cons.mp h with e | e
      · exact Or.inr (by rw [e]; exact List.mem_cons_self)
      · rcases insL_mem e with e | e
        · exact Or.inl e
        · exact Or.inr (List.mem_cons_of_mem _ e)
theorem cv_cat (γ : Gh) (v : Value) : (cv γ v).category = v.category := by cases v <;> rfl
theorem cv_rf (γ : Gh) (r : Option Nat) : cv γ (va_rf r) = va_rf (r.map (ad γ)) := by cases r <;> rfl
section ZR
variable {κ : Kx} {γ : Gh} {cc : ByteArray} {nL D : Nat} {own nm : String} {ret : Option FieldType} {σ : VH} {cells slots pc : Nat} {Q : State → Prop} {ls : List (Nat × Value)} {st : List Value}
theorem lk_at {la : Array Slot} {i : Nat} {v : Value} (h : lv_has la nL (ls.map (fun q => (q.1, cv γ q.2)))) (hk : lkL ls i = some v) : la[i]? = some (.val (cv γ v)) :=
  h.2.2 (i, cv γ v) (List.mem_map.mpr ⟨(i, v), lkL_mem hk, rfl⟩)
theorem st1_has {la : Array Slot} {i : Nat} {v : Value} {x : Value} (hx : x = cv γ v) (h : lv_has la nL ((i, x) :: (ls.map (fun q => (q.1, cv γ q.2))).filter (fun q => !(q.1 == i) && !(q.1 + 1 == i && q.2.category == 2)))) {ls' : List (Nat × Value)} (hs : st1 i v ls = ls') : lv_has la nL (ls'.map (fun q => (q.1, cv γ q.2))) := by
  subst hs
  subst hx
  refine ⟨h.1, h.2.1, fun q hq => ?_⟩
  obtain ⟨r, hr, rfl⟩ := List.mem_map.mp hq
  refine h.2.2 _ ?_
  rcases insL_mem hr with e | e
  · rw [e]; exact List.mem_cons_self
  · obtain ⟨h1, h2⟩ := List.mem_filter.mp e
    refine List.mem_cons_of_mem _ (List.mem_filter.mpr ⟨List.mem_map.mpr ⟨r, h1, rfl⟩, ?_⟩)
    simp only [cv_cat]
    exact h2
theorem st2_has {la : Array Slot} {i : Nat} {v : Value} {x : Value} (hx : x = cv γ v) (h : lv_has la nL ((i, x) :: (ls.map (fun q => (q.1, cv γ q.2))).filter (fun q => !(q.1 == i) && (!(q.1 == i + 1) && !(q.1 + 1 == i && q.2.category == 2))))) {ls' : List (Nat × Value)} (hs : st2 i v ls = ls') : lv_has la nL (ls'.map (fun q => (q.1, cv γ q.2))) := by
  subst hs
  subst hx
  refine ⟨h.1, h.2.1, fun q hq => ?_⟩
  obtain ⟨r, hr, rfl⟩ := List.mem_map.mp hq
  refine h.2.2 _ ?_
  rcases insL_mem hr with e | e
  · rw [e]; exact List.mem_cons_self
  · obtain ⟨h1, h2⟩ := List.mem_filter.mp e
    refine List.mem_cons_of_mem _ (List.mem_filter.mpr ⟨List.mem_map.mpr ⟨r, h1, rfl⟩, ?_⟩)
    simp only [cv_cat]
    exact h2
theorem z_ls {ls' : List (Nat × Value)} (h : ∀ q ∈ ls', q ∈ ls) (k : Z κ γ nL σ cells slots Q pc ls' st) : Z κ γ nL σ cells slots Q pc ls st := fun H locs la h1 h2 h3 => k H locs la h1 h2 ⟨h3.1, h3.2.1, fun q hq => by
  obtain ⟨r, hr, rfl⟩ := List.mem_map.mp hq
  exact h3.2.2 _ (List.mem_map.mpr ⟨r, h r hr, rfl⟩)⟩
theorem z_topi {x : Int32} (k : ∀ y : Int32, y = x → Z κ γ nL σ cells slots Q pc ls (.int y :: st)) : Z κ γ nL σ cells slots Q pc ls (.int x :: st) := k x rfl
theorem z_topl {x : Int64} (k : ∀ y : Int64, y = x → Z κ γ nL σ cells slots Q pc ls (.long y :: st)) : Z κ γ nL σ cells slots Q pc ls (.long x :: st) := k x rfl
theorem z_top {st' : List Value} (h : st = st') (k : Z κ γ nL σ cells slots Q pc ls st') : Z κ γ nL σ cells slots Q pc ls st := h ▸ k
theorem z_heap {τ : VH} (h : σ = τ) (k : Z κ γ nL τ cells slots Q pc ls st) : Z κ γ nL σ cells slots Q pc ls st := h ▸ k
theorem z_widen {k n : Nat} (h1 : cells ≤ k) (h2 : slots ≤ n) (kk : Z κ γ nL σ k n Q pc ls st) : Z κ γ nL σ cells slots Q pc ls st := fun H locs la a1 a2 a3 => W.widen h1 h2 (kk H locs la a1 a2 a3)
theorem z_iconst {n : Int} {v : Int32} (O : OK κ γ cc nL own D ret nm) (d : decode cc pc = .ok (.iconst n, 1)) (hv : Int32.ofInt n = v) (k : Z κ γ nL σ cells slots Q (pc + 1) ls (.int v :: st)) : Z κ γ nL σ cells slots Q pc ls st := fun H locs la h1 h2 h3 => lv_iconst O.1 O.2.1 d hv (k H locs la h1 h2 h3)
theorem z_bipush {n : Int} {v : Int32} (O : OK κ γ cc nL own D ret nm) (d : decode cc pc = .ok (.bipush n, 2)) (hv : (Int8.ofInt n).toInt32 = v) (k : Z κ γ nL σ cells slots Q (pc + 2) ls (.int v :: st)) : Z κ γ nL σ cells slots Q pc ls st := fun H locs la h1 h2 h3 => lv_bipush O.1 O.2.1 d hv (k H locs la h1 h2 h3)
theorem z_sipush {n : Int} {v : Int32} (O : OK κ γ cc nL own D ret nm) (d : decode cc pc = .ok (.sipush n, 3)) (hv : (Int16.ofInt n).toInt32 = v) (k : Z κ γ nL σ cells slots Q (pc + 3) ls (.int v :: st)) : Z κ γ nL σ cells slots Q pc ls st := fun H locs la h1 h2 h3 => lv_sipush O.1 O.2.1 d hv (k H locs la h1 h2 h3)
theorem z_lconst {n : Fin 2} {v : Int64} (O : OK κ γ cc nL own D ret nm) (d : decode cc pc = .ok (.lconst n, 1)) (hv : Int64.ofNat (n : Nat) = v) (k : Z κ γ nL σ cells slots Q (pc + 1) ls (.long v :: st)) : Z κ γ nL σ cells slots Q pc ls st := fun H locs la h1 h2 h3 => lv_lconst O.1 O.2.1 d hv (k H locs la h1 h2 h3)
theorem z_ldc {i : Nat} {v : Int32} (O : OK κ γ cc nL own D ret nm) (w : Cond.constant own i v ∈ GW) (d : decode cc pc = .ok (.ldc i, 2)) (k : Z κ γ nL σ cells slots Q (pc + 2) ls (.int v :: st)) : Z κ γ nL σ cells slots Q pc ls st := fun H locs la h1 h2 h3 => lv_ldc O.1 O.2.1 O.2.2.2.1 (O.2.2.2.2.1 _ w) d (k H locs la h1 h2 h3)
theorem z_ldcw {i : Nat} {v : Int32} (O : OK κ γ cc nL own D ret nm) (w : Cond.constant own i v ∈ GW) (d : decode cc pc = .ok (.ldc_w i, 3)) (k : Z κ γ nL σ cells slots Q (pc + 3) ls (.int v :: st)) : Z κ γ nL σ cells slots Q pc ls st := fun H locs la h1 h2 h3 => lv_ldcw O.1 O.2.1 O.2.2.2.1 (O.2.2.2.2.1 _ w) d (k H locs la h1 h2 h3)
theorem z_ldc2 {i : Nat} {v : Int64} (O : OK κ γ cc nL own D ret nm) (w : Cond.constantLong own i v ∈ GW) (d : decode cc pc = .ok (.ldc2_w i, 3)) (k : Z κ γ nL σ cells slots Q (pc + 3) ls (.long v :: st)) : Z κ γ nL σ cells slots Q pc ls st := fun H locs la h1 h2 h3 => lv_ldc2 O.1 O.2.1 O.2.2.2.1 (O.2.2.2.2.1 _ w) d (k H locs la h1 h2 h3)
theorem z_null (O : OK κ γ cc nL own D ret nm) (d : decode cc pc = .ok (.aconst_null, 1)) (k : Z κ γ nL σ cells slots Q (pc + 1) ls (.null :: st)) : Z κ γ nL σ cells slots Q pc ls st := fun H locs la h1 h2 h3 => lv_null O.1 O.2.1 d (k H locs la h1 h2 h3)
theorem z_iload_n {i : Fin 4} {x : Int32} (O : OK κ γ cc nL own D ret nm) (d : decode cc pc = .ok (.iload_n i, 1)) (hl : lkL ls (i : Nat) = some (.int x)) (k : Z κ γ nL σ cells slots Q (pc + 1) ls (.int x :: st)) : Z κ γ nL σ cells slots Q pc ls st := fun H locs la h1 h2 h3 => lv_iload_n O.1 O.2.1 d rfl (lk_at h3 hl) (k H locs la h1 h2 h3)
theorem z_iload {i : Nat} {x : Int32} (O : OK κ γ cc nL own D ret nm) (d : decode cc pc = .ok (.iload i, 2)) (hl : lkL ls i = some (.int x)) (k : Z κ γ nL σ cells slots Q (pc + 2) ls (.int x :: st)) : Z κ γ nL σ cells slots Q pc ls st := fun H locs la h1 h2 h3 => lv_iload O.1 O.2.1 d (lk_at h3 hl) (k H locs la h1 h2 h3)
theorem z_lload_n {i : Fin 4} {x : Int64} (O : OK κ γ cc nL own D ret nm) (d : decode cc pc = .ok (.lload_n i, 1)) (hl : lkL ls (i : Nat) = some (.long x)) (k : Z κ γ nL σ cells slots Q (pc + 1) ls (.long x :: st)) : Z κ γ nL σ cells slots Q pc ls st := fun H locs la h1 h2 h3 => lv_lload_n O.1 O.2.1 d rfl (lk_at h3 hl) (k H locs la h1 h2 h3)
theorem z_lload {i : Nat} {x : Int64} (O : OK κ γ cc nL own D ret nm) (d : decode cc pc = .ok (.lload i, 2)) (hl : lkL ls i = some (.long x)) (k : Z κ γ nL σ cells slots Q (pc + 2) ls (.long x :: st)) : Z κ γ nL σ cells slots Q pc ls st := fun H locs la h1 h2 h3 => lv_lload O.1 O.2.1 d (lk_at h3 hl) (k H locs la h1 h2 h3)
theorem z_aload_n {i : Fin 4} {x : Nat} (O : OK κ γ cc nL own D ret nm) (d : decode cc pc = .ok (.aload_n i, 1)) (hl : lkL ls (i : Nat) = some (.ref x)) (k : Z κ γ nL σ cells slots Q (pc + 1) ls (.ref x :: st)) : Z κ γ nL σ cells slots Q pc ls st := fun H locs la h1 h2 h3 => lv_aload_n O.1 O.2.1 d rfl (lk_at h3 hl) (k H locs la h1 h2 h3)
theorem z_aload {i : Nat} {x : Nat} (O : OK κ γ cc nL own D ret nm) (d : decode cc pc = .ok (.aload i, 2)) (hl : lkL ls i = some (.ref x)) (k : Z κ γ nL σ cells slots Q (pc + 2) ls (.ref x :: st)) : Z κ γ nL σ cells slots Q pc ls st := fun H locs la h1 h2 h3 => lv_aload O.1 O.2.1 d (lk_at h3 hl) (k H locs la h1 h2 h3)
theorem z_aload_nN {i : Fin 4} (O : OK κ γ cc nL own D ret nm) (d : decode cc pc = .ok (.aload_n i, 1)) (hl : lkL ls (i : Nat) = some .null) (k : Z κ γ nL σ cells slots Q (pc + 1) ls (.null :: st)) : Z κ γ nL σ cells slots Q pc ls st := fun H locs la h1 h2 h3 => lv_aload_nN O.1 O.2.1 d rfl (lk_at h3 hl) (k H locs la h1 h2 h3)
theorem z_aloadN {i : Nat} (O : OK κ γ cc nL own D ret nm) (d : decode cc pc = .ok (.aload i, 2)) (hl : lkL ls i = some .null) (k : Z κ γ nL σ cells slots Q (pc + 2) ls (.null :: st)) : Z κ γ nL σ cells slots Q pc ls st := fun H locs la h1 h2 h3 => lv_aloadN O.1 O.2.1 d (lk_at h3 hl) (k H locs la h1 h2 h3)
theorem z_istore_n {i : Fin 4} {x : Int32} (ls' : List (Nat × Value)) (O : OK κ γ cc nL own D ret nm) (d : decode cc pc = .ok (.istore_n i, 1)) (hn : (i : Nat) < nL) (hs : st1 (i : Nat) (.int x) ls = ls') (k : Z κ γ nL σ cells slots Q (pc + 1) ls' st) : Z κ γ nL σ cells slots Q pc ls (.int x :: st) := fun H locs la h1 h2 h3 => lv_istore_n O.1 O.2.1 d rfl h3 hn rfl (fun la' h' => k H locs la' h1 h2 (st1_has rfl h' hs))
theorem z_istore {i : Nat} {x : Int32} (ls' : List (Nat × Value)) (O : OK κ γ cc nL own D ret nm) (d : decode cc pc = .ok (.istore i, 2)) (hn : i < nL) (hs : st1 i (.int x) ls = ls') (k : Z κ γ nL σ cells slots Q (pc + 2) ls' st) : Z κ γ nL σ cells slots Q pc ls (.int x :: st) := fun H locs la h1 h2 h3 => lv_istore O.1 O.2.1 d h3 hn rfl (fun la' h' => k H locs la' h1 h2 (st1_has rfl h' hs))
theorem z_lstore_n {i : Fin 4} {x : Int64} (ls' : List (Nat × Value)) (O : OK κ γ cc nL own D ret nm) (d : decode cc pc = .ok (.lstore_n i, 1)) (hn : (i : Nat) + 1 < nL) (hs : st2 (i : Nat) (.long x) ls = ls') (k : Z κ γ nL σ cells slots Q (pc + 1) ls' st) : Z κ γ nL σ cells slots Q pc ls (.long x :: st) := fun H locs la h1 h2 h3 => lv_lstore_n O.1 O.2.1 d rfl h3 hn rfl (fun la' h' => k H locs la' h1 h2 (st2_has rfl h' hs))
theorem z_lstore {i : Nat} {x : Int64} (ls' : List (Nat × Value)) (O : OK κ γ cc nL own D ret nm) (d : decode cc pc = .ok (.lstore i, 2)) (hn : i + 1 < nL) (hs : st2 i (.long x) ls = ls') (k : Z κ γ nL σ cells slots Q (pc + 2) ls' st) : Z κ γ nL σ cells slots Q pc ls (.long x :: st) := fun H locs la h1 h2 h3 => lv_lstore O.1 O.2.1 d h3 hn rfl (fun la' h' => k H locs la' h1 h2 (st2_has rfl h' hs))
theorem z_astore_n {i : Fin 4} {x : Nat} (ls' : List (Nat × Value)) (O : OK κ γ cc nL own D ret nm) (d : decode cc pc = .ok (.astore_n i, 1)) (hn : (i : Nat) < nL) (hs : st1 (i : Nat) (.ref x) ls = ls') (k : Z κ γ nL σ cells slots Q (pc + 1) ls' st) : Z κ γ nL σ cells slots Q pc ls (.ref x :: st) := fun H locs la h1 h2 h3 => lv_astore_n O.1 O.2.1 d rfl h3 hn rfl (fun la' h' => k H locs la' h1 h2 (st1_has rfl h' hs))
theorem z_astore {i : Nat} {x : Nat} (ls' : List (Nat × Value)) (O : OK κ γ cc nL own D ret nm) (d : decode cc pc = .ok (.astore i, 2)) (hn : i < nL) (hs : st1 i (.ref x) ls = ls') (k : Z κ γ nL σ cells slots Q (pc + 2) ls' st) : Z κ γ nL σ cells slots Q pc ls (.ref x :: st) := fun H locs la h1 h2 h3 => lv_astore O.1 O.2.1 d h3 hn rfl (fun la' h' => k H locs la' h1 h2 (st1_has rfl h' hs))
theorem z_astore_nN {i : Fin 4} (ls' : List (Nat × Value)) (O : OK κ γ cc nL own D ret nm) (d : decode cc pc = .ok (.astore_n i, 1)) (hn : (i : Nat) < nL) (hs : st1 (i : Nat) .null ls = ls') (k : Z κ γ nL σ cells slots Q (pc + 1) ls' st) : Z κ γ nL σ cells slots Q pc ls (.null :: st) := fun H locs la h1 h2 h3 => lv_astore_nN O.1 O.2.1 d rfl h3 hn rfl (fun la' h' => k H locs la' h1 h2 (st1_has rfl h' hs))
theorem z_astoreN {i : Nat} (ls' : List (Nat × Value)) (O : OK κ γ cc nL own D ret nm) (d : decode cc pc = .ok (.astore i, 2)) (hn : i < nL) (hs : st1 i .null ls = ls') (k : Z κ γ nL σ cells slots Q (pc + 2) ls' st) : Z κ γ nL σ cells slots Q pc ls (.null :: st) := fun H locs la h1 h2 h3 => lv_astoreN O.1 O.2.1 d h3 hn rfl (fun la' h' => k H locs la' h1 h2 (st1_has rfl h' hs))
theorem z_iinc {i : Nat} {n : Int} {x : Int32} (v : Int32) (ls' : List (Nat × Value)) (O : OK κ γ cc nL own D ret nm) (d : decode cc pc = .ok (.iinc i n, 3)) (hl : lkL ls i = some (.int x)) (hv : x + Int32.ofInt n = v) (hn : i < nL) (hs : st1 i (.int v) ls = ls') (k : Z κ γ nL σ cells slots Q (pc + 3) ls' st) : Z κ γ nL σ cells slots Q pc ls st := fun H locs la h1 h2 h3 => by
  obtain ⟨j, hj⟩ := List.getElem?_of_mem (List.mem_map.mpr ⟨(i, .int x), lkL_mem hl, rfl⟩ : (i, Value.int x) ∈ ls.map (fun q => (q.1, cv γ q.2)))
  exact lv_iinc O.1 O.2.1 d h3 hj hv hn rfl (fun la' h' => k H locs la' h1 h2 (st1_has (v := .int v) rfl h' hs))
theorem z_iadd {x y : Int32} (O : OK κ γ cc nL own D ret nm) (d : decode cc pc = .ok (.iadd, 1)) (k : Z κ γ nL σ cells slots Q (pc + 1) ls (.int (x + y) :: st)) : Z κ γ nL σ cells slots Q pc ls (.int y :: .int x :: st) := fun H locs la h1 h2 h3 => lv_iadd O.1 O.2.1 d (k H locs la h1 h2 h3)
theorem z_isub {x y : Int32} (O : OK κ γ cc nL own D ret nm) (d : decode cc pc = .ok (.isub, 1)) (k : Z κ γ nL σ cells slots Q (pc + 1) ls (.int (x - y) :: st)) : Z κ γ nL σ cells slots Q pc ls (.int y :: .int x :: st) := fun H locs la h1 h2 h3 => lv_isub O.1 O.2.1 d (k H locs la h1 h2 h3)
theorem z_imul {x y : Int32} (O : OK κ γ cc nL own D ret nm) (d : decode cc pc = .ok (.imul, 1)) (k : Z κ γ nL σ cells slots Q (pc + 1) ls (.int (x * y) :: st)) : Z κ γ nL σ cells slots Q pc ls (.int y :: .int x :: st) := fun H locs la h1 h2 h3 => lv_imul O.1 O.2.1 d (k H locs la h1 h2 h3)
theorem z_iand {x y : Int32} (O : OK κ γ cc nL own D ret nm) (d : decode cc pc = .ok (.iand, 1)) (k : Z κ γ nL σ cells slots Q (pc + 1) ls (.int (x &&& y) :: st)) : Z κ γ nL σ cells slots Q pc ls (.int y :: .int x :: st) := fun H locs la h1 h2 h3 => lv_iand O.1 O.2.1 d (k H locs la h1 h2 h3)
theorem z_ior {x y : Int32} (O : OK κ γ cc nL own D ret nm) (d : decode cc pc = .ok (.ior, 1)) (k : Z κ γ nL σ cells slots Q (pc + 1) ls (.int (x ||| y) :: st)) : Z κ γ nL σ cells slots Q pc ls (.int y :: .int x :: st) := fun H locs la h1 h2 h3 => lv_ior O.1 O.2.1 d (k H locs la h1 h2 h3)
theorem z_ixor {x y : Int32} (O : OK κ γ cc nL own D ret nm) (d : decode cc pc = .ok (.ixor, 1)) (k : Z κ γ nL σ cells slots Q (pc + 1) ls (.int (x ^^^ y) :: st)) : Z κ γ nL σ cells slots Q pc ls (.int y :: .int x :: st) := fun H locs la h1 h2 h3 => lv_ixor O.1 O.2.1 d (k H locs la h1 h2 h3)
theorem z_ishl {x y : Int32} (O : OK κ γ cc nL own D ret nm) (d : decode cc pc = .ok (.ishl, 1)) (k : Z κ γ nL σ cells slots Q (pc + 1) ls (.int (x <<< (y &&& 31)) :: st)) : Z κ γ nL σ cells slots Q pc ls (.int y :: .int x :: st) := fun H locs la h1 h2 h3 => lv_ishl O.1 O.2.1 d (k H locs la h1 h2 h3)
theorem z_ishr {x y : Int32} (O : OK κ γ cc nL own D ret nm) (d : decode cc pc = .ok (.ishr, 1)) (k : Z κ γ nL σ cells slots Q (pc + 1) ls (.int (x >>> (y &&& 31)) :: st)) : Z κ γ nL σ cells slots Q pc ls (.int y :: .int x :: st) := fun H locs la h1 h2 h3 => lv_ishr O.1 O.2.1 d (k H locs la h1 h2 h3)
theorem z_ladd {x y : Int64} (O : OK κ γ cc nL own D ret nm) (d : decode cc pc = .ok (.ladd, 1)) (k : Z κ γ nL σ cells slots Q (pc + 1) ls (.long (x + y) :: st)) : Z κ γ nL σ cells slots Q pc ls (.long y :: .long x :: st) := fun H locs la h1 h2 h3 => lv_ladd O.1 O.2.1 d (k H locs la h1 h2 h3)
theorem z_lmul {x y : Int64} (O : OK κ γ cc nL own D ret nm) (d : decode cc pc = .ok (.lmul, 1)) (k : Z κ γ nL σ cells slots Q (pc + 1) ls (.long (x * y) :: st)) : Z κ γ nL σ cells slots Q pc ls (.long y :: .long x :: st) := fun H locs la h1 h2 h3 => lv_lmul O.1 O.2.1 d (k H locs la h1 h2 h3)
theorem z_land {x y : Int64} (O : OK κ γ cc nL own D ret nm) (d : decode cc pc = .ok (.land, 1)) (k : Z κ γ nL σ cells slots Q (pc + 1) ls (.long (x &&& y) :: st)) : Z κ γ nL σ cells slots Q pc ls (.long y :: .long x :: st) := fun H locs la h1 h2 h3 => lv_land O.1 O.2.1 d (k H locs la h1 h2 h3)
theorem z_lor {x y : Int64} (O : OK κ γ cc nL own D ret nm) (d : decode cc pc = .ok (.lor, 1)) (k : Z κ γ nL σ cells slots Q (pc + 1) ls (.long (x ||| y) :: st)) : Z κ γ nL σ cells slots Q pc ls (.long y :: .long x :: st) := fun H locs la h1 h2 h3 => lv_lor O.1 O.2.1 d (k H locs la h1 h2 h3)
theorem z_lxor {x y : Int64} (O : OK κ γ cc nL own D ret nm) (d : decode cc pc = .ok (.lxor, 1)) (k : Z κ γ nL σ cells slots Q (pc + 1) ls (.long (x ^^^ y) :: st)) : Z κ γ nL σ cells slots Q pc ls (.long y :: .long x :: st) := fun H locs la h1 h2 h3 => lv_lxor O.1 O.2.1 d (k H locs la h1 h2 h3)
theorem z_idiv {x y : Int32} (O : OK κ γ cc nL own D ret nm) (d : decode cc pc = .ok (.idiv, 1)) (hne : ¬ y = 0) (k : Z κ γ nL σ cells slots Q (pc + 1) ls (.int (x / y) :: st)) : Z κ γ nL σ cells slots Q pc ls (.int y :: .int x :: st) := fun H locs la h1 h2 h3 => lv_idiv O.1 O.2.1 d hne (k H locs la h1 h2 h3)
theorem z_irem {x y : Int32} (O : OK κ γ cc nL own D ret nm) (d : decode cc pc = .ok (.irem, 1)) (hne : ¬ y = 0) (k : Z κ γ nL σ cells slots Q (pc + 1) ls (.int (x - x / y * y) :: st)) : Z κ γ nL σ cells slots Q pc ls (.int y :: .int x :: st) := fun H locs la h1 h2 h3 => lv_irem O.1 O.2.1 d hne (k H locs la h1 h2 h3)
theorem z_ldiv {x y : Int64} (O : OK κ γ cc nL own D ret nm) (d : decode cc pc = .ok (.ldiv, 1)) (hne : ¬ y = 0) (k : Z κ γ nL σ cells slots Q (pc + 1) ls (.long (x / y) :: st)) : Z κ γ nL σ cells slots Q pc ls (.long y :: .long x :: st) := fun H locs la h1 h2 h3 => lv_ldiv O.1 O.2.1 d hne (k H locs la h1 h2 h3)
theorem z_ineg {x : Int32} (O : OK κ γ cc nL own D ret nm) (d : decode cc pc = .ok (.ineg, 1)) (k : Z κ γ nL σ cells slots Q (pc + 1) ls (.int (-x) :: st)) : Z κ γ nL σ cells slots Q pc ls (.int x :: st) := fun H locs la h1 h2 h3 => lv_ineg O.1 O.2.1 d (k H locs la h1 h2 h3)
theorem z_iushr {x y : Int32} (O : OK κ γ cc nL own D ret nm) (d : decode cc pc = .ok (.iushr, 1)) (k : Z κ γ nL σ cells slots Q (pc + 1) ls (.int ((x.toUInt32 >>> (y.toUInt32 &&& Int32.toUInt32 31)).toInt32) :: st)) : Z κ γ nL σ cells slots Q pc ls (.int y :: .int x :: st) := fun H locs la h1 h2 h3 => lv_iushr O.1 O.2.1 d rfl (k H locs la h1 h2 h3)
theorem z_lushr {x : Int64} {y : Int32} (O : OK κ γ cc nL own D ret nm) (d : decode cc pc = .ok (.lushr, 1)) (k : Z κ γ nL σ cells slots Q (pc + 1) ls (.long ((x.toUInt64 >>> (y.toInt64.toUInt64 &&& Int64.toUInt64 63)).toInt64) :: st)) : Z κ γ nL σ cells slots Q pc ls (.int y :: .long x :: st) := fun H locs la h1 h2 h3 => lv_lushr O.1 O.2.1 d rfl (k H locs la h1 h2 h3)
theorem z_lshl {x : Int64} {y : Int32} (O : OK κ γ cc nL own D ret nm) (d : decode cc pc = .ok (.lshl, 1)) (k : Z κ γ nL σ cells slots Q (pc + 1) ls (.long (x <<< (y.toInt64 &&& 63)) :: st)) : Z κ γ nL σ cells slots Q pc ls (.int y :: .long x :: st) := fun H locs la h1 h2 h3 => lv_lshl O.1 O.2.1 d rfl (k H locs la h1 h2 h3)
theorem z_lshr {x : Int64} {y : Int32} (O : OK κ γ cc nL own D ret nm) (d : decode cc pc = .ok (.lshr, 1)) (k : Z κ γ nL σ cells slots Q (pc + 1) ls (.long (x >>> (y.toInt64 &&& 63)) :: st)) : Z κ γ nL σ cells slots Q pc ls (.int y :: .long x :: st) := fun H locs la h1 h2 h3 => lv_lshr O.1 O.2.1 d rfl (k H locs la h1 h2 h3)
theorem z_lcmp {x y : Int64} (O : OK κ γ cc nL own D ret nm) (d : decode cc pc = .ok (.lcmp, 1)) (k : Z κ γ nL σ cells slots Q (pc + 1) ls (.int (lg_cmp x y) :: st)) : Z κ γ nL σ cells slots Q pc ls (.long y :: .long x :: st) := fun H locs la h1 h2 h3 => W.lcmp O.1 O.2.1 d (k H locs la h1 h2 h3)
theorem z_i2l {x : Int32} (O : OK κ γ cc nL own D ret nm) (d : decode cc pc = .ok (.i2l, 1)) (k : Z κ γ nL σ cells slots Q (pc + 1) ls (.long (x.toInt64) :: st)) : Z κ γ nL σ cells slots Q pc ls (.int x :: st) := fun H locs la h1 h2 h3 => lv_i2l O.1 O.2.1 d rfl (k H locs la h1 h2 h3)
theorem z_l2i {x : Int64} (O : OK κ γ cc nL own D ret nm) (d : decode cc pc = .ok (.l2i, 1)) (k : Z κ γ nL σ cells slots Q (pc + 1) ls (.int (x.toInt32) :: st)) : Z κ γ nL σ cells slots Q pc ls (.long x :: st) := fun H locs la h1 h2 h3 => lv_l2i O.1 O.2.1 d rfl (k H locs la h1 h2 h3)
theorem z_i2b {x : Int32} (O : OK κ γ cc nL own D ret nm) (d : decode cc pc = .ok (.i2b, 1)) (k : Z κ γ nL σ cells slots Q (pc + 1) ls (.int (x.toInt8.toInt32) :: st)) : Z κ γ nL σ cells slots Q pc ls (.int x :: st) := fun H locs la h1 h2 h3 => lv_i2b O.1 O.2.1 d rfl (k H locs la h1 h2 h3)
theorem z_dup {v : Value} (O : OK κ γ cc nL own D ret nm) (d : decode cc pc = .ok (.dup, 1)) (hv : v.category = 1) (k : Z κ γ nL σ cells slots Q (pc + 1) ls (v :: v :: st)) : Z κ γ nL σ cells slots Q pc ls (v :: st) := fun H locs la h1 h2 h3 => lv_dup O.1 O.2.1 d (by rw [cv_cat]; exact hv) (k H locs la h1 h2 h3)
theorem z_pop {v : Value} (O : OK κ γ cc nL own D ret nm) (d : decode cc pc = .ok (.pop, 1)) (hv : v.category = 1) (k : Z κ γ nL σ cells slots Q (pc + 1) ls st) : Z κ γ nL σ cells slots Q pc ls (v :: st) := fun H locs la h1 h2 h3 => lv_pop O.1 O.2.1 d (by rw [cv_cat]; exact hv) (k H locs la h1 h2 h3)
theorem z_dup2 {v w : Value} (O : OK κ γ cc nL own D ret nm) (d : decode cc pc = .ok (.dup2, 1)) (hv : v.category = 1) (hw : w.category = 1) (k : Z κ γ nL σ cells slots Q (pc + 1) ls (v :: w :: v :: w :: st)) : Z κ γ nL σ cells slots Q pc ls (v :: w :: st) := fun H locs la h1 h2 h3 => lv_dup2_11 O.1 O.2.1 d (by rw [cv_cat]; exact hv) (by rw [cv_cat]; exact hw) (k H locs la h1 h2 h3)
theorem z_if_eq {x : Int32} {off : Int} {tgt : Nat} (O : OK κ γ cc nL own D ret nm) (d : decode cc pc = .ok (.ifCond .eq off, 3)) (ht : (pc : Int) + off = (tgt : Int)) (kt : x = 0 → Z κ γ nL σ cells slots Q tgt ls st) (kf : ¬ x = 0 → Z κ γ nL σ cells slots Q (pc + 3) ls st) : Z κ γ nL σ cells slots Q pc ls (.int x :: st) := fun H locs la h1 h2 h3 => lv_if_eq O.1 O.2.1 d ht (fun h => kt h H locs la h1 h2 h3) (fun h => kf h H locs la h1 h2 h3)
theorem z_icmp_eq {x y : Int32} {off : Int} {tgt : Nat} (O : OK κ γ cc nL own D ret nm) (d : decode cc pc = .ok (.if_icmp .eq off, 3)) (ht : (pc : Int) + off = (tgt : Int)) (kt : x = y → Z κ γ nL σ cells slots Q tgt ls st) (kf : ¬ x = y → Z κ γ nL σ cells slots Q (pc + 3) ls st) : Z κ γ nL σ cells slots Q pc ls (.int y :: .int x :: st) := fun H locs la h1 h2 h3 => lv_icmp_eq O.1 O.2.1 d ht (fun h => kt h H locs la h1 h2 h3) (fun h => kf h H locs la h1 h2 h3)
theorem z_if_ne {x : Int32} {off : Int} {tgt : Nat} (O : OK κ γ cc nL own D ret nm) (d : decode cc pc = .ok (.ifCond .ne off, 3)) (ht : (pc : Int) + off = (tgt : Int)) (kt : ¬ x = 0 → Z κ γ nL σ cells slots Q tgt ls st) (kf : x = 0 → Z κ γ nL σ cells slots Q (pc + 3) ls st) : Z κ γ nL σ cells slots Q pc ls (.int x :: st) := fun H locs la h1 h2 h3 => lv_if_ne O.1 O.2.1 d ht (fun h => kt h H locs la h1 h2 h3) (fun h => kf h H locs la h1 h2 h3)
theorem z_icmp_ne {x y : Int32} {off : Int} {tgt : Nat} (O : OK κ γ cc nL own D ret nm) (d : decode cc pc = .ok (.if_icmp .ne off, 3)) (ht : (pc : Int) + off = (tgt : Int)) (kt : ¬ x = y → Z κ γ nL σ cells slots Q tgt ls st) (kf : x = y → Z κ γ nL σ cells slots Q (pc + 3) ls st) : Z κ γ nL σ cells slots Q pc ls (.int y :: .int x :: st) := fun H locs la h1 h2 h3 => lv_icmp_ne O.1 O.2.1 d ht (fun h => kt h H locs la h1 h2 h3) (fun h => kf h H locs la h1 h2 h3)
theorem z_if_lt {x : Int32} {off : Int} {tgt : Nat} (O : OK κ γ cc nL own D ret nm) (d : decode cc pc = .ok (.ifCond .lt off, 3)) (ht : (pc : Int) + off = (tgt : Int)) (kt : x < 0 → Z κ γ nL σ cells slots Q tgt ls st) (kf : ¬ x < 0 → Z κ γ nL σ cells slots Q (pc + 3) ls st) : Z κ γ nL σ cells slots Q pc ls (.int x :: st) := fun H locs la h1 h2 h3 => lv_if_lt O.1 O.2.1 d ht (fun h => kt h H locs la h1 h2 h3) (fun h => kf h H locs la h1 h2 h3)
theorem z_icmp_lt {x y : Int32} {off : Int} {tgt : Nat} (O : OK κ γ cc nL own D ret nm) (d : decode cc pc = .ok (.if_icmp .lt off, 3)) (ht : (pc : Int) + off = (tgt : Int)) (kt : x < y → Z κ γ nL σ cells slots Q tgt ls st) (kf : ¬ x < y → Z κ γ nL σ cells slots Q (pc + 3) ls st) : Z κ γ nL σ cells slots Q pc ls (.int y :: .int x :: st) := fun H locs la h1 h2 h3 => lv_icmp_lt O.1 O.2.1 d ht (fun h => kt h H locs la h1 h2 h3) (fun h => kf h H locs la h1 h2 h3)
theorem z_if_ge {x : Int32} {off : Int} {tgt : Nat} (O : OK κ γ cc nL own D ret nm) (d : decode cc pc = .ok (.ifCond .ge off, 3)) (ht : (pc : Int) + off = (tgt : Int)) (kt : 0 ≤ x → Z κ γ nL σ cells slots Q tgt ls st) (kf : ¬ 0 ≤ x → Z κ γ nL σ cells slots Q (pc + 3) ls st) : Z κ γ nL σ cells slots Q pc ls (.int x :: st) := fun H locs la h1 h2 h3 => lv_if_ge O.1 O.2.1 d ht (fun h => kt h H locs la h1 h2 h3) (fun h => kf h H locs la h1 h2 h3)
theorem z_icmp_ge {x y : Int32} {off : Int} {tgt : Nat} (O : OK κ γ cc nL own D ret nm) (d : decode cc pc = .ok (.if_icmp .ge off, 3)) (ht : (pc : Int) + off = (tgt : Int)) (kt : y ≤ x → Z κ γ nL σ cells slots Q tgt ls st) (kf : ¬ y ≤ x → Z κ γ nL σ cells slots Q (pc + 3) ls st) : Z κ γ nL σ cells slots Q pc ls (.int y :: .int x :: st) := fun H locs la h1 h2 h3 => lv_icmp_ge O.1 O.2.1 d ht (fun h => kt h H locs la h1 h2 h3) (fun h => kf h H locs la h1 h2 h3)
theorem z_if_gt {x : Int32} {off : Int} {tgt : Nat} (O : OK κ γ cc nL own D ret nm) (d : decode cc pc = .ok (.ifCond .gt off, 3)) (ht : (pc : Int) + off = (tgt : Int)) (kt : 0 < x → Z κ γ nL σ cells slots Q tgt ls st) (kf : ¬ 0 < x → Z κ γ nL σ cells slots Q (pc + 3) ls st) : Z κ γ nL σ cells slots Q pc ls (.int x :: st) := fun H locs la h1 h2 h3 => lv_if_gt O.1 O.2.1 d ht (fun h => kt h H locs la h1 h2 h3) (fun h => kf h H locs la h1 h2 h3)
theorem z_icmp_gt {x y : Int32} {off : Int} {tgt : Nat} (O : OK κ γ cc nL own D ret nm) (d : decode cc pc = .ok (.if_icmp .gt off, 3)) (ht : (pc : Int) + off = (tgt : Int)) (kt : y < x → Z κ γ nL σ cells slots Q tgt ls st) (kf : ¬ y < x → Z κ γ nL σ cells slots Q (pc + 3) ls st) : Z κ γ nL σ cells slots Q pc ls (.int y :: .int x :: st) := fun H locs la h1 h2 h3 => lv_icmp_gt O.1 O.2.1 d ht (fun h => kt h H locs la h1 h2 h3) (fun h => kf h H locs la h1 h2 h3)
theorem z_if_le {x : Int32} {off : Int} {tgt : Nat} (O : OK κ γ cc nL own D ret nm) (d : decode cc pc = .ok (.ifCond .le off, 3)) (ht : (pc : Int) + off = (tgt : Int)) (kt : x ≤ 0 → Z κ γ nL σ cells slots Q tgt ls st) (kf : ¬ x ≤ 0 → Z κ γ nL σ cells slots Q (pc + 3) ls st) : Z κ γ nL σ cells slots Q pc ls (.int x :: st) := fun H locs la h1 h2 h3 => lv_if_le O.1 O.2.1 d ht (fun h => kt h H locs la h1 h2 h3) (fun h => kf h H locs la h1 h2 h3)
theorem z_icmp_le {x y : Int32} {off : Int} {tgt : Nat} (O : OK κ γ cc nL own D ret nm) (d : decode cc pc = .ok (.if_icmp .le off, 3)) (ht : (pc : Int) + off = (tgt : Int)) (kt : x ≤ y → Z κ γ nL σ cells slots Q tgt ls st) (kf : ¬ x ≤ y → Z κ γ nL σ cells slots Q (pc + 3) ls st) : Z κ γ nL σ cells slots Q pc ls (.int y :: .int x :: st) := fun H locs la h1 h2 h3 => lv_icmp_le O.1 O.2.1 d ht (fun h => kt h H locs la h1 h2 h3) (fun h => kf h H locs la h1 h2 h3)
theorem z_goto {off : Int} {tgt : Nat} (O : OK κ γ cc nL own D ret nm) (d : decode cc pc = .ok (.goto off, 3)) (ht : (pc : Int) + off = (tgt : Int)) (k : Z κ γ nL σ cells slots Q tgt ls st) : Z κ γ nL σ cells slots Q pc ls st := fun H locs la h1 h2 h3 => lv_goto O.1 O.2.1 d ht (k H locs la h1 h2 h3)
theorem z_ifnull {a : Nat} {off : Int} (O : OK κ γ cc nL own D ret nm) (d : decode cc pc = .ok (.ifnull off, 3)) (k : Z κ γ nL σ cells slots Q (pc + 3) ls st) : Z κ γ nL σ cells slots Q pc ls (.ref a :: st) := fun H locs la h1 h2 h3 => lv_ifnull O.1 O.2.1 d (k H locs la h1 h2 h3)
theorem z_ifnullN {off : Int} {tgt : Nat} (O : OK κ γ cc nL own D ret nm) (d : decode cc pc = .ok (.ifnull off, 3)) (ht : (pc : Int) + off = (tgt : Int)) (k : Z κ γ nL σ cells slots Q tgt ls st) : Z κ γ nL σ cells slots Q pc ls (.null :: st) := fun H locs la h1 h2 h3 => lv_ifnullN O.1 O.2.1 d ht (k H locs la h1 h2 h3)
theorem z_ifnonnull {a : Nat} {off : Int} {tgt : Nat} (O : OK κ γ cc nL own D ret nm) (d : decode cc pc = .ok (.ifnonnull off, 3)) (ht : (pc : Int) + off = (tgt : Int)) (k : Z κ γ nL σ cells slots Q tgt ls st) : Z κ γ nL σ cells slots Q pc ls (.ref a :: st) := fun H locs la h1 h2 h3 => lv_ifnonnull O.1 O.2.1 d ht (k H locs la h1 h2 h3)
theorem z_ifnonnullN {off : Int} (O : OK κ γ cc nL own D ret nm) (d : decode cc pc = .ok (.ifnonnull off, 3)) (k : Z κ γ nL σ cells slots Q (pc + 3) ls st) : Z κ γ nL σ cells slots Q pc ls (.null :: st) := fun H locs la h1 h2 h3 => lv_ifnonnullN O.1 O.2.1 d (k H locs la h1 h2 h3)
theorem z_tableOut {dflt lo hi : Int} {offs : Array Int} {len : Nat} {x : Int32} {tgt : Nat} (O : OK κ γ cc nL own D ret nm) (d : decode cc pc = .ok (.tableswitch dflt lo hi offs, len)) (h : x.toInt < lo ∨ hi < x.toInt) (ht : (pc : Int) + dflt = (tgt : Int)) (k : Z κ γ nL σ cells slots Q tgt ls st) : Z κ γ nL σ cells slots Q pc ls (.int x :: st) := fun H locs la h1 h2 h3 => lv_tableOut O.1 O.2.1 d h ht (k H locs la h1 h2 h3)
theorem z_tableIn {dflt lo hi : Int} {offs : Array Int} {len : Nat} {x : Int32} {off : Int} {tgt : Nat} (O : OK κ γ cc nL own D ret nm) (d : decode cc pc = .ok (.tableswitch dflt lo hi offs, len)) (ha : ¬ x.toInt < lo) (hb : ¬ hi < x.toInt) (ho : offs[(x.toInt - lo).toNat]? = some off) (ht : (pc : Int) + off = (tgt : Int)) (k : Z κ γ nL σ cells slots Q tgt ls st) : Z κ γ nL σ cells slots Q pc ls (.int x :: st) := fun H locs la h1 h2 h3 => lv_tableIn O.1 O.2.1 d ha hb ho ht (k H locs la h1 h2 h3)
end ZR
