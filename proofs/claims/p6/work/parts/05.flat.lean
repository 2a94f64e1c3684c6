/-! The flat heap: all cells that a run makes, by number, behind the cells that were there; a cell's places hold ints, longs or numbers of cells. -/
abbrev VH : Type := (Nat → Nat → Int32) × (Nat → Nat → Int64) × (Nat → Nat → Option Nat) × (Nat → Nat × Nat) × Nat
def hI (σ : VH) : Nat → Nat → Int32 := σ.1
def hL (σ : VH) : Nat → Nat → Int64 := σ.2.1
def hR (σ : VH) : Nat → Nat → Option Nat := σ.2.2.1
def hS (σ : VH) : Nat → Nat × Nat := σ.2.2.2.1
def hN (σ : VH) : Nat := σ.2.2.2.2
def up2 {α : Type} (f : Nat → Nat → α) (a k : Nat) (x : α) : Nat → Nat → α := fun b j => if b = a ∧ j = k then x else f b j
def sI (σ : VH) (a k : Nat) (x : Int32) : VH := (up2 σ.1 a k x, σ.2)
def sL (σ : VH) (a k : Nat) (x : Int64) : VH := (σ.1, up2 σ.2.1 a k x, σ.2.2)
def sR (σ : VH) (a k : Nat) (x : Option Nat) : VH := (σ.1, σ.2.1, up2 σ.2.2.1 a k x, σ.2.2.2)
/-- a new cell of a kind, all of it 0, null -/
def sN (σ : VH) (sh : Nat × Nat) : VH := (fun a k => if a = σ.2.2.2.2 then 0 else σ.1 a k, fun a k => if a = σ.2.2.2.2 then 0 else σ.2.1 a k, fun a k => if a = σ.2.2.2.2 then none else σ.2.2.1 a k, fun a => if a = σ.2.2.2.2 then sh else σ.2.2.2.1 a, σ.2.2.2.2 + 1)
theorem hI_sI (σ : VH) (a k b j : Nat) (x : Int32) : hI (sI σ a k x) b j = if b = a ∧ j = k then x else hI σ b j := rfl
theorem hL_sI (σ : VH) (a k : Nat) (x : Int32) : hL (sI σ a k x) = hL σ := rfl
theorem hR_sI (σ : VH) (a k : Nat) (x : Int32) : hR (sI σ a k x) = hR σ := rfl
theorem hS_sI (σ : VH) (a k : Nat) (x : Int32) : hS (sI σ a k x) = hS σ := rfl
theorem hN_sI (σ : VH) (a k : Nat) (x : Int32) : hN (sI σ a k x) = hN σ := rfl
theorem hL_sL (σ : VH) (a k b j : Nat) (x : Int64) : hL (sL σ a k x) b j = if b = a ∧ j = k then x else hL σ b j := rfl
theorem hI_sL (σ : VH) (a k : Nat) (x : Int64) : hI (sL σ a k x) = hI σ := rfl
theorem hR_sL (σ : VH) (a k : Nat) (x : Int64) : hR (sL σ a k x) = hR σ := rfl
theorem hS_sL (σ : VH) (a k : Nat) (x : Int64) : hS (sL σ a k x) = hS σ := rfl
theorem hN_sL (σ : VH) (a k : Nat) (x : Int64) : hN (sL σ a k x) = hN σ := rfl
theorem hR_sR (σ : VH) (a k b j : Nat) (x : Option Nat) : hR (sR σ a k x) b j = if b = a ∧ j = k then x else hR σ b j := rfl
theorem hI_sR (σ : VH) (a k : Nat) (x : Option Nat) : hI (sR σ a k x) = hI σ := rfl
theorem hL_sR (σ : VH) (a k : Nat) (x : Option Nat) : hL (sR σ a k x) = hL σ := rfl
theorem hS_sR (σ : VH) (a k : Nat) (x : Option Nat) : hS (sR σ a k x) = hS σ := rfl
theorem hN_sR (σ : VH) (a k : Nat) (x : Option Nat) : hN (sR σ a k x) = hN σ := rfl
theorem hI_sN (σ : VH) (sh : Nat × Nat) (b j : Nat) : hI (sN σ sh) b j = if b = hN σ then 0 else hI σ b j := rfl
theorem hL_sN (σ : VH) (sh : Nat × Nat) (b j : Nat) : hL (sN σ sh) b j = if b = hN σ then 0 else hL σ b j := rfl
theorem hR_sN (σ : VH) (sh : Nat × Nat) (b j : Nat) : hR (sN σ sh) b j = if b = hN σ then none else hR σ b j := rfl
theorem hS_sN (σ : VH) (sh : Nat × Nat) (b : Nat) : hS (sN σ sh) b = if b = hN σ then sh else hS σ b := rfl
theorem hN_sN (σ : VH) (sh : Nat × Nat) : hN (sN σ sh) = hN σ + 1 := rfl
abbrev classes : List vw_C := [(RX0, TX0, 11), (RX1, TX1, 16), (RX2, TX2, 4), (RX3, TX3, 8), (RX4, TX4, 10), (RX5, TX5, 4), (RX6, TX6, 5), (RX7, TX7, 5), (RX8, TX8, 17), (RX9, TX9, 75)]
def tyOf (ci : Nat) : Nat → FieldType := match ci with
  | 0 => tyX0
  | 1 => tyX1
  | 2 => tyX2
  | 3 => tyX3
  | 4 => tyX4
  | 5 => tyX5
  | 6 => tyX6
  | 7 => tyX7
  | 8 => tyX8
  | _ => tyX9
def clN (ci : Nat) : Nat := match ci with
  | 0 => 11
  | 1 => 16
  | 2 => 4
  | 3 => 8
  | 4 => 10
  | 5 => 4
  | 6 => 5
  | 7 => 5
  | 8 => 17
  | _ => 75
/-- ghosts: the classes' numbers and slots; where the new cells begin; the two static rows; the rows' classes by kind; the script's cell, length and ints -/
abbrev Gh : Type := va_G × Nat × Nat × Nat × (Nat → ClassId) × Nat × Nat × (Nat → Int32)
def gB (γ : Gh) : Nat := γ.2.1
def ad (γ : Gh) (v : Nat) : Nat := if v = 0 then γ.2.2.1 else if v = 1 then γ.2.2.2.1 else γ.2.1 + (v - 2)
def tk : FieldType → Nat
  | .long => 1
  | .object _ => 2
  | .array _ => 2
  | _ => 0
def fval (γ : Gh) (σ : VH) (ci v k : Nat) : Value := if tk (tyOf ci k) = 0 then .int (hI σ v k) else if tk (tyOf ci k) = 1 then .long (hL σ v k) else va_rf ((hR σ v k).map (ad γ))
/-- kinds: 0 .. 9 an object of that class; 20 boolean[], 21 byte[], 22 int[], 23 long[], 24 Law[], 25 Case[] -/
def cellOf (γ : Gh) (σ : VH) (v : Nat) : va_E :=
  if (hS σ v).1 < 10 then .inr ((hS σ v).1, (List.range (clN (hS σ v).1)).map (fval γ σ (hS σ v).1 v))
  else if (hS σ v).1 < 23 then .inl (γ.2.2.2.2.1 (hS σ v).1, (hS σ v).2, .inl (hI σ v))
  else if (hS σ v).1 = 23 then .inl (γ.2.2.2.2.1 (hS σ v).1, (hS σ v).2, .inr (.inl (hL σ v)))
  else .inl (γ.2.2.2.2.1 (hS σ v).1, (hS σ v).2, .inr (.inr (.inr (.inr (fun j => (hR σ v j).map (ad γ))))))
def nnl : List Int64 := [0x68757274, 0x7768656e, 0x646f, 0x646f75626c65, 0x68616c66, 0x616464, 0x6c657373, 0x7368617265, 0x6e656564, 0x72616e6b, 0x7465726d73, 0x64617973, 0x6f72, 0x616e64, 0x6e6f74, 0x6f74686572, 0x706c616365, 0x6e69676874, 0x6b696e, 0x7472756365, 0x73756d]
def fwl : List Int64 := [0x72616e6b, 0x6f74686572, 0x706c616365, 0x6e69676874, 0x6b696e, 0x7472756365, 0x73756d]
def tysG (γ : Gh) : List (ClassId × FieldType) := [(γ.2.2.2.2.1 20, .boolean), (γ.2.2.2.2.1 21, .byte), (γ.2.2.2.2.1 22, .int), (γ.2.2.2.2.1 23, .long), (γ.2.2.2.2.1 24, .object RX1), (γ.2.2.2.2.1 25, .object RX0)]
/-- the heap H holds σ -/
def RH (γ : Gh) (σ : VH) (H : Heap) : Prop := H.size + 2 = gB γ + hN σ ∧ 2 ≤ hN σ ∧ (∀ v, 2 ≤ v → v < hN σ → va_at γ.1 classes (ad γ v, cellOf γ σ v) H) ∧ hS σ 0 = (23, 21) ∧ hS σ 1 = (23, 7) ∧ (∀ j, hL σ 0 j = nnl.getD j 0) ∧ (∀ j, hL σ 1 j = fwl.getD j 0)
def nestW : List Cond := [.methodLinkNest "BloodPrice" 15 yX5_init "BloodPrice", .methodLinkNest "BloodPrice" 36 yX3_init "BloodPrice", .methodLinkNest "BloodPrice" 43 yX6_init "BloodPrice", .methodLinkNest "BloodPrice" 50 yX7_init "BloodPrice", .methodLinkNest "BloodPrice" 63 yX2_init "BloodPrice", .methodLinkNest "BloodPrice$Tokens" 42 yX8_isLetter "BloodPrice", .methodLinkNest "BloodPrice$Reader" 71 yX8_isName "BloodPrice", .methodLinkNest "BloodPrice$Reader" 78 yX8_placeIn "BloodPrice"]
/-- what the tables say -/
def RV (γ : Gh) (U : State) : Prop := va_K γ.1 classes (tysG γ) U ∧ (∀ w ∈ nestW, va_Nw w U) ∧ va_Nw (.fieldLinkNest "BloodPrice$Reader" 168 "BloodPrice" "FACT_WORDS" "[J" "BloodPrice") U ∧ va_AO RX1 U ∧ va_AO RX0 U
/-- the static rows -/
def RS (γ : Gh) (U : State) : Prop := va_Z "BloodPrice" "NO_NAMES" "[J" (.ref γ.2.2.1) (fun q => gB γ ≤ q) U U.heap ∧ va_Z "BloodPrice" "FACT_WORDS" "[J" (.ref γ.2.2.2.1) (fun q => gB γ ≤ q) U U.heap ∧ va_T .long γ.2.2.1 21 (fun j => .long (nnl.getD j 0)) (fun q => gB γ ≤ q) U U.heap ∧ va_T .long γ.2.2.2.1 7 (fun j => .long (fwl.getD j 0)) (fun q => gB γ ≤ q) U U.heap ∧ va_X γ.2.2.2.2.2.1 γ.2.2.2.2.2.2.1 γ.2.2.2.2.2.2.2 U U.heap ∧ ¬ gB γ ≤ γ.2.2.2.2.2.1
theorem nestW_all : nestW.all (fun w => match w with | .methodLinkNest _ _ _ _ => true | _ => false) = true := rfl
theorem RV.warm {γ : Gh} {s U : State} (hW : s.WarmedH U.vm) (h : RV γ s) : RV γ U := by
  obtain ⟨h1, h2, h3, h4, h5⟩ := h
  refine ⟨va_K.moved hW.alike h1, fun w hw => ?_, va_Nw.warmF hW h3, va_AO.moved hW.alike h4, va_AO.moved hW.alike h5⟩
  have h6 := List.all_eq_true.mp nestW_all w hw
  have h7 := h2 w hw
  cases w <;> first | exact va_Nw.warmM hW h7 | exact absurd h6 (by simp)
theorem RV.calling {γ : Gh} {U : State} {g : JFrame} {mk : MethodId} {a : Array Value} (h : RV γ U) : RV γ (U.calling g mk a) := by
  obtain ⟨h1, h2, h3, h4, h5⟩ := h
  refine ⟨va_K.moved (u := U) (Vm.Alike.refl U.vm) h1, fun w hw => ?_, va_Nw.same rfl (u := U) rfl h3, va_AO.moved (u := U) (Vm.Alike.refl U.vm) h4, va_AO.moved (u := U) (Vm.Alike.refl U.vm) h5⟩
  have h6 := List.all_eq_true.mp nestW_all w hw
  have h7 := h2 w hw
  cases w <;> first | exact va_Nw.same rfl (u := U) rfl h7 | exact absurd h6 (by simp)
theorem RS.to {γ : Gh} {s U : State} {H : Heap} {locs : List Loc} (h : RS γ s) (hvm : s.vm.Alike U.vm) (hS : va_S (fun q => gB γ ≤ q) s.heap H locs) (hU : U.heap = H) : RS γ U := by
  obtain ⟨h1, h2, h3, h4, h5, h6⟩ := h
  have hk : ∀ a : Nat, a < s.heap.size → ¬ gB γ ≤ a → U.heap[a]? = s.heap[a]? := fun a h1 h2 => by rw [hU]; exact hS.2.1 a h1 h2
  have hb : γ.2.2.2.2.2.1 < s.heap.size := by
    obtain ⟨scr, h7, -⟩ := h5
    exact (Array.getElem?_eq_some_iff.mp h7).1
  exact ⟨(h1.moved hvm).kept hk, (h2.moved hvm).kept hk, (h3.moved hvm).kept hk, (h4.moved hvm).kept hk, (h5.moved hvm).kept (hk _ hb h6), h6⟩
theorem RS.calling {γ : Gh} {U : State} {g : JFrame} {mk : MethodId} {a : Array Value} (h : RS γ U) : RS γ (U.calling g mk a) := by
  obtain ⟨h1, h2, h3, h4, h5, h6⟩ := h
  exact ⟨va_Z.moved (u := U) (Vm.Alike.refl U.vm) h1, va_Z.moved (u := U) (Vm.Alike.refl U.vm) h2, va_T.moved (u := U) (Vm.Alike.refl U.vm) h3, va_T.moved (u := U) (Vm.Alike.refl U.vm) h4, va_X.moved (u := U) (Vm.Alike.refl U.vm) h5, h6⟩
theorem ad_inj {γ : Gh} {u v : Nat} (hu : 2 ≤ u) (hv : 2 ≤ v) (h : ad γ u = ad γ v) : u = v := by
  unfold ad at h
  rw [if_neg (by omega), if_neg (by omega), if_neg (by omega), if_neg (by omega)] at h
  omega
theorem ad_ge {γ : Gh} {v : Nat} (hv : 2 ≤ v) : gB γ ≤ ad γ v := by
  unfold ad gB
  rw [if_neg (by omega), if_neg (by omega)]
  omega
theorem ad_new {γ : Gh} {v : Nat} (hv : 2 ≤ v) : ad γ v + 2 = gB γ + v := by
  unfold ad gB
  rw [if_neg (by omega), if_neg (by omega)]
  omega
theorem cellOf_congr {γ : Gh} {σ τ : VH} {v : Nat} (h1 : hS τ v = hS σ v) (h2 : hI τ v = hI σ v) (h3 : hL τ v = hL σ v) (h4 : hR τ v = hR σ v) : cellOf γ τ v = cellOf γ σ v := by
  unfold cellOf fval
  simp only [h1, h2, h3, h4]
/-- one cell is written -/
theorem RH.put {γ : Gh} {σ τ : VH} {H H1 : Heap} {v : Nat} (h : RH γ σ H) (hv : 2 ≤ v) (hN' : hN τ = hN σ) (hS' : hS τ = hS σ) (hI' : ∀ u, u ≠ v → hI τ u = hI σ u) (hL' : ∀ u, u ≠ v → hL τ u = hL σ u) (hR' : ∀ u, u ≠ v → hR τ u = hR σ u) (hat : va_at γ.1 classes (ad γ v, cellOf γ τ v) H1) (hz : H1.size = H.size) (ho : ∀ q, q ≠ ad γ v → H1[q]? = H[q]?) : RH γ τ H1 := by
  obtain ⟨g1, g2, g3, g4, g5, g6, g7⟩ := h
  refine ⟨by rw [hz, hN']; exact g1, by rw [hN']; exact g2, fun u hu hun => ?_, by rw [hS']; exact g4, by rw [hS']; exact g5, fun j => by rw [hL' 0 (by omega)]; exact g6 j, fun j => by rw [hL' 1 (by omega)]; exact g7 j⟩
  by_cases huv : u = v
  · subst huv; exact hat
  · rw [cellOf_congr (by rw [hS']) (hI' u huv) (hL' u huv) (hR' u huv)]
    exact (g3 u hu (by rw [hN'] at hun; exact hun)).kept (ho _ (fun e => huv (ad_inj hu hv e)))
/-- a cell comes -/
theorem RH.new {γ : Gh} {σ : VH} {H H1 : Heap} {sh : Nat × Nat} (h : RH γ σ H) (hat : va_at γ.1 classes (ad γ (hN σ), cellOf γ (sN σ sh) (hN σ)) H1) (hz : H1.size = H.size + 1) (ho : ∀ q, q < H.size → H1[q]? = H[q]?) : RH γ (sN σ sh) H1 := by
  obtain ⟨g1, g2, g3, g4, g5, g6, g7⟩ := h
  refine ⟨by rw [hz, hN_sN]; omega, by rw [hN_sN]; omega, fun u hu hun => ?_, by rw [hS_sN, if_neg (by omega)]; exact g4, by rw [hS_sN, if_neg (by omega)]; exact g5, fun j => by rw [hL_sN, if_neg (by omega)]; exact g6 j, fun j => by rw [hL_sN, if_neg (by omega)]; exact g7 j⟩
  rw [hN_sN] at hun
  by_cases huv : u = hN σ
  · subst huv; exact hat
  · rw [cellOf_congr (σ := σ) (by rw [hS_sN, if_neg huv]) (by funext j; rw [hI_sN, if_neg huv]) (by funext j; rw [hL_sN, if_neg huv]) (by funext j; rw [hR_sN, if_neg huv])]
    exact (g3 u hu (by omega)).kept (ho _ (g3 u hu (by omega)).lt)
