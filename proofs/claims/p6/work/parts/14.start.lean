/-! THE CLAIM OUT OF ONE WALK OF THE LAW'S BODY. Your part is whole_start (and what it stands on); all else here is the same for every law, but numbers. -/
def R_law : String := "BloodPriceLaw"
def lw_P (b : Addr) (xs : List Int32) (args : Array Value) (s : State) : Prop := args = #[.ref b] ∧ s.IntsAt b xs ∧ xs.length ≤ 4096 ∧ (Jvm.Cond.and given_1 narrow_1).before args s = true
def lw_Q (_ : Array Value) (s : State) (o : Outcome) (t : State) : Prop := o = .returned (some (.int 1)) ∧ Framed s o t [] 600000 7302250
def lw_Z (below : List Frame) (a : Array Value) (s : State) : State → Prop := fun t => ∃ o, t.status = .running ∧ Ended t below o ∧ lw_Q a s o t
/-- the law's own end, with 1 on the stack, nothing written that was there before, its room as the claim has it -/
theorem lw_ret {p : Program} {l : Launch} {e : Env} {s : State} {m : MethodId} {below : List Frame} {meth : Method} {c : Code} {b : Nat} (hx : p.tables.exec = Jvm.exec) (hb : c.code = code) (hr : meth.sig.returnType = ret) (hlocks : meth.locks = false) {pc : Nat} {H : Heap} {ls : Array Slot} (hdg : decode code pc = .ok (.ireturn, 1)) : W p l e room_1 s m #[Value.ref b] below meth c H [] 600000 7302250 (lw_Z below #[Value.ref b] s) (F0 m pc ls [.int 1]) := by
  intro T hT X
  obtain ⟨fs, hret, hrun, hended, hW, hframe⟩ := X.leave (v := some (.int 1)) (hlocks := hlocks) (fun h => by rw [hr] at h; cases h)
  have hmeth' : T.vm.method? m = some meth := X.method'
  refine ⟨T.setFrames fs, ?_, .returned (some (.int 1)), hrun, hended, rfl, ⟨_, rfl⟩, hW, hframe⟩
  jvm_step X.here [X.here.top, hx, hb, hdg, hmeth', hr, ret, narrow_b1]
  (try refine ⟨rfl, ?_⟩); (try refine ⟨rfl, ?_⟩)
  first | (intro acts; rw [hret _ acts rfl rfl rfl]) | rw [hret _ _ rfl rfl rfl]
  exact Steps.refl _
/-- what holds at the law's entry: the machine, the code, the tables' words (any of lw_tbl by 'hts w (by decide +kernel)'), the script of L ints xs at the cell b, what the Statement gives of the start (any of its parts by flat_of_before) -/
def lw_At (p : Program) (s : State) (m : MethodId) (meth : Method) (c : Code) (b L : Nat) (xs : Nat → Int32) : Prop :=
  p.tables.exec = Jvm.exec ∧ c.code = code ∧ meth.sig.returnType = ret ∧ c.maxLocals = 4 ∧ s.vm.findClass R_law = some m.cls ∧ (∀ w ∈ lw_tbl, w.before #[Value.ref b] s = true) ∧ va_X b L xs s s.heap ∧ b < s.heap.size ∧ meth.locks = false ∧ (Jvm.Cond.and given_1 narrow_1).before #[Value.ref b] s = true
/-- the flat heap at the law's entry: the two static rows, nothing new -/
def σ00 : VH := (fun _ _ => 0, fun a j => if a = 0 then nnl.getD j 0 else if a = 1 then fwl.getD j 0 else 0, fun _ _ => none, fun a => if a = 0 then (23, 21) else (23, 7), 2)
theorem tmem {w : Cond} (i : Nat) (h : tables_1[i]? = some w) : w ∈ lw_tbl := List.mem_append_right _ (List.mem_of_getElem? h)
theorem nst_23 : (Jvm.Cond.methodLinkNest "BloodPrice" (15 : Nat) ({ cls := "BloodPrice$Tokens", name := "<init>", desc := "()V" } : Jvm.MethodName) "BloodPrice") ∈ lw_tbl := tmem 23 (by decide +kernel)
theorem nst_51 : (Jvm.Cond.methodLinkNest "BloodPrice" (36 : Nat) ({ cls := "BloodPrice$People", name := "<init>", desc := "()V" } : Jvm.MethodName) "BloodPrice") ∈ lw_tbl := tmem 51 (by decide +kernel)
theorem nst_87 : (Jvm.Cond.methodLinkNest "BloodPrice" (43 : Nat) ({ cls := "BloodPrice$Tolds", name := "<init>", desc := "()V" } : Jvm.MethodName) "BloodPrice") ∈ lw_tbl := tmem 87 (by decide +kernel)
theorem nst_110 : (Jvm.Cond.methodLinkNest "BloodPrice" (50 : Nat) ({ cls := "BloodPrice$Truces", name := "<init>", desc := "()V" } : Jvm.MethodName) "BloodPrice") ∈ lw_tbl := tmem 110 (by decide +kernel)
theorem nst_135 : (Jvm.Cond.methodLinkNest "BloodPrice" (63 : Nat) ({ cls := "BloodPrice$Payments", name := "<init>", desc := "()V" } : Jvm.MethodName) "BloodPrice") ∈ lw_tbl := tmem 135 (by decide +kernel)
theorem nst_235 : (Jvm.Cond.methodLinkNest "BloodPrice$Tokens" (42 : Nat) ({ cls := "BloodPrice", name := "isLetter", desc := "(I)Z" } : Jvm.MethodName) "BloodPrice") ∈ lw_tbl := tmem 235 (by decide +kernel)
theorem nst_383 : (Jvm.Cond.methodLinkNest "BloodPrice$Reader" (71 : Nat) ({ cls := "BloodPrice", name := "isName", desc := "(J)Z" } : Jvm.MethodName) "BloodPrice") ∈ lw_tbl := tmem 383 (by decide +kernel)
theorem nst_393 : (Jvm.Cond.methodLinkNest "BloodPrice$Reader" (78 : Nat) ({ cls := "BloodPrice", name := "placeIn", desc := "([JJ)I" } : Jvm.MethodName) "BloodPrice") ∈ lw_tbl := tmem 393 (by decide +kernel)
theorem nst_437 : (Jvm.Cond.fieldLinkNest "BloodPrice$Reader" (168 : Nat) "BloodPrice" "FACT_WORDS" "[J" "BloodPrice") ∈ lw_tbl := tmem 437 (by decide +kernel)
theorem nst_48 : (Jvm.Cond.arrayOver (Jvm.ClassFile.FieldType.object "BloodPrice$Law")) ∈ lw_tbl := tmem 48 (by decide +kernel)
theorem nst_132 : (Jvm.Cond.arrayOver (Jvm.ClassFile.FieldType.object "BloodPrice$Case")) ∈ lw_tbl := tmem 132 (by decide +kernel)
theorem nst_389 : (Jvm.Cond.laysStatic "BloodPrice" "NO_NAMES" "[J") ∈ lw_tbl := tmem 389 (by decide +kernel)
theorem nst_438 : (Jvm.Cond.laysStatic "BloodPrice" "FACT_WORDS" "[J") ∈ lw_tbl := tmem 438 (by decide +kernel)
set_option maxHeartbeats 4000000 in
set_option maxRecDepth 20000 in
theorem start_ok {p : Program} {s : State} {m : MethodId} {meth : Method} {c : Code} {b L : Nat} {xs : Nat → Int32} (C0 : lw_At p s m meth c b L xs) : ∃ γ : Gh, RV γ s ∧ RS γ s ∧ RH γ σ00 s.heap ∧ gB γ = s.heap.size ∧ γ.2.2.2.2.2.1 = b ∧ γ.2.2.2.2.2.2.1 = L ∧ γ.2.2.2.2.2.2.2 = xs := by
  obtain ⟨hx, hb, hr, hml, hown, hts0, hX, hbl, hlocks, hgv⟩ := C0
  have hts := gw_hts hts0
  obtain ⟨c0, i0, hK0⟩ := u_known (C := RX0) (T := TX0) (N := 11) (n := 11) hts uw_0 (hts _ tw_558)
  obtain ⟨c1, i1, hK1⟩ := u_known (C := RX1) (T := TX1) (N := 16) (n := 16) hts uw_1 (hts _ tw_261)
  obtain ⟨c2, i2, hK2⟩ := u_known (C := RX2) (T := TX2) (N := 4) (n := 4) hts uw_2 (hts _ tw_134)
  obtain ⟨c3, i3, hK3⟩ := u_known (C := RX3) (T := TX3) (N := 8) (n := 8) hts uw_3 (hts _ tw_50)
  obtain ⟨c4, i4, hK4⟩ := u_known (C := RX4) (T := TX4) (N := 10) (n := 10) hts uw_4 (hts _ tw_328)
  obtain ⟨c5, i5, hK5⟩ := u_known (C := RX5) (T := TX5) (N := 4) (n := 4) hts uw_5 (hts _ tw_22)
  obtain ⟨c6, i6, hK6⟩ := u_known (C := RX6) (T := TX6) (N := 5) (n := 5) hts uw_6 (hts _ tw_86)
  obtain ⟨c7, i7, hK7⟩ := u_known (C := RX7) (T := TX7) (N := 5) (n := 5) hts uw_7 (hts _ tw_109)
  obtain ⟨c8, i8, hK8⟩ := u_known (C := RX8) (T := TX8) (N := 17) (n := 17) hts uw_8 (hts _ tw_14)
  obtain ⟨c9, i9, hK9⟩ := u_known (C := RX9) (T := TX9) (N := 75) (n := 75) hts uw_9 (hts _ tw_754)
  obtain ⟨a_boolean, k_boolean, p_boolean, f_boolean, g_boolean, q_boolean⟩ := Cond.arrayClass_spec (hts _ tw_84)
  obtain ⟨a_byte, k_byte, p_byte, f_byte, g_byte, q_byte⟩ := Cond.arrayClass_spec (hts _ tw_44)
  obtain ⟨a_int, k_int, p_int, f_int, g_int, q_int⟩ := Cond.arrayClass_spec (hts _ tw_46)
  obtain ⟨a_long, k_long, p_long, f_long, g_long, q_long⟩ := Cond.arrayClass_spec (hts _ tw_45)
  obtain ⟨p_law, a_law, k_law, f_law, -, g_law, q_law, n_law⟩ := Cond.arrayOver_spec (hts0 _ nst_48)
  obtain ⟨p_case, a_case, k_case, f_case, -, g_case, q_case, n_case⟩ := Cond.arrayOver_spec (hts0 _ nst_132)
  have hs := flat_of_before _ hgv
  have hA : ∀ a : Nat, a < s.heap.size → ¬ (fun q : Nat => s.heap.size ≤ q) a := fun a h => Nat.not_le.mpr h
  have eN0 : (Term.elem (.static "BloodPrice" "NO_NAMES" "[J") (.int (Int32.ofNat 0))).eval #[Value.ref b] s none [] s = some (.long (nnl.getD 0 0)) := va_eqtl (hs (Cond.eq (.elem (.static "BloodPrice" "NO_NAMES" "[J") (.int 0)) (.long 1752527476)) (by decide +kernel))
  have eN1 : (Term.elem (.static "BloodPrice" "NO_NAMES" "[J") (.int (Int32.ofNat 1))).eval #[Value.ref b] s none [] s = some (.long (nnl.getD 1 0)) := va_eqtl (hs (Cond.eq (.elem (.static "BloodPrice" "NO_NAMES" "[J") (.int 1)) (.long 2003330414)) (by decide +kernel))
  have eN2 : (Term.elem (.static "BloodPrice" "NO_NAMES" "[J") (.int (Int32.ofNat 2))).eval #[Value.ref b] s none [] s = some (.long (nnl.getD 2 0)) := va_eqtl (hs (Cond.eq (.elem (.static "BloodPrice" "NO_NAMES" "[J") (.int 2)) (.long 25711)) (by decide +kernel))
  have eN3 : (Term.elem (.static "BloodPrice" "NO_NAMES" "[J") (.int (Int32.ofNat 3))).eval #[Value.ref b] s none [] s = some (.long (nnl.getD 3 0)) := va_eqtl (hs (Cond.eq (.elem (.static "BloodPrice" "NO_NAMES" "[J") (.int 3)) (.long 110429873532005)) (by decide +kernel))
  have eN4 : (Term.elem (.static "BloodPrice" "NO_NAMES" "[J") (.int (Int32.ofNat 4))).eval #[Value.ref b] s none [] s = some (.long (nnl.getD 4 0)) := va_eqtl (hs (Cond.eq (.elem (.static "BloodPrice" "NO_NAMES" "[J") (.int 4)) (.long 1751215206)) (by decide +kernel))
  have eN5 : (Term.elem (.static "BloodPrice" "NO_NAMES" "[J") (.int (Int32.ofNat 5))).eval #[Value.ref b] s none [] s = some (.long (nnl.getD 5 0)) := va_eqtl (hs (Cond.eq (.elem (.static "BloodPrice" "NO_NAMES" "[J") (.int 5)) (.long 6382692)) (by decide +kernel))
  have eN6 : (Term.elem (.static "BloodPrice" "NO_NAMES" "[J") (.int (Int32.ofNat 6))).eval #[Value.ref b] s none [] s = some (.long (nnl.getD 6 0)) := va_eqtl (hs (Cond.eq (.elem (.static "BloodPrice" "NO_NAMES" "[J") (.int 6)) (.long 1818588019)) (by decide +kernel))
  have eN7 : (Term.elem (.static "BloodPrice" "NO_NAMES" "[J") (.int (Int32.ofNat 7))).eval #[Value.ref b] s none [] s = some (.long (nnl.getD 7 0)) := va_eqtl (hs (Cond.eq (.elem (.static "BloodPrice" "NO_NAMES" "[J") (.int 7)) (.long 495672455781)) (by decide +kernel))
  have eN8 : (Term.elem (.static "BloodPrice" "NO_NAMES" "[J") (.int (Int32.ofNat 8))).eval #[Value.ref b] s none [] s = some (.long (nnl.getD 8 0)) := va_eqtl (hs (Cond.eq (.elem (.static "BloodPrice" "NO_NAMES" "[J") (.int 8)) (.long 1852138852)) (by decide +kernel))
  have eN9 : (Term.elem (.static "BloodPrice" "NO_NAMES" "[J") (.int (Int32.ofNat 9))).eval #[Value.ref b] s none [] s = some (.long (nnl.getD 9 0)) := va_eqtl (hs (Cond.eq (.elem (.static "BloodPrice" "NO_NAMES" "[J") (.int 9)) (.long 1918987883)) (by decide +kernel))
  have eN10 : (Term.elem (.static "BloodPrice" "NO_NAMES" "[J") (.int (Int32.ofNat 10))).eval #[Value.ref b] s none [] s = some (.long (nnl.getD 10 0)) := va_eqtl (hs (Cond.eq (.elem (.static "BloodPrice" "NO_NAMES" "[J") (.int 10)) (.long 499918204275)) (by decide +kernel))
  have eN11 : (Term.elem (.static "BloodPrice" "NO_NAMES" "[J") (.int (Int32.ofNat 11))).eval #[Value.ref b] s none [] s = some (.long (nnl.getD 11 0)) := va_eqtl (hs (Cond.eq (.elem (.static "BloodPrice" "NO_NAMES" "[J") (.int 11)) (.long 1684109683)) (by decide +kernel))
  have eN12 : (Term.elem (.static "BloodPrice" "NO_NAMES" "[J") (.int (Int32.ofNat 12))).eval #[Value.ref b] s none [] s = some (.long (nnl.getD 12 0)) := va_eqtl (hs (Cond.eq (.elem (.static "BloodPrice" "NO_NAMES" "[J") (.int 12)) (.long 28530)) (by decide +kernel))
  have eN13 : (Term.elem (.static "BloodPrice" "NO_NAMES" "[J") (.int (Int32.ofNat 13))).eval #[Value.ref b] s none [] s = some (.long (nnl.getD 13 0)) := va_eqtl (hs (Cond.eq (.elem (.static "BloodPrice" "NO_NAMES" "[J") (.int 13)) (.long 6385252)) (by decide +kernel))
  have eN14 : (Term.elem (.static "BloodPrice" "NO_NAMES" "[J") (.int (Int32.ofNat 14))).eval #[Value.ref b] s none [] s = some (.long (nnl.getD 14 0)) := va_eqtl (hs (Cond.eq (.elem (.static "BloodPrice" "NO_NAMES" "[J") (.int 14)) (.long 7237492)) (by decide +kernel))
  have eN15 : (Term.elem (.static "BloodPrice" "NO_NAMES" "[J") (.int (Int32.ofNat 15))).eval #[Value.ref b] s none [] s = some (.long (nnl.getD 15 0)) := va_eqtl (hs (Cond.eq (.elem (.static "BloodPrice" "NO_NAMES" "[J") (.int 15)) (.long 478694368626)) (by decide +kernel))
  have eN16 : (Term.elem (.static "BloodPrice" "NO_NAMES" "[J") (.int (Int32.ofNat 16))).eval #[Value.ref b] s none [] s = some (.long (nnl.getD 16 0)) := va_eqtl (hs (Cond.eq (.elem (.static "BloodPrice" "NO_NAMES" "[J") (.int 16)) (.long 482854658917)) (by decide +kernel))
  have eN17 : (Term.elem (.static "BloodPrice" "NO_NAMES" "[J") (.int (Int32.ofNat 17))).eval #[Value.ref b] s none [] s = some (.long (nnl.getD 17 0)) := va_eqtl (hs (Cond.eq (.elem (.static "BloodPrice" "NO_NAMES" "[J") (.int 17)) (.long 474214787188)) (by decide +kernel))
  have eN18 : (Term.elem (.static "BloodPrice" "NO_NAMES" "[J") (.int (Int32.ofNat 18))).eval #[Value.ref b] s none [] s = some (.long (nnl.getD 18 0)) := va_eqtl (hs (Cond.eq (.elem (.static "BloodPrice" "NO_NAMES" "[J") (.int 18)) (.long 7039342)) (by decide +kernel))
  have eN19 : (Term.elem (.static "BloodPrice" "NO_NAMES" "[J") (.int (Int32.ofNat 19))).eval #[Value.ref b] s none [] s = some (.long (nnl.getD 19 0)) := va_eqtl (hs (Cond.eq (.elem (.static "BloodPrice" "NO_NAMES" "[J") (.int 19)) (.long 500136502117)) (by decide +kernel))
  have eN20 : (Term.elem (.static "BloodPrice" "NO_NAMES" "[J") (.int (Int32.ofNat 20))).eval #[Value.ref b] s none [] s = some (.long (nnl.getD 20 0)) := va_eqtl (hs (Cond.eq (.elem (.static "BloodPrice" "NO_NAMES" "[J") (.int 20)) (.long 7566701)) (by decide +kernel))
  obtain ⟨tN, evN, hTN⟩ := va_Tof (tm := (.static "BloodPrice" "NO_NAMES" "[J")) (ty := .long) (N := 21) (f := fun j => .long (nnl.getD j 0)) (A := fun q : Nat => s.heap.size ≤ q) (by decide) (hs (Cond.arrayOf (.static "BloodPrice" "NO_NAMES" "[J") .long) (by decide +kernel)) (va_eqt (hs (Cond.eq (.length (.static "BloodPrice" "NO_NAMES" "[J")) (.int 21)) (by decide +kernel))) (fun j hj => by
    have hq : j = 0 ∨ j = 1 ∨ j = 2 ∨ j = 3 ∨ j = 4 ∨ j = 5 ∨ j = 6 ∨ j = 7 ∨ j = 8 ∨ j = 9 ∨ j = 10 ∨ j = 11 ∨ j = 12 ∨ j = 13 ∨ j = 14 ∨ j = 15 ∨ j = 16 ∨ j = 17 ∨ j = 18 ∨ j = 19 ∨ j = 20 := by omega
    rcases hq with rfl | rfl | rfl | rfl | rfl | rfl | rfl | rfl | rfl | rfl | rfl | rfl | rfl | rfl | rfl | rfl | rfl | rfl | rfl | rfl | rfl
    · exact eN0
    · exact eN1
    · exact eN2
    · exact eN3
    · exact eN4
    · exact eN5
    · exact eN6
    · exact eN7
    · exact eN8
    · exact eN9
    · exact eN10
    · exact eN11
    · exact eN12
    · exact eN13
    · exact eN14
    · exact eN15
    · exact eN16
    · exact eN17
    · exact eN18
    · exact eN19
    · exact eN20) hA
  have hZN := va_Zref (A := fun q : Nat => s.heap.size ≤ q) (hts0 _ nst_389) (hts _ tw_1) evN hA
  have eF0 : (Term.elem (.static "BloodPrice" "FACT_WORDS" "[J") (.int (Int32.ofNat 0))).eval #[Value.ref b] s none [] s = some (.long (fwl.getD 0 0)) := va_eqtl (hs (Cond.eq (.elem (.static "BloodPrice" "FACT_WORDS" "[J") (.int 0)) (.long 1918987883)) (by decide +kernel))
  have eF1 : (Term.elem (.static "BloodPrice" "FACT_WORDS" "[J") (.int (Int32.ofNat 1))).eval #[Value.ref b] s none [] s = some (.long (fwl.getD 1 0)) := va_eqtl (hs (Cond.eq (.elem (.static "BloodPrice" "FACT_WORDS" "[J") (.int 1)) (.long 478694368626)) (by decide +kernel))
  have eF2 : (Term.elem (.static "BloodPrice" "FACT_WORDS" "[J") (.int (Int32.ofNat 2))).eval #[Value.ref b] s none [] s = some (.long (fwl.getD 2 0)) := va_eqtl (hs (Cond.eq (.elem (.static "BloodPrice" "FACT_WORDS" "[J") (.int 2)) (.long 482854658917)) (by decide +kernel))
  have eF3 : (Term.elem (.static "BloodPrice" "FACT_WORDS" "[J") (.int (Int32.ofNat 3))).eval #[Value.ref b] s none [] s = some (.long (fwl.getD 3 0)) := va_eqtl (hs (Cond.eq (.elem (.static "BloodPrice" "FACT_WORDS" "[J") (.int 3)) (.long 474214787188)) (by decide +kernel))
  have eF4 : (Term.elem (.static "BloodPrice" "FACT_WORDS" "[J") (.int (Int32.ofNat 4))).eval #[Value.ref b] s none [] s = some (.long (fwl.getD 4 0)) := va_eqtl (hs (Cond.eq (.elem (.static "BloodPrice" "FACT_WORDS" "[J") (.int 4)) (.long 7039342)) (by decide +kernel))
  have eF5 : (Term.elem (.static "BloodPrice" "FACT_WORDS" "[J") (.int (Int32.ofNat 5))).eval #[Value.ref b] s none [] s = some (.long (fwl.getD 5 0)) := va_eqtl (hs (Cond.eq (.elem (.static "BloodPrice" "FACT_WORDS" "[J") (.int 5)) (.long 500136502117)) (by decide +kernel))
  have eF6 : (Term.elem (.static "BloodPrice" "FACT_WORDS" "[J") (.int (Int32.ofNat 6))).eval #[Value.ref b] s none [] s = some (.long (fwl.getD 6 0)) := va_eqtl (hs (Cond.eq (.elem (.static "BloodPrice" "FACT_WORDS" "[J") (.int 6)) (.long 7566701)) (by decide +kernel))
  obtain ⟨tF, evF, hTF⟩ := va_Tof (tm := (.static "BloodPrice" "FACT_WORDS" "[J")) (ty := .long) (N := 7) (f := fun j => .long (fwl.getD j 0)) (A := fun q : Nat => s.heap.size ≤ q) (by decide) (hs (Cond.arrayOf (.static "BloodPrice" "FACT_WORDS" "[J") .long) (by decide +kernel)) (va_eqt (hs (Cond.eq (.length (.static "BloodPrice" "FACT_WORDS" "[J")) (.int 7)) (by decide +kernel))) (fun j hj => by
    have hq : j = 0 ∨ j = 1 ∨ j = 2 ∨ j = 3 ∨ j = 4 ∨ j = 5 ∨ j = 6 := by omega
    rcases hq with rfl | rfl | rfl | rfl | rfl | rfl | rfl
    · exact eF0
    · exact eF1
    · exact eF2
    · exact eF3
    · exact eF4
    · exact eF5
    · exact eF6) hA
  have hZF := va_Zref (A := fun q : Nat => s.heap.size ≤ q) (hts0 _ nst_438) (hts _ tw_1) evF hA
  refine ⟨((fun k => if k = 0 then c0 else if k = 1 then c1 else if k = 2 then c2 else if k = 3 then c3 else if k = 4 then c4 else if k = 5 then c5 else if k = 6 then c6 else if k = 7 then c7 else if k = 8 then c8 else c9, fun k => if k = 0 then i0 else if k = 1 then i1 else if k = 2 then i2 else if k = 3 then i3 else if k = 4 then i4 else if k = 5 then i5 else if k = 6 then i6 else if k = 7 then i7 else if k = 8 then i8 else i9), s.heap.size, tN, tF, fun k => if k = 20 then a_boolean else if k = 21 then a_byte else if k = 22 then a_int else if k = 23 then a_long else if k = 24 then a_law else a_case, b, L, xs), ⟨⟨?_, ?_⟩, ?_, ?_, ?_, ?_⟩, ⟨hZN, hZF, hTN, hTF, hX, Nat.not_le.mpr hbl⟩, ?_, rfl, rfl, rfl, rfl⟩
  · intro k q hq
    match k, hq with
    | 0, hq => cases hq; exact hK0
    | 1, hq => cases hq; exact hK1
    | 2, hq => cases hq; exact hK2
    | 3, hq => cases hq; exact hK3
    | 4, hq => cases hq; exact hK4
    | 5, hq => cases hq; exact hK5
    | 6, hq => cases hq; exact hK6
    | 7, hq => cases hq; exact hK7
    | 8, hq => cases hq; exact hK8
    | 9, hq => cases hq; exact hK9
    | k + 10, hq => simp [classes] at hq
  · intro k q hq
    match k, hq with
    | 0, hq => cases hq; exact ⟨fun n z => ⟨fun k h => (by cases h), k_boolean, g_boolean, p_boolean, q_boolean⟩, f_boolean⟩
    | 1, hq => cases hq; exact ⟨fun n z => ⟨fun k h => (by cases h), k_byte, g_byte, p_byte, q_byte⟩, f_byte⟩
    | 2, hq => cases hq; exact ⟨fun n z => ⟨fun k h => (by cases h), k_int, g_int, p_int, q_int⟩, f_int⟩
    | 3, hq => cases hq; exact ⟨fun n z => ⟨fun k h => (by cases h), k_long, g_long, p_long, q_long⟩, f_long⟩
    | 4, hq => cases hq; exact ⟨fun n z => ⟨fun k h => (by cases h), k_law, g_law, p_law, q_law⟩, k_law, p_law, g_law, q_law, f_law, n_law⟩
    | 5, hq => cases hq; exact ⟨fun n z => ⟨fun k h => (by cases h), k_case, g_case, p_case, q_case⟩, k_case, p_case, g_case, q_case, f_case, n_case⟩
    | k + 6, hq => simp [tysG] at hq
  · intro w hw
    simp only [nestW, List.mem_cons, List.not_mem_nil, or_false] at hw
    rcases hw with rfl | rfl | rfl | rfl | rfl | rfl | rfl | rfl
    · exact va_Nw.of rfl (hts0 _ nst_23)
    · exact va_Nw.of rfl (hts0 _ nst_51)
    · exact va_Nw.of rfl (hts0 _ nst_87)
    · exact va_Nw.of rfl (hts0 _ nst_110)
    · exact va_Nw.of rfl (hts0 _ nst_135)
    · exact va_Nw.of rfl (hts0 _ nst_235)
    · exact va_Nw.of rfl (hts0 _ nst_383)
    · exact va_Nw.of rfl (hts0 _ nst_393)
  · exact va_Nw.of rfl (hts0 _ nst_437)
  · exact va_AO.of (hts0 _ nst_48)
  · exact va_AO.of (hts0 _ nst_132)
  · exact ⟨rfl, Nat.le_refl 2, fun v h1 h2 => absurd h2 (Nat.not_lt.mpr h1), rfl, rfl, fun j => rfl, fun j => rfl⟩
