def σX : VH := in_X8 2 (sN σ00 (8, 0))
def σM : VH := in_X9 33 (sN σX (9, 0))
theorem hN_σX : hN σX = 33 := by decide +kernel
def Q2 (x : Int32) (σ : VH) : Prop := 3 ≤ hN σ ∧ (∀ v k, ¬ (v = 2 ∧ k = 6) → hI σ v k = 0) ∧ hI σ 2 6 = x
theorem Q2.new {x : Int32} {σ : VH} (sh : Nat × Nat) (h : Q2 x σ) : Q2 x (sN σ sh) := ⟨by rw [hN_sN]; have := h.1; omega, fun v k hn => by rw [hI_sN]; split; rfl; exact h.2.1 v k hn, by rw [hI_sN, if_neg (by have := h.1; omega)]; exact h.2.2⟩
theorem Q2.pR {x : Int32} {σ : VH} (a k : Nat) (r : Option Nat) (h : Q2 x σ) : Q2 x (sR σ a k r) := h
theorem Q2.nf {x : Int32} {σ : VH} (b k : Nat) (sh : Nat × Nat) (h : Q2 x σ) : Q2 x (nf b k sh σ) := Q2.pR _ _ _ (Q2.new _ h)
theorem Q2.pI {x : Int32} {σ : VH} (y : Int32) (h : Q2 x σ) : Q2 y (sI σ 2 6 y) := ⟨h.1, fun v k hn => by rw [hI_sI, if_neg hn]; exact h.2.1 v k hn, by rw [hI_sI, if_pos ⟨rfl, rfl⟩]⟩
theorem Q2.no {x : Int32} {σ : VH} (b k ci : Nat) (f : Nat → VH → VH) (hf : ∀ a ρ, Q2 x ρ → Q2 x (f a ρ)) (h : Q2 x σ) : Q2 x (no b k ci f σ) := Q2.pR _ _ _ (hf _ _ (Q2.new _ h))
def Q3 (x : Int32) (σ : VH) : Prop := 34 ≤ hN σ ∧ (∀ v k, ¬ (v = 2 ∧ k = 6) → ¬ (v = 33 ∧ k = 5) → hI σ v k = 0) ∧ hI σ 2 6 = -1 ∧ hI σ 33 5 = x
theorem Q3.new {x : Int32} {σ : VH} (sh : Nat × Nat) (h : Q3 x σ) : Q3 x (sN σ sh) := ⟨by rw [hN_sN]; have := h.1; omega, fun v k hn hm => by rw [hI_sN]; split; rfl; exact h.2.1 v k hn hm, by rw [hI_sN, if_neg (by have := h.1; omega)]; exact h.2.2.1, by rw [hI_sN, if_neg (by have := h.1; omega)]; exact h.2.2.2⟩
theorem Q3.nf {x : Int32} {σ : VH} (b k : Nat) (sh : Nat × Nat) (h : Q3 x σ) : Q3 x (nf b k sh σ) := Q3.new (σ := σ) sh h
theorem Q3.pI {x : Int32} {σ : VH} (y : Int32) (h : Q3 x σ) : Q3 y (sI σ 33 5 y) := ⟨h.1, fun v k hn hm => by rw [hI_sI, if_neg hm]; exact h.2.1 v k hn hm, by rw [hI_sI, if_neg (by decide)]; exact h.2.2.1, by rw [hI_sI, if_pos ⟨rfl, rfl⟩]⟩
theorem q2_X2 {x : Int32} (a : Nat) (ρ : VH) (h : Q2 x ρ) : Q2 x (in_X2 a ρ) := by
  unfold in_X2
  repeat (first | with_reducible exact h | with_reducible refine Q2.nf _ _ _ ?_)
theorem q2_X3 {x : Int32} (a : Nat) (ρ : VH) (h : Q2 x ρ) : Q2 x (in_X3 a ρ) := by
  unfold in_X3
  repeat (first | with_reducible exact h | with_reducible refine Q2.nf _ _ _ ?_)
theorem q2_X5 {x : Int32} (a : Nat) (ρ : VH) (h : Q2 x ρ) : Q2 x (in_X5 a ρ) := by
  unfold in_X5
  repeat (first | with_reducible exact h | with_reducible refine Q2.nf _ _ _ ?_)
theorem q2_X6 {x : Int32} (a : Nat) (ρ : VH) (h : Q2 x ρ) : Q2 x (in_X6 a ρ) := by
  unfold in_X6
  repeat (first | with_reducible exact h | with_reducible refine Q2.nf _ _ _ ?_)
theorem q2_X7 {x : Int32} (a : Nat) (ρ : VH) (h : Q2 x ρ) : Q2 x (in_X7 a ρ) := by
  unfold in_X7
  repeat (first | with_reducible exact h | with_reducible refine Q2.nf _ _ _ ?_)
theorem q2_σX : Q2 (-1) σX := by
  have h : Q2 0 (sN σ00 (8, 0)) := ⟨Nat.le_refl 3, fun v k _ => by rw [hI_sN]; split <;> rfl, rfl⟩
  unfold σX in_X8
  repeat (first | with_reducible exact h | with_reducible refine Q2.nf _ _ _ ?_ | with_reducible refine Q2.pI (x := 0) _ ?_ | with_reducible refine Q2.no _ _ _ _ q2_X2 ?_ | with_reducible refine Q2.no _ _ _ _ q2_X3 ?_ | with_reducible refine Q2.no _ _ _ _ q2_X5 ?_ | with_reducible refine Q2.no _ _ _ _ q2_X6 ?_ | with_reducible refine Q2.no _ _ _ _ q2_X7 ?_)
theorem q3_σM : Q3 (-1) σM := by
  have h : Q3 0 (sN σX (9, 0)) := ⟨by rw [hN_sN, hN_σX]; decide, fun v k hn hm => by rw [hI_sN]; split; rfl; exact q2_σX.2.1 v k hn, by rw [hI_sN, if_neg (by rw [hN_σX]; decide)]; exact q2_σX.2.2, by rw [hI_sN, if_pos (by rw [hN_σX])]⟩
  unfold σM in_X9
  repeat (first | with_reducible exact h | with_reducible refine Q3.nf _ _ _ ?_ | with_reducible refine Q3.pI (x := 0) _ ?_)
set_option maxRecDepth 20000 in
theorem lay_σM : Lay σM := ⟨by decide +kernel, by decide +kernel, by decide +kernel⟩
theorem gz_σM (v k : Nat) (h1 : ¬ (v = 2 ∧ k = 6)) (h2 : ¬ (v = 33 ∧ k = 5)) : gI σM v k = 0 := gI_iz (q3_σM.2.1 v k h1 h2) (by decide)
theorem gz' (v k : Nat) (h1 : v ≠ 2 ∨ k ≠ 6) (h2 : v ≠ 33 ∨ k ≠ 5) : gI σM v k = 0 := gz_σM v k (fun e => by omega) (fun e => by omega)
theorem r7_σM : ∀ j : Nat, j < 16 → hR σM 7 j = none := by decide +kernel
theorem r26_σM : ∀ j : Nat, j < 20 → hR σM 26 j = none := by decide +kernel
theorem ix_σM : InvX σM := by
  refine ⟨lay_σM, ?_, fun f hf => ?_, fun j hj => Or.inl (r7_σM j hj), fun j hj => Or.inl (r26_σM j hj)⟩
  · unfold InvX1
    rw [gz' 2 1 (by omega) (by omega), gz' 9 7 (by omega) (by omega), gz' 16 4 (by omega) (by omega), gz' 21 4 (by omega) (by omega), gz' 2 12 (by omega) (by omega), gz' 27 3 (by omega) (by omega), gz' 2 15 (by omega) (by omega), gz' 2 7 (by omega) (by omega)]
    omega
  · rw [gz' 8 f (by omega) (by omega)]
    omega
theorem im_σM : InvM σM := by
  refine ⟨lay_σM, ?_, ⟨?_, fun f hf => ?_, fun f hf => ?_, fun f hf => ?_, fun f hf => ?_⟩, ?_, fun c hc => ?_⟩
  · unfold InvM1
    rw [gz' 33 2 (by omega) (by omega), gz' 33 52 (by omega) (by omega), gz' 33 53 (by omega) (by omega), gz' 33 54 (by omega) (by omega), gz' 33 73 (by omega) (by omega), gz' 33 74 (by omega) (by omega), gz' 33 6 (by omega) (by omega)]
    omega
  · rw [gz' 33 33 (by omega) (by omega), gz' 38 0 (by omega) (by omega), gz' 38 1 (by omega) (by omega), gz' 38 2 (by omega) (by omega), gz' 38 3 (by omega) (by omega)]
    omega
  · rw [gz' 38 f (by omega) (by omega)]
    omega
  · rw [gz' 39 f (by omega) (by omega)]
    omega
  · rw [gz' 41 f (by omega) (by omega)]
    omega
  · rw [gz' 33 33 (by omega) (by omega)] at hf
    omega
  · rw [gz' 33 66 (by omega) (by omega)]
    omega
  · rw [gz' 33 66 (by omega) (by omega)] at hc
    omega
theorem cp_σM : Cp σM := by
  unfold Cp
  rw [gz' 2 15 (by omega) (by omega), gz' 33 73 (by omega) (by omega), gz' 2 7 (by omega) (by omega), gz' 33 6 (by omega) (by omega), gz' 21 4 (by omega) (by omega), gz' 33 54 (by omega) (by omega), gz' 9 7 (by omega) (by omega), gz' 33 52 (by omega) (by omega), gz' 16 4 (by omega) (by omega), gz' 33 53 (by omega) (by omega), gz' 2 1 (by omega) (by omega), gz' 33 2 (by omega) (by omega), gz' 2 5 (by omega) (by omega), gz' 33 4 (by omega) (by omega), show gI σM 2 6 = -1 from gI_iz q3_σM.2.2.1 (by decide), show gI σM 33 5 = -1 from gI_iz q3_σM.2.2.2 (by decide)]
  omega
def QL (σ : VH) : Prop := 2 ≤ hN σ ∧ (∀ j, hL σ 0 j = nnl.getD j 0) ∧ (∀ j, hL σ 1 j = fwl.getD j 0)
theorem QL.new {σ : VH} (sh : Nat × Nat) (h : QL σ) : QL (sN σ sh) := ⟨by rw [hN_sN]; have := h.1; omega, fun j => by rw [hL_sN, if_neg (by have := h.1; omega)]; exact h.2.1 j, fun j => by rw [hL_sN, if_neg (by have := h.1; omega)]; exact h.2.2 j⟩
theorem QL.pR {σ : VH} (a k : Nat) (r : Option Nat) (h : QL σ) : QL (sR σ a k r) := h
theorem QL.pI {σ : VH} (a k : Nat) (x : Int32) (h : QL σ) : QL (sI σ a k x) := h
theorem QL.nf {σ : VH} (b k : Nat) (sh : Nat × Nat) (h : QL σ) : QL (nf b k sh σ) := QL.pR _ _ _ (QL.new _ h)
theorem QL.no {σ : VH} (b k ci : Nat) (f : Nat → VH → VH) (hf : ∀ a ρ, QL ρ → QL (f a ρ)) (h : QL σ) : QL (no b k ci f σ) := QL.pR _ _ _ (hf _ _ (QL.new _ h))
theorem ql_X2 (a : Nat) (ρ : VH) (h : QL ρ) : QL (in_X2 a ρ) := by
  unfold in_X2
  repeat (first | with_reducible exact h | with_reducible refine QL.nf _ _ _ ?_ | with_reducible refine QL.pI _ _ _ ?_)
theorem ql_X3 (a : Nat) (ρ : VH) (h : QL ρ) : QL (in_X3 a ρ) := by
  unfold in_X3
  repeat (first | with_reducible exact h | with_reducible refine QL.nf _ _ _ ?_ | with_reducible refine QL.pI _ _ _ ?_)
theorem ql_X5 (a : Nat) (ρ : VH) (h : QL ρ) : QL (in_X5 a ρ) := by
  unfold in_X5
  repeat (first | with_reducible exact h | with_reducible refine QL.nf _ _ _ ?_ | with_reducible refine QL.pI _ _ _ ?_)
theorem ql_X6 (a : Nat) (ρ : VH) (h : QL ρ) : QL (in_X6 a ρ) := by
  unfold in_X6
  repeat (first | with_reducible exact h | with_reducible refine QL.nf _ _ _ ?_ | with_reducible refine QL.pI _ _ _ ?_)
theorem ql_X7 (a : Nat) (ρ : VH) (h : QL ρ) : QL (in_X7 a ρ) := by
  unfold in_X7
  repeat (first | with_reducible exact h | with_reducible refine QL.nf _ _ _ ?_ | with_reducible refine QL.pI _ _ _ ?_)
theorem ql_σX : QL σX := by
  have h : QL (sN σ00 (8, 0)) := QL.new _ ⟨Nat.le_refl 2, fun _ => rfl, fun _ => rfl⟩
  unfold σX in_X8
  repeat (first | with_reducible exact h | with_reducible refine QL.nf _ _ _ ?_ | with_reducible refine QL.pI _ _ _ ?_ | with_reducible refine QL.no _ _ _ _ ql_X2 ?_ | with_reducible refine QL.no _ _ _ _ ql_X3 ?_ | with_reducible refine QL.no _ _ _ _ ql_X5 ?_ | with_reducible refine QL.no _ _ _ _ ql_X6 ?_ | with_reducible refine QL.no _ _ _ _ ql_X7 ?_)
theorem ql_σM : QL σM := by
  have h : QL (sN σX (9, 0)) := QL.new _ ql_σX
  unfold σM in_X9
  repeat (first | with_reducible exact h | with_reducible refine QL.nf _ _ _ ?_ | with_reducible refine QL.pI _ _ _ ?_)
theorem cx_σM : Cxt σM := ⟨fun k => by rw [q3_σM.2.1 3 k (by omega) (by omega), q3_σM.2.1 34 k (by omega) (by omega)], fun k => by rw [gz' 8 k (by omega) (by omega), gz' 38 k (by omega) (by omega)], ql_σM.2⟩
theorem cl_σM : Cl σM := ⟨fun f hf => by rw [gz' 38 f (by omega) (by omega), gz' 33 33 (by omega) (by omega)]; rfl, fun l hl => by rw [gz' 33 33 (by omega) (by omega)] at hl; omega⟩
set_option maxHeartbeats 4000000 in
set_option maxRecDepth 20000 in
theorem g_law (κ : Kx) (γ : Gh) (Q : State → Prop) (nm : String) (O : OK κ γ code 4 "BloodPriceLaw" 2000 ret nm) (hrc : κ.2.2.2.1.cells = 600000) (hrs : κ.2.2.2.1.slots = 7302250) (L : Nat) (hLγ : γ.2.2.2.2.2.2.1 = L) (hL : L ≤ 4096) (hend : ∀ (σ : VH) (cells slots : Nat) (ls : List (Nat × Value)), cells ≤ 600000 → slots ≤ 7302250 → Z κ γ 4 σ cells slots Q 1056 ls [.int 1]) : Z κ γ 4 σ00 0 0 Q 0 [(0, .float 0)] [] := by
  refine z_new (pc := 0) O kc_8 dv_8 tw_13 tw_14 tw_1 ⟨by rw [hrc]; decide, by rw [hrs]; decide⟩ dL_law_0 ?_
  refine z_top (st' := [.ref 2]) rfl ?_
  refine z_dup (pc := 3) O dL_law_3 rfl ?_
  refine z_callI (pc := 4) O cl_L_9 (ct_X8_init _ 2 _ ⟨by decide, by decide, rfl⟩) (by decide) rfl rfl (Nat.le_of_ble_eq_true rfl) ⟨by rw [hrc]; decide, by rw [hrs]; decide⟩ dL_law_4 (fun r τ hp => ?_)
  obtain ⟨rfl, rfl⟩ := hp
  refine z_heap (τ := σX) rfl ?_
  refine z_top (st' := [.ref 2]) rfl ?_
  refine z_astore_n (pc := 7) _ O dL_law_7 (by decide) rfl ?_
  refine z_new (pc := 8) O kc_9 dv_9 tw_753 tw_754 tw_7 ⟨by rw [hrc]; decide, by rw [hrs]; decide⟩ dL_law_8 ?_
  refine z_top (st' := [.ref 33]) (by rw [hN_σX]) ?_
  refine z_dup (pc := 11) O dL_law_11 rfl ?_
  refine z_callI (pc := 12) O cl_L_12 (ct_X9_init _ 33 _ ⟨by decide, by rw [hN_sN, hN_σX]; decide, by rw [hS_sN, if_pos (by rw [hN_σX])]⟩) (by decide) rfl rfl (Nat.le_of_ble_eq_true rfl) ⟨by rw [hrc]; decide, by rw [hrs]; decide⟩ dL_law_12 (fun r τ hp => ?_)
  obtain ⟨rfl, rfl⟩ := hp
  refine z_heap (τ := σM) rfl ?_
  refine z_top (st' := [.ref 33]) rfl ?_
  refine z_astore_n (pc := 15) _ O dL_law_15 (by decide) rfl ?_
  refine z_iconst (pc := 16) (v := iz 0) O dL_law_16 (by decide) ?_
  refine z_istore_n (pc := 17) _ O dL_law_17 (by decide) rfl ?_
  refine z_lk [(0, .float 0), (1, .ref 2), (2, .ref 33), (3, .int (iz (8 * ((0 : Nat) : Int))))] ⟨rfl, rfl, rfl, rfl, trivial⟩ ?_
  exact g_loop κ γ Q nm O hrc hrs L hLγ hL hend 513 0 _ _ _ rfl (by decide) (by decide) (by decide) ix_σM im_σM cp_σM cx_σM cl_σM
set_option maxHeartbeats 4000000 in
theorem g_start {p : Program} {e : Env} {s : State} {m : MethodId} {below : List Frame} {meth : Method} {c : Code} (l : Launch) {b L : Nat} {xs : Nat → Int32} (hL : L ≤ 4096) (C0 : lw_At p s m meth c b L xs) : W p l e room_1 s m #[Value.ref b] below meth c s.heap [] 0 0 (lw_Z below #[Value.ref b] s) (entryFrame m ([Value.ref b] : List Value).toArray 4) := by
  obtain ⟨γ, hV, hSt, hH, hB, hb, hLg, hxs⟩ := start_ok C0
  obtain ⟨hx, hbc, hr, hml, hown, hts, hX, hbl, hlocks, hgv⟩ := C0
  have O : OK (p, l, e, room_1, s, m, #[Value.ref b], below, meth, c) γ code 4 "BloodPriceLaw" 2000 ret meth.name := ⟨hx, hbc, hml, hown, gw_hts hts, hlocks, hV, hSt, ⟨Nat.le_of_ble_eq_true rfl, Nat.le_of_ble_eq_true rfl⟩, hr, rfl, by rw [hB]; exact Nat.le_refl _⟩
  have hl := lv_entry ([.ref b]) (n := 4) (Nat.le_of_ble_eq_true rfl)
  rw [lg_entry_eq]
  refine g_law (p, l, e, room_1, s, m, #[Value.ref b], below, meth, c) γ (lw_Z below #[Value.ref b] s) meth.name O rfl rfl L hLg hL ?_ s.heap [] _ hH va_S.rf ?_
  · intro σ cells slots ls h1 h2 H locs la g1 g2 g3
    refine va_forget (fun q hq => ?_) (W.widen h1 h2 (lw_ret hx hbc hr hlocks dL_law_1056))
    have := g2.2.2 q hq
    rw [hB] at this
    exact this
  · show lv_has _ 4 [(0, .ref γ.2.2.2.2.2.1)]
    rw [hb]
    exact hl
