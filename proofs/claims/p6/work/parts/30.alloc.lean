/-! new cells: all below n stay as they are -/
def FrA (n : Nat) (σ τ : VH) : Prop := n ≤ hN σ ∧ hN σ ≤ hN τ ∧ ∀ v, v < n → hS τ v = hS σ v ∧ hR τ v = hR σ v ∧ hI τ v = hI σ v ∧ hL τ v = hL σ v
theorem FrA.rf {n : Nat} {σ : VH} (h : n ≤ hN σ) : FrA n σ σ := ⟨h, Nat.le_refl _, fun _ _ => ⟨rfl, rfl, rfl, rfl⟩⟩
theorem FrA.tr {n : Nat} {σ τ ρ : VH} (h : FrA n σ τ) (g : FrA n τ ρ) : FrA n σ ρ := ⟨h.1, Nat.le_trans h.2.1 g.2.1, fun v hv => ⟨(g.2.2 v hv).1.trans (h.2.2 v hv).1, (g.2.2 v hv).2.1.trans (h.2.2 v hv).2.1, (g.2.2 v hv).2.2.1.trans (h.2.2 v hv).2.2.1, (g.2.2 v hv).2.2.2.trans (h.2.2 v hv).2.2.2⟩⟩
theorem FrA.it {n : Nat} {σ τ : VH} {v k : Nat} {y : Int32} (h : FrA n σ τ) (e : v < n) (p : hI σ v k = y) : hI τ v k = y := (congrFun (h.2.2 v e).2.2.1 k).trans p
theorem FrA.nw {n : Nat} {σ τ : VH} {sh : Nat × Nat} (h : FrA n σ τ) : FrA n σ (sN τ sh) := by
  have h0 := h.1
  have h1 := h.2.1
  refine ⟨h.1, by rw [hN_sN]; omega, fun v hv => ?_⟩
  have e : v ≠ hN τ := by omega
  refine ⟨by rw [hS_sN, if_neg e]; exact (h.2.2 v hv).1, ?_, ?_, ?_⟩
  · funext k
    rw [hR_sN, if_neg e]
    exact congrFun (h.2.2 v hv).2.1 k
  · funext k
    rw [hI_sN, if_neg e]
    exact congrFun (h.2.2 v hv).2.2.1 k
  · funext k
    rw [hL_sN, if_neg e]
    exact congrFun (h.2.2 v hv).2.2.2 k
theorem FrA.pI {n : Nat} {σ τ : VH} {a j : Nat} {x : Int32} (h : FrA n σ τ) (ha : n ≤ a) : FrA n σ (sI τ a j x) := ⟨h.1, h.2.1, fun v hv => ⟨(h.2.2 v hv).1, (h.2.2 v hv).2.1, by
  funext k
  rw [hI_sI, if_neg (fun e => by omega)]
  exact congrFun (h.2.2 v hv).2.2.1 k, (h.2.2 v hv).2.2.2⟩⟩
theorem FrA.pL {n : Nat} {σ τ : VH} {a j : Nat} {x : Int64} (h : FrA n σ τ) (ha : n ≤ a) : FrA n σ (sL τ a j x) := ⟨h.1, h.2.1, fun v hv => ⟨(h.2.2 v hv).1, (h.2.2 v hv).2.1, (h.2.2 v hv).2.2.1, by
  funext k
  rw [hL_sL, if_neg (fun e => by omega)]
  exact congrFun (h.2.2 v hv).2.2.2 k⟩⟩
theorem FrA.pR {n : Nat} {σ τ : VH} {a j : Nat} {x : Option Nat} (h : FrA n σ τ) (ha : n ≤ a) : FrA n σ (sR τ a j x) := ⟨h.1, h.2.1, fun v hv => ⟨(h.2.2 v hv).1, by
  funext k
  rw [hR_sR, if_neg (fun e => by omega)]
  exact congrFun (h.2.2 v hv).2.1 k, (h.2.2 v hv).2.2.1, (h.2.2 v hv).2.2.2⟩⟩
theorem FrD.a {b : Nat} {σ τ : VH} (h : FrD b σ τ) (hb : b ≤ hN σ) : FrA b σ τ := ⟨hb, by rw [h.1]; exact Nat.le_refl _, fun v hv => ⟨by rw [h.2.1], by rw [h.2.2.1], funext fun k => (h.2.2.2 v k (by omega)).1, funext fun k => (h.2.2.2 v k (by omega)).2⟩⟩
theorem fixR_lt : ∀ q ∈ fixR, q.1.1 < 87 ∧ q.1.1 ≠ 7 ∧ q.1.1 ≠ 26 := by decide +kernel
theorem FrA.lay {n : Nat} {σ τ : VH} (h : FrA n σ τ) (hn : 87 ≤ n) (J : Lay σ) : Lay τ := by
  refine ⟨Nat.le_trans J.1 h.2.1, fun v hv => (h.2.2 v (by omega)).1.trans (J.2.1 v hv), fun q hq => ?_⟩
  rw [(h.2.2 q.1.1 (by have := (fixR_lt q hq).1; omega)).2.1]
  exact J.2.2 q hq
theorem Is.frA {n : Nat} {σ τ : VH} {v c : Nat} (h : FrA n σ τ) (hv : v < n) (g : Is σ v c) : Is τ v c := ⟨g.1, Nat.lt_of_lt_of_le g.2.1 h.2.1, by rw [(h.2.2 v hv).1]; exact g.2.2⟩
theorem CaseOK.frA {σ τ : VH} {a : Nat} (h : FrA (hN σ) σ τ) (g : CaseOK σ a) : CaseOK τ a := ⟨g.1, Nat.lt_of_lt_of_le g.2.1 h.2.1, by rw [(h.2.2 a g.2.1).1]; exact g.2.2⟩
theorem LawOK.frA {n : Nat} {σ τ : VH} {b : Nat} (h : FrA n σ τ) (hb8 : b + 8 < n) (g : LawOK σ b) : LawOK τ b := by
  obtain ⟨g0, g1, g2, g3, g4, g5, g6⟩ := g
  have S : ∀ i, i ≤ 8 → hS τ (b + i) = hS σ (b + i) := fun i hi => (h.2.2 (b + i) (by omega)).1
  have R : hR τ b = hR σ b := (h.2.2 b (by omega)).2.1
  have a3 : gI τ b 3 = gI σ b 3 := gI_eq (congrFun (h.2.2 b (by omega)).2.2.1 3)
  have a4 : gI τ b 4 = gI σ b 4 := gI_eq (congrFun (h.2.2 b (by omega)).2.2.1 4)
  have arr : ∀ i kd len, i ≤ 8 → Ar σ (b + i) kd len → Ar τ (b + i) kd len := fun i kd len hi q => ⟨q.1, Nat.lt_of_lt_of_le q.2.1 h.2.1, (S i hi).trans q.2.2⟩
  refine ⟨g0, g1.frA h (by omega), by rw [R]; exact g2, ⟨arr 1 _ _ (by decide) g3.1, arr 2 _ _ (by decide) g3.2.1, arr 3 _ _ (by decide) g3.2.2.1, arr 4 _ _ (by decide) g3.2.2.2.1, arr 5 _ _ (by decide) g3.2.2.2.2.1, arr 6 _ _ (by decide) g3.2.2.2.2.2.1, arr 7 _ _ (by decide) g3.2.2.2.2.2.2.1, by rw [S 8 (by decide)]; exact arr 8 _ _ (by decide) g3.2.2.2.2.2.2.2.1, by rw [S 8 (by decide)]; exact g3.2.2.2.2.2.2.2.2⟩, by rw [a3]; exact g4, by rw [a4]; exact g5, fun w hw => ?_⟩
  rw [show gI τ (b + 6) w = gI σ (b + 6) w from gI_eq (congrFun (h.2.2 (b + 6) (by omega)).2.2.1 w)]
  exact g6 w hw
theorem LawOK.lt {σ : VH} {b : Nat} (g : LawOK σ b) : b + 8 < hN σ := g.2.2.2.1.2.2.2.2.2.2.2.1.2.1
theorem InvX.frA {σ τ : VH} (h : FrA (hN σ) σ τ) (I : InvX σ) : InvX τ := by
  have h87 := I.1.1
  have e : ∀ v k, v < 87 → gI τ v k = gI σ v k := fun v k hv => gI_eq (congrFun (h.2.2 v (by omega)).2.2.1 k)
  refine ⟨h.lay h87 I.1, ?_, fun f hf => by rw [e 8 f (by decide)]; exact I.2.2.1 f hf, fun j hj => ?_, fun j hj => ?_⟩
  · have i1 := I.2.1
    unfold InvX1 at i1 ⊢
    rw [e 2 1 (by decide), e 9 7 (by decide), e 16 4 (by decide), e 21 4 (by decide), e 2 12 (by decide), e 27 3 (by decide), e 2 15 (by decide), e 2 7 (by decide)]
    exact i1
  · rw [(h.2.2 7 (by omega)).2.1]
    rcases I.2.2.2.1 j hj with q | ⟨b, q1, q2⟩
    · exact Or.inl q
    · exact Or.inr ⟨b, q1, q2.frA h q2.lt⟩
  · rw [(h.2.2 26 (by omega)).2.1]
    rcases I.2.2.2.2 j hj with q | ⟨b, q1, q2⟩
    · exact Or.inl q
    · exact Or.inr ⟨b, q1, q2.frA h⟩
theorem LawOK.hi {σ τ : VH} {b : Nat} (hn : hN τ = hN σ) (hs : hS τ = hS σ) (hr : ∀ v, 87 ≤ v → hR τ v = hR σ v) (hi : ∀ v k, 87 ≤ v → gI τ v k = gI σ v k) (g : LawOK σ b) : LawOK τ b := by
  obtain ⟨g0, g1, g2, g3, g4, g5, g6⟩ := g
  unfold LawOK Is Ar
  rw [hn, hs, hr b g0, hi b 3 g0, hi b 4 g0]
  refine ⟨g0, g1, g2, g3, g4, g5, fun w hw => ?_⟩
  rw [hi (b + 6) w (by omega)]
  exact g6 w hw
theorem CaseOK.hi {σ τ : VH} {a : Nat} (hn : hN τ = hN σ) (hs : hS τ = hS σ) (g : CaseOK σ a) : CaseOK τ a := by
  unfold CaseOK
  rw [hn, hs]
  exact g
theorem Lay.pR7 {σ : VH} {a j : Nat} {x : Option Nat} (ha : a = 7 ∨ a = 26) (J : Lay σ) : Lay (sR σ a j x) := ⟨J.1, J.2.1, fun q hq => by
  have h := fixR_lt q hq
  rw [hR_sR, if_neg (fun e => by omega)]
  exact J.2.2 q hq⟩
theorem InvX.addLaw {σ : VH} {b j f : Nat} (I : InvX σ) (L : LawOK σ b) (hf : f < 4) (hl : gI σ 8 f < 4) : InvX (sI (sR σ 7 j (some b)) 8 f (iz (gI σ 8 f + 1))) := by
  have e : ∀ v k, v ≠ 8 → gI (sI (sR σ 7 j (some b)) 8 f (iz (gI σ 8 f + 1))) v k = gI σ v k := fun v k hv => gI_eq (sk1t hv rfl)
  have hh : ∀ x, LawOK σ x → LawOK (sI (sR σ 7 j (some b)) 8 f (iz (gI σ 8 f + 1))) x := fun x g => LawOK.hi (σ := σ) rfl rfl (fun v hv => by
    funext k
    show hR (sR σ 7 j (some b)) v k = hR σ v k
    rw [hR_sR, if_neg (fun e => by omega)]) (fun v k hv => e v k (by omega)) g
  refine ⟨Lay.pR7 (Or.inl rfl) I.1, ?_, fun g hg => ?_, fun i hi => ?_, fun i hi => ?_⟩
  · have i1 := I.2.1
    unfold InvX1 at i1 ⊢
    rw [e 2 1 (by decide), e 9 7 (by decide), e 16 4 (by decide), e 21 4 (by decide), e 2 12 (by decide), e 27 3 (by decide), e 2 15 (by decide), e 2 7 (by decide)]
    exact i1
  · have h1 := I.2.2.1 g hg
    have h2 := I.2.2.1 f hf
    by_cases hgf : g = f
    · subst hgf
      rw [show gI (sI (sR σ 7 j (some b)) 8 g (iz (gI σ 8 g + 1))) 8 g = gI σ 8 g + 1 from gI_iz (hI_at _ _ _ _) (by omega)]
      omega
    · rw [show gI (sI (sR σ 7 j (some b)) 8 f (iz (gI σ 8 f + 1))) 8 g = gI σ 8 g from gI_eq (sk2t hgf rfl)]
      exact h1
  · show hR (sR σ 7 j (some b)) 7 i = none ∨ _
    by_cases hij : i = j
    · subst hij
      exact Or.inr ⟨b, by show hR (sR σ 7 i (some b)) 7 i = _; rw [hR_sR, if_pos ⟨rfl, rfl⟩], hh b L⟩
    · have er : hR (sR σ 7 j (some b)) 7 i = hR σ 7 i := by rw [hR_sR, if_neg (fun e => hij e.2)]
      rcases I.2.2.2.1 i hi with q | ⟨x, q1, q2⟩
      · exact Or.inl (er.trans q)
      · exact Or.inr ⟨x, er.trans q1, hh x q2⟩
  · have er : hR (sR σ 7 j (some b)) 26 i = hR σ 26 i := by rw [hR_sR, if_neg (fun e => by omega)]
    rcases I.2.2.2.2 i hi with q | ⟨x, q1, q2⟩
    · exact Or.inl (er.trans q)
    · exact Or.inr ⟨x, er.trans q1, CaseOK.hi (σ := σ) rfl rfl q2⟩
theorem InvX.addCase {σ : VH} {a j : Nat} (I : InvX σ) (L : CaseOK σ a) (hl : gI σ 2 12 < 20) : InvX (sI (sR σ 26 j (some a)) 2 12 (iz (gI σ 2 12 + 1))) := by
  have i1 := I.2.1
  unfold InvX1 at i1
  have e : ∀ v k, v ≠ 2 → gI (sI (sR σ 26 j (some a)) 2 12 (iz (gI σ 2 12 + 1))) v k = gI σ v k := fun v k hv => gI_eq (sk1t hv rfl)
  have e2 : ∀ k, k ≠ 12 → gI (sI (sR σ 26 j (some a)) 2 12 (iz (gI σ 2 12 + 1))) 2 k = gI σ 2 k := fun k hk => gI_eq (sk2t hk rfl)
  have e3 : gI (sI (sR σ 26 j (some a)) 2 12 (iz (gI σ 2 12 + 1))) 2 12 = gI σ 2 12 + 1 := gI_iz (hI_at _ _ _ _) (by omega)
  have hh : ∀ x, LawOK σ x → LawOK (sI (sR σ 26 j (some a)) 2 12 (iz (gI σ 2 12 + 1))) x := fun x g => LawOK.hi (σ := σ) rfl rfl (fun v hv => by
    funext k
    show hR (sR σ 26 j (some a)) v k = hR σ v k
    rw [hR_sR, if_neg (fun e => by omega)]) (fun v k hv => e v k (by omega)) g
  refine ⟨Lay.pR7 (Or.inr rfl) I.1, ?_, fun g hg => by rw [e 8 g (by decide)]; exact I.2.2.1 g hg, fun i hi => ?_, fun i hi => ?_⟩
  · unfold InvX1
    rw [e2 1 (by decide), e 9 7 (by decide), e 16 4 (by decide), e 21 4 (by decide), e3, e 27 3 (by decide), e2 15 (by decide), e2 7 (by decide)]
    omega
  · have er : hR (sR σ 26 j (some a)) 7 i = hR σ 7 i := by rw [hR_sR, if_neg (fun e => by omega)]
    rcases I.2.2.2.1 i hi with q | ⟨x, q1, q2⟩
    · exact Or.inl (er.trans q)
    · exact Or.inr ⟨x, er.trans q1, hh x q2⟩
  · by_cases hij : i = j
    · subst hij
      exact Or.inr ⟨a, by show hR (sR σ 26 i (some a)) 26 i = _; rw [hR_sR, if_pos ⟨rfl, rfl⟩], CaseOK.hi (σ := σ) rfl rfl L⟩
    · have er : hR (sR σ 26 j (some a)) 26 i = hR σ 26 i := by rw [hR_sR, if_neg (fun e => hij e.2)]
      rcases I.2.2.2.2 i hi with q | ⟨x, q1, q2⟩
      · exact Or.inl (er.trans q)
      · exact Or.inr ⟨x, er.trans q1, CaseOK.hi (σ := σ) rfl rfl q2⟩
theorem skR {σ : VH} {c j v k : Nat} {x : Option Nat} {y : Int32} (p : hI σ v k = y) : hI (sR σ c j x) v k = y := p
/-! the frame that the law's walk sees -/
def FrG (W : Wl) (σ τ : VH) : Prop := hN σ ≤ hN τ ∧ ∀ v k, v < 87 → wr W v k = false → hI τ v k = hI σ v k ∧ hL τ v k = hL σ v k
theorem Fr.G {W : Wl} {σ τ : VH} (h : Fr W σ τ) : FrG W σ τ := ⟨by rw [h.1]; exact Nat.le_refl _, h.2.2.2.1⟩
theorem FrG.it {W : Wl} {σ τ : VH} {v k : Nat} {y : Int32} (h : FrG W σ τ) (e : wr W v k = false) (p : hI σ v k = y) (hv : v < 87 := by decide) : hI τ v k = y := (h.2 v k hv e).1.trans p
theorem FrG.l {W : Wl} {σ τ : VH} (h : FrG W σ τ) (v k : Nat) (e : wr W v k = false) (hv : v < 87 := by decide) : hL τ v k = hL σ v k := (h.2 v k hv e).2
theorem FrG.tr {W : Wl} {σ τ ρ : VH} (h : FrG W σ τ) (g : FrG W τ ρ) : FrG W σ ρ := ⟨Nat.le_trans h.1 g.1, fun v k e0 e => ⟨(g.2 v k e0 e).1.trans (h.2 v k e0 e).1, (g.2 v k e0 e).2.trans (h.2 v k e0 e).2⟩⟩
theorem FrG.mono {W V : Wl} {σ τ : VH} (h : FrG W σ τ) (s : Wsub W V = true) : FrG V σ τ := ⟨h.1, fun v k e0 e => h.2 v k e0 (wr_sub s e)⟩
theorem FrA.G {n : Nat} {σ τ : VH} (W : Wl) (h : FrA n σ τ) (hn : 87 ≤ n) : FrG W σ τ := ⟨h.2.1, fun v k hv _ => ⟨congrFun (h.2.2 v (by omega)).2.2.1 k, congrFun (h.2.2 v (by omega)).2.2.2 k⟩⟩
theorem FrG.pR {W : Wl} {σ τ : VH} {a j : Nat} {x : Option Nat} (h : FrG W σ τ) : FrG W σ (sR τ a j x) := h
theorem FrG.pI {W : Wl} {σ τ : VH} {a j : Nat} {x : Int32} (h : FrG W σ τ) (s : wr W a j = true) : FrG W σ (sI τ a j x) := ⟨h.1, fun v k e0 e => ⟨by
  rw [hI_sI, if_neg]
  · exact (h.2 v k e0 e).1
  · rintro ⟨rfl, rfl⟩
    rw [s] at e
    exact Bool.noConfusion e, (h.2 v k e0 e).2⟩⟩
def Wlow (W : Wl) : Bool := W.all (fun q => decide (q.1 < 33))
def Whigh (W : Wl) : Bool := W.all (fun q => decide (33 ≤ q.1))
theorem wr_low {W : Wl} (h : Wlow W = true) {v k : Nat} (hv : 33 ≤ v) : wr W v k = false := by
  unfold wr
  rw [List.any_eq_false]
  intro q hq hc
  have h1 := List.all_eq_true.mp h q hq
  simp only [decide_eq_true_eq, Bool.and_eq_true, beq_iff_eq] at h1 hc
  omega
theorem wr_high {W : Wl} (h : Whigh W = true) {v k : Nat} (hv : v < 33) : wr W v k = false := by
  unfold wr
  rw [List.any_eq_false]
  intro q hq hc
  have h1 := List.all_eq_true.mp h q hq
  simp only [decide_eq_true_eq, Bool.and_eq_true, beq_iff_eq] at h1 hc
  omega
/-- the reference's invariant hangs on its own cells alone -/
theorem InvM.sm {σ τ : VH} (I : InvM σ) (L : Lay τ) (h : ∀ v k, 33 ≤ v → v < 87 → gI τ v k = gI σ v k) : InvM τ := by
  refine ⟨L, ?_, I.2.2.1.eq (fun k => h 38 k (by decide) (by decide)) (fun k => h 39 k (by decide) (by decide)) (fun k => h 41 k (by decide) (by decide)) (fun k => h 42 k (by decide) (by decide)) (fun k => h 43 k (by decide) (by decide)) (fun k => h 46 k (by decide) (by decide)) (fun k => h 49 k (by decide) (by decide)) (fun k => h 51 k (by decide) (by decide)) (fun k => h 52 k (by decide) (by decide)) (h 33 33 (by decide) (by decide)), I.2.2.2.eq (fun k => h 70 k (by decide) (by decide)) (fun k => h 71 k (by decide) (by decide)) (fun k => h 75 k (by decide) (by decide)) (fun k => h 77 k (by decide) (by decide)) (h 33 66 (by decide) (by decide))⟩
  have i1 := I.2.1
  unfold InvM1 at i1 ⊢
  rw [h 33 2 (by decide) (by decide), h 33 52 (by decide) (by decide), h 33 53 (by decide) (by decide), h 33 54 (by decide) (by decide), h 33 73 (by decide) (by decide), h 33 74 (by decide) (by decide), h 33 6 (by decide) (by decide)]
  exact i1
theorem InvM.cls {W : Wl} {σ τ : VH} (h : FrG W σ τ) (I : InvM σ) (L : Lay τ) (w : Wlow W = true) : InvM τ := I.sm L (fun v k h1 h2 => gI_eq (h.2 v k h2 (wr_low w h1)).1)
theorem InvX.mod {W : Wl} {σ τ : VH} (h : Fr W σ τ) (I : InvX σ) (w : Whigh W = true) : InvX τ := by
  have e : ∀ v k, v < 33 → gI τ v k = gI σ v k := fun v k hv => gI_eq (h.2.2.2.1 v k (by omega) (wr_high w hv)).1
  refine I.fr h ?_ (fun k => wr_high w (by decide))
  have i1 := I.2.1
  unfold InvX1 at i1 ⊢
  rw [e 2 1 (by decide), e 9 7 (by decide), e 16 4 (by decide), e 21 4 (by decide), e 2 12 (by decide), e 27 3 (by decide), e 2 15 (by decide), e 2 7 (by decide)]
  exact i1
/-! what the constructors of Law, Reader and Case make -/
def sh4 (b : Nat) (σ : VH) : VH := sR (sI (sI (sI (sI (sN σ (22, 4)) (hN σ) 0 1) (hN σ) 1 0) (hN σ) 2 0) (hN σ) 3 0) b 2 (some (hN σ))
def in_X1 (b : Nat) (d : Int32) (N : Nat) (σ : VH) : VH := nf b 13 (22, N) (sI (nf b 15 (22, 60) (nf b 12 (22, 16) (nf b 11 (22, 16) (nf b 10 (22, 16) (nf b 9 (22, 12) (sI (sI (sh4 b (nf b 1 (23, 12) σ)) b 7 1) b 8 1)))))) b 0 d)
def in_X4 (c w : Nat) (σ : VH) : VH := sL (sR (sR (sI σ c 9 (-1)) c 0 (some 4)) c 1 (some w)) c 3 (hL σ 5 0)
def in_X0 (c : Nat) (y o : Int32) (v : Int64) (d p n : Int32) (σ : VH) : VH := sI (sI (sI (sL (sI (sI (sI (sI σ c 6 (-1)) c 7 (-1)) c 0 y) c 1 o) c 2 v) c 3 d) c 4 p) c 5 n
theorem hN_nf (b k : Nat) (sh : Nat × Nat) (σ : VH) : hN (nf b k sh σ) = hN σ + 1 := rfl
theorem hN_sh4 (b : Nat) (σ : VH) : hN (sh4 b σ) = hN σ + 1 := rfl
theorem hN_X1 (b : Nat) (d : Int32) (N : Nat) (σ : VH) : hN (in_X1 b d N σ) = hN σ + 8 := rfl
theorem FrA.nf {n b k : Nat} {sh : Nat × Nat} {σ τ : VH} (h : FrA n σ τ) (hb : n ≤ b) : FrA n σ (nf b k sh τ) := FrA.pR (FrA.nw h) hb
theorem FrA.sh4 {n b : Nat} {σ τ : VH} (h : FrA n σ τ) (hb : n ≤ b) : FrA n σ (sh4 b τ) := by
  have h0 := h.1
  have h1 := h.2.1
  have h2 : n ≤ hN τ := by omega
  exact FrA.pR (FrA.pI (FrA.pI (FrA.pI (FrA.pI (FrA.nw h) h2) h2) h2) h2) hb
theorem FrA.X1 {n b : Nat} {d : Int32} {N : Nat} {σ : VH} (h : n ≤ hN σ) (hb : n ≤ b) : FrA n σ (in_X1 b d N σ) := by
  unfold in_X1
  exact (((((((((((FrA.rf h).nf hb).sh4 hb).pI hb).pI hb).nf hb).nf hb).nf hb).nf hb).nf hb).pI hb).nf hb
theorem FrA.X4 {n c w : Nat} {σ : VH} (h : n ≤ hN σ) (hb : n ≤ c) : FrA n σ (in_X4 c w σ) := by
  unfold in_X4
  exact ((((FrA.rf h).pI hb).pR hb).pR hb).pL hb
theorem FrA.X0 {n c : Nat} {y o : Int32} {v : Int64} {d p k : Int32} {σ : VH} (h : n ≤ hN σ) (hb : n ≤ c) : FrA n σ (in_X0 c y o v d p k σ) := by
  unfold in_X0
  exact ((((((((FrA.rf h).pI hb).pI hb).pI hb).pI hb).pL hb).pI hb).pI hb).pI hb
theorem hS_nf (b k : Nat) (sh : Nat × Nat) (σ : VH) (v : Nat) : hS (nf b k sh σ) v = if v = hN σ then sh else hS σ v := rfl
theorem hR_nf (b k : Nat) (sh : Nat × Nat) (σ : VH) (v j : Nat) : hR (nf b k sh σ) v j = if v = b ∧ j = k then some (hN σ) else if v = hN σ then none else hR σ v j := rfl
theorem hI_nf (b k : Nat) (sh : Nat × Nat) (σ : VH) (v j : Nat) : hI (nf b k sh σ) v j = if v = hN σ then 0 else hI σ v j := rfl
theorem hS_sh4 (b : Nat) (σ : VH) (v : Nat) : hS (sh4 b σ) v = if v = hN σ then (22, 4) else hS σ v := rfl
theorem hR_sh4 (b : Nat) (σ : VH) (v j : Nat) : hR (sh4 b σ) v j = if v = b ∧ j = 2 then some (hN σ) else if v = hN σ then none else hR σ v j := rfl
theorem hI_sh4 (b : Nat) (σ : VH) (v j : Nat) (hv : v ≠ hN σ) : hI (sh4 b σ) v j = hI σ v j := by
  unfold sh4
  rw [hI_sR, hI_sI, if_neg (fun e => hv e.1), hI_sI, if_neg (fun e => hv e.1), hI_sI, if_neg (fun e => hv e.1), hI_sI, if_neg (fun e => hv e.1), hI_sN, if_neg hv]
theorem in_X1_S {b : Nat} {d : Int32} {N : Nat} {σ : VH} (h : hN σ = b + 1) (v : Nat) : hS (in_X1 b d N σ) v = if v = b + 8 then (22, N) else if v = b + 7 then (22, 60) else if v = b + 6 then (22, 16) else if v = b + 5 then (22, 16) else if v = b + 4 then (22, 16) else if v = b + 3 then (22, 12) else if v = b + 2 then (22, 4) else if v = b + 1 then (23, 12) else hS σ v := by
  unfold in_X1
  simp only [hS_nf, hS_sI, hS_sh4, hN_nf, hN_sI, hN_sh4, h]
theorem in_X1_R {b : Nat} {d : Int32} {N : Nat} {σ : VH} (h : hN σ = b + 1) : hR (in_X1 b d N σ) b 1 = some (b + 1) ∧ hR (in_X1 b d N σ) b 2 = some (b + 2) ∧ hR (in_X1 b d N σ) b 9 = some (b + 3) ∧ hR (in_X1 b d N σ) b 10 = some (b + 4) ∧ hR (in_X1 b d N σ) b 11 = some (b + 5) ∧ hR (in_X1 b d N σ) b 12 = some (b + 6) ∧ hR (in_X1 b d N σ) b 15 = some (b + 7) ∧ hR (in_X1 b d N σ) b 13 = some (b + 8) := by
  refine ⟨?_, ?_, ?_, ?_, ?_, ?_, ?_, ?_⟩
  all_goals
    unfold in_X1
    simp only [hR_nf, hR_sI, hR_sh4, hN_nf, hN_sI, hN_sh4, h]
    repeat (first | rw [if_neg (by omega)] | rw [if_pos (by omega)] | rw [if_pos trivial] | rw [if_pos ⟨trivial, trivial⟩] | rw [if_neg (by simp)])
theorem in_X1_I {b : Nat} {d : Int32} {N : Nat} {σ : VH} (h : hN σ = b + 1) (h0 : ∀ k, hI σ b k = 0) (k : Nat) (hk : k ≠ 0 ∧ k ≠ 7 ∧ k ≠ 8) : hI (in_X1 b d N σ) b k = 0 := by
  have e0 : hI (sh4 b (nf b 1 (23, 12) σ)) b k = 0 := by
    rw [hI_sh4 _ _ _ _ (by rw [hN_nf, h]; omega), hI_nf, if_neg (by omega), h0]
  unfold in_X1
  simp only [hI_nf, hI_sI, hN_nf, hN_sI, hN_sh4, h, e0]
  repeat (first | rw [if_neg (by omega)] | rw [if_pos (by omega)] | rw [if_pos trivial] | rw [if_neg (by simp; omega)])
theorem in_X1_I6 {b : Nat} {d : Int32} {N : Nat} {σ : VH} (h : hN σ = b + 1) (k : Nat) : hI (in_X1 b d N σ) (b + 6) k = 0 := by
  unfold in_X1
  simp only [hI_nf, hI_sI, hN_nf, hN_sI, hN_sh4, h]
  repeat (first | rw [if_neg (by omega)] | rw [if_pos (by omega)] | rw [if_pos trivial] | rw [if_neg (by simp; omega)])
theorem in_X1_ok {b : Nat} {d : Int32} {N : Nat} {σ : VH} (hb : 87 ≤ b) (h : hN σ = b + 1) (h1 : (hS σ b).1 = 1) (h0 : ∀ k, hI σ b k = 0) (hN' : N < 2147483648) : LawOK (in_X1 b d N σ) b := by
  have n9 : hN (in_X1 b d N σ) = b + 9 := by rw [hN_X1, h]
  have S := in_X1_S (d := d) (N := N) h
  have R := in_X1_R (d := d) (N := N) h
  have I := in_X1_I (d := d) (N := N) h h0
  obtain ⟨r1, r2, r3, r4, r5, r6, r7, r8⟩ := R
  have s1 : hS (in_X1 b d N σ) (b + 1) = (23, 12) := by rw [S]; simp
  have s2 : hS (in_X1 b d N σ) (b + 2) = (22, 4) := by rw [S]; simp
  have s3 : hS (in_X1 b d N σ) (b + 3) = (22, 12) := by rw [S]; simp
  have s4 : hS (in_X1 b d N σ) (b + 4) = (22, 16) := by rw [S]; simp
  have s5 : hS (in_X1 b d N σ) (b + 5) = (22, 16) := by rw [S]; simp
  have s6 : hS (in_X1 b d N σ) (b + 6) = (22, 16) := by rw [S]; simp
  have s7 : hS (in_X1 b d N σ) (b + 7) = (22, 60) := by rw [S]; simp
  have s8 : hS (in_X1 b d N σ) (b + 8) = (22, N) := by rw [S]; simp
  have s0 : hS (in_X1 b d N σ) b = hS σ b := by rw [S]; simp
  have g3 : gI (in_X1 b d N σ) b 3 = 0 := gI_iz (by rw [I _ (by decide)]; rfl) (by decide)
  have g4 : gI (in_X1 b d N σ) b 4 = 0 := gI_iz (by rw [I _ (by decide)]; rfl) (by decide)
  unfold LawOK Is Ar
  rw [n9, s0, s1, s2, s3, s4, s5, s6, s7, s8, r1, r2, r3, r4, r5, r6, r7, r8, g3, g4]
  refine ⟨hb, ⟨by omega, by omega, h1⟩, ⟨rfl, rfl, rfl, rfl, rfl, rfl, rfl, rfl⟩, ⟨⟨by omega, by omega, rfl⟩, ⟨by omega, by omega, rfl⟩, ⟨by omega, by omega, rfl⟩, ⟨by omega, by omega, rfl⟩, ⟨by omega, by omega, rfl⟩, ⟨by omega, by omega, rfl⟩, ⟨by omega, by omega, rfl⟩, ⟨by omega, by omega, rfl⟩, hN'⟩, by omega, by omega, fun w hw => ?_⟩
  rw [show gI (in_X1 b d N σ) (b + 6) w = 0 from gI_iz (in_X1_I6 h w) (by decide)]
  exact Int.le_refl 0
/-- the Law and its Reader, before the text is read -/
def mk_law (σ : VH) (d : Int32) (N : Nat) : VH := in_X4 (hN σ + 9) (hN σ) (sN (in_X1 (hN σ) d N (sN σ (1, 0))) (4, 0))
theorem mk_law_fr {σ : VH} {d : Int32} {N : Nat} : FrA (hN σ) σ (mk_law σ d N) := by
  have h1 : FrA (hN σ) σ (sN σ (1, 0)) := FrA.nw (FrA.rf (Nat.le_refl _))
  have h2 : FrA (hN σ) (sN σ (1, 0)) (in_X1 (hN σ) d N (sN σ (1, 0))) := FrA.X1 (by rw [hN_sN]; omega) (Nat.le_refl _)
  have h3 : FrA (hN σ) σ (sN (in_X1 (hN σ) d N (sN σ (1, 0))) (4, 0)) := FrA.nw (h1.tr h2)
  exact h3.tr (FrA.X4 (by rw [hN_sN, hN_X1, hN_sN]; omega) (by omega))
theorem mk_law_ok {σ : VH} {d : Int32} {N : Nat} (J : Lay σ) (h4 : 1 ≤ gI σ 4 2 ∧ gI σ 4 2 ≤ 701) (hN' : N < 2147483648) : RdX (mk_law σ d N) (hN σ) := by
  have h87 := J.1
  have hb : hN (sN σ (1, 0)) = hN σ + 1 := hN_sN _ _
  have n9 : hN (in_X1 (hN σ) d N (sN σ (1, 0))) = hN σ + 9 := by rw [hN_X1, hb]
  have h0 : ∀ k, hI (sN σ (1, 0)) (hN σ) k = 0 := fun k => by rw [hI_sN, if_pos rfl]
  have L1 : LawOK (in_X1 (hN σ) d N (sN σ (1, 0))) (hN σ) := in_X1_ok h87 hb (by rw [hS_sN, if_pos rfl]) h0 hN'
  have fA : FrA (hN σ + 9) (in_X1 (hN σ) d N (sN σ (1, 0))) (mk_law σ d N) := (FrA.nw (FrA.rf (by rw [n9]; exact Nat.le_refl _))).tr (FrA.X4 (by rw [hN_sN, n9]; omega) (Nat.le_refl _))
  have n10 : hN (mk_law σ d N) = hN σ + 10 := by
    show hN (in_X1 (hN σ) d N (sN σ (1, 0))) + 1 = _
    rw [n9]
  have ei : ∀ k, k ≠ 9 → hI (mk_law σ d N) (hN σ + 9) k = 0 := fun k hk => by
    show hI (sI (sN (in_X1 (hN σ) d N (sN σ (1, 0))) (4, 0)) (hN σ + 9) 9 (-1)) (hN σ + 9) k = 0
    rw [hI_sI, if_neg (fun e => hk e.2), hI_sN, if_pos n9.symm]
  refine ⟨L1.frA fA (by omega), ⟨by omega, by omega, ?_⟩, ⟨?_, ?_⟩, ⟨?_, ?_⟩, ?_⟩
  · show (hS (sN (in_X1 (hN σ) d N (sN σ (1, 0))) (4, 0)) (hN σ + 9)).1 = 4
    rw [hS_sN, if_pos n9.symm]
  · show hR (sR (sR (sI (sN (in_X1 (hN σ) d N (sN σ (1, 0))) (4, 0)) (hN σ + 9) 9 (-1)) (hN σ + 9) 0 (some 4)) (hN σ + 9) 1 (some (hN σ))) (hN σ + 9) 0 = some 4
    rw [hR_sR, if_neg (by omega), hR_sR, if_pos ⟨rfl, rfl⟩]
  · show hR (sR (sR (sI (sN (in_X1 (hN σ) d N (sN σ (1, 0))) (4, 0)) (hN σ + 9) 9 (-1)) (hN σ + 9) 0 (some 4)) (hN σ + 9) 1 (some (hN σ))) (hN σ + 9) 1 = some (hN σ)
    rw [hR_sR, if_pos ⟨rfl, rfl⟩]
  · rw [show gI (mk_law σ d N) (hN σ + 9) 2 = 0 from gI_iz (ei 2 (by decide)) (by decide)]
    exact Int.le_refl 0
  · rw [show gI (mk_law σ d N) (hN σ + 9) 2 = 0 from gI_iz (ei 2 (by decide)) (by decide), show gI (mk_law σ d N) 4 2 = gI σ 4 2 from gI_eq (mk_law_fr.it (by omega) rfl)]
    omega
  · rw [show gI (mk_law σ d N) (hN σ) 14 = 0 from gI_iz (fA.it (by omega) (by rw [in_X1_I hb h0 14 (by decide)]; rfl)) (by decide)]
    exact Int.le_refl 0
