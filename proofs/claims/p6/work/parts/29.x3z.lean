/-! the class's reader: a Law at b .. b + 8, its Reader at b + 9 -/
def FrD (b : Nat) (σ τ : VH) : Prop := hN τ = hN σ ∧ hS τ = hS σ ∧ hR τ = hR σ ∧ ∀ v k, ¬ (b ≤ v ∧ v ≤ b + 9) → hI τ v k = hI σ v k ∧ hL τ v k = hL σ v k
theorem FrD.rf (b : Nat) (σ : VH) : FrD b σ σ := ⟨rfl, rfl, rfl, fun _ _ _ => ⟨rfl, rfl⟩⟩
theorem FrD.tr {b : Nat} {σ τ ρ : VH} (h : FrD b σ τ) (g : FrD b τ ρ) : FrD b σ ρ := ⟨g.1.trans h.1, g.2.1.trans h.2.1, g.2.2.1.trans h.2.2.1, fun v k e => ⟨(g.2.2.2 v k e).1.trans (h.2.2.2 v k e).1, (g.2.2.2 v k e).2.trans (h.2.2.2 v k e).2⟩⟩
theorem FrD.pI {b : Nat} {σ τ : VH} {a j : Nat} {x : Int32} (h : FrD b σ τ) (ha : b ≤ a ∧ a ≤ b + 9) : FrD b σ (sI τ a j x) := ⟨h.1, h.2.1, h.2.2.1, fun v k e => ⟨by
  rw [hI_sI, if_neg (fun q => e (by rw [q.1]; exact ha))]
  exact (h.2.2.2 v k e).1, (h.2.2.2 v k e).2⟩⟩
theorem FrD.pL {b : Nat} {σ τ : VH} {a j : Nat} {x : Int64} (h : FrD b σ τ) (ha : b ≤ a ∧ a ≤ b + 9) : FrD b σ (sL τ a j x) := ⟨h.1, h.2.1, h.2.2.1, fun v k e => ⟨(h.2.2.2 v k e).1, by
  rw [hL_sL, if_neg (fun q => e (by rw [q.1]; exact ha))]
  exact (h.2.2.2 v k e).2⟩⟩
theorem FrD.it {b : Nat} {σ τ : VH} {v k : Nat} {y : Int32} (h : FrD b σ τ) (e : ¬ (b ≤ v ∧ v ≤ b + 9)) (p : hI σ v k = y) : hI τ v k = y := (h.2.2.2 v k e).1.trans p
theorem FrD.lay {b : Nat} {σ τ : VH} (h : FrD b σ τ) (J : Lay σ) : Lay τ := by
  obtain ⟨h1, h2, h3, -⟩ := h
  unfold Lay
  rw [h1, h2, h3]
  exact J
def RdX (σ : VH) (b : Nat) : Prop := LawOK σ b ∧ Is σ (b + 9) 4 ∧ (hR σ (b + 9) 0 = some 4 ∧ hR σ (b + 9) 1 = some b) ∧ (0 ≤ gI σ (b + 9) 2 ∧ gI σ (b + 9) 2 < gI σ 4 2 ∧ gI σ 4 2 ≤ 701) ∧ 0 ≤ gI σ b 14
theorem RdX.up {σ τ : VH} {b : Nat} (h : RdX σ b) (F : FrD b σ τ) (hat : 0 ≤ gI τ (b + 9) 2 ∧ gI τ (b + 9) 2 < gI σ 4 2) (hst : 0 ≤ gI τ b 14) (hu : 0 ≤ gI τ b 3 ∧ gI τ b 3 ≤ 12) (hw : 0 ≤ gI τ b 4 ∧ gI τ b 4 ≤ 16) (h6 : ∀ w : Nat, w < 16 → 0 ≤ gI τ (b + 6) w) : RdX τ b := by
  obtain ⟨⟨g0, g1, g2, g3, -, -, -⟩, h2, h3, h4, h5⟩ := h
  have e4 : gI τ 4 2 = gI σ 4 2 := gI_eq (F.2.2.2 4 2 (by omega)).1
  unfold RdX LawOK Is Ar
  rw [F.1, F.2.1, F.2.2.1, e4]
  exact ⟨⟨g0, g1, g2, g3, hu, hw, h6⟩, h2, h3, ⟨hat.1, hat.2, h4.2.2⟩, hst⟩
