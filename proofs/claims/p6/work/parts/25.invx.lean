/-! the class's invariant -/
def CaseOK (σ : VH) (a : Nat) : Prop := 87 ≤ a ∧ a < hN σ ∧ hS σ a = (0, 0)
theorem CaseOK.is {σ : VH} {a : Nat} (h : CaseOK σ a) : Is σ a 0 := ⟨by have := h.1; omega, h.2.1, by rw [h.2.2]⟩
def LawOK (σ : VH) (b : Nat) : Prop := 87 ≤ b ∧ Is σ b 1 ∧ (hR σ b 1 = some (b + 1) ∧ hR σ b 2 = some (b + 2) ∧ hR σ b 9 = some (b + 3) ∧ hR σ b 10 = some (b + 4) ∧ hR σ b 11 = some (b + 5) ∧ hR σ b 12 = some (b + 6) ∧ hR σ b 15 = some (b + 7) ∧ hR σ b 13 = some (b + 8)) ∧ (Ar σ (b + 1) 23 12 ∧ Ar σ (b + 2) 22 4 ∧ Ar σ (b + 3) 22 12 ∧ Ar σ (b + 4) 22 16 ∧ Ar σ (b + 5) 22 16 ∧ Ar σ (b + 6) 22 16 ∧ Ar σ (b + 7) 22 60 ∧ Ar σ (b + 8) 22 ((hS σ (b + 8)).2) ∧ (hS σ (b + 8)).2 < 2147483648) ∧ (0 ≤ gI σ b 3 ∧ gI σ b 3 ≤ 12) ∧ (0 ≤ gI σ b 4 ∧ gI σ b 4 ≤ 16) ∧ ∀ w : Nat, w < 16 → 0 ≤ gI σ (b + 6) w
theorem LawOK.is {σ : VH} {b : Nat} (h : LawOK σ b) : Is σ b 1 := h.2.1
theorem LawOK.stk {σ : VH} {b : Nat} (h : LawOK σ b) : hS σ (b + 7) = (22, 60) := h.2.2.2.1.2.2.2.2.2.2.1.2.2
theorem Is.fr {W : Wl} {σ τ : VH} {v ci : Nat} (h : Fr W σ τ) (g : Is σ v ci) : Is τ v ci := by
  unfold Is
  rw [h.1, h.2.1]
  exact g
theorem Ar.fr {W : Wl} {σ τ : VH} {v k n : Nat} (h : Fr W σ τ) (g : Ar σ v k n) : Ar τ v k n := by
  unfold Ar
  rw [h.1, h.2.1]
  exact g
theorem CaseOK.fr {W : Wl} {σ τ : VH} {v : Nat} (h : Fr W σ τ) (g : CaseOK σ v) : CaseOK τ v := by
  unfold CaseOK
  rw [h.1, h.2.1]
  exact g
theorem LawOK.fr {W : Wl} {σ τ : VH} {b : Nat} (h : Fr W σ τ) (g : LawOK σ b) : LawOK τ b := by
  obtain ⟨g0, g1, g2, g3, g4, g5, g6⟩ := g
  have e1 : hS σ b ≠ (22, 60) := fun e => by have h9 := g1.2.2; rw [e] at h9; cases h9
  have e2 : hS σ b ≠ (0, 0) := fun e => by have h9 := g1.2.2; rw [e] at h9; cases h9
  have e3 : hS σ (b + 6) ≠ (22, 60) := by rw [g3.2.2.2.2.2.1.2.2]; decide
  have e4 : hS σ (b + 6) ≠ (0, 0) := by rw [g3.2.2.2.2.2.1.2.2]; decide
  have a3 : gI τ b 3 = gI σ b 3 := gI_eq (h.d b 3 g0 e1 e2)
  have a4 : gI τ b 4 = gI σ b 4 := gI_eq (h.d b 4 g0 e1 e2)
  unfold LawOK Is Ar
  rw [h.1, h.2.1, h.2.2.1, a3, a4]
  refine ⟨g0, g1, g2, g3, g4, g5, fun w hw => ?_⟩
  rw [gI_eq (h.d (b + 6) w (by omega) e3 e4)]
  exact g6 w hw
def InvX1 (σ : VH) : Prop := (0 ≤ gI σ 2 1 ∧ gI σ 2 1 ≤ 700) ∧ (0 ≤ gI σ 9 7 ∧ gI σ 9 7 ≤ 20) ∧ (0 ≤ gI σ 16 4 ∧ gI σ 16 4 ≤ 60) ∧ (0 ≤ gI σ 21 4 ∧ gI σ 21 4 ≤ 10) ∧ (0 ≤ gI σ 2 12 ∧ gI σ 2 12 ≤ 20) ∧ (0 ≤ gI σ 27 3 ∧ gI σ 27 3 ≤ 60) ∧ (0 ≤ gI σ 2 15 ∧ gI σ 2 15 ≤ 100) ∧ (0 ≤ gI σ 2 7 ∧ gI σ 2 7 ≤ 100000)
def InvX2 (σ : VH) : Prop := (∀ f : Nat, f < 4 → 0 ≤ gI σ 8 f ∧ gI σ 8 f ≤ 4) ∧ (∀ j : Nat, j < 16 → hR σ 7 j = none ∨ ∃ b, hR σ 7 j = some b ∧ LawOK σ b) ∧ (∀ j : Nat, j < 20 → hR σ 26 j = none ∨ ∃ a, hR σ 26 j = some a ∧ CaseOK σ a)
def InvX (σ : VH) : Prop := Lay σ ∧ InvX1 σ ∧ InvX2 σ
theorem InvX2.fr {W : Wl} {σ τ : VH} (h : Fr W σ τ) (g : InvX2 σ) (w8 : ∀ k, wr W 8 k = false) : InvX2 τ := by
  obtain ⟨g1, g2, g3⟩ := g
  refine ⟨fun f hf => by rw [h.g 8 f (w8 f)]; exact g1 f hf, fun j hj => ?_, fun j hj => ?_⟩
  · rw [h.2.2.1]
    rcases g2 j hj with q | ⟨b, q1, q2⟩
    · exact Or.inl q
    · exact Or.inr ⟨b, q1, q2.fr h⟩
  · rw [h.2.2.1]
    rcases g3 j hj with q | ⟨b, q1, q2⟩
    · exact Or.inl q
    · exact Or.inr ⟨b, q1, q2.fr h⟩
theorem InvX.fr {W : Wl} {σ τ : VH} (h : Fr W σ τ) (g : InvX σ) (i1 : InvX1 τ) (w8 : ∀ k, wr W 8 k = false) : InvX τ := ⟨h.lay g.1, i1, g.2.2.fr h w8⟩
