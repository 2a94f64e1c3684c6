/-! the class's reading of an e: ones with and, or between them -/
def BtI (τ : VH) (b : Nat) (tk pl : Nat → Int) (m : Nat) (gd : Int) (d j : Nat) (s k : Int) : Prop := (gd = 0 ∧ ∃ r : Rs, PR tk m 2 d j s r ∧ ¬ r.1 = 0 ∧ Fl τ b pl r.1 r.2.1) ∨ (gd = 1 ∧ ∃ j1 : Nat, RdS τ b tk pl m j1 ∧ (s + k < gI τ (b + 9) 4 ∧ gI τ (b + 9) 4 ≤ 60) ∧ ∀ r, PR tk m 1 d j1 (gI τ (b + 9) 4) r → PR tk m 2 d j s r)
/-- the same, no and behind it -/
def BtE (τ : VH) (b : Nat) (tk pl : Nat → Int) (m : Nat) (gd : Int) (d j : Nat) (s k : Int) : Prop := (gd = 0 ∧ ∃ r : Rs, PR tk m 2 d j s r ∧ ¬ r.1 = 0 ∧ Fl τ b pl r.1 r.2.1) ∨ (gd = 1 ∧ ∃ j1 : Nat, (RdS τ b tk pl m j1 ∧ ¬ tk j1 = 6385252) ∧ (s + k < gI τ (b + 9) 4 ∧ gI τ (b + 9) 4 ≤ 60) ∧ ∀ r, PR tk m 1 d j1 (gI τ (b + 9) 4) r → PR tk m 2 d j s r)
theorem BtI.is1 {τ : VH} {b : Nat} {tk pl : Nat → Int} {m : Nat} {gd : Int} {d j : Nat} {s k : Int} (h : BtI τ b tk pl m gd d j s k) (hg : ¬ gd = 0) : ∃ j1 : Nat, RdS τ b tk pl m j1 ∧ (s + k < gI τ (b + 9) 4 ∧ gI τ (b + 9) 4 ≤ 60) ∧ ∀ r, PR tk m 1 d j1 (gI τ (b + 9) 4) r → PR tk m 2 d j s r := by
  rcases h with ⟨h, -⟩ | ⟨-, h⟩
  · exact absurd h hg
  · exact h
theorem BtE.is1 {τ : VH} {b : Nat} {tk pl : Nat → Int} {m : Nat} {gd : Int} {d j : Nat} {s k : Int} (h : BtE τ b tk pl m gd d j s k) (hg : ¬ gd = 0) : ∃ j1 : Nat, (RdS τ b tk pl m j1 ∧ ¬ tk j1 = 6385252) ∧ (s + k < gI τ (b + 9) 4 ∧ gI τ (b + 9) 4 ≤ 60) ∧ ∀ r, PR tk m 1 d j1 (gI τ (b + 9) 4) r → PR tk m 2 d j s r := by
  rcases h with ⟨h, -⟩ | ⟨-, h⟩
  · exact absurd h hg
  · exact h
theorem BtE.is0 {τ : VH} {b : Nat} {tk pl : Nat → Int} {m : Nat} {gd : Int} {d j : Nat} {s k : Int} (h : BtE τ b tk pl m gd d j s k) (hg : gd = 0) : ∃ r : Rs, PR tk m 2 d j s r ∧ ¬ r.1 = 0 ∧ Fl τ b pl r.1 r.2.1 := by
  rcases h with ⟨-, h⟩ | ⟨h, -⟩
  · exact h
  · omega
theorem BtI.start {τ : VH} {b : Nat} {tk pl : Nat → Int} {m : Nat} {z : Int} {d j : Nat} {s : Int} {r : Rs} (pr : PR tk m 0 d j s r) (rt : RtS τ b tk pl m z r) : BtI τ b tk pl m z d j s 0 := by
  rcases rt with ⟨h1, h2, h3, h4⟩ | ⟨h1, h2, h3⟩
  · have h5 := pr.s0 h2
    refine Or.inr ⟨h1, r.2.1, h3, by omega, fun q hq => pr.two h2 ?_⟩
    rw [h4] at hq
    exact hq
  · exact Or.inl ⟨h1, r, pr.bad h2, h2, h3⟩
theorem BtI.step {τ : VH} {b : Nat} {tk pl : Nat → Int} {m : Nat} {z : Int} {d j j1 : Nat} {s s1 k : Int} {r : Rs} (hk : s + k < s1) (hold : ∀ r, PR tk m 1 d j1 s1 r → PR tk m 2 d j s r) (ht : tk j1 = 6385252 ∨ tk j1 = 28530) (pr : PR tk m 0 d (adv m j1) s1 r) (rt : RtS τ b tk pl m z r) : BtI τ b tk pl m z d j s (k + 1) := by
  rcases rt with ⟨h1, h2, h3, h4⟩ | ⟨h1, h2, h3⟩
  · have h5 := pr.s0 h2
    refine Or.inr ⟨h1, r.2.1, h3, by omega, fun q hq => hold q (PR.more ht (pr.two h2 ?_))⟩
    rw [h4] at hq
    exact hq
  · exact Or.inl ⟨h1, r, hold r (PR.more ht (pr.bad h2)), h2, h3⟩
theorem BtE.step {τ : VH} {b : Nat} {tk pl : Nat → Int} {m : Nat} {z : Int} {d j j1 : Nat} {s s1 k : Int} (hk : s + k < s1) (hold : ∀ r, PR tk m 1 d j1 s1 r → PR tk m 2 d j s r) (ht : tk j1 = 6385252 ∨ tk j1 = 28530) (h : BtE τ b tk pl m z d (adv m j1) s1 0) : BtE τ b tk pl m z d j s (k + 1) := by
  rcases h with ⟨h1, r, h2, h3, h4⟩ | ⟨h1, j2, h2, h3, h4⟩
  · exact Or.inl ⟨h1, r, hold r (PR.more ht h2), h3, h4⟩
  · exact Or.inr ⟨h1, j2, h2, by omega, fun q hq => hold q (PR.more ht (h4 q hq))⟩
theorem BtI.out {τ : VH} {b : Nat} {tk pl : Nat → Int} {m : Nat} {gd : Int} {d j : Nat} {s k : Int} (h : BtI τ b tk pl m gd d j s k) (hk : 0 ≤ k) (hn : gd = 0 ∨ 60 ≤ s + k ∨ ¬ (hL τ (b + 9) 3).toInt = 6385252) : BtE τ b tk pl m gd d j s 0 := by
  rcases h with h | ⟨h1, j1, h2, h3, h4⟩
  · exact Or.inl h
  · have h5 := h2.2.2.2.1
    refine Or.inr ⟨h1, j1, ⟨h2, ?_⟩, by omega, h4⟩
    rcases hn with h6 | h6 | h6
    · omega
    · omega
    · rw [← h5]
      exact h6
theorem BtE.out {τ : VH} {b : Nat} {tk pl : Nat → Int} {m : Nat} {gd : Int} {d j : Nat} {s k : Int} (h : BtE τ b tk pl m gd d j s k) (hn : gd = 0 ∨ 60 ≤ s + k ∨ ¬ (hL τ (b + 9) 3).toInt = 28530) : ∃ r : Rs, PR tk m 2 d j s r ∧ RtS τ b tk pl m gd r := by
  rcases h with ⟨h1, r, h2, h3, h4⟩ | ⟨h1, j1, ⟨h2, h2'⟩, h3, h4⟩
  · exact ⟨r, h2, Or.inr ⟨h1, h3, h4⟩⟩
  · have h5 := h2.2.2.2.1
    have h6 : ¬ tk j1 = 28530 := by
      rcases hn with h6 | h6 | h6
      · omega
      · omega
      · rw [← h5]
        exact h6
    exact ⟨(0, j1, gI τ (b + 9) 4), h4 _ (PR.stop (fun q => q.elim h2' h6)), Or.inl ⟨h1, rfl, h2, rfl⟩⟩
theorem BtI.fr {b : Nat} {W : Wl} {σ τ : VH} {tk pl : Nat → Int} {m : Nat} {gd : Int} {d j : Nat} {s k : Int} (h : BtI σ b tk pl m gd d j s k) (F : FrX b W σ τ) (R : RdX τ b) (w : (!(wr W 9 2) && !(wr W 9 3) && !(wr W 9 4) && !(wr W 9 8) && !(wr W 9 9)) = true) : BtI τ b tk pl m gd d j s k := by
  simp only [Bool.and_eq_true, Bool.not_eq_true'] at w
  obtain ⟨⟨⟨⟨w2, w3⟩, w4⟩, w8⟩, w9⟩ := w
  have e4 : gI τ (b + 9) 4 = gI σ (b + 9) 4 := gI_eq (FrX.it 9 F w4 rfl)
  rcases h with ⟨h1, r, h2, h3, h4⟩ | ⟨h1, j1, h2, h3, h4⟩
  · exact Or.inl ⟨h1, r, h2, h3, h4.fr F w8 w9⟩
  · exact Or.inr ⟨h1, j1, h2.fr F R w2 w3 w8 w9, by rw [e4]; exact h3, by rw [e4]; exact h4⟩
theorem BtE.fr {b : Nat} {W : Wl} {σ τ : VH} {tk pl : Nat → Int} {m : Nat} {gd : Int} {d j : Nat} {s k : Int} (h : BtE σ b tk pl m gd d j s k) (F : FrX b W σ τ) (R : RdX τ b) (w : (!(wr W 9 2) && !(wr W 9 3) && !(wr W 9 4) && !(wr W 9 8) && !(wr W 9 9)) = true) : BtE τ b tk pl m gd d j s k := by
  simp only [Bool.and_eq_true, Bool.not_eq_true'] at w
  obtain ⟨⟨⟨⟨w2, w3⟩, w4⟩, w8⟩, w9⟩ := w
  have e4 : gI τ (b + 9) 4 = gI σ (b + 9) 4 := gI_eq (FrX.it 9 F w4 rfl)
  rcases h with ⟨h1, r, h2, h3, h4⟩ | ⟨h1, j1, ⟨h2, h2'⟩, h3, h4⟩
  · exact Or.inl ⟨h1, r, h2, h3, h4.fr F w8 w9⟩
  · exact Or.inr ⟨h1, j1, ⟨h2.fr F R w2 w3 w8 w9, h2'⟩, by rw [e4]; exact h3, by rw [e4]; exact h4⟩
