/-! the class's reading of a text: lines -/
def TxS (σ : VH) (b : Nat) (tk pl : Nat → Int) (m : Nat) (st : LSt) : Prop := RdS σ b tk pl m st.1 ∧ (gI σ (b + 9) 4 = st.2.1 ∧ 0 ≤ st.2.1) ∧ (gI σ b 3 = st.2.2.1 ∧ (∀ i : Nat, (i : Int) < st.2.2.1 → nmx σ b i = st.2.2.2.1 i) ∧ ∀ i : Nat, st.2.2.1 ≤ (i : Int) → i < 12 → nmx σ b i = 0) ∧ gI σ b 4 = st.2.2.2.2.1 ∧ (gI σ (b + 9) 5 = st.2.2.2.2.2.1 ∧ gI σ (b + 9) 6 = st.2.2.2.2.2.2.1 ∧ gI σ (b + 9) 7 = st.2.2.2.2.2.2.2) ∧ ((gI σ (b + 9) 5 = 0 ∨ gI σ (b + 9) 5 = 1) ∧ (gI σ (b + 9) 6 = 0 ∨ gI σ (b + 9) 6 = 1) ∧ (gI σ (b + 9) 7 = 0 ∨ gI σ (b + 9) 7 = 1))
def TxI (τ : VH) (b : Nat) (tk pl : Nat → Int) (m : Nat) (st0 : LSt) (gd k : Int) : Prop := (gd = 0 ∧ ∃ r : Int × Nat, LwE tk m st0 r ∧ ¬ r.1 = 0 ∧ Fl τ b pl r.1 r.2) ∨ (gd = 1 ∧ ∃ st : LSt, TxS τ b tk pl m st ∧ k ≤ (st.1 : Int) ∧ ∀ r, LwE tk m st r → LwE tk m st0 r)
theorem TxI.is1 {τ : VH} {b : Nat} {tk pl : Nat → Int} {m : Nat} {st0 : LSt} {gd k : Int} (h : TxI τ b tk pl m st0 gd k) (hg : ¬ gd = 0) : ∃ st : LSt, TxS τ b tk pl m st ∧ k ≤ (st.1 : Int) ∧ ∀ r, LwE tk m st r → LwE tk m st0 r := by
  rcases h with ⟨h, -⟩ | ⟨-, h⟩
  · exact absurd h hg
  · exact h
theorem TxI.line {τ : VH} {b : Nat} {tk pl : Nat → Int} {m : Nat} {st0 st st' : LSt} {r : Int × Nat} {z k : Int} (h1 : tk m = 1) (ht : ¬ tk st.1 = 1) (hj : st.1 ≤ m) (hk : k ≤ (st.1 : Int)) (hold : ∀ r, LwE tk m st r → LwE tk m st0 r) (l : LineR tk m st r st') (rt : Rt τ b tk pl m z r) (e1 : st'.1 = r.2) (hs : ¬ z = 0 → r.1 = 0 → RdS τ b tk pl m r.2 → TxS τ b tk pl m st') : TxI τ b tk pl m st0 z (k + 1) := by
  rcases rt with ⟨z1, r0, rd⟩ | ⟨z0, rn, fl⟩
  · have hb := l.bw h1 hj r0
    exact Or.inr ⟨z1, st', hs (by omega) r0 rd, by rw [e1]; omega, fun q hq => hold q (LwE.line ht l r0 hq)⟩
  · exact Or.inl ⟨z0, r, hold r (LwE.bad ht l rn), rn, fl⟩
theorem TxS.hurt {σ τ : VH} {b : Nat} {W : Wl} {tk pl : Nat → Int} {m j' : Nat} {st : LSt} (ts : TxS σ b tk pl m st) (F : FrX b W σ τ) (w : (!(wr W 9 4) && !(wr W 0 4) && !(wr W 9 5) && !(wr W 9 6) && !(wr W 9 7)) = true) (rd : RdS τ b tk pl m j') (e3 : gI τ b 3 = gI σ b 3 + 1) (er : ∀ i : Nat, nmx τ b i = if (i : Int) = gI σ b 3 then tk (adv m st.1) else nmx σ b i) : TxS τ b tk pl m (j', st.2.1, st.2.2.1 + 1, fun i : Nat => if (i : Int) = st.2.2.1 then tk (adv m st.1) else st.2.2.2.1 i, st.2.2.2.2) := by
  simp only [Bool.and_eq_true, Bool.not_eq_true'] at w
  obtain ⟨⟨⟨⟨w4, w04⟩, w5⟩, w6⟩, w7⟩ := w
  obtain ⟨-, t2, ⟨t3, t4, t5⟩, t6, t7, t8⟩ := ts
  have e4 : gI τ (b + 9) 4 = gI σ (b + 9) 4 := gI_eq (FrX.it 9 F w4 rfl)
  have e04 : gI τ b 4 = gI σ b 4 := gI_eq (FrX.it 0 F w04 rfl)
  have e5 : gI τ (b + 9) 5 = gI σ (b + 9) 5 := gI_eq (FrX.it 9 F w5 rfl)
  have e6 : gI τ (b + 9) 6 = gI σ (b + 9) 6 := gI_eq (FrX.it 9 F w6 rfl)
  have e7 : gI τ (b + 9) 7 = gI σ (b + 9) 7 := gI_eq (FrX.it 9 F w7 rfl)
  refine ⟨rd, by rw [e4]; exact t2, ⟨by rw [e3, t3], fun i hi => ?_, fun i h1 h2 => ?_⟩, by rw [e04]; exact t6, by rw [e5, e6, e7]; exact t7, by rw [e5, e6, e7]; exact t8⟩
  · rw [er i, t3]
    show (if (i : Int) = st.2.2.1 then tk (adv m st.1) else nmx σ b i) = (if (i : Int) = st.2.2.1 then tk (adv m st.1) else st.2.2.2.1 i)
    by_cases hc : (i : Int) = st.2.2.1
    · rw [if_pos hc, if_pos hc]
    · have hi2 : (i : Int) < st.2.2.1 + 1 := hi
      rw [if_neg hc, if_neg hc]
      exact t4 i (by omega)
  · have h1' : st.2.2.1 + 1 ≤ (i : Int) := h1
    rw [er i, if_neg (by omega)]
    exact t5 i (by omega) h2
theorem TxS.when {σ τ : VH} {b : Nat} {W : Wl} {tk pl : Nat → Int} {m j' : Nat} {st : LSt} {s' : Int} (ts : TxS σ b tk pl m st) (F : FrX b W σ τ) (w : (!(wr W 0 3) && !(wr W 9 5) && !(wr W 9 6) && !(wr W 9 7)) = true) (w1 : ∀ i, wr W 1 i = false) (rd : RdS τ b tk pl m j') (es : gI τ (b + 9) 4 = s') (h0 : 0 ≤ s') (e4 : gI τ b 4 = gI σ b 4 + 1) : TxS τ b tk pl m (j', s', st.2.2.1, st.2.2.2.1, st.2.2.2.2.1 + 1, st.2.2.2.2.2) := by
  simp only [Bool.and_eq_true, Bool.not_eq_true'] at w
  obtain ⟨⟨⟨w3, w5⟩, w6⟩, w7⟩ := w
  obtain ⟨-, t2, ⟨t3, t4, t5⟩, t6, t7, t8⟩ := ts
  have e3 : gI τ b 3 = gI σ b 3 := gI_eq (FrX.it 0 F w3 rfl)
  have e5 : gI τ (b + 9) 5 = gI σ (b + 9) 5 := gI_eq (FrX.it 9 F w5 rfl)
  have e6 : gI τ (b + 9) 6 = gI σ (b + 9) 6 := gI_eq (FrX.it 9 F w6 rfl)
  have e7 : gI τ (b + 9) 7 = gI σ (b + 9) 7 := gI_eq (FrX.it 9 F w7 rfl)
  have en := nmx_fr F w1
  exact ⟨rd, ⟨es, h0⟩, ⟨by rw [e3, t3], fun i hi => (en i).trans (t4 i hi), fun i q1 q2 => (en i).trans (t5 i q1 q2)⟩, by rw [e4, t6], by rw [e5, e6, e7]; exact t7, by rw [e5, e6, e7]; exact t8⟩
/-- share, need, terms: a word that is told once -/
theorem TxS.once {σ τ : VH} {b : Nat} {W : Wl} {tk pl : Nat → Int} {m j' : Nat} {st : LSt} {f5 f6 f7 : Int} (ts : TxS σ b tk pl m st) (F : FrX b W σ τ) (w : (!(wr W 0 3) && !(wr W 0 4) && !(wr W 9 4)) = true) (w1 : ∀ i, wr W 1 i = false) (rd : RdS τ b tk pl m j') (e5 : gI τ (b + 9) 5 = f5) (e6 : gI τ (b + 9) 6 = f6) (e7 : gI τ (b + 9) 7 = f7) (hf : (f5 = 0 ∨ f5 = 1) ∧ (f6 = 0 ∨ f6 = 1) ∧ (f7 = 0 ∨ f7 = 1)) : TxS τ b tk pl m (j', st.2.1, st.2.2.1, st.2.2.2.1, st.2.2.2.2.1, f5, f6, f7) := by
  simp only [Bool.and_eq_true, Bool.not_eq_true'] at w
  obtain ⟨⟨w3, w04⟩, w4⟩ := w
  obtain ⟨-, t2, ⟨t3, t4, t5⟩, t6, t7, t8⟩ := ts
  have e3 : gI τ b 3 = gI σ b 3 := gI_eq (FrX.it 0 F w3 rfl)
  have e04 : gI τ b 4 = gI σ b 4 := gI_eq (FrX.it 0 F w04 rfl)
  have e4 : gI τ (b + 9) 4 = gI σ (b + 9) 4 := gI_eq (FrX.it 9 F w4 rfl)
  have en := nmx_fr F w1
  exact ⟨rd, by rw [e4]; exact t2, ⟨by rw [e3, t3], fun i hi => (en i).trans (t4 i hi), fun i q1 q2 => (en i).trans (t5 i q1 q2)⟩, by rw [e04, t6], ⟨e5, e6, e7⟩, by rw [e5, e6, e7]; exact hf⟩
/-- what a text gives: read to its end, or its fault -/
theorem TxI.out {τ : VH} {b : Nat} {tk pl : Nat → Int} {m : Nat} {st0 : LSt} {gd k : Int} (h : TxI τ b tk pl m st0 gd k) (h1 : tk m = 1) (hm : m ≤ 700) (hn : gd = 0 ∨ 701 ≤ k ∨ (hL τ (b + 9) 3).toInt = 1) : (gd = 0 ∧ ∃ r : Int × Nat, LwE tk m st0 r ∧ ¬ r.1 = 0 ∧ Fl τ b pl r.1 r.2) ∨ (gd = 1 ∧ (∃ j : Nat, LwE tk m st0 (0, j)) ∧ gI τ (b + 9) 8 = 0 ∧ gI τ (b + 9) 9 = -1) := by
  rcases h with h | ⟨g1, st, ts, hk, hold⟩
  · exact Or.inl h
  · have hj := ts.1.2.2.1.2
    have hc := ts.1.2.2.2.1
    have ht : tk st.1 = 1 := by
      rcases hn with q | q | q
      · omega
      · omega
      · rw [← hc]
        exact q
    exact Or.inr ⟨g1, ⟨st.1, hold _ (LwE.end ht)⟩, ts.1.2.2.2.2⟩
def st00 : LSt := (0, 0, 0, fun _ => 0, 0, 0, 0, 0)
