/-! a line of the reference -/
theorem hurtR_3 {tk : Nat → Int} {m j : Nat} {h : Int} {N : Nat → Int} (g : ¬ 12 ≤ h) : hurtR tk m j h N = thn (hurt3 tk m h N (adv m j)) (fun j => exR tk m j 59) := by
  unfold hurtR hurt3
  rw [cif_neg g]
  by_cases a : Wy (tk (adv m j)) ∧ ¬ Kp (tk (adv m j))
  · rw [cif_pos a, cif_pos a]
    by_cases c : ∃ i : Nat, (i : Int) < h ∧ N i = tk (adv m j)
    · rw [cif_pos c, cif_pos c, thn_f (show ¬ (3 : Int) = 0 by decide)]
    · rw [cif_neg c, cif_neg c]
  · rw [cif_neg a, cif_neg a, thn_f]
    exact flt_ne (by decide)
theorem needR_3 {tk : Nat → Int} {m j : Nat} {f : Int} (g : ¬ f = 1) : needR tk m j f = thn (need3 tk m 0 12 1918987883 0 3 (adv m j)) (fun j => exR tk m j 59) := by
  unfold needR need3
  rw [cif_neg g, thn_as]
  exact thn_cg (fun _ => thn_as.symm)
theorem termsR_3 {tk : Nat → Int} {m j : Nat} {f : Int} (g : ¬ f = 1) : termsR tk m j f = thn (need3 tk m 1 6 1684109683 1 400 (adv m j)) (fun j => exR tk m j 59) := by
  unfold termsR need3
  rw [cif_neg g, thn_as]
  exact thn_cg (fun _ => thn_as.symm)
theorem shareR_3 {tk : Nat → Int} {m j : Nat} {f : Int} (g : ¬ f = 1) : shareR tk m j f = thn (share3 tk m (adv m j)) (fun j => exR tk m j 59) := by
  unfold shareR share3
  rw [cif_neg g, thn_as]
  refine thn_cg (fun _ => ?_)
  rw [thn_as]
  refine thn_cg (fun _ => ?_)
  rw [thn_as]
theorem deedR_3 {tk : Nat → Int} {m j : Nat} : deedR tk m j = thn (deed3 tk m j) (fun j => exR tk m j 59) := by
  unfold deedR deed3
  by_cases a : tk j = 110429873532005 ∨ tk j = 1751215206
  · rw [cif_pos a, cif_pos a, thn_ok rfl]
  · rw [cif_neg a, cif_neg a]
    by_cases c : tk j = 6382692 ∨ tk j = 1818588019
    · rw [cif_pos c, cif_pos c]
    · rw [cif_neg c, cif_neg c, thn_f]
      exact flt_ne (by decide)
theorem whenT_3 {tk : Nat → Int} {m : Nat} {q : Rs} : whenT tk m q = thn (when3 tk m q) (fun j => exR tk m j 59) := by
  unfold whenT when3
  by_cases a : q.1 = 0
  · rw [cif_pos a, thn_t (r := (q.1, q.2.1)) a, thn_as]
    exact thn_cg (fun _ => deedR_3)
  · rw [cif_neg a, thn_f (r := (q.1, q.2.1)) a, thn_f (r := (q.1, q.2.1)) a, thn_f (r := (q.1, q.2.1)) a]
abbrev LS2 : Type := Int × Int × (Nat → Int) × Int × Int × Int × Int
def TxR (σ : VH) (b : Int) (u : LS2) : Prop := gI σ 33 36 = u.1 ∧ gI σ 39 b.toNat = u.2.1 ∧ (∀ i : Nat, (i : Int) < u.2.1 → nmr σ b i = u.2.2.1 i) ∧ gI σ 41 b.toNat = u.2.2.2.1 ∧ (gI σ 54 b.toNat = u.2.2.2.2.1 ∧ gI σ 55 b.toNat = u.2.2.2.2.2.1 ∧ gI σ 56 b.toNat = u.2.2.2.2.2.2) ∧ ((gI σ 54 b.toNat = 0 ∨ gI σ 54 b.toNat = 1) ∧ (gI σ 55 b.toNat = 0 ∨ gI σ 55 b.toNat = 1) ∧ (gI σ 56 b.toNat = 0 ∨ gI σ 56 b.toNat = 1))
theorem nmr_fr {W : Wl} {σ τ : VH} {b : Int} (F : Fr W σ τ) (w : ∀ k, wr W 53 k = false) (i : Nat) : nmr τ b i = nmr σ b i := congrArg Int64.toInt (F.l 53 _ (w _))
theorem TxR.once {W : Wl} {σ τ : VH} {b : Int} {u : LS2} {f5 f6 f7 : Int} (t : TxR σ b u) (F : Fr W σ τ) (w36 : wr W 33 36 = false) (w39 : ∀ k, wr W 39 k = false) (w53 : ∀ k, wr W 53 k = false) (w41 : ∀ k, wr W 41 k = false) (e5 : gI τ 54 b.toNat = f5) (e6 : gI τ 55 b.toNat = f6) (e7 : gI τ 56 b.toNat = f7) (hf : (f5 = 0 ∨ f5 = 1) ∧ (f6 = 0 ∨ f6 = 1) ∧ (f7 = 0 ∨ f7 = 1)) : TxR τ b (u.1, u.2.1, u.2.2.1, u.2.2.2.1, f5, f6, f7) := by
  obtain ⟨t1, t2, t3, t4, -, -⟩ := t
  exact ⟨(F.g 33 36 w36).trans t1, (F.g 39 _ (w39 _)).trans t2, fun i hi => (nmr_fr F w53 i).trans (t3 i hi), (F.g 41 _ (w41 _)).trans t4, ⟨e5, e6, e7⟩, by rw [e5, e6, e7]; exact hf⟩
theorem TxR.fr {W : Wl} {σ τ : VH} {b : Int} {u : LS2} (t : TxR σ b u) (F : Fr W σ τ) (w36 : wr W 33 36 = false) (w39 : ∀ k, wr W 39 k = false) (w53 : ∀ k, wr W 53 k = false) (w41 : ∀ k, wr W 41 k = false) (w54 : ∀ k, wr W 54 k = false) (w55 : ∀ k, wr W 55 k = false) (w56 : ∀ k, wr W 56 k = false) : TxR τ b u := by
  have h5 := t.2.2.2.2.1
  have h6 := t.2.2.2.2.2
  exact t.once F w36 w39 w53 w41 ((F.g 54 _ (w54 _)).trans h5.1) ((F.g 55 _ (w55 _)).trans h5.2.1) ((F.g 56 _ (w56 _)).trans h5.2.2) (by rw [← h5.1, ← h5.2.1, ← h5.2.2]; exact h6)
theorem TxR.hurt {W : Wl} {σ τ : VH} {b t : Int} {u : LS2} (x : TxR σ b u) (F : Fr W σ τ) (w36 : wr W 33 36 = false) (w41 : ∀ k, wr W 41 k = false) (w54 : ∀ k, wr W 54 k = false) (w55 : ∀ k, wr W 55 k = false) (w56 : ∀ k, wr W 56 k = false) (e39 : gI τ 39 b.toNat = gI σ 39 b.toNat + 1) (er : ∀ i : Nat, nmr τ b i = if (i : Int) = gI σ 39 b.toNat then t else nmr σ b i) : TxR τ b (u.1, u.2.1 + 1, fun i : Nat => if (i : Int) = u.2.1 then t else u.2.2.1 i, u.2.2.2) := by
  obtain ⟨t1, t2, t3, t4, t5, t6⟩ := x
  have q4 := F.g 54 b.toNat (w54 _)
  have q5 := F.g 55 b.toNat (w55 _)
  have q6 := F.g 56 b.toNat (w56 _)
  refine ⟨(F.g 33 36 w36).trans t1, by rw [e39, t2], fun i hi => ?_, (F.g 41 _ (w41 _)).trans t4, by rw [q4, q5, q6]; exact t5, by rw [q4, q5, q6]; exact t6⟩
  have hi : (i : Int) < u.2.1 + 1 := hi
  rw [er i, t2]
  show (if (i : Int) = u.2.1 then t else nmr σ b i) = (if (i : Int) = u.2.1 then t else u.2.2.1 i)
  by_cases c : (i : Int) = u.2.1
  · rw [if_pos c, if_pos c]
  · rw [if_neg c, if_neg c]
    exact t3 i (by omega)
theorem TxR.when {W : Wl} {σ τ : VH} {b s : Int} {u : LS2} (x : TxR σ b u) (F : Fr W σ τ) (w39 : ∀ k, wr W 39 k = false) (w53 : ∀ k, wr W 53 k = false) (w54 : ∀ k, wr W 54 k = false) (w55 : ∀ k, wr W 55 k = false) (w56 : ∀ k, wr W 56 k = false) (e36 : gI τ 33 36 = s) (e41 : gI τ 41 b.toNat = gI σ 41 b.toNat + 1) : TxR τ b (s, u.2.1, u.2.2.1, u.2.2.2.1 + 1, u.2.2.2.2) := by
  obtain ⟨t1, t2, t3, t4, t5, t6⟩ := x
  have q4 := F.g 54 b.toNat (w54 _)
  have q5 := F.g 55 b.toNat (w55 _)
  have q6 := F.g 56 b.toNat (w56 _)
  exact ⟨e36, (F.g 39 _ (w39 _)).trans t2, fun i hi => (nmr_fr F w53 i).trans (t3 i hi), by rw [e41, t4], by rw [q4, q5, q6]; exact t5, by rw [q4, q5, q6]; exact t6⟩
/-- within a line, before its end; behind it -/
def LnM (τ : VH) (b : Int) (tk pl : Nat → Int) (m : Nat) (st : LSt) : Prop := ∃ (r : Int × Nat) (u : LS2), Rf τ tk pl m r ∧ LineR tk m st (thn r (fun j => exR tk m j 59)) ((thn r (fun j => exR tk m j 59)).2, u) ∧ (r.1 = 0 → TxR τ b u)
def LnR (τ : VH) (b : Int) (tk pl : Nat → Int) (m : Nat) (st : LSt) : Prop := ∃ (r : Int × Nat) (u : LS2), Rf τ tk pl m r ∧ LineR tk m st r (r.2, u) ∧ (r.1 = 0 → TxR τ b u)
theorem LnM.hurt {W : Wl} {σ τ : VH} {b : Int} {tk pl : Nat → Int} {m : Nat} {st : LSt} (x : TxR σ b st.2) (hw : tk st.1 = 1752527476) (hf : ¬ gI σ 39 b.toNat = 12) (hle : gI σ 39 b.toNat ≤ 12) (R : Rf τ tk pl m (hurt3 tk m (gI σ 39 b.toNat) (nmr σ b) (adv m st.1))) (F : Fr W σ τ) (w36 : wr W 33 36 = false) (w41 : ∀ k, wr W 41 k = false) (w54 : ∀ k, wr W 54 k = false) (w55 : ∀ k, wr W 55 k = false) (w56 : ∀ k, wr W 56 k = false) (e : 0 < gI τ 33 4 ∨ (gI τ 39 b.toNat = gI σ 39 b.toNat + 1 ∧ ∀ i : Nat, nmr τ b i = if (i : Int) = gI σ 39 b.toNat then tk (adv m st.1) else nmr σ b i)) : LnM τ b tk pl m st := by
  have e2 := x.2.1
  refine ⟨_, _, R, Or.inl ⟨hw, ?_, rfl⟩, fun r0 => ?_⟩
  · rw [← hurtR_3 (j := st.1) (by omega), e2]
    exact hurtR_congr x.2.2.1
  · have e' := e.resolve_left (fun q => (R.bad q).1 r0)
    exact x.hurt F w36 w41 w54 w55 w56 e'.1 e'.2
theorem LnM.once {W : Wl} {σ τ : VH} {b : Int} {tk pl : Nat → Int} {m : Nat} {st : LSt} {r : Int × Nat} {f5 f6 f7 : Int} (x : TxR σ b st.2) (l : LineR tk m st (thn r (fun j => exR tk m j 59)) ((thn r (fun j => exR tk m j 59)).2, st.2.1, st.2.2.1, st.2.2.2.1, st.2.2.2.2.1, f5, f6, f7)) (R : Rf τ tk pl m r) (F : Fr W σ τ) (w36 : wr W 33 36 = false) (w39 : ∀ k, wr W 39 k = false) (w53 : ∀ k, wr W 53 k = false) (w41 : ∀ k, wr W 41 k = false) (e5 : gI τ 54 b.toNat = f5) (e6 : gI τ 55 b.toNat = f6) (e7 : gI τ 56 b.toNat = f7) (hf : (f5 = 0 ∨ f5 = 1) ∧ (f6 = 0 ∨ f6 = 1) ∧ (f7 = 0 ∨ f7 = 1)) : LnM τ b tk pl m st := ⟨r, _, R, l, fun _ => x.once F w36 w39 w53 w41 e5 e6 e7 hf⟩
theorem LnM.need {W : Wl} {σ τ : VH} {b : Int} {tk pl : Nat → Int} {m : Nat} {st : LSt} (x : TxR σ b st.2) (hw : tk st.1 = 1852138852) (hf : gI σ 55 b.toNat = 0) (R : Rf τ tk pl m (need3 tk m 0 12 1918987883 0 3 (adv m st.1))) (F : Fr W σ τ) (w36 : wr W 33 36 = false) (w39 : ∀ k, wr W 39 k = false) (w53 : ∀ k, wr W 53 k = false) (w41 : ∀ k, wr W 41 k = false) (w54 : ∀ k, wr W 54 k = false) (w56 : ∀ k, wr W 56 k = false) (e6 : gI τ 55 b.toNat = 1) : LnM τ b tk pl m st := by
  have h5 := x.2.2.2.2.1
  have h6 := x.2.2.2.2.2
  rw [h5.1, h5.2.1, h5.2.2] at h6
  exact LnM.once x (Or.inr (Or.inr (Or.inr (Or.inr (Or.inl ⟨hw, (needR_3 (by omega)).symm, rfl⟩))))) R F w36 w39 w53 w41 ((F.g 54 _ (w54 _)).trans h5.1) e6 ((F.g 56 _ (w56 _)).trans h5.2.2) ⟨h6.1, Or.inr rfl, h6.2.2⟩
theorem LnM.terms {W : Wl} {σ τ : VH} {b : Int} {tk pl : Nat → Int} {m : Nat} {st : LSt} (x : TxR σ b st.2) (hw : tk st.1 = 499918204275) (hf : gI σ 56 b.toNat = 0) (R : Rf τ tk pl m (need3 tk m 1 6 1684109683 1 400 (adv m st.1))) (F : Fr W σ τ) (w36 : wr W 33 36 = false) (w39 : ∀ k, wr W 39 k = false) (w53 : ∀ k, wr W 53 k = false) (w41 : ∀ k, wr W 41 k = false) (w54 : ∀ k, wr W 54 k = false) (w55 : ∀ k, wr W 55 k = false) (e7 : gI τ 56 b.toNat = 1) : LnM τ b tk pl m st := by
  have h5 := x.2.2.2.2.1
  have h6 := x.2.2.2.2.2
  rw [h5.1, h5.2.1, h5.2.2] at h6
  exact LnM.once x (Or.inr (Or.inr (Or.inr (Or.inr (Or.inr (Or.inl ⟨hw, (termsR_3 (by omega)).symm, rfl⟩)))))) R F w36 w39 w53 w41 ((F.g 54 _ (w54 _)).trans h5.1) ((F.g 55 _ (w55 _)).trans h5.2.1) e7 ⟨h6.1, h6.2.1, Or.inr rfl⟩
theorem LnM.share {W : Wl} {σ τ : VH} {b : Int} {tk pl : Nat → Int} {m : Nat} {st : LSt} (x : TxR σ b st.2) (hw : tk st.1 = 495672455781) (hf : gI σ 54 b.toNat = 0) (R : Rf τ tk pl m (share3 tk m (adv m st.1))) (F : Fr W σ τ) (w36 : wr W 33 36 = false) (w39 : ∀ k, wr W 39 k = false) (w53 : ∀ k, wr W 53 k = false) (w41 : ∀ k, wr W 41 k = false) (w55 : ∀ k, wr W 55 k = false) (w56 : ∀ k, wr W 56 k = false) (e5 : gI τ 54 b.toNat = 1) : LnM τ b tk pl m st := by
  have h5 := x.2.2.2.2.1
  have h6 := x.2.2.2.2.2
  rw [h5.1, h5.2.1, h5.2.2] at h6
  exact LnM.once x (Or.inr (Or.inr (Or.inr (Or.inl ⟨hw, (shareR_3 (by omega)).symm, rfl⟩)))) R F w36 w39 w53 w41 e5 ((F.g 55 _ (w55 _)).trans h5.2.1) ((F.g 56 _ (w56 _)).trans h5.2.2) ⟨Or.inr rfl, h6.2.1, h6.2.2⟩
theorem LnM.when {W : Wl} {σ τ : VH} {b : Int} {tk pl : Nat → Int} {m : Nat} {st : LSt} (x : TxR σ b st.2) (hw : tk st.1 = 2003330414) (hf : ¬ gI σ 41 b.toNat = 16) (hle : gI σ 41 b.toNat ≤ 16) (E : ∃ q : Rs, PR tk m 2 0 (adv m st.1) (gI σ 33 36) q ∧ Rf τ tk pl m (when3 tk m q) ∧ ((when3 tk m q).1 = 0 → gI τ 33 36 = q.2.2)) (F : Fr W σ τ) (w39 : ∀ k, wr W 39 k = false) (w53 : ∀ k, wr W 53 k = false) (w54 : ∀ k, wr W 54 k = false) (w55 : ∀ k, wr W 55 k = false) (w56 : ∀ k, wr W 56 k = false) (e41 : gI τ 41 b.toNat = gI σ 41 b.toNat + 1) : LnM τ b tk pl m st := by
  obtain ⟨q, hq, R, hs⟩ := E
  have e1 := x.1
  have e4 := x.2.2.2.1
  rw [e1] at hq
  refine ⟨_, _, R, Or.inr (Or.inr (Or.inl ⟨hw, by rw [← e4]; omega, q, hq, whenT_3.symm, rfl⟩)), fun r0 => x.when F w39 w53 w54 w55 w56 (hs r0) e41⟩
theorem LnR.no {τ : VH} {b : Int} {tk pl : Nat → Int} {m : Nat} {st : LSt} (l : LineR tk m st (flt tk st.1 2, st.1) st) (R : Rf τ tk pl m (flt tk st.1 2, st.1)) : LnR τ b tk pl m st := ⟨_, st.2, R, l, fun q => absurd q (flt_ne (by decide))⟩
/-- the word that begins a line is told already, or none -/
theorem LineR.full {σ : VH} {b : Int} {tk : Nat → Int} {m : Nat} {st : LSt} (x : TxR σ b st.2) (h : (tk st.1 = 1752527476 ∧ gI σ 39 b.toNat = 12) ∨ (tk st.1 = 2003330414 ∧ gI σ 41 b.toNat = 16) ∨ (tk st.1 = 495672455781 ∧ gI σ 54 b.toNat = 1) ∨ (tk st.1 = 1852138852 ∧ gI σ 55 b.toNat = 1) ∨ (tk st.1 = 499918204275 ∧ gI σ 56 b.toNat = 1) ∨ (¬ tk st.1 = 1752527476 ∧ ¬ tk st.1 = 2003330414 ∧ ¬ tk st.1 = 495672455781 ∧ ¬ tk st.1 = 1852138852 ∧ ¬ tk st.1 = 499918204275)) : ∃ u : LS2, LineR tk m st (flt tk st.1 2, st.1) (st.1, u) := by
  obtain ⟨t1, t2, t3, t4, t5, t6⟩ := x
  rcases h with ⟨h1, h2⟩ | ⟨h1, h2⟩ | ⟨h1, h2⟩ | ⟨h1, h2⟩ | ⟨h1, h2⟩ | h
  · exact ⟨_, Or.inl ⟨h1, (cif_pos (by rw [← t2, h2]; decide)).symm, rfl⟩⟩
  · exact ⟨st.2, Or.inr (Or.inl ⟨h1, by rw [← t4, h2]; decide, rfl, rfl⟩)⟩
  · exact ⟨_, Or.inr (Or.inr (Or.inr (Or.inl ⟨h1, (cif_pos (by rw [← t5.1, h2])).symm, rfl⟩)))⟩
  · exact ⟨_, Or.inr (Or.inr (Or.inr (Or.inr (Or.inl ⟨h1, (cif_pos (by rw [← t5.2.1, h2])).symm, rfl⟩))))⟩
  · exact ⟨_, Or.inr (Or.inr (Or.inr (Or.inr (Or.inr (Or.inl ⟨h1, (cif_pos (by rw [← t5.2.2, h2])).symm, rfl⟩)))))⟩
  · exact ⟨st.2, Or.inr (Or.inr (Or.inr (Or.inr (Or.inr (Or.inr ⟨h, rfl, rfl⟩)))))⟩
theorem LnR.full {τ : VH} {b : Int} {tk pl : Nat → Int} {m : Nat} {st : LSt} (l : ∃ u : LS2, LineR tk m st (flt tk st.1 2, st.1) (st.1, u)) (R : Rf τ tk pl m (flt tk st.1 2, st.1)) : LnR τ b tk pl m st := by
  obtain ⟨u, l⟩ := l
  exact ⟨_, u, R, l, fun q => absurd q (flt_ne (by decide))⟩
theorem LnR.of {τ : VH} {b : Int} {tk pl : Nat → Int} {m : Nat} {st : LSt} {r q : Int × Nat} {u : LS2} (l : LineR tk m st (thn r (fun j => exR tk m j 59)) ((thn r (fun j => exR tk m j 59)).2, u)) (R : Rf τ tk pl m q) (e : q = thn r (fun j => exR tk m j 59)) (x : q.1 = 0 → TxR τ b u) : LnR τ b tk pl m st := by
  subst e
  exact ⟨_, u, R, l, x⟩
/-- the lines so far -/
def LwI (τ : VH) (b : Int) (tk pl : Nat → Int) (m : Nat) (st0 : LSt) : Prop := (0 < gI τ 33 4 ∧ ∃ r : Int × Nat, LwE tk m st0 r ∧ ¬ r.1 = 0 ∧ gI τ 33 4 = r.1 ∧ gI τ 33 5 = pl r.2) ∨ (gI τ 33 4 = 0 ∧ ∃ st : LSt, RAt τ tk pl m st.1 ∧ TxR τ b st.2 ∧ ∀ r, LwE tk m st r → LwE tk m st0 r)
theorem LwI.line {τ : VH} {b : Int} {tk pl : Nat → Int} {m : Nat} {st0 st : LSt} (hn : ¬ tk st.1 = 1) (hold : ∀ r, LwE tk m st r → LwE tk m st0 r) (h : LnR τ b tk pl m st) : LwI τ b tk pl m st0 := by
  obtain ⟨r, u, R, l, x⟩ := h
  rcases R with ⟨h1, h2, h3⟩ | ⟨h1, h2, h3, h4⟩
  · exact Or.inr ⟨h1, (r.2, u), h3, x h2, fun q hq => hold q (LwE.line hn l h2 hq)⟩
  · exact Or.inl ⟨h1, r, hold r (LwE.bad hn l h2), h2, h3, h4⟩
theorem LwI.good {τ : VH} {b : Int} {tk pl : Nat → Int} {m : Nat} {st0 : LSt} (h : LwI τ b tk pl m st0) (h0 : gI τ 33 4 ≤ 0) : ∃ st : LSt, RAt τ tk pl m st.1 ∧ TxR τ b st.2 ∧ ∀ r, LwE tk m st r → LwE tk m st0 r := by
  rcases h with ⟨h, -⟩ | ⟨-, h⟩
  · omega
  · exact h
theorem LwI.bad {τ : VH} {b : Int} {tk pl : Nat → Int} {m : Nat} {st0 : LSt} (h : LwI τ b tk pl m st0) (h0 : 0 < gI τ 33 4) : ∃ r : Int × Nat, LwE tk m st0 r ∧ ¬ r.1 = 0 ∧ gI τ 33 4 = r.1 ∧ gI τ 33 5 = pl r.2 := by
  rcases h with ⟨-, h⟩ | ⟨h, -⟩
  · exact h
  · omega
theorem LwI.fin {τ : VH} {b : Int} {tk pl : Nat → Int} {m : Nat} {st0 : LSt} (h : LwI τ b tk pl m st0) (h0 : gI τ 33 4 ≤ 0) (h9 : gI τ 33 9 = 0) : (∃ j : Nat, LwE tk m st0 (0, j)) ∧ gI τ 33 5 = -1 := by
  obtain ⟨st, A, -, hold⟩ := h.good h0
  exact ⟨⟨st.1, hold _ (LwE.end (A.num.2.2.2.1.mp h9))⟩, A.2.2.2.2.2⟩
