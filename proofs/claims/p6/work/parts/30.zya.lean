/-! the reference's reader at token j of the tokens tk at the places pl, END the m-th -/
theorem Tok.nb {S : Int → Int} {n q t e : Int} (h : Tok S n q t e) : q = n ∨ (q < n ∧ ¬ (S q = 32 ∨ S q = 10)) := by
  rcases h with ⟨h1, -, -⟩ | ⟨h1, -, h3⟩
  · exact Or.inl h1
  · refine Or.inr ⟨h1, ?_⟩
    rcases h3 with ⟨h4, -⟩ | ⟨h4, -⟩ | ⟨-, -, h6, -⟩
    · have := h4.hd
      omega
    · have := h4.hd
      omega
    · exact h6
theorem TS.nb {S : Int → Int} {n : Int} {tk pl : Nat → Int} {m j : Nat} (h : TS S n tk pl m) (hj : j ≤ m) : pl j = n ∨ (pl j < n ∧ ¬ (S (pl j) = 32 ∨ S (pl j) = 10)) := by
  by_cases e : j = m
  · rw [e]
    exact Or.inl h.1.1
  · obtain ⟨-, f, hf, -⟩ := h.2.2 j (by omega)
    exact hf.nb
theorem bl_uniq {S : Int → Int} {n e p q : Int} (h : Bl S e p) (g : Bl S e q) (hp : p = n ∨ (p < n ∧ ¬ (S p = 32 ∨ S p = 10))) (hq : q = n ∨ (q < n ∧ ¬ (S q = 32 ∨ S q = 10))) : p = q := by
  have h1 := h.1
  have g1 := g.1
  by_cases h2 : p < q
  · have h3 := g.2 p (by omega) h2
    rcases hp with hp | ⟨-, hp⟩
    · omega
    · exact absurd h3 hp
  · by_cases h3 : q < p
    · have h4 := h.2 q (by omega) h3
      rcases hq with hq | ⟨-, hq⟩
      · omega
      · exact absurd h4 hq
    · omega
def Kf (σ : VH) (t : Int) : Prop := (t = 1 ∧ gI σ 33 9 = 0) ∨ (t = 0 ∧ gI σ 33 9 = 1) ∨ (Wy t ∧ Kp t ∧ gI σ 33 9 = 3 ∧ (hL σ 33 11).toInt = t) ∨ (Wy t ∧ ¬ Kp t ∧ gI σ 33 9 = 2 ∧ (hL σ 33 11).toInt = t) ∨ (t < 0 ∧ gI σ 33 9 = 4 ∧ gI σ 33 10 = -1 - t) ∨ (Sg t ∧ gI σ 33 9 = 5 ∧ sg σ (gI σ 33 7) = t)
def RPre (σ : VH) (tk pl : Nat → Int) (m j : Nat) : Prop := TS (sg σ) (gI σ 33 3) tk pl m ∧ j ≤ m ∧ Bl (sg σ) (gI σ 33 8) (pl j) ∧ gI σ 33 5 = -1
def RAt (σ : VH) (tk pl : Nat → Int) (m j : Nat) : Prop := TS (sg σ) (gI σ 33 3) tk pl m ∧ j ≤ m ∧ gI σ 33 7 = pl j ∧ Tok (sg σ) (gI σ 33 3) (pl j) (tk j) (gI σ 33 8) ∧ Kf σ (tk j) ∧ gI σ 33 5 = -1
theorem RAt.pre {σ : VH} {tk pl : Nat → Int} {m j : Nat} (h : RAt σ tk pl m j) : RPre σ tk pl m (adv m j) := by
  obtain ⟨h1, h2, h3, h4, -, h55⟩ := h
  refine ⟨h1, adv_le h2, ?_, h55⟩
  by_cases hj : j < m
  · rw [adv_lt hj]
    obtain ⟨-, e, t, b⟩ := h1.2.2 j hj
    rw [(h4.eq t).2]
    exact b
  · have e : j = m := by omega
    have ea : adv m j = m := by
      unfold adv
      rw [if_neg hj]
      exact e
    rw [ea]
    rw [e, h1.1.1] at h4
    rcases h4 with ⟨-, -, q⟩ | ⟨q, -⟩
    · rw [q, h1.1.1]
      exact Bl.rf _ _
    · omega
/-- what next does -/
def Nx (σ τ : VH) : Prop := Bl (sg σ) (gI σ 33 8) (gI τ 33 7) ∧ ∃ t, Tok (sg σ) (gI σ 33 3) (gI τ 33 7) t (gI τ 33 8) ∧ Kf τ t
theorem RPre.at {σ τ : VH} {tk pl : Nat → Int} {m j : Nat} (P : RPre σ tk pl m j) (hs : sg τ = sg σ) (h3 : gI τ 33 3 = gI σ 33 3) (h55 : gI τ 33 5 = gI σ 33 5) (h : Nx σ τ) : RAt τ tk pl m j := by
  obtain ⟨p1, p2, p3, p4⟩ := P
  obtain ⟨b, t, tok, kf⟩ := h
  have ea : gI τ 33 7 = pl j := bl_uniq b p3 tok.nb (p1.nb p2)
  rw [ea] at tok
  have et : t = tk j := by
    by_cases hj : j = m
    · rw [hj, p1.1.1] at tok
      rw [hj, p1.1.2]
      rcases tok with ⟨-, q, -⟩ | ⟨q, -⟩
      · exact q
      · omega
    · obtain ⟨-, e, t', -⟩ := p1.2.2 j (by omega)
      exact (tok.eq t').1
  subst et
  exact ⟨by rw [hs, h3]; exact p1, p2, ea, by rw [hs, h3]; exact tok, kf, h55.trans p4⟩
theorem Kp.big {t : Int} (h : Kp t) : 1000 ≤ t := by
  unfold Kp at h
  omega
theorem RAt.word {σ : VH} {tk pl : Nat → Int} {m j : Nat} {v : Int} (h : RAt σ tk pl m j) (hv : Kp v) : (gI σ 33 9 = 3 ∧ (hL σ 33 11).toInt = v) ↔ tk j = v := by
  have hb := hv.big
  have k := h.2.2.2.2.1
  unfold Kf Sg at k
  constructor
  · rintro ⟨q1, q2⟩
    rcases k with k | k | ⟨-, -, -, k⟩ | ⟨-, -, k, -⟩ | k | k
    · omega
    · omega
    · omega
    · omega
    · omega
    · omega
  · intro q
    rcases k with k | k | ⟨-, -, k1, k⟩ | ⟨-, k, -, -⟩ | k | k
    · omega
    · omega
    · exact ⟨k1, k.trans q⟩
    · rw [q] at k
      exact absurd hv k
    · omega
    · omega
theorem RAt.sign {σ : VH} {tk pl : Nat → Int} {m j : Nat} {c : Int} (h : RAt σ tk pl m j) (hc : Sg c) : (gI σ 33 9 = 5 ∧ sg σ (gI σ 33 7) = c) ↔ tk j = c := by
  have k := h.2.2.2.2.1
  unfold Sg at hc
  unfold Kf at k
  constructor
  · rintro ⟨q1, q2⟩
    rcases k with k | k | ⟨-, -, k, -⟩ | ⟨-, -, k, -⟩ | k | ⟨-, -, k⟩
    · omega
    · omega
    · omega
    · omega
    · omega
    · omega
  · intro q
    rcases k with k | k | ⟨k, -, -, -⟩ | ⟨k, -, -, -⟩ | k | ⟨-, k1, k⟩
    · omega
    · omega
    · have := k.bd
      omega
    · have := k.bd
      omega
    · omega
    · exact ⟨k1, k.trans q⟩
theorem RAt.num {σ : VH} {tk pl : Nat → Int} {m j : Nat} (h : RAt σ tk pl m j) : (gI σ 33 9 = 4 ↔ tk j < 0) ∧ (gI σ 33 9 = 4 → gI σ 33 10 = -1 - tk j) ∧ (gI σ 33 9 = 1 ↔ tk j = 0) ∧ (gI σ 33 9 = 0 ↔ tk j = 1) ∧ (gI σ 33 9 = 3 → (hL σ 33 11).toInt = tk j ∧ Kp (tk j)) ∧ (gI σ 33 9 = 2 ↔ Wy (tk j) ∧ ¬ Kp (tk j)) ∧ (gI σ 33 9 = 2 → (hL σ 33 11).toInt = tk j) := by
  have k := h.2.2.2.2.1
  unfold Kf at k
  rcases k with k | k | ⟨k, k1, k2, k3⟩ | ⟨k, k1, k2, k3⟩ | k | ⟨k, k2, k3⟩
  · refine ⟨by omega, by omega, by omega, by omega, by omega, ⟨by omega, fun q => ?_⟩, by omega⟩
    have := q.1.bd
    omega
  · refine ⟨by omega, by omega, by omega, by omega, by omega, ⟨by omega, fun q => ?_⟩, by omega⟩
    have := q.1.bd
    omega
  · have := k.bd
    exact ⟨by omega, by omega, by omega, by omega, fun _ => ⟨k3, k1⟩, ⟨by omega, fun q => absurd k1 q.2⟩, by omega⟩
  · have := k.bd
    exact ⟨by omega, by omega, by omega, by omega, by omega, ⟨fun _ => ⟨k, k1⟩, fun _ => k2⟩, fun _ => k3⟩
  · refine ⟨by omega, by omega, by omega, by omega, by omega, ⟨by omega, fun q => ?_⟩, by omega⟩
    have := q.1.bd
    omega
  · unfold Sg at k
    refine ⟨by omega, by omega, by omega, by omega, by omega, ⟨by omega, fun q => ?_⟩, by omega⟩
    have := q.1.bd
    omega
theorem sg_row {W : Wl} {σ τ : VH} (h : Fr W σ τ) (w35 : ∀ k, wr W 35 k = false) (w3 : wr W 33 3 = false) : sg τ = sg σ := funext fun _ => sg_fr h w35 w3
/-- a frame that leaves the reader's token -/
def Wt (W : Wl) : Bool := !(wr W 33 3) && !(wr W 33 7) && !(wr W 33 8) && !(wr W 33 9) && !(wr W 33 10) && !(wr W 33 11) && !(wr W 33 5)
theorem RAt.fr {W : Wl} {σ τ : VH} {tk pl : Nat → Int} {m j : Nat} (h : RAt σ tk pl m j) (F : Fr W σ τ) (w35 : ∀ k, wr W 35 k = false) (w : Wt W = true) : RAt τ tk pl m j := by
  unfold Wt at w
  simp only [Bool.and_eq_true, Bool.not_eq_true'] at w
  obtain ⟨⟨⟨⟨⟨⟨w3, w7⟩, w8⟩, w9⟩, w10⟩, w11⟩, w5⟩ := w
  have hs := sg_row F w35 w3
  obtain ⟨h1, h2, h3, h4, h5, h6⟩ := h
  refine ⟨by rw [hs, F.g 33 3 w3]; exact h1, h2, by rw [F.g 33 7 w7]; exact h3, by rw [hs, F.g 33 3 w3, F.g 33 8 w8]; exact h4, ?_, by rw [F.g 33 5 w5]; exact h6⟩
  unfold Kf
  rw [hs, F.g 33 7 w7, F.g 33 9 w9, F.g 33 10 w10, F.l 33 11 w11]
  exact h5
/-- what was read so far: on, at its token; or refused -/
def Rf (τ : VH) (tk pl : Nat → Int) (m : Nat) (r : Int × Nat) : Prop := (gI τ 33 4 = 0 ∧ r.1 = 0 ∧ RAt τ tk pl m r.2) ∨ (0 < gI τ 33 4 ∧ ¬ r.1 = 0 ∧ gI τ 33 4 = r.1 ∧ gI τ 33 5 = pl r.2)
theorem Rf.good {τ : VH} {tk pl : Nat → Int} {m : Nat} {r : Int × Nat} (h : Rf τ tk pl m r) (h0 : gI τ 33 4 ≤ 0) : r.1 = 0 ∧ RAt τ tk pl m r.2 := by
  rcases h with ⟨-, h⟩ | ⟨h, -⟩
  · exact h
  · omega
theorem Rf.bad {τ : VH} {tk pl : Nat → Int} {m : Nat} {r : Int × Nat} (h : Rf τ tk pl m r) (h0 : 0 < gI τ 33 4) : ¬ r.1 = 0 ∧ gI τ 33 4 = r.1 ∧ gI τ 33 5 = pl r.2 := by
  rcases h with ⟨h, -⟩ | ⟨-, h⟩
  · omega
  · exact h
theorem Rf.at {τ : VH} {tk pl : Nat → Int} {m j : Nat} (h0 : gI τ 33 4 = 0) (h : RAt τ tk pl m j) : Rf τ tk pl m (0, j) := Or.inl ⟨h0, rfl, h⟩
theorem Rf.fr {W : Wl} {σ τ : VH} {tk pl : Nat → Int} {m : Nat} {r : Int × Nat} (h : Rf σ tk pl m r) (F : Fr W σ τ) (w35 : ∀ k, wr W 35 k = false) (w : Wt W = true) (w4 : (!(wr W 33 4) && !(wr W 33 5)) = true) : Rf τ tk pl m r := by
  simp only [Bool.and_eq_true, Bool.not_eq_true'] at w4
  rcases h with ⟨h1, h2, h3⟩ | ⟨h1, h2, h3, h4⟩
  · exact Or.inl ⟨by rw [F.g 33 4 w4.1]; exact h1, h2, h3.fr F w35 w⟩
  · exact Or.inr ⟨by rw [F.g 33 4 w4.1]; exact h1, h2, by rw [F.g 33 4 w4.1]; exact h3, by rw [F.g 33 5 w4.2]; exact h4⟩
def nxR (m j : Nat) : Int × Nat := (0, adv m j)
theorem Rf.next {W : Wl} {σ τ : VH} {tk pl : Nat → Int} {m : Nat} {r : Int × Nat} (h : Rf σ tk pl m r) (F : Fr W σ τ) (w35 : ∀ k, wr W 35 k = false) (w : (!(wr W 33 3) && !(wr W 33 4) && !(wr W 33 5)) = true) (N : Nx σ τ) : Rf τ tk pl m (thn r (nxR m)) := by
  simp only [Bool.and_eq_true, Bool.not_eq_true'] at w
  obtain ⟨⟨w3, w4⟩, w5⟩ := w
  rcases h with ⟨h1, h2, h3⟩ | ⟨h1, h2, h3, h4⟩
  · rw [thn_t h2]
    exact Or.inl ⟨by rw [F.g 33 4 w4]; exact h1, rfl, h3.pre.at (sg_row F w35 w3) (F.g 33 3 w3) (F.g 33 5 w5) N⟩
  · rw [thn_f h2]
    exact Or.inr ⟨by rw [F.g 33 4 w4]; exact h1, h2, by rw [F.g 33 4 w4]; exact h3, by rw [F.g 33 5 w5]; exact h4⟩
theorem Rf.wrong {σ τ : VH} {tk pl : Nat → Int} {m : Nat} {r : Int × Nat} (h : Rf σ tk pl m r) (e : (0 < gI σ 33 4 ∧ gI τ 33 4 = gI σ 33 4 ∧ gI τ 33 5 = gI σ 33 5) ∨ (gI σ 33 4 ≤ 0 ∧ gI τ 33 5 = gI σ 33 7 ∧ ((gI σ 33 9 = 1 ∧ gI τ 33 4 = 1) ∨ (¬ gI σ 33 9 = 1 ∧ gI τ 33 4 = 2)))) : Rf τ tk pl m (thn r (fun j => (flt tk j 2, j))) := by
  rcases h with ⟨h1, h2, h3⟩ | ⟨h1, h2, h3, h4⟩
  · rw [thn_t h2]
    have hk := h3.num
    have ha := h3.2.2.1
    have e2 := e.resolve_left (by omega)
    have e4 : gI τ 33 4 = flt tk r.2 2 := by
      unfold flt
      split <;> omega
    have e5 := flt_ne (tk := tk) (j := r.2) (k := 2) (by decide)
    refine Or.inr ⟨?_, e5, e4, ?_⟩
    · omega
    · show gI τ 33 5 = pl r.2
      omega
  · rw [thn_f h2]
    have e2 := e.resolve_right (by omega)
    exact Or.inr ⟨by omega, h2, by omega, by omega⟩
theorem Rf.fails {σ τ : VH} {tk pl : Nat → Int} {m : Nat} {r : Int × Nat} {y p : Int} (h : Rf σ tk pl m r) (hy : 0 < y) (hp : gI σ 33 4 = 0 → p = pl r.2) (e : (0 < gI σ 33 4 ∧ gI τ 33 4 = gI σ 33 4 ∧ gI τ 33 5 = gI σ 33 5) ∨ (gI σ 33 4 ≤ 0 ∧ gI τ 33 4 = y ∧ gI τ 33 5 = p)) : Rf τ tk pl m (thn r (fun j => (y, j))) := by
  rcases h with ⟨h1, h2, h3⟩ | ⟨h1, h2, h3, h4⟩
  · rw [thn_t h2]
    have e2 := e.resolve_left (by omega)
    have e3 := hp h1
    exact Or.inr ⟨by omega, (by omega : ¬ y = 0), e2.2.1, e2.2.2.trans e3⟩
  · rw [thn_f h2]
    have e2 := e.resolve_right (by omega)
    exact Or.inr ⟨by omega, h2, by omega, by omega⟩
theorem thn_as {r : Int × Nat} {f g : Nat → Int × Nat} : thn (thn r f) g = thn r (fun j => thn (f j) g) := by
  by_cases h : r.1 = 0
  · rw [thn_t h, thn_t h]
  · rw [thn_f h, thn_f h, thn_f h]
theorem thn_cg {r : Int × Nat} {f g : Nat → Int × Nat} (h : r.1 = 0 → f r.2 = g r.2) : thn r f = thn r g := by
  by_cases h0 : r.1 = 0
  · rw [thn_t h0, thn_t h0, h h0]
  · rw [thn_f h0, thn_f h0]
theorem Rf.eq {τ : VH} {tk pl : Nat → Int} {m : Nat} {r q : Int × Nat} (h : Rf τ tk pl m r) (e : r = q) : Rf τ tk pl m q := e ▸ h
/-- a number told: its sign in 33.10 -/
theorem numR_c {tk : Nat → Int} {m : Nat} {r : Int × Nat} {y x : Int} : (¬ (0 ≤ tk r.2) → -1 - tk r.2 < y ∨ x < -1 - tk r.2 → thn r (fun j => numR tk m j y x) = thn r (fun j => (4, j))) ∧ (0 ≤ tk r.2 → thn r (fun j => numR tk m j y x) = thn r (fun j => (flt tk j 2, j))) ∧ (¬ (0 ≤ tk r.2) → y ≤ -1 - tk r.2 → -1 - tk r.2 ≤ x → thn r (fun j => numR tk m j y x) = thn r (nxR m)) := ⟨fun h g => thn_cg (fun _ => numR_4 (by omega) g), fun h => thn_cg (fun _ => numR_2 h), fun h g1 g2 => thn_cg (fun _ => numR_0 (by omega) g1 g2)⟩
theorem Rf.at0 {τ : VH} {tk pl : Nat → Int} {m : Nat} {r : Int × Nat} (h : Rf τ tk pl m r) (h0 : r.1 = 0) : gI τ 33 4 = 0 ∧ RAt τ tk pl m r.2 := by
  rcases h with ⟨h1, -, h2⟩ | ⟨-, h, -⟩
  · exact ⟨h1, h2⟩
  · exact absurd h0 h
