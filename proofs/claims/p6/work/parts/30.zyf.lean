/-! the reference's e as what it gives -/
def RfS (τ : VH) (tk pl : Nat → Int) (m : Nat) (q : Rs) : Prop := Rf τ tk pl m (q.1, q.2.1) ∧ (q.1 = 0 → gI τ 33 36 = q.2.2)
theorem Fw.kp {t : Int} (h : Fw t) : Kp t := by
  unfold Fw at h
  unfold Kp
  omega
theorem RAt.nofw {σ : VH} {tk pl : Nat → Int} {m j : Nat} (h : RAt σ tk pl m j) (h9 : ¬ gI σ 33 9 = 3) : ¬ Fw (tk j) := fun q => h9 ((h.word q.kp).mpr rfl).1
theorem RfS.no {τ : VH} {tk pl : Nat → Int} {m j : Nat} {f s : Int} {q : Rs} (e : q = (f, j, s)) (hf : ¬ f = 0) (h : Rf τ tk pl m (f, j)) : RfS τ tk pl m q := by
  subst e
  exact ⟨h, fun q => absurd q hf⟩
theorem RfS.ok {τ : VH} {tk pl : Nat → Int} {m j : Nat} {s : Int} {q : Rs} (e : q = (0, j, s)) (h : Rf τ tk pl m (0, j)) (hs : gI τ 33 36 = s) : RfS τ tk pl m q := by
  subst e
  exact ⟨h, fun _ => hs⟩
theorem cnt_dpt {E : Nat → Int} : ∀ p : Nat, cnt b34 E p = (dpt E p : Int)
  | 0 => rfl
  | p + 1 => by
    show cnt b34 E p + (if b34 (E p) = true then 1 else 0) = ((dpt E p + (if E p = 3 ∨ E p = 4 then 1 else 0) : Nat) : Int)
    rw [cnt_dpt p]
    by_cases h : E p = 3 ∨ E p = 4
    · rw [if_pos h, if_pos (by unfold b34; rcases h with h | h <;> (rw [h]; rfl))]
      omega
    · rw [if_neg h, if_neg]
      · omega
      · unfold b34
        intro q
        simp only [Bool.or_eq_true, beq_iff_eq] at q
        exact h q
/-- behind a not comes a not or a bracket -/
def Nt (E : Nat → Int) (p : Nat) : Prop := ∀ i, i + 1 < p → E i = 3 → E (i + 1) = 3 ∨ E (i + 1) = 4
theorem Nt.congr {E F : Nat → Int} {p : Nat} (h : Nt E p) (e : ∀ i, i < p → F i = E i) : Nt F p := fun i hi h3 => by
  rw [e i (by omega)] at h3
  rw [e (i + 1) hi]
  exact h i hi h3
theorem Nt.pop {E : Nat → Int} {p : Nat} (h : Nt E (p + 1)) : Nt E p := fun i hi h3 => h i (by omega) h3
theorem Nt.push {E F : Nat → Int} {p : Nat} (h : Nt E p) (e : ∀ i, i < p → F i = E i) (ht : (F p = 3 ∨ F p = 4) ∨ ¬ E (p - 1) = 3) : Nt F (p + 1) := fun i hi h3 => by
  by_cases q : i + 1 = p
  · rw [q]
    rcases ht with ht | ht
    · exact ht
    · rw [e i (by omega), show i = p - 1 by omega] at h3
      exact absurd h3 ht
  · rw [e i (by omega)] at h3
    rw [e (i + 1) (by omega)]
    exact h i (by omega) h3
theorem Nt.all {E : Nat → Int} {p : Nat} (h : Nt E p) (ht : ¬ E (p - 1) = 3) : ∀ n i, p - i = n → i < p → E i = 3 → ∃ k, i < k ∧ k < p ∧ (E k = 4 ∨ E k = 5)
  | 0, i, hn, hi, _ => by omega
  | n + 1, i, hn, hi, h3 => by
    by_cases q : i + 1 = p
    · rw [show i = p - 1 by omega] at h3
      exact absurd h3 ht
    · rcases h i (by omega) h3 with q1 | q1
      · obtain ⟨k, k1, k2, k3⟩ := Nt.all h ht n (i + 1) (by omega) (by omega) q1
        exact ⟨k, by omega, k2, k3⟩
      · exact ⟨i + 1, by omega, by omega, Or.inl q1⟩
theorem dpt_s (E : Nat → Int) (p : Nat) : dpt E (p + 1) = dpt E p + (if E p = 3 ∨ E p = 4 then 1 else 0) := rfl
/-- a not, a bracket comes on the pile -/
theorem Cw.push {tk : Nat → Int} {m p j : Nat} {E F : Nat → Int} {s : Int} {r : Rs} (e : ∀ i, i < p → F i = E i) (h : (F p = 3 ∧ tk j = 7237492) ∨ (F p = 4 ∧ tk j = 40)) (hd : ¬ 6 ≤ dpt E p) (g : Cw tk m F (p + 1) (dpt F (p + 1)) (adv m j) s r) : Cw tk m E p (dpt E p) j s r := by
  have ed : dpt F (p + 1) = dpt E p + 1 := by rw [dpt_s, dpt_congr p e, if_pos (by omega)]
  have e' : ∀ i, i < p → F i = E i := e
  obtain ⟨q, hq, hr⟩ := g
  rw [ed] at hq
  rcases h with ⟨h1, h2⟩ | ⟨h1, h2⟩
  · refine ⟨q, PR.nots hd h2 hq, ?_⟩
    rcases hr with hr | ⟨h3, h4⟩
    · exact Or.inl hr
    · exact Or.inr ⟨h3, Cn.congr p e' ((Cn.op (Or.inr (Or.inr h1))).mp h4)⟩
  · rcases hr with ⟨h3, h4⟩ | ⟨h3, h4⟩
    · refine ⟨q, ?_, Or.inl ⟨h3, h4⟩⟩
      have g1 := PR.opens (m := m) hd h2 (hq.bad h3)
      rw [cif_neg h3] at g1
      exact g1
    · rcases h4 with ⟨h5, -⟩ | ⟨-, q2, h5, h6⟩ | ⟨-, h5, -⟩
      · omega
      · rw [ed] at h5
        have g1 := PR.opens (m := m) hd h2 (hq.two h3 h5)
        rcases h6 with ⟨h7, h8⟩ | ⟨h7, h8, h9⟩ | ⟨h7, h8, h9⟩
        · rw [cif_neg h7] at g1
          exact ⟨q2, g1, Or.inl ⟨h7, h8⟩⟩
        · rw [cif_pos h7, cif_pos h8] at g1
          exact ⟨_, g1, Or.inr ⟨rfl, Cn.congr p e' h9⟩⟩
        · rw [cif_pos h7, cif_neg h8] at g1
          exact ⟨_, g1, Or.inl ⟨flt_ne (by decide), h9⟩⟩
      · exact absurd h1 h5
theorem Cw.deep {tk : Nat → Int} {m p d j : Nat} {E : Nat → Int} {s : Int} (h : 6 ≤ d) : Cw tk m E p d j s (flt tk j 2, j, s) := ⟨_, PR.deep h, Or.inl ⟨flt_ne (by decide), rfl⟩⟩
/-- what an operand gives, perhaps two -/
noncomputable def opR (tk : Nat → Int) (m j : Nat) (s : Int) : Rs := cif ((pOp tk m j s).1 = 0) (cif (tk (pOp tk m j s).2.1 = 60 ∨ tk (pOp tk m j s).2.1 = 62 ∨ tk (pOp tk m j s).2.1 = 61) (pOp tk m (adv m (pOp tk m j s).2.1) (pOp tk m j s).2.2) (pOp tk m j s)) (pOp tk m j s)
theorem Cw.op {tk : Nat → Int} {m p d j : Nat} {E : Nat → Int} {s : Int} {r : Rs} (h : ¬ 6 ≤ d) (h1 : ¬ tk j = 7237492) (h2 : ¬ tk j = 40) (g : (¬ (opR tk m j s).1 = 0 ∧ r = opR tk m j s) ∨ ((opR tk m j s).1 = 0 ∧ Cn tk m E p (opR tk m j s).2.1 (opR tk m j s).2.2 r)) : Cw tk m E p d j s r := ⟨opR tk m j s, PR.opn h h1 h2, g⟩
/-- within an e: what is still to be read -/
def Est (σ : VH) (tk pl : Nat → Int) (m j0 : Nat) (s0 w : Int) : Prop := ∃ p j : Nat, gI σ 33 38 = (p : Int) ∧ RAt σ tk pl m j ∧ Nt (gI σ 57) p ∧ ((w = 1 ∧ 0 < p ∧ ∀ r, Cw tk m (gI σ 57) p (dpt (gI σ 57) p) j (gI σ 33 36) r → PR tk m 2 0 j0 s0 r) ∨ (w = 0 ∧ ∀ r, Cn tk m (gI σ 57) p j (gI σ 33 36) r → PR tk m 2 0 j0 s0 r))
def EsB (σ : VH) (tk pl : Nat → Int) (m j0 : Nat) (s0 : Int) : Prop := ∃ q : Rs, PR tk m 2 0 j0 s0 q ∧ ¬ q.1 = 0 ∧ gI σ 33 4 = q.1 ∧ gI σ 33 5 = pl q.2.1
def EsR (σ : VH) (tk pl : Nat → Int) (m j0 : Nat) (s0 w : Int) : Prop := (0 < gI σ 33 4 ∧ EsB σ tk pl m j0 s0) ∨ (gI σ 33 4 = 0 ∧ Est σ tk pl m j0 s0 w)
theorem EsR.good {σ : VH} {tk pl : Nat → Int} {m j0 : Nat} {s0 w : Int} (h : EsR σ tk pl m j0 s0 w) (h0 : gI σ 33 4 ≤ 0) : Est σ tk pl m j0 s0 w := by
  rcases h with ⟨h, -⟩ | ⟨-, h⟩
  · omega
  · exact h
theorem EsB.of {σ : VH} {tk pl : Nat → Int} {m j0 : Nat} {s0 : Int} {q : Rs} (h : PR tk m 2 0 j0 s0 q) (hq : ¬ q.1 = 0) (hr : Rf σ tk pl m (q.1, q.2.1)) : 0 < gI σ 33 4 ∧ EsB σ tk pl m j0 s0 := by
  rcases hr with ⟨-, h1, -⟩ | ⟨h1, h2, h3, h4⟩
  · exact absurd h1 hq
  · exact ⟨h1, q, h, hq, h3, h4⟩
theorem thn_nx {m j : Nat} {f : Nat → Int × Nat} : thn (thn (0, j) (nxR m)) f = f (adv m j) := by
  rw [thn_ok (rfl : ((0, j) : Int × Nat) = (0, j))]
  exact thn_ok rfl
theorem Est.push {σ τ : VH} {tk pl : Nat → Int} {m j0 p j : Nat} {s0 kd : Int} (nt : Nt (gI σ 57) p) (K : ∀ r, Cw tk m (gI σ 57) p (dpt (gI σ 57) p) j (gI σ 33 36) r → PR tk m 2 0 j0 s0 r) (hd : ¬ 6 ≤ dpt (gI σ 57) p) (e38 : gI τ 33 38 = ((p + 1 : Nat) : Int)) (e57 : ∀ i, i < p → gI τ 57 i = gI σ 57 i) (e57p : gI τ 57 p = kd) (hk : (kd = 3 ∧ tk j = 7237492) ∨ (kd = 4 ∧ tk j = 40)) (e36 : gI τ 33 36 = gI σ 33 36) (h0 : gI τ 33 4 = 0) (A : RAt τ tk pl m (adv m j)) : EsR τ tk pl m j0 s0 1 := by
  refine Or.inr ⟨h0, p + 1, adv m j, e38, A, nt.push e57 (Or.inl (by omega)), Or.inl ⟨rfl, by omega, fun r hr => K r (Cw.push e57 (by rw [e57p]; exact hk) hd ?_)⟩⟩
  rw [← e36]
  exact hr
theorem Est.pushbad {σ τ : VH} {tk pl : Nat → Int} {m j0 p j : Nat} {s0 kd w : Int} (K : ∀ r, Cw tk m (gI σ 57) p (dpt (gI σ 57) p) j (gI σ 33 36) r → PR tk m 2 0 j0 s0 r) (hd : dpt (gI σ 57) p = 5) (e57 : ∀ i, i < p → gI τ 57 i = gI σ 57 i) (e57p : gI τ 57 p = kd) (hk : (kd = 3 ∧ tk j = 7237492) ∨ (kd = 4 ∧ tk j = 40)) (hr : Rf τ tk pl m (flt tk (adv m j) 2, adv m j)) : EsR τ tk pl m j0 s0 w := by
  have h6 : 6 ≤ dpt (gI τ 57) (p + 1) := by
    rw [dpt_s, dpt_congr p e57, if_pos (by omega)]
    omega
  exact Or.inl (EsB.of (q := (flt tk (adv m j) 2, adv m j, gI σ 33 36)) (K _ (Cw.push e57 (by rw [e57p]; exact hk) (by omega) (Cw.deep h6))) (flt_ne (by decide)) hr)
theorem EsR.opbad {σ τ : VH} {tk pl : Nat → Int} {m j0 p j : Nat} {s0 w : Int} {q : Rs} (K : ∀ r, Cw tk m (gI σ 57) p (dpt (gI σ 57) p) j (gI σ 33 36) r → PR tk m 2 0 j0 s0 r) (hd : ¬ 6 ≤ dpt (gI σ 57) p) (n1 : ¬ tk j = 7237492) (n2 : ¬ tk j = 40) (ho : opR tk m j (gI σ 33 36) = q) (hq : ¬ q.1 = 0) (hr : Rf τ tk pl m (q.1, q.2.1)) : EsR τ tk pl m j0 s0 w := Or.inl (EsB.of (K q (Cw.op hd n1 n2 (Or.inl ⟨by rw [ho]; exact hq, ho.symm⟩))) hq hr)
theorem EsR.opok {σ τ : VH} {tk pl : Nat → Int} {m j0 p j : Nat} {s0 : Int} {q : Rs} (nt : Nt (gI σ 57) p) (K : ∀ r, Cw tk m (gI σ 57) p (dpt (gI σ 57) p) j (gI σ 33 36) r → PR tk m 2 0 j0 s0 r) (hd : ¬ 6 ≤ dpt (gI σ 57) p) (n1 : ¬ tk j = 7237492) (n2 : ¬ tk j = 40) (ho : opR tk m j (gI σ 33 36) = q) (hq : q.1 = 0) (e38 : gI τ 33 38 = (p : Int)) (e57 : ∀ i, i < p → gI τ 57 i = gI σ 57 i) (hr : RfS τ tk pl m q) : EsR τ tk pl m j0 s0 0 := by
  have ha := hr.1.at0 hq
  refine Or.inr ⟨ha.1, p, q.2.1, e38, ha.2, nt.congr e57, Or.inr ⟨rfl, fun r h => K r (Cw.op hd n1 n2 (Or.inr ⟨by rw [ho]; exact hq, ?_⟩))⟩⟩
  rw [ho, ← hr.2 hq]
  exact Cn.congr p e57 h
theorem RfS.fr {W : Wl} {σ τ : VH} {tk pl : Nat → Int} {m : Nat} {q : Rs} (h : RfS σ tk pl m q) (F : Fr W σ τ) (w35 : ∀ k, wr W 35 k = false) (w : Wt W = true) (w4 : (!(wr W 33 4) && !(wr W 33 5)) = true) (w36 : wr W 33 36 = false) : RfS τ tk pl m q := ⟨h.1.fr F w35 w w4, fun e => (F.g 33 36 w36).trans (h.2 e)⟩
