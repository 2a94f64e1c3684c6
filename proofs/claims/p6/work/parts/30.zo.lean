/-! what the reading of a line, of a text gives -/
noncomputable def hurtR (tk : Nat → Int) (m j : Nat) (h : Int) (N : Nat → Int) : Int × Nat := cif (12 ≤ h) (flt tk j 2, j) (cif (Wy (tk (adv m j)) ∧ ¬ Kp (tk (adv m j))) (cif (∃ i : Nat, (i : Int) < h ∧ N i = tk (adv m j)) (3, adv m j) (thn (numR tk m (adv m (adv m j)) 0 100000) (fun j2 => exR tk m j2 59))) (flt tk (adv m j) 2, adv m j))
noncomputable def needR (tk : Nat → Int) (m j : Nat) (f : Int) : Int × Nat := cif (f = 1) (flt tk j 2, j) (thn (numR tk m (adv m j) 0 12) (fun j1 => thn (exR tk m j1 1918987883) (fun j2 => thn (numR tk m j2 0 3) (fun j3 => exR tk m j3 59))))
noncomputable def termsR (tk : Nat → Int) (m j : Nat) (f : Int) : Int × Nat := cif (f = 1) (flt tk j 2, j) (thn (numR tk m (adv m j) 1 6) (fun j1 => thn (exR tk m j1 1684109683) (fun j2 => thn (numR tk m j2 1 400) (fun j3 => exR tk m j3 59))))
noncomputable def shareR (tk : Nat → Int) (m j : Nat) (f : Int) : Int × Nat := cif (f = 1) (flt tk j 2, j) (thn (numR tk m (adv m j) 0 100) (fun j1 => thn (numR tk m j1 0 100) (fun j2 => thn (numR tk m j2 0 100) (fun j3 => thn (numR tk m j3 (if (-1 - tk (adv m j)) + (-1 - tk j1) + (-1 - tk j2) = 0 then 1 else 0) 100) (fun j4 => exR tk m j4 59)))))
noncomputable def deedR (tk : Nat → Int) (m j1 : Nat) : Int × Nat := cif (tk j1 = 110429873532005 ∨ tk j1 = 1751215206) (exR tk m (adv m j1) 59) (cif (tk j1 = 6382692 ∨ tk j1 = 1818588019) (thn (numR tk m (adv m j1) 0 100000) (fun j2 => exR tk m j2 59)) (flt tk j1 2, j1))
noncomputable def whenT (tk : Nat → Int) (m : Nat) (q : Rs) : Int × Nat := cif (q.1 = 0) (thn (exR tk m q.2.1 25711) (fun j1 => deedR tk m j1)) (q.1, q.2.1)
/-- token, sums, hurts, their names, whens, share, need, terms told -/
abbrev LSt : Type := Nat × Int × Int × (Nat → Int) × Int × Int × Int × Int
def LineR (tk : Nat → Int) (m : Nat) (st : LSt) (r : Int × Nat) (st' : LSt) : Prop :=
  (tk st.1 = 1752527476 ∧ r = hurtR tk m st.1 st.2.2.1 st.2.2.2.1 ∧ st' = (r.2, st.2.1, st.2.2.1 + 1, fun i : Nat => if (i : Int) = st.2.2.1 then tk (adv m st.1) else st.2.2.2.1 i, st.2.2.2.2))
  ∨ (tk st.1 = 2003330414 ∧ 16 ≤ st.2.2.2.2.1 ∧ r = (flt tk st.1 2, st.1) ∧ st' = st)
  ∨ (tk st.1 = 2003330414 ∧ ¬ 16 ≤ st.2.2.2.2.1 ∧ ∃ q, PR tk m 2 0 (adv m st.1) st.2.1 q ∧ r = whenT tk m q ∧ st' = (r.2, q.2.2, st.2.2.1, st.2.2.2.1, st.2.2.2.2.1 + 1, st.2.2.2.2.2))
  ∨ (tk st.1 = 495672455781 ∧ r = shareR tk m st.1 st.2.2.2.2.2.1 ∧ st' = (r.2, st.2.1, st.2.2.1, st.2.2.2.1, st.2.2.2.2.1, 1, st.2.2.2.2.2.2))
  ∨ (tk st.1 = 1852138852 ∧ r = needR tk m st.1 st.2.2.2.2.2.2.1 ∧ st' = (r.2, st.2.1, st.2.2.1, st.2.2.2.1, st.2.2.2.2.1, st.2.2.2.2.2.1, 1, st.2.2.2.2.2.2.2))
  ∨ (tk st.1 = 499918204275 ∧ r = termsR tk m st.1 st.2.2.2.2.2.2.2 ∧ st' = (r.2, st.2.1, st.2.2.1, st.2.2.2.1, st.2.2.2.2.1, st.2.2.2.2.2.1, st.2.2.2.2.2.2.1, 1))
  ∨ ((¬ tk st.1 = 1752527476 ∧ ¬ tk st.1 = 2003330414 ∧ ¬ tk st.1 = 495672455781 ∧ ¬ tk st.1 = 1852138852 ∧ ¬ tk st.1 = 499918204275) ∧ r = (flt tk st.1 2, st.1) ∧ st' = st)
theorem LineR.eq {tk : Nat → Int} {m : Nat} {st s1 s2 : LSt} {r q : Int × Nat} (h : LineR tk m st r s1) (g : LineR tk m st q s2) : r = q ∧ s1 = s2 := by
  rcases h with ⟨h1, h2, h3⟩ | ⟨h1, h0, h2, h3⟩ | ⟨h1, h0, u, hu, h2, h3⟩ | ⟨h1, h2, h3⟩ | ⟨h1, h2, h3⟩ | ⟨h1, h2, h3⟩ | ⟨h1, h2, h3⟩
  · rcases g with ⟨g1, g2, g3⟩ | ⟨g1, g0, g2, g3⟩ | ⟨g1, g0, v, hv, g2, g3⟩ | ⟨g1, g2, g3⟩ | ⟨g1, g2, g3⟩ | ⟨g1, g2, g3⟩ | ⟨g1, g2, g3⟩
    · have e := h2.trans g2.symm
      subst e
      exact ⟨rfl, h3.trans g3.symm⟩
    all_goals (exfalso; omega)
  · rcases g with ⟨g1, g2, g3⟩ | ⟨g1, g0, g2, g3⟩ | ⟨g1, g0, v, hv, g2, g3⟩ | ⟨g1, g2, g3⟩ | ⟨g1, g2, g3⟩ | ⟨g1, g2, g3⟩ | ⟨g1, g2, g3⟩
    · exfalso; omega
    · exact ⟨h2.trans g2.symm, h3.trans g3.symm⟩
    all_goals (exfalso; omega)
  · rcases g with ⟨g1, g2, g3⟩ | ⟨g1, g0, g2, g3⟩ | ⟨g1, g0, v, hv, g2, g3⟩ | ⟨g1, g2, g3⟩ | ⟨g1, g2, g3⟩ | ⟨g1, g2, g3⟩ | ⟨g1, g2, g3⟩
    · exfalso; omega
    · exfalso; omega
    · have e := hu.eq hv
      subst e
      have e := h2.trans g2.symm
      subst e
      exact ⟨rfl, h3.trans g3.symm⟩
    all_goals (exfalso; omega)
  · rcases g with ⟨g1, g2, g3⟩ | ⟨g1, g0, g2, g3⟩ | ⟨g1, g0, v, hv, g2, g3⟩ | ⟨g1, g2, g3⟩ | ⟨g1, g2, g3⟩ | ⟨g1, g2, g3⟩ | ⟨g1, g2, g3⟩
    · exfalso; omega
    · exfalso; omega
    · exfalso; omega
    · have e := h2.trans g2.symm
      subst e
      exact ⟨rfl, h3.trans g3.symm⟩
    all_goals (exfalso; omega)
  · rcases g with ⟨g1, g2, g3⟩ | ⟨g1, g0, g2, g3⟩ | ⟨g1, g0, v, hv, g2, g3⟩ | ⟨g1, g2, g3⟩ | ⟨g1, g2, g3⟩ | ⟨g1, g2, g3⟩ | ⟨g1, g2, g3⟩
    · exfalso; omega
    · exfalso; omega
    · exfalso; omega
    · exfalso; omega
    · have e := h2.trans g2.symm
      subst e
      exact ⟨rfl, h3.trans g3.symm⟩
    all_goals (exfalso; omega)
  · rcases g with ⟨g1, g2, g3⟩ | ⟨g1, g0, g2, g3⟩ | ⟨g1, g0, v, hv, g2, g3⟩ | ⟨g1, g2, g3⟩ | ⟨g1, g2, g3⟩ | ⟨g1, g2, g3⟩ | ⟨g1, g2, g3⟩
    · exfalso; omega
    · exfalso; omega
    · exfalso; omega
    · exfalso; omega
    · exfalso; omega
    · have e := h2.trans g2.symm
      subst e
      exact ⟨rfl, h3.trans g3.symm⟩
    · exfalso; omega
  · rcases g with ⟨g1, g2, g3⟩ | ⟨g1, g0, g2, g3⟩ | ⟨g1, g0, v, hv, g2, g3⟩ | ⟨g1, g2, g3⟩ | ⟨g1, g2, g3⟩ | ⟨g1, g2, g3⟩ | ⟨g1, g2, g3⟩
    · exfalso; omega
    · exfalso; omega
    · exfalso; omega
    · exfalso; omega
    · exfalso; omega
    · exfalso; omega
    · exact ⟨h2.trans g2.symm, h3.trans g3.symm⟩
def LwR (tk : Nat → Int) (m : Nat) : Nat → LSt → Int × Nat → Prop
  | 0, _, _ => False
  | n + 1, st, r => (tk st.1 = 1 ∧ r = (0, st.1)) ∨ (¬ tk st.1 = 1 ∧ ∃ (q : Int × Nat) (st' : LSt), LineR tk m st q st' ∧ ((¬ q.1 = 0 ∧ r = q) ∨ (q.1 = 0 ∧ LwR tk m n st' r)))
theorem LwR.eq {tk : Nat → Int} {m : Nat} : ∀ {n k : Nat} {st : LSt} {r q : Int × Nat}, LwR tk m n st r → LwR tk m k st q → r = q
  | 0, _, _, _, _, h, _ => h.elim
  | _ + 1, 0, _, _, _, _, g => g.elim
  | n + 1, k + 1, st, r, q, h, g => by
    rcases h with ⟨h1, h2⟩ | ⟨h1, u, s1, h2, h3⟩
    · rcases g with ⟨g1, g2⟩ | ⟨g1, v, s2, g2, g3⟩
      · exact h2.trans g2.symm
      · exact absurd h1 g1
    · rcases g with ⟨g1, g2⟩ | ⟨g1, v, s2, g2, g3⟩
      · exact absurd g1 h1
      · obtain ⟨e1, e2⟩ := h2.eq g2
        subst e1 e2
        rcases h3 with ⟨h4, h5⟩ | ⟨h4, h5⟩
        · rcases g3 with ⟨g4, g5⟩ | ⟨g4, g5⟩
          · exact h5.trans g5.symm
          · exact absurd g4 h4
        · rcases g3 with ⟨g4, g5⟩ | ⟨g4, g5⟩
          · exact absurd h4 g4
          · exact LwR.eq h5 g5
/-- the text from st on gives r -/
def LwE (tk : Nat → Int) (m : Nat) (st : LSt) (r : Int × Nat) : Prop := ∃ n, LwR tk m n st r
theorem LwE.eq {tk : Nat → Int} {m : Nat} {st : LSt} {r q : Int × Nat} (h : LwE tk m st r) (g : LwE tk m st q) : r = q := by
  obtain ⟨n, h⟩ := h
  obtain ⟨k, g⟩ := g
  exact h.eq g
theorem LwE.end {tk : Nat → Int} {m : Nat} {st : LSt} (h : tk st.1 = 1) : LwE tk m st (0, st.1) := ⟨1, Or.inl ⟨h, rfl⟩⟩
theorem LwE.bad {tk : Nat → Int} {m : Nat} {st st' : LSt} {q : Int × Nat} (h : ¬ tk st.1 = 1) (l : LineR tk m st q st') (hq : ¬ q.1 = 0) : LwE tk m st q := ⟨1, Or.inr ⟨h, q, st', l, Or.inl ⟨hq, rfl⟩⟩⟩
theorem LwE.line {tk : Nat → Int} {m : Nat} {st st' : LSt} {q r : Int × Nat} (h : ¬ tk st.1 = 1) (l : LineR tk m st q st') (hq : q.1 = 0) (g : LwE tk m st' r) : LwE tk m st r := by
  obtain ⟨n, g⟩ := g
  exact ⟨n + 1, Or.inr ⟨h, q, st', l, Or.inr ⟨hq, g⟩⟩⟩
