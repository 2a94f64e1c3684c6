/-! what the reading of an e gives: (0, the next token, sums) or (a fault, its token, _); by fuel -/
def adv (m j : Nat) : Nat := if j < m then j + 1 else j
def flt (tk : Nat → Int) (j : Nat) (k : Int) : Int := if tk j = 0 then 1 else k
def Fw (t : Int) : Prop := t = 1918987883 ∨ t = 478694368626 ∨ t = 482854658917 ∨ t = 474214787188 ∨ t = 7039342 ∨ t = 500136502117 ∨ t = 7566701
abbrev Rs : Type := Int × Nat × Int
noncomputable def pOp (tk : Nat → Int) (m j : Nat) (s : Int) : Rs := cif ((0 ≤ tk j ∧ ¬ Fw (tk j)) ∨ 60 ≤ s) (flt tk j 2, j, s) (0, adv m j, s + 1)
/-- md 0: a one at depth d; 1: what comes behind it (and, or); 2: both -/
noncomputable def Pf (tk : Nat → Int) (m : Nat) : Nat → Nat → Nat → Nat → Int → Rs
  | 0, _, _, j, s => (9, j, s)
  | n + 1, 0, d, j, s => cif (6 ≤ d) (flt tk j 2, j, s) (cif (tk j = 7237492) (Pf tk m n 0 (d + 1) (adv m j) s) (cif (tk j = 40) (cif ((Pf tk m n 2 (d + 1) (adv m j) s).1 = 0) (cif (tk (Pf tk m n 2 (d + 1) (adv m j) s).2.1 = 41) (0, adv m (Pf tk m n 2 (d + 1) (adv m j) s).2.1, (Pf tk m n 2 (d + 1) (adv m j) s).2.2) (flt tk (Pf tk m n 2 (d + 1) (adv m j) s).2.1 2, (Pf tk m n 2 (d + 1) (adv m j) s).2.1, (Pf tk m n 2 (d + 1) (adv m j) s).2.2)) (Pf tk m n 2 (d + 1) (adv m j) s)) (cif ((pOp tk m j s).1 = 0) (cif (tk (pOp tk m j s).2.1 = 60 ∨ tk (pOp tk m j s).2.1 = 62 ∨ tk (pOp tk m j s).2.1 = 61) (pOp tk m (adv m (pOp tk m j s).2.1) (pOp tk m j s).2.2) (pOp tk m j s)) (pOp tk m j s))))
  | n + 1, 1, d, j, s => cif (tk j = 6385252 ∨ tk j = 28530) (Pf tk m n 2 d (adv m j) s) (0, j, s)
  | n + 1, _, d, j, s => cif ((Pf tk m n 0 d j s).1 = 0) (Pf tk m n 1 d (Pf tk m n 0 d j s).2.1 (Pf tk m n 0 d j s).2.2) (Pf tk m n 0 d j s)
/-- the reading gives r, whatever the fuel from some on -/
def PR (tk : Nat → Int) (m md d j : Nat) (s : Int) (r : Rs) : Prop := ∃ N, ∀ n, N ≤ n → Pf tk m n md d j s = r
theorem PR.eq {tk : Nat → Int} {m md d j : Nat} {s : Int} {r q : Rs} (h : PR tk m md d j s r) (g : PR tk m md d j s q) : r = q := by
  obtain ⟨N, h⟩ := h
  obtain ⟨M, g⟩ := g
  exact (h (N + M) (by omega)).symm.trans (g (N + M) (by omega))
theorem PR.deep {tk : Nat → Int} {m d j : Nat} {s : Int} (h : 6 ≤ d) : PR tk m 0 d j s (flt tk j 2, j, s) := ⟨1, fun n hn => by
  obtain ⟨k, rfl⟩ : ∃ k, n = k + 1 := ⟨n - 1, by omega⟩
  show cif _ _ _ = _
  rw [cif_pos h]⟩
theorem PR.nots {tk : Nat → Int} {m d j : Nat} {s : Int} {r : Rs} (h : ¬ 6 ≤ d) (ht : tk j = 7237492) (g : PR tk m 0 (d + 1) (adv m j) s r) : PR tk m 0 d j s r := by
  obtain ⟨N, g⟩ := g
  refine ⟨N + 1, fun n hn => ?_⟩
  obtain ⟨k, rfl⟩ : ∃ k, n = k + 1 := ⟨n - 1, by omega⟩
  show cif _ _ _ = _
  rw [cif_neg h, cif_pos ht]
  exact g k (by omega)
theorem PR.opens {tk : Nat → Int} {m d j : Nat} {s : Int} {r : Rs} (h : ¬ 6 ≤ d) (ht : tk j = 40) (g : PR tk m 2 (d + 1) (adv m j) s r) : PR tk m 0 d j s (cif (r.1 = 0) (cif (tk r.2.1 = 41) (0, adv m r.2.1, r.2.2) (flt tk r.2.1 2, r.2.1, r.2.2)) r) := by
  obtain ⟨N, g⟩ := g
  refine ⟨N + 1, fun n hn => ?_⟩
  obtain ⟨k, rfl⟩ : ∃ k, n = k + 1 := ⟨n - 1, by omega⟩
  show cif _ _ _ = _
  rw [cif_neg h, cif_neg (by omega), cif_pos ht, g k (by omega)]
theorem PR.opn {tk : Nat → Int} {m d j : Nat} {s : Int} (h : ¬ 6 ≤ d) (h1 : ¬ tk j = 7237492) (h2 : ¬ tk j = 40) : PR tk m 0 d j s (cif ((pOp tk m j s).1 = 0) (cif (tk (pOp tk m j s).2.1 = 60 ∨ tk (pOp tk m j s).2.1 = 62 ∨ tk (pOp tk m j s).2.1 = 61) (pOp tk m (adv m (pOp tk m j s).2.1) (pOp tk m j s).2.2) (pOp tk m j s)) (pOp tk m j s)) := ⟨1, fun n hn => by
  obtain ⟨k, rfl⟩ : ∃ k, n = k + 1 := ⟨n - 1, by omega⟩
  show cif _ _ _ = _
  rw [cif_neg h, cif_neg h1, cif_neg h2]⟩
theorem PR.stop {tk : Nat → Int} {m d j : Nat} {s : Int} (h : ¬ (tk j = 6385252 ∨ tk j = 28530)) : PR tk m 1 d j s (0, j, s) := ⟨1, fun n hn => by
  obtain ⟨k, rfl⟩ : ∃ k, n = k + 1 := ⟨n - 1, by omega⟩
  show cif _ _ _ = _
  rw [cif_neg h]⟩
theorem PR.more {tk : Nat → Int} {m d j : Nat} {s : Int} {r : Rs} (h : tk j = 6385252 ∨ tk j = 28530) (g : PR tk m 2 d (adv m j) s r) : PR tk m 1 d j s r := by
  obtain ⟨N, g⟩ := g
  refine ⟨N + 1, fun n hn => ?_⟩
  obtain ⟨k, rfl⟩ : ∃ k, n = k + 1 := ⟨n - 1, by omega⟩
  show cif _ _ _ = _
  rw [cif_pos h]
  exact g k (by omega)
theorem PR.two {tk : Nat → Int} {m d j : Nat} {s : Int} {r q : Rs} (h : PR tk m 0 d j s r) (h0 : r.1 = 0) (g : PR tk m 1 d r.2.1 r.2.2 q) : PR tk m 2 d j s q := by
  obtain ⟨N, h⟩ := h
  obtain ⟨M, g⟩ := g
  refine ⟨N + M + 1, fun n hn => ?_⟩
  obtain ⟨k, rfl⟩ : ∃ k, n = k + 1 := ⟨n - 1, by omega⟩
  show cif _ _ _ = _
  rw [h k (by omega), cif_pos h0]
  exact g k (by omega)
theorem PR.bad {tk : Nat → Int} {m d j : Nat} {s : Int} {r : Rs} (h : PR tk m 0 d j s r) (h0 : ¬ r.1 = 0) : PR tk m 2 d j s r := by
  obtain ⟨N, h⟩ := h
  refine ⟨N + 1, fun n hn => ?_⟩
  obtain ⟨k, rfl⟩ : ∃ k, n = k + 1 := ⟨n - 1, by omega⟩
  show cif _ _ _ = _
  rw [h k (by omega), cif_neg h0]
theorem flt_ne {tk : Nat → Int} {j : Nat} {k : Int} (h : ¬ k = 0) : ¬ flt tk j k = 0 := by
  unfold flt
  split
  · decide
  · exact h
theorem pOp_s {tk : Nat → Int} {m j : Nat} {s : Int} (h : (pOp tk m j s).1 = 0) : (pOp tk m j s).2.2 = s + 1 ∧ s < 60 := by
  unfold pOp at h ⊢
  by_cases hc : (0 ≤ tk j ∧ ¬ Fw (tk j)) ∨ 60 ≤ s
  · rw [cif_pos hc] at h
    exact absurd h (flt_ne (by decide))
  · rw [cif_neg hc]
    exact ⟨rfl, Int.not_le.mp (fun q => hc (Or.inr q))⟩
theorem Pf_s {tk : Nat → Int} {m : Nat} : ∀ (n md d j : Nat) (s : Int) (r : Rs), Pf tk m n md d j s = r → r.1 = 0 → (md = 1 → s ≤ r.2.2 ∧ (r.2.2 ≤ 60 ∨ r.2.2 = s)) ∧ (¬ md = 1 → s < r.2.2 ∧ r.2.2 ≤ 60)
  | 0, md, d, j, s, r, h, h0 => by
    subst h
    have h9 : (9 : Int) = 0 := h0
    omega
  | n + 1, md, d, j, s, r, h, h0 => by
    by_cases m1 : md = 1
    · subst m1
      refine ⟨fun _ => ?_, fun e => absurd rfl e⟩
      have h : cif (tk j = 6385252 ∨ tk j = 28530) (Pf tk m n 2 d (adv m j) s) (0, j, s) = r := h
      by_cases hc : tk j = 6385252 ∨ tk j = 28530
      · rw [cif_pos hc] at h
        have ih := (Pf_s n 2 d (adv m j) s r h h0).2 (by decide)
        omega
      · rw [cif_neg hc] at h
        subst h
        exact ⟨Int.le_refl s, Or.inr rfl⟩
    · refine ⟨fun e => absurd e m1, fun _ => ?_⟩
      by_cases m0 : md = 0
      · subst m0
        have h : cif (6 ≤ d) (flt tk j 2, j, s) (cif (tk j = 7237492) (Pf tk m n 0 (d + 1) (adv m j) s) (cif (tk j = 40) (cif ((Pf tk m n 2 (d + 1) (adv m j) s).1 = 0) (cif (tk (Pf tk m n 2 (d + 1) (adv m j) s).2.1 = 41) (0, adv m (Pf tk m n 2 (d + 1) (adv m j) s).2.1, (Pf tk m n 2 (d + 1) (adv m j) s).2.2) (flt tk (Pf tk m n 2 (d + 1) (adv m j) s).2.1 2, (Pf tk m n 2 (d + 1) (adv m j) s).2.1, (Pf tk m n 2 (d + 1) (adv m j) s).2.2)) (Pf tk m n 2 (d + 1) (adv m j) s)) (cif ((pOp tk m j s).1 = 0) (cif (tk (pOp tk m j s).2.1 = 60 ∨ tk (pOp tk m j s).2.1 = 62 ∨ tk (pOp tk m j s).2.1 = 61) (pOp tk m (adv m (pOp tk m j s).2.1) (pOp tk m j s).2.2) (pOp tk m j s)) (pOp tk m j s)))) = r := h
        by_cases h6 : 6 ≤ d
        · rw [cif_pos h6] at h
          subst h
          exact absurd h0 (flt_ne (by decide))
        · rw [cif_neg h6] at h
          by_cases hn : tk j = 7237492
          · rw [cif_pos hn] at h
            exact (Pf_s n 0 (d + 1) (adv m j) s r h h0).2 (by decide)
          · rw [cif_neg hn] at h
            by_cases ho : tk j = 40
            · rw [cif_pos ho] at h
              by_cases hq : (Pf tk m n 2 (d + 1) (adv m j) s).1 = 0
              · have ih := (Pf_s n 2 (d + 1) (adv m j) s _ rfl hq).2 (by decide)
                rw [cif_pos hq] at h
                by_cases hcl : tk (Pf tk m n 2 (d + 1) (adv m j) s).2.1 = 41
                · rw [cif_pos hcl] at h
                  subst h
                  exact ih
                · rw [cif_neg hcl] at h
                  subst h
                  exact absurd h0 (flt_ne (by decide))
              · rw [cif_neg hq] at h
                subst h
                exact absurd h0 hq
            · rw [cif_neg ho] at h
              by_cases hp : (pOp tk m j s).1 = 0
              · have p1 := pOp_s hp
                rw [cif_pos hp] at h
                by_cases hcm : tk (pOp tk m j s).2.1 = 60 ∨ tk (pOp tk m j s).2.1 = 62 ∨ tk (pOp tk m j s).2.1 = 61
                · rw [cif_pos hcm] at h
                  have hh : (pOp tk m (adv m (pOp tk m j s).2.1) (pOp tk m j s).2.2).1 = 0 := by
                    rw [h]
                    exact h0
                  have p2 := pOp_s hh
                  rw [h] at p2
                  omega
                · rw [cif_neg hcm] at h
                  subst h
                  omega
              · rw [cif_neg hp] at h
                subst h
                exact absurd h0 hp
      · obtain ⟨k, rfl⟩ : ∃ k, md = k + 2 := ⟨md - 2, by omega⟩
        have h : cif ((Pf tk m n 0 d j s).1 = 0) (Pf tk m n 1 d (Pf tk m n 0 d j s).2.1 (Pf tk m n 0 d j s).2.2) (Pf tk m n 0 d j s) = r := h
        by_cases hq : (Pf tk m n 0 d j s).1 = 0
        · have i0 := (Pf_s n 0 d j s _ rfl hq).2 (by decide)
          rw [cif_pos hq] at h
          have i1 := (Pf_s n 1 d _ _ r h h0).1 rfl
          omega
        · rw [cif_neg hq] at h
          subst h
          exact absurd h0 hq
theorem PR.s0 {tk : Nat → Int} {m d j : Nat} {s : Int} {r : Rs} (h : PR tk m 0 d j s r) (h0 : r.1 = 0) : s < r.2.2 ∧ r.2.2 ≤ 60 := by
  obtain ⟨N, h⟩ := h
  exact (Pf_s N 0 d j s r (h N (Nat.le_refl N)) h0).2 (by decide)
theorem PR.s2 {tk : Nat → Int} {m d j : Nat} {s : Int} {r : Rs} (h : PR tk m 2 d j s r) (h0 : r.1 = 0) : s < r.2.2 ∧ r.2.2 ≤ 60 := by
  obtain ⟨N, h⟩ := h
  exact (Pf_s N 2 d j s r (h N (Nat.le_refl N)) h0).2 (by decide)
/-! the reference's pile as what is still to be read -/
/-- brackets and nots among the first p -/
def dpt (E : Nat → Int) : Nat → Nat
  | 0 => 0
  | p + 1 => dpt E p + (if E p = 3 ∨ E p = 4 then 1 else 0)
/-- behind a one that ended at (j, s), with the pile E of p: the whole gives r -/
def Cn (tk : Nat → Int) (m : Nat) (E : Nat → Int) : Nat → Nat → Int → Rs → Prop
  | 0, j, s, r => r = (0, j, s)
  | p + 1, j, s, r => (E p = 5 ∧ PR tk m 1 0 j s r) ∨ (E p = 4 ∧ ∃ q : Rs, PR tk m 1 (dpt E (p + 1)) j s q ∧ ((¬ q.1 = 0 ∧ r = q) ∨ (q.1 = 0 ∧ tk q.2.1 = 41 ∧ Cn tk m E p (adv m q.2.1) q.2.2 r) ∨ (q.1 = 0 ∧ ¬ tk q.2.1 = 41 ∧ r = (flt tk q.2.1 2, q.2.1, q.2.2)))) ∨ (¬ E p = 5 ∧ ¬ E p = 4 ∧ Cn tk m E p j s r)
theorem dpt_congr {E F : Nat → Int} : ∀ p : Nat, (∀ i, i < p → E i = F i) → dpt E p = dpt F p
  | 0, _ => rfl
  | p + 1, h => by
    show dpt E p + _ = dpt F p + _
    rw [dpt_congr p (fun i hi => h i (by omega)), h p (by omega)]
theorem Cn.congr {tk : Nat → Int} {m : Nat} {E F : Nat → Int} : ∀ (p : Nat) {j : Nat} {s : Int} {r : Rs}, (∀ i, i < p → E i = F i) → Cn tk m E p j s r → Cn tk m F p j s r
  | 0, _, _, _, _, h => h
  | p + 1, j, s, r, e, h => by
    have e1 := e p (by omega)
    have e2 := dpt_congr (p + 1) e
    rcases h with ⟨h1, h2⟩ | ⟨h1, q, h2, h3⟩ | ⟨h1, h2, h3⟩
    · exact Or.inl ⟨e1 ▸ h1, h2⟩
    · refine Or.inr (Or.inl ⟨e1 ▸ h1, q, e2 ▸ h2, ?_⟩)
      rcases h3 with h4 | ⟨h4, h5, h6⟩ | h4
      · exact Or.inl h4
      · exact Or.inr (Or.inl ⟨h4, h5, Cn.congr p (fun i hi => e i (by omega)) h6⟩)
      · exact Or.inr (Or.inr h4)
    · exact Or.inr (Or.inr ⟨e1 ▸ h1, e1 ▸ h2, Cn.congr p (fun i hi => e i (by omega)) h3⟩)
/-- an operator on top says nothing -/
theorem Cn.op {tk : Nat → Int} {m p j : Nat} {E : Nat → Int} {s : Int} {r : Rs} (h : E p = 1 ∨ E p = 2 ∨ E p = 3) : Cn tk m E (p + 1) j s r ↔ Cn tk m E p j s r := by
  constructor
  · rintro (⟨h1, -⟩ | ⟨h1, -⟩ | ⟨-, -, h3⟩)
    · omega
    · omega
    · exact h3
  · intro h3
    exact Or.inr (Or.inr ⟨by omega, by omega, h3⟩)
/-- still to be read: a one at (j, s), then what the pile says -/
def Cw (tk : Nat → Int) (m : Nat) (E : Nat → Int) (p d j : Nat) (s : Int) (r : Rs) : Prop := ∃ q : Rs, PR tk m 0 d j s q ∧ ((¬ q.1 = 0 ∧ r = q) ∨ (q.1 = 0 ∧ Cn tk m E p q.2.1 q.2.2 r))
/-- and, or: a one more on the same pile -/
theorem Cn.more {tk : Nat → Int} {m : Nat} {E : Nat → Int} : ∀ (p : Nat) {j : Nat} {s : Int} {r : Rs}, (∃ i, i < p ∧ (E i = 5 ∨ E i = 4)) → (∀ i, i < p → E i = 5 → dpt E (i + 1) = 0) → (tk j = 6385252 ∨ tk j = 28530) → Cw tk m E p (dpt E p) (adv m j) s r → (∀ i, i < p → (1 ≤ E i ∧ E i ≤ 5) ∧ (E i = 3 → ∃ k, i < k ∧ k < p ∧ (E k = 4 ∨ E k = 5))) → Cn tk m E p j s r
  | 0, _, _, _, h, _, _, _, _ => by
    obtain ⟨i, hi, -⟩ := h
    omega
  | p + 1, j, s, r, h, h5, ht, hw, hk => by
    obtain ⟨q, hq, hr⟩ := hw
    have hp := (hk p (by omega)).1
    have hp3 : ¬ E p = 3 := fun e3 => by
      obtain ⟨k, k1, k2, -⟩ := (hk p (by omega)).2 e3
      omega
    by_cases e5 : E p = 5
    · have d0 := h5 p (by omega) e5
      rw [d0] at hq
      refine Or.inl ⟨e5, PR.more ht ?_⟩
      rcases hr with ⟨h1, h2⟩ | ⟨h1, h2⟩
      · rw [h2]
        exact hq.bad h1
      · rcases h2 with ⟨-, h3⟩ | ⟨h3, -⟩ | ⟨h3, -, -⟩
        · exact hq.two h1 h3
        · omega
        · exact absurd e5 h3
    · by_cases e4 : E p = 4
      · refine Or.inr (Or.inl ⟨e4, ?_⟩)
        rcases hr with ⟨h1, h2⟩ | ⟨h1, h2⟩
        · exact ⟨q, PR.more ht (hq.bad h1), Or.inl ⟨h1, h2⟩⟩
        · rcases h2 with ⟨h3, -⟩ | ⟨-, q2, h3, h4⟩ | ⟨-, h3, -⟩
          · omega
          · exact ⟨q2, PR.more ht (hq.two h1 h3), h4⟩
          · exact absurd e4 h3
      · have ho : E p = 1 ∨ E p = 2 ∨ E p = 3 := by omega
        have ed : dpt E (p + 1) = dpt E p := by
          show dpt E p + _ = _
          rw [if_neg (by omega), Nat.add_zero]
        rw [ed] at hq
        refine (Cn.op ho).mpr (Cn.more p ?_ (fun i hi => h5 i (by omega)) ht ⟨q, hq, ?_⟩ (fun i hi => ⟨(hk i (by omega)).1, fun e3 => ?_⟩))
        · obtain ⟨i, hi, h6⟩ := h
          refine ⟨i, ?_, h6⟩
          by_cases ei : i = p
          · subst ei
            omega
          · omega
        · rcases hr with h7 | ⟨h7, h8⟩
          · exact Or.inl h7
          · exact Or.inr ⟨h7, (Cn.op ho).mp h8⟩
        · obtain ⟨k, k1, k2, k3⟩ := (hk i (by omega)).2 e3
          refine ⟨k, k1, ?_, k3⟩
          by_cases ek : k = p
          · subst ek
            omega
          · omega
