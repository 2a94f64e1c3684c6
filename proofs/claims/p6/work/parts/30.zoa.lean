/-! a line goes on: tokens between -/
theorem adv_ge {m j : Nat} : j ≤ adv m j := by
  unfold adv
  split <;> omega
theorem adv_lt {m j : Nat} (h : j < m) : adv m j = j + 1 := by
  unfold adv
  rw [if_pos h]
def Bm (m j : Nat) (r : Int × Nat) : Prop := r.1 = 0 → j ≤ r.2 ∧ r.2 ≤ m
def Bw (m j : Nat) (r : Int × Nat) : Prop := r.1 = 0 → j < r.2 ∧ r.2 ≤ m
theorem Bw.m {m j : Nat} {r : Int × Nat} (h : Bw m j r) : Bm m j r := fun e => by
  have := h e
  omega
theorem Bw.up {m j k : Nat} {r : Int × Nat} (h : Bw m k r) (hj : j ≤ k) : Bw m j r := fun e => by
  have := h e
  omega
theorem exR_bw {tk : Nat → Int} {m j : Nat} {t : Int} (h1 : tk m = 1) (hj : j ≤ m) (ht : ¬ t = 1) : Bw m j (exR tk m j t) := by
  intro e
  by_cases h : tk j = t
  · rw [exR_t h]
    have hm : j ≠ m := fun q => ht (by rw [← h, q, h1])
    rw [show ((0, adv m j) : Int × Nat).2 = adv m j from rfl, adv_lt (by omega)]
    omega
  · rw [exR_f h] at e
    exact absurd e (flt_ne (by decide))
theorem numR_bw {tk : Nat → Int} {m j : Nat} {lo hi : Int} (h1 : tk m = 1) (hj : j ≤ m) : Bw m j (numR tk m j lo hi) := by
  intro e
  by_cases h : 0 ≤ tk j
  · rw [numR_2 h] at e
    exact absurd e (flt_ne (by decide))
  · by_cases g : -1 - tk j < lo ∨ hi < -1 - tk j
    · rw [numR_4 (by omega) g] at e
      exact absurd e (by decide : ¬ (4 : Int) = 0)
    · rw [numR_0 (by omega) (by omega) (by omega)]
      have hm : j ≠ m := fun q => by
        rw [q, h1] at h
        omega
      rw [show ((0, adv m j) : Int × Nat).2 = adv m j from rfl, adv_lt (by omega)]
      omega
theorem thn_bw {m j : Nat} {r : Int × Nat} {f : Nat → Int × Nat} (h : Bm m j r) (g : ∀ k, j ≤ k → k ≤ m → Bw m k (f k)) : Bw m j (thn r f) := by
  intro e
  by_cases hr : r.1 = 0
  · have h1 := h hr
    rw [thn_t hr] at e ⊢
    have h2 := g r.2 h1.1 h1.2 e
    omega
  · rw [thn_f hr] at e
    exact absurd e hr
theorem cif_bw {m j : Nat} {p : Prop} {a b : Int × Nat} (h1 : p → Bw m j a) (h2 : ¬ p → Bw m j b) : Bw m j (cif p a b) := by
  by_cases h : p
  · rw [cif_pos h]
    exact h1 h
  · rw [cif_neg h]
    exact h2 h
theorem flt_bw {tk : Nat → Int} {m j k : Nat} {c : Int} (hc : ¬ c = 0) : Bw m j (flt tk k c, k) := fun e => absurd e (flt_ne hc)
theorem Pf_j {tk : Nat → Int} {m : Nat} (h1 : tk m = 1) : ∀ (n md d j : Nat) (s : Int) (r : Rs), j ≤ m → Pf tk m n md d j s = r → r.1 = 0 → j ≤ r.2.1 ∧ r.2.1 ≤ m
  | 0, md, d, j, s, r, hj, h, h0 => by
    subst h
    have h9 : (9 : Int) = 0 := h0
    omega
  | n + 1, md, d, j, s, r, hj, h, h0 => by
    have ha := adv_le (m := m) (j := j) hj
    have hg := adv_ge (m := m) (j := j)
    have hop : ∀ (k : Nat) (u : Int), k ≤ m → (pOp tk m k u).1 = 0 → k ≤ (pOp tk m k u).2.1 ∧ (pOp tk m k u).2.1 ≤ m := fun k u hk e => by
      unfold pOp at e ⊢
      by_cases hc : (0 ≤ tk k ∧ ¬ Fw (tk k)) ∨ 60 ≤ u
      · rw [cif_pos hc] at e
        exact absurd e (flt_ne (by decide))
      · rw [cif_neg hc]
        exact ⟨adv_ge, adv_le hk⟩
    by_cases m1 : md = 1
    · subst m1
      have h : cif (tk j = 6385252 ∨ tk j = 28530) (Pf tk m n 2 d (adv m j) s) (0, j, s) = r := h
      by_cases hc : tk j = 6385252 ∨ tk j = 28530
      · rw [cif_pos hc] at h
        have ih := Pf_j h1 n 2 d (adv m j) s r ha h h0
        omega
      · rw [cif_neg hc] at h
        subst h
        exact ⟨Nat.le_refl j, hj⟩
    · by_cases m0 : md = 0
      · subst m0
        have h : cif (6 ≤ d) (flt tk j 2, j, s) (cif (tk j = 7237492) (Pf tk m n 0 (d + 1) (adv m j) s) (cif (tk j = 40) (cif ((Pf tk m n 2 (d + 1) (adv m j) s).1 = 0) (cif (tk (Pf tk m n 2 (d + 1) (adv m j) s).2.1 = 41) (0, adv m (Pf tk m n 2 (d + 1) (adv m j) s).2.1, (Pf tk m n 2 (d + 1) (adv m j) s).2.2) (flt tk (Pf tk m n 2 (d + 1) (adv m j) s).2.1 2, (Pf tk m n 2 (d + 1) (adv m j) s).2.1, (Pf tk m n 2 (d + 1) (adv m j) s).2.2)) (Pf tk m n 2 (d + 1) (adv m j) s)) (cif ((pOp tk m j s).1 = 0) (cif (tk (pOp tk m j s).2.1 = 60 ∨ tk (pOp tk m j s).2.1 = 62 ∨ tk (pOp tk m j s).2.1 = 61) (pOp tk m (adv m (pOp tk m j s).2.1) (pOp tk m j s).2.2) (pOp tk m j s)) (pOp tk m j s)))) = r := h
        by_cases h6 : 6 ≤ d
        · rw [cif_pos h6] at h
          subst h
          exact absurd h0 (flt_ne (by decide))
        · rw [cif_neg h6] at h
          by_cases hn : tk j = 7237492
          · rw [cif_pos hn] at h
            have ih := Pf_j h1 n 0 (d + 1) (adv m j) s r ha h h0
            omega
          · rw [cif_neg hn] at h
            by_cases ho : tk j = 40
            · rw [cif_pos ho] at h
              by_cases hq : (Pf tk m n 2 (d + 1) (adv m j) s).1 = 0
              · have ih := Pf_j h1 n 2 (d + 1) (adv m j) s _ ha rfl hq
                rw [cif_pos hq] at h
                by_cases hcl : tk (Pf tk m n 2 (d + 1) (adv m j) s).2.1 = 41
                · rw [cif_pos hcl] at h
                  subst h
                  exact ⟨Nat.le_trans (Nat.le_trans hg ih.1) adv_ge, adv_le ih.2⟩
                · rw [cif_neg hcl] at h
                  subst h
                  exact absurd h0 (flt_ne (by decide))
              · rw [cif_neg hq] at h
                subst h
                exact absurd h0 hq
            · rw [cif_neg ho] at h
              by_cases hp : (pOp tk m j s).1 = 0
              · have p1 := hop j s hj hp
                rw [cif_pos hp] at h
                by_cases hcm : tk (pOp tk m j s).2.1 = 60 ∨ tk (pOp tk m j s).2.1 = 62 ∨ tk (pOp tk m j s).2.1 = 61
                · rw [cif_pos hcm] at h
                  have hh : (pOp tk m (adv m (pOp tk m j s).2.1) (pOp tk m j s).2.2).1 = 0 := by
                    rw [h]
                    exact h0
                  have p2 := hop _ _ (adv_le p1.2) hh
                  rw [h] at p2
                  have p3 := adv_ge (m := m) (j := (pOp tk m j s).2.1)
                  omega
                · rw [cif_neg hcm] at h
                  subst h
                  exact p1
              · rw [cif_neg hp] at h
                subst h
                exact absurd h0 hp
      · obtain ⟨k, rfl⟩ : ∃ k, md = k + 2 := ⟨md - 2, by omega⟩
        have h : cif ((Pf tk m n 0 d j s).1 = 0) (Pf tk m n 1 d (Pf tk m n 0 d j s).2.1 (Pf tk m n 0 d j s).2.2) (Pf tk m n 0 d j s) = r := h
        by_cases hq : (Pf tk m n 0 d j s).1 = 0
        · have i0 := Pf_j h1 n 0 d j s _ hj rfl hq
          rw [cif_pos hq] at h
          have i1 := Pf_j h1 n 1 d _ _ r i0.2 h h0
          omega
        · rw [cif_neg hq] at h
          subst h
          exact absurd h0 hq
theorem PR.j {tk : Nat → Int} {m md d j : Nat} {s : Int} {r : Rs} (h1 : tk m = 1) (hj : j ≤ m) (h : PR tk m md d j s r) (h0 : r.1 = 0) : j ≤ r.2.1 ∧ r.2.1 ≤ m := by
  obtain ⟨N, h⟩ := h
  exact Pf_j h1 N md d j s r hj (h N (Nat.le_refl N)) h0
theorem deedR_bw {tk : Nat → Int} {m j : Nat} (h1 : tk m = 1) (hj : j ≤ m) : Bw m j (deedR tk m j) := by
  have a1 := adv_ge (m := m) (j := j)
  have a2 := adv_le (m := m) (j := j) hj
  refine cif_bw (fun _ => (exR_bw h1 a2 (by decide)).up a1) (fun _ => cif_bw (fun _ => (thn_bw (numR_bw h1 a2).m (fun k _ k2 => exR_bw h1 k2 (by decide))).up a1) (fun _ => flt_bw (by decide)))
theorem LineR.bw {tk : Nat → Int} {m : Nat} {st st' : LSt} {r : Int × Nat} (h1 : tk m = 1) (hj : st.1 ≤ m) (h : LineR tk m st r st') : Bw m st.1 r := by
  have a1 := adv_ge (m := m) (j := st.1)
  have a2 := adv_le (m := m) (j := st.1) hj
  have b1 := adv_ge (m := m) (j := adv m st.1)
  have b2 := adv_le (m := m) (j := adv m st.1) a2
  rcases h with ⟨-, h2, -⟩ | ⟨-, -, h2, -⟩ | ⟨-, -, q, hq, h2, -⟩ | ⟨-, h2, -⟩ | ⟨-, h2, -⟩ | ⟨-, h2, -⟩ | ⟨-, h2, -⟩
  · rw [h2]
    exact cif_bw (fun _ => flt_bw (by decide)) (fun _ => cif_bw (fun _ => cif_bw (fun _ e => absurd e (by decide : ¬ (3 : Int) = 0)) (fun _ => (thn_bw (numR_bw h1 b2).m (fun k _ k2 => exR_bw h1 k2 (by decide))).up (by omega))) (fun _ => flt_bw (by decide)))
  · rw [h2]
    exact flt_bw (by decide)
  · rw [h2]
    by_cases hq0 : q.1 = 0
    · have hb := hq.j h1 a2 hq0
      rw [show whenT tk m q = _ from cif_pos hq0]
      exact (thn_bw (exR_bw h1 hb.2 (by decide)).m (fun k _ k2 => deedR_bw h1 k2)).up (by omega)
    · rw [show whenT tk m q = _ from cif_neg hq0]
      exact fun e => absurd e hq0
  · rw [h2]
    exact cif_bw (fun _ => flt_bw (by decide)) (fun _ => (thn_bw (numR_bw h1 a2).m (fun k _ k2 => thn_bw (numR_bw h1 k2).m (fun k' _ k2' => thn_bw (numR_bw h1 k2').m (fun k'' _ k2'' => thn_bw (numR_bw h1 k2'').m (fun k4 _ k42 => exR_bw h1 k42 (by decide)))))).up a1)
  · rw [h2]
    exact cif_bw (fun _ => flt_bw (by decide)) (fun _ => (thn_bw (numR_bw h1 a2).m (fun k _ k2 => thn_bw (exR_bw h1 k2 (by decide)).m (fun k' _ k2' => thn_bw (numR_bw h1 k2').m (fun k'' _ k2'' => exR_bw h1 k2'' (by decide))))).up a1)
  · rw [h2]
    exact cif_bw (fun _ => flt_bw (by decide)) (fun _ => (thn_bw (numR_bw h1 a2).m (fun k _ k2 => thn_bw (exR_bw h1 k2 (by decide)).m (fun k' _ k2' => thn_bw (numR_bw h1 k2').m (fun k'' _ k2'' => exR_bw h1 k2'' (by decide))))).up a1)
  · rw [h2]
    exact flt_bw (by decide)
theorem hurtR_congr {tk : Nat → Int} {m j : Nat} {h : Int} {N N' : Nat → Int} (e : ∀ i : Nat, (i : Int) < h → N i = N' i) : hurtR tk m j h N = hurtR tk m j h N' := by
  unfold hurtR
  have q : (∃ i : Nat, (i : Int) < h ∧ N i = tk (adv m j)) = (∃ i : Nat, (i : Int) < h ∧ N' i = tk (adv m j)) := propext ⟨fun ⟨i, a, b⟩ => ⟨i, a, (e i a).symm.trans b⟩, fun ⟨i, a, b⟩ => ⟨i, a, (e i a).trans b⟩⟩
  rw [q]
