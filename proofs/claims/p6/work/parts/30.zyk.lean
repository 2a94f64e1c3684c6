/-! the reference's lines as what they give -/
theorem Rf.ex {τ : VH} {tk pl : Nat → Int} {m : Nat} {r : Int × Nat} {v : Int64} {w : Int} (h : Rf τ tk pl m (thn r (fun j => exR tk m j v.toInt))) (hv : v.toInt = w) : Rf τ tk pl m (thn r (fun j => exR tk m j w)) := by
  subst hv
  exact h
noncomputable def need3 (tk : Nat → Int) (m : Nat) (y1 x1 w y2 x2 : Int) (j : Nat) : Int × Nat := thn (numR tk m j y1 x1) (fun j1 => thn (exR tk m j1 w) (fun j2 => numR tk m j2 y2 x2))
theorem need3_ok {tk : Nat → Int} {m : Nat} {y1 x1 w y2 x2 : Int} {r : Int × Nat} : thn (thn (thn r (fun j => numR tk m j y1 x1)) (fun j => exR tk m j w)) (fun j => numR tk m j y2 x2) = thn r (need3 tk m y1 x1 w y2 x2) := (thn_as (r := thn r (fun j => numR tk m j y1 x1))).trans thn_as
theorem need3_bad {tk : Nat → Int} {m : Nat} {y1 x1 w y2 x2 : Int} {r : Int × Nat} (hb : ¬ (thn r (fun j => numR tk m j y1 x1)).1 = 0) : thn (thn r (fun j => numR tk m j y1 x1)) (fun j => numR tk m j y2 x2) = thn r (need3 tk m y1 x1 w y2 x2) := by
  have e : thn r (need3 tk m y1 x1 w y2 x2) = thn (thn r (fun j => numR tk m j y1 x1)) (fun j1 => thn (exR tk m j1 w) (fun j2 => numR tk m j2 y2 x2)) := thn_as.symm
  rw [e, thn_f hb, thn_f hb]
def nmr (σ : VH) (b : Int) (i : Nat) : Int := (hL σ 53 (12 * b.toNat + i)).toInt
noncomputable def hurt3 (tk : Nat → Int) (m : Nat) (h : Int) (N : Nat → Int) (j : Nat) : Int × Nat := cif (Wy (tk j) ∧ ¬ Kp (tk j)) (cif (∃ i : Nat, (i : Int) < h ∧ N i = tk j) (3, j) (numR tk m (adv m j) 0 100000)) (flt tk j 2, j)
theorem no_snoc {N : Nat → Int} {t k : Int} (h : ∀ i : Nat, (i : Int) < k → ¬ N i = t) (hk : 0 ≤ k) (hn : ¬ N k.toNat = t) : ∀ i : Nat, (i : Int) < k + 1 → ¬ N i = t := fun i hi => by
  by_cases e : i = k.toNat
  · rw [e]
    exact hn
  · exact h i (by omega)
/-- share: four numbers -/
noncomputable def shJ (tk : Nat → Int) (m : Nat) (r : Int × Nat) : Nat → Int × Nat
  | 0 => r
  | k + 1 => thn (shJ tk m r k) (fun j => numR tk m j 0 100)
noncomputable def shV (tk : Nat → Int) (m : Nat) (r : Int × Nat) : Nat → Int
  | 0 => 0
  | k + 1 => shV tk m r k + (-1 - tk (shJ tk m r k).2)
noncomputable def shX (tk : Nat → Int) (m : Nat) (r : Int × Nat) (k : Nat) : Int × Nat := cif (k = 4) (thn (shJ tk m r 3) (fun j => numR tk m j (if shV tk m r 3 = 0 then 1 else 0) 100)) (shJ tk m r k)
noncomputable def share3 (tk : Nat → Int) (m j : Nat) : Int × Nat := thn (numR tk m j 0 100) (fun j1 => thn (numR tk m j1 0 100) (fun j2 => thn (numR tk m j2 0 100) (fun j3 => numR tk m j3 (if (-1 - tk j) + (-1 - tk j1) + (-1 - tk j2) = 0 then 1 else 0) 100)))
theorem shX_0 {tk : Nat → Int} {m : Nat} {r : Int × Nat} : shX tk m r 0 = r := cif_neg (by decide)
theorem shX_J {tk : Nat → Int} {m k : Nat} {r : Int × Nat} (hk : ¬ k = 4) : shX tk m r k = shJ tk m r k := cif_neg hk
theorem shX_f {tk : Nat → Int} {m : Nat} {r : Int × Nat} : shX tk m r 4 = thn (shJ tk m r 3) (fun j => numR tk m j (if shV tk m r 3 = 0 then 1 else 0) 100) := cif_pos rfl
theorem shX_s {tk : Nat → Int} {m k k1 : Nat} {r : Int × Nat} (hk : k < 3) (e : k1 = k + 1) : thn (shX tk m r k) (fun j => numR tk m j 0 100) = shX tk m r k1 := by
  subst e
  rw [shX_J (by omega), shX_J (by omega)]
  rfl
theorem shV_s {tk : Nat → Int} {m k k1 : Nat} {r : Int × Nat} (hk : k < 4) (e : k1 = k + 1) : shV tk m r k1 = shV tk m r k + (-1 - tk (shX tk m r k).2) := by
  subst e
  rw [shX_J (by omega)]
  rfl
theorem shX_4o {tk : Nat → Int} {m k k1 : Nat} {r : Int × Nat} (hk : k = 3) (e : k1 = k + 1) (h0 : (thn (shX tk m r k) (fun j => numR tk m j 0 100)).1 = 0) (hv : ¬ shV tk m r k + (-1 - tk (shX tk m r k).2) = 0) (hn : 0 ≤ shV tk m r k) : thn (shX tk m r k) (fun j => numR tk m j 0 100) = shX tk m r k1 := by
  subst hk e
  rw [shX_J (by decide)] at h0 hv ⊢
  rw [shX_f]
  refine thn_cg (fun hr => ?_)
  rw [thn_t hr] at h0
  generalize (shJ tk m r 3).2 = j at h0 hv ⊢
  by_cases a : 0 ≤ tk j
  · rw [numR_2 a] at h0
    exact absurd h0 (flt_ne (by decide))
  · by_cases c : -1 - tk j < 0 ∨ 100 < -1 - tk j
    · rw [numR_4 (by omega) c] at h0
      exact absurd h0 (by decide : ¬ (4 : Int) = 0)
    · rw [numR_0 (by omega) (by omega) (by omega), numR_0 (by omega) (by split <;> omega) (by omega)]
theorem shX_4b {tk : Nat → Int} {m k k1 : Nat} {r : Int × Nat} (hk : k = 3) (e : k1 = k + 1) (h : ¬ (thn (shX tk m r k) (fun j => numR tk m j 0 100)).1 = 0) : thn (shX tk m r k) (fun j => numR tk m j 0 100) = shX tk m r k1 := by
  subst hk e
  rw [shX_J (by decide)] at h ⊢
  rw [shX_f]
  refine thn_cg (fun h0 => ?_)
  rw [thn_t h0] at h
  generalize (shJ tk m r 3).2 = j at h ⊢
  by_cases a : 0 ≤ tk j
  · rw [numR_2 a, numR_2 a]
  · by_cases c : -1 - tk j < 0 ∨ 100 < -1 - tk j
    · rw [numR_4 (by omega) c, numR_4 (by omega) (by split <;> omega)]
    · exact absurd (by rw [numR_0 (by omega) (by omega) (by omega)]) h
theorem shX_4z {tk : Nat → Int} {m k k1 : Nat} {r : Int × Nat} (hk : k = 3) (e : k1 = k + 1) (h0 : (thn (shX tk m r k) (fun j => numR tk m j 0 100)).1 = 0) (hv : shV tk m r k + (-1 - tk (shX tk m r k).2) = 0) (hn : 0 ≤ shV tk m r k) : shX tk m r k1 = (4, (shX tk m r k).2) := by
  subst hk e
  rw [shX_J (k := 3) (by decide)] at h0 hv ⊢
  have hr : (shJ tk m r 3).1 = 0 := Classical.byContradiction (fun q => by rw [thn_f q] at h0; exact q h0)
  rw [thn_t hr] at h0
  rw [shX_f, thn_t hr]
  generalize (shJ tk m r 3).2 = j at h0 hv ⊢
  by_cases a : 0 ≤ tk j
  · rw [numR_2 a] at h0
    exact absurd h0 (flt_ne (by decide))
  · by_cases c : -1 - tk j < 0 ∨ 100 < -1 - tk j
    · rw [numR_4 (by omega) c] at h0
      exact absurd h0 (by decide : ¬ (4 : Int) = 0)
    · rw [numR_4 (by omega)]
      rw [if_pos (by omega)]
      omega
theorem shJ_bad {tk : Nat → Int} {m k : Nat} {r : Int × Nat} (h : ¬ (shJ tk m r k).1 = 0) : ∀ n, shJ tk m r (k + n) = shJ tk m r k
  | 0 => rfl
  | n + 1 => by
    show thn (shJ tk m r (k + n)) _ = _
    rw [shJ_bad h n, thn_f h]
theorem shX_bad {tk : Nat → Int} {m k : Nat} {r : Int × Nat} (hk : k ≤ 4) (h : ¬ (shX tk m r k).1 = 0) : shX tk m r k = shX tk m r 4 := by
  by_cases e : k = 4
  · rw [e]
  · rw [shX_J e] at h ⊢
    have e3 := shJ_bad h (3 - k)
    rw [show k + (3 - k) = 3 by omega] at e3
    rw [shX_f, e3, thn_f h]
theorem shX_share {tk : Nat → Int} {m j : Nat} : shX tk m (0, j) 4 = share3 tk m j := by
  have j1 : shJ tk m (0, j) 1 = numR tk m j 0 100 := thn_ok rfl
  have j2 : shJ tk m (0, j) 2 = thn (shJ tk m (0, j) 1) (fun i => numR tk m i 0 100) := rfl
  have j3 : shJ tk m (0, j) 3 = thn (shJ tk m (0, j) 2) (fun i => numR tk m i 0 100) := rfl
  have v3 : shV tk m (0, j) 3 = 0 + (-1 - tk j) + (-1 - tk (shJ tk m (0, j) 1).2) + (-1 - tk (shJ tk m (0, j) 2).2) := rfl
  rw [shX_f, v3, j3, j2, j1]
  unfold share3
  by_cases h1 : (numR tk m j 0 100).1 = 0
  · rw [thn_t h1, thn_t h1]
    by_cases h2 : (numR tk m (numR tk m j 0 100).2 0 100).1 = 0
    · rw [thn_t h2, thn_t h2]
      by_cases h3 : (numR tk m (numR tk m (numR tk m j 0 100).2 0 100).2 0 100).1 = 0
      · rw [thn_t h3, thn_t h3, Int.zero_add]
      · rw [thn_f h3, thn_f h3]
    · rw [thn_f h2, thn_f h2, thn_f h2]
  · rw [thn_f h1, thn_f h1, thn_f h1, thn_f h1]
theorem Rf.at4 {τ : VH} {tk pl : Nat → Int} {m j : Nat} {r : Int × Nat} (h4 : gI τ 33 4 = 4) (h5 : gI τ 33 5 = pl j) (e : r = (4, j)) : Rf τ tk pl m r := by
  subst e
  exact Or.inr ⟨by omega, (by decide : ¬ (4 : Int) = 0), h4, h5⟩
/-- when -/
noncomputable def deed3 (tk : Nat → Int) (m j1 : Nat) : Int × Nat := cif (tk j1 = 110429873532005 ∨ tk j1 = 1751215206) (0, adv m j1) (cif (tk j1 = 6382692 ∨ tk j1 = 1818588019) (numR tk m (adv m j1) 0 100000) (flt tk j1 2, j1))
noncomputable def when3 (tk : Nat → Int) (m : Nat) (q : Rs) : Int × Nat := thn (thn (q.1, q.2.1) (fun j => exR tk m j 25711)) (deed3 tk m)
theorem when3_b {tk : Nat → Int} {m : Nat} {q : Rs} (h : ¬ q.1 = 0) : (q.1, q.2.1) = when3 tk m q := by
  unfold when3
  rw [thn_f (r := (q.1, q.2.1)) h, thn_f (r := (q.1, q.2.1)) h]
theorem when3_x {tk : Nat → Int} {m : Nat} {q : Rs} (h : ¬ (thn (q.1, q.2.1) (fun j => exR tk m j 25711)).1 = 0) : thn (q.1, q.2.1) (fun j => exR tk m j 25711) = when3 tk m q := (thn_f h).symm
theorem when3_w {tk : Nat → Int} {m : Nat} {q : Rs} {r : Int × Nat} (e : thn (q.1, q.2.1) (fun j => exR tk m j 25711) = r) (n1 : ¬ (tk r.2 = 110429873532005 ∨ tk r.2 = 1751215206)) (n2 : ¬ (tk r.2 = 6382692 ∨ tk r.2 = 1818588019)) : thn r (fun j => (flt tk j 2, j)) = when3 tk m q := by
  unfold when3
  rw [e]
  exact thn_cg (fun _ => ((cif_neg n1).trans (cif_neg n2)).symm)
theorem when3_n {tk : Nat → Int} {m : Nat} {q : Rs} {r : Int × Nat} (e : thn (q.1, q.2.1) (fun j => exR tk m j 25711) = r) (n1 : tk r.2 = 110429873532005 ∨ tk r.2 = 1751215206) : thn r (nxR m) = when3 tk m q := by
  unfold when3
  rw [e]
  exact thn_cg (fun _ => (cif_pos n1).symm)
theorem when3_m {tk : Nat → Int} {m : Nat} {q : Rs} {r : Int × Nat} (e : thn (q.1, q.2.1) (fun j => exR tk m j 25711) = r) (n2 : tk r.2 = 6382692 ∨ tk r.2 = 1818588019) : thn (thn r (nxR m)) (fun j => numR tk m j 0 100000) = when3 tk m q := by
  unfold when3
  rw [e, thn_as]
  refine thn_cg (fun _ => ?_)
  refine Eq.trans ?_ ((cif_neg (by omega)).trans (cif_pos n2)).symm
  exact thn_ok rfl
theorem when3_y {tk : Nat → Int} {m : Nat} {q : Rs} {r : Int × Nat} (e : thn (q.1, q.2.1) (fun j => exR tk m j 25711) = r) (h : ¬ r.1 = 0) : r = when3 tk m q := by
  subst e
  exact when3_x h
theorem when3_q0 {tk : Nat → Int} {m : Nat} {q : Rs} (h : (when3 tk m q).1 = 0) : q.1 = 0 := Classical.byContradiction (fun n => by rw [← when3_b n] at h; exact n h)
theorem RAt.w64 {σ : VH} {tk pl : Nat → Int} {m j : Nat} {v : Int64} (w : Int) (A : RAt σ tk pl m j) (hv : v.toInt = w) (hk : Kp w) (h9 : gI σ 33 9 = 3) : hL σ 33 11 = v ↔ tk j = w := by
  constructor
  · intro e
    exact (A.word hk).mp ⟨h9, by rw [e]; exact hv⟩
  · intro e
    have e2 := ((A.word hk).mpr e).2
    rw [← hv] at e2
    exact Int64.toInt_inj.mp e2
theorem RAt.now {σ : VH} {tk pl : Nat → Int} {m j : Nat} {w : Int} (A : RAt σ tk pl m j) (hk : Kp w) (h9 : ¬ gI σ 33 9 = 3) : ¬ tk j = w := fun e => h9 ((A.word hk).mpr e).1
