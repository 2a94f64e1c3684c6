/-! which law is in force: both sides -/
def cf (F : Nat → Int) (f : Int) : Nat → Nat
  | 0 => 0
  | l + 1 => cf F f l + (if F l = f then 1 else 0)
theorem cf_s (F : Nat → Int) (f : Int) (l : Nat) : cf F f (l + 1) = cf F f l + (if F l = f then 1 else 0) := rfl
theorem cf_congr {F G : Nat → Int} {f : Int} : ∀ n : Nat, (∀ l, l < n → F l = G l) → cf F f n = cf G f n
  | 0, _ => rfl
  | n + 1, h => by
    rw [cf_s, cf_s, cf_congr n (fun l hl => h l (by omega)), h n (by omega)]
theorem cf_step {F : Nat → Int} {f k : Int} (h : 0 ≤ k) : (cf F f (k + 1).toNat : Int) = (cf F f k.toNat : Int) + (if F k.toNat = f then 1 else 0) := by
  have e : (k + 1).toNat = k.toNat + 1 := by omega
  rw [e, cf_s]
  split <;> omega
theorem cf_sur {F : Nat → Int} {f : Int} {i : Nat} : ∀ n : Nat, i < cf F f n → ∃ l, l < n ∧ F l = f ∧ cf F f l = i
  | 0, h => by
    have h : i < 0 := h
    omega
  | n + 1, h => by
    by_cases q : i < cf F f n
    · obtain ⟨l, h1, h2, h3⟩ := cf_sur n q
      exact ⟨l, by omega, h2, h3⟩
    · rw [cf_s] at h
      by_cases c : F n = f
      · rw [if_pos c] at h
        exact ⟨n, by omega, c, by omega⟩
      · rw [if_neg c] at h
        omega
/-- the best of the first k days, and its day -/
def bb (D : Nat → Int) (d : Int) : Nat → Int × Int
  | 0 => (-1, -1)
  | k + 1 => if D k ≤ d ∧ (bb D d k).2 ≤ D k then ((k : Int), D k) else bb D d k
theorem bb_step {D : Nat → Int} {d k : Int} (h : 0 ≤ k) : bb D d (k + 1).toNat = if D k.toNat ≤ d ∧ (bb D d k.toNat).2 ≤ D k.toNat then (k, D k.toNat) else bb D d k.toNat := by
  have e : (k + 1).toNat = k.toNat + 1 := by omega
  have e2 : ((k.toNat : Nat) : Int) = k := by omega
  rw [e]
  show (if _ then (((k.toNat : Nat) : Int), _) else _) = _
  rw [e2]
theorem lff_F {F Y : Nat → Int} {f d : Int} : ∀ n : Nat, 0 ≤ lff F Y f d n → F (lff F Y f d n).toNat = f
  | 0, h => by
    have h : (0 : Int) ≤ -1 := h
    omega
  | n + 1, h => by
    unfold lff at h ⊢
    by_cases c : F n = f ∧ Y n ≤ d ∧ (lff F Y f d n < 0 ∨ Y (lff F Y f d n).toNat ≤ Y n)
    · rw [if_pos c]
      exact c.1
    · rw [if_neg c] at h ⊢
      exact lff_F n h
theorem bb_lff {F Y D : Nat → Int} {f d : Int} {n : Nat} (hD : ∀ l, l < n → F l = f → D (cf F f l) = Y l) (hY : ∀ l, l < n → F l = f → 0 ≤ Y l) : ∀ l : Nat, l ≤ n → bb D d (cf F f l) = if lff F Y f d l < 0 then (-1, -1) else ((cf F f (lff F Y f d l).toNat : Int), Y (lff F Y f d l).toNat)
  | 0, _ => rfl
  | l + 1, hl => by
    have ih := bb_lff (d := d) hD hY l (by omega)
    have hb := lff_lt F Y f d l
    by_cases c : F l = f
    · rw [cf_s, if_pos c]
      have e1 := hD l (by omega) c
      have e2 := hY l (by omega) c
      have eb : bb D d (cf F f l + 1) = if D (cf F f l) ≤ d ∧ (bb D d (cf F f l)).2 ≤ D (cf F f l) then ((cf F f l : Int), D (cf F f l)) else bb D d (cf F f l) := rfl
      have el : lff F Y f d (l + 1) = if F l = f ∧ Y l ≤ d ∧ (lff F Y f d l < 0 ∨ Y (lff F Y f d l).toNat ≤ Y l) then (l : Int) else lff F Y f d l := rfl
      rw [eb, e1]
      by_cases g : lff F Y f d l < 0
      · rw [if_pos g] at ih
        rw [ih]
        by_cases k : Y l ≤ d
        · have el' := el.trans (if_pos ⟨c, k, Or.inl g⟩)
          rw [if_pos ⟨k, by show (-1 : Int) ≤ Y l; omega⟩, el', if_neg (by omega), show ((l : Int)).toNat = l by omega]
        · have el' := el.trans (if_neg (fun q => k q.2.1))
          rw [if_neg (fun q => k q.1), el', if_pos g]
      · rw [if_neg g] at ih
        rw [ih]
        by_cases k : Y l ≤ d ∧ Y (lff F Y f d l).toNat ≤ Y l
        · have el' := el.trans (if_pos ⟨c, k.1, Or.inr k.2⟩)
          rw [if_pos ⟨k.1, k.2⟩, el', if_neg (by omega), show ((l : Int)).toNat = l by omega]
        · have el' := el.trans (if_neg (fun q => k ⟨q.2.1, q.2.2.resolve_left g⟩))
          rw [if_neg (fun q => k ⟨q.1, q.2⟩), el', if_neg g]
    · have el : lff F Y f d (l + 1) = lff F Y f d l := if_neg (fun q => c q.1)
      rw [cf_s, if_neg c, Nat.add_zero, el]
      exact ih
theorem lon_eq {F Y D : Nat → Int} {f d : Int} {n : Nat} (hD : ∀ l, l < n → F l = f → D (cf F f l) = Y l) (hY : ∀ l, l < n → F l = f → 0 ≤ Y l) : (bb D d (cf F f n)).1 = (cf F f (lff F Y f d n + 1).toNat : Int) - 1 := by
  rw [bb_lff hD hY n (Nat.le_refl n)]
  have hb := lff_lt F Y f d n
  by_cases g : lff F Y f d n < 0
  · rw [if_pos g, show (lff F Y f d n + 1).toNat = 0 by omega]
    rfl
  · rw [if_neg g, show (lff F Y f d n + 1).toNat = (lff F Y f d n).toNat + 1 by omega, cf_s, if_pos (lff_F n (by omega))]
    show (cf F f (lff F Y f d n).toNat : Int) = _
    omega
def LoM (σ : VH) (f d z : Int) : Prop := (¬ (0 ≤ f ∧ f < 4) ∧ z = -1) ∨ ((0 ≤ f ∧ f < 4) ∧ z = (cf (gI σ 36) f (lff (gI σ 36) (gI σ 37) f d (gI σ 33 33).toNat + 1).toNat : Int) - 1)
def dcl (σ : VH) (f i : Nat) : Int := gI σ ((hR σ 7 (4 * f + i)).getD 0) 0
def LoC (σ : VH) (f d z : Int) : Prop := (¬ (0 ≤ f ∧ f < 4) ∧ z = -1) ∨ ((0 ≤ f ∧ f < 4) ∧ z = (bb (dcl σ f.toNat) d (gI σ 8 f.toNat).toNat).1)
theorem dcl_at {σ : VH} {f i v : Nat} (h : hR σ 7 (4 * f + i) = some v) : dcl σ f i = gI σ v 0 := by
  unfold dcl
  rw [h]
  rfl
/-- the laws of a folk, by their days: the same on both sides -/
def LwD (σ : VH) (j : Nat) (x : Int) : Prop := ∃ v, hR σ 7 j = some v ∧ gI σ v 0 = x
def Cl (σ : VH) : Prop := (∀ f : Nat, f < 4 → gI σ 38 f = (cf (gI σ 36) (f : Int) (gI σ 33 33).toNat : Int)) ∧ ∀ l : Nat, (l : Int) < gI σ 33 33 → (0 ≤ gI σ 36 l ∧ gI σ 36 l < 4 ∧ 0 ≤ gI σ 37 l) ∧ LwD σ (4 * (gI σ 36 l).toNat + cf (gI σ 36) (gI σ 36 l) l) (gI σ 37 l)
theorem Cl.some {σ : VH} (K : Cl σ) (e8 : ∀ k : Nat, gI σ 8 k = gI σ 38 k) {f : Int} (hf : 0 ≤ f ∧ f < 4) (i : Nat) (hi : (i : Int) < gI σ 8 f.toNat) : ∃ l : Nat, (l : Int) < gI σ 33 33 ∧ gI σ 36 l = f ∧ cf (gI σ 36) f l = i ∧ LwD σ (4 * f.toNat + i) (gI σ 37 l) := by
  have h1 := K.1 f.toNat (by omega)
  rw [show ((f.toNat : Nat) : Int) = f by omega] at h1
  rw [e8, h1] at hi
  obtain ⟨l, h2, h3, h4⟩ := cf_sur (i := i) _ (by omega : i < cf (gI σ 36) f (gI σ 33 33).toNat)
  have h5 := (K.2 l (by omega)).2
  rw [h3, h4] at h5
  exact ⟨l, by omega, h3, h4, h5⟩
theorem Cl.lo {σ τ : VH} {f d z w : Int} (K : Cl σ) (e8 : ∀ k : Nat, gI σ 8 k = gI σ 38 k) (C : LoC σ f d z) (M : LoM τ f d w) (q36 : ∀ k, gI τ 36 k = gI σ 36 k) (q37 : ∀ k, gI τ 37 k = gI σ 37 k) (q33 : gI τ 33 33 = gI σ 33 33) : z = w := by
  have e36 : gI τ 36 = gI σ 36 := funext q36
  have e37 : gI τ 37 = gI σ 37 := funext q37
  unfold LoM at M
  rw [e36, e37, q33] at M
  rcases C with ⟨c1, c2⟩ | ⟨c1, c2⟩
  · rcases M with ⟨m1, m2⟩ | ⟨m1, m2⟩
    · omega
    · exact absurd m1 c1
  · rcases M with ⟨m1, m2⟩ | ⟨m1, m2⟩
    · exact absurd c1 m1
    · have h1 := K.1 f.toNat (by omega)
      rw [show ((f.toNat : Nat) : Int) = f by omega] at h1
      rw [c2, m2, e8, h1, show ((cf (gI σ 36) f (gI σ 33 33).toNat : Nat) : Int).toNat = cf (gI σ 36) f (gI σ 33 33).toNat by omega]
      refine lon_eq (fun l hl hF => ?_) (fun l hl hF => ?_)
      · obtain ⟨v, h2, h3⟩ := (K.2 l (by omega)).2
        rw [hF] at h2
        rw [dcl_at h2, h3]
      · exact (K.2 l (by omega)).1.2.2
/-- what is left of the laws by a step of the class -/
def Old (σ τ : VH) : Prop := ∀ v, LawOK σ v → gI τ v 0 = gI σ v 0
theorem LwD.mv {σ τ : VH} {j : Nat} {x : Int} (h : LwD σ j x) (I : InvX σ) (hj : j < 16) (e7 : hR τ 7 j = hR σ 7 j) (o : Old σ τ) : LwD τ j x := by
  obtain ⟨v, h1, h2⟩ := h
  have hL : LawOK σ v := by
    rcases I.2.2.2.1 j hj with q | ⟨b, q, hb⟩
    · rw [h1] at q
      cases q
    · rw [h1] at q
      cases q
      exact hb
  exact ⟨v, e7.trans h1, (o v hL).trans h2⟩
theorem Old.fr {W : Wl} {σ τ : VH} (F : Fr W σ τ) : Old σ τ := fun v h => gI_eq (F.d v 0 h.1 (fun e => by have q := h.2.1.2.2; rw [e] at q; exact absurd q (by decide)) (fun e => by have q := h.2.1.2.2; rw [e] at q; exact absurd q (by decide)))
theorem Old.rf (σ : VH) : Old σ σ := fun _ _ => rfl
/-- no law comes -/
theorem Cl.mv {σ τ : VH} (K : Cl σ) (I : InvX σ) (M : InvM σ) (q36 : ∀ k, gI τ 36 k = gI σ 36 k) (q37 : ∀ k, gI τ 37 k = gI σ 37 k) (q38 : ∀ k, gI τ 38 k = gI σ 38 k) (q33 : gI τ 33 33 = gI σ 33 33) (e7 : ∀ j, hR τ 7 j = hR σ 7 j) (o : Old σ τ) : Cl τ := by
  have e36 : gI τ 36 = gI σ 36 := funext q36
  have e37 : gI τ 37 = gI σ 37 := funext q37
  refine ⟨fun f hf => by rw [q38, e36, q33]; exact K.1 f hf, fun l hl => ?_⟩
  rw [q33] at hl
  rw [e36, e37]
  obtain ⟨h1, h2⟩ := K.2 l hl
  have h3 := K.1 (gI σ 36 l).toNat (by omega)
  have h4 := M.2.2.1.2.1 (gI σ 36 l).toNat (by omega)
  rw [show (((gI σ 36 l).toNat : Nat) : Int) = gI σ 36 l by omega] at h3
  have h5 : cf (gI σ 36) (gI σ 36 l) l < cf (gI σ 36) (gI σ 36 l) (gI σ 33 33).toNat := by
    have h6 : ∀ n : Nat, l < n → cf (gI σ 36) (gI σ 36 l) l < cf (gI σ 36) (gI σ 36 l) n := by
      intro n
      induction n with
      | zero => intro q; omega
      | succ n ih =>
        intro q
        rw [cf_s]
        by_cases e : l = n
        · subst e
          rw [if_pos rfl]
          omega
        · have := ih (by omega)
          omega
    exact h6 _ (by omega)
  exact ⟨h1, h2.mv I (by omega) (e7 _) o⟩
theorem oldLaw {W V : Wl} {σ ν ρ μ : VH} {b : Nat} (F : Fr W σ ν) (eb : hN ν = b) (A : FrA b ν ρ) (G : Fr V ρ μ) (h7 : 7 < b) : Old σ μ ∧ ∀ j, hR μ 7 j = hR σ 7 j := by
  refine ⟨fun v h => ?_, fun j => by rw [G.2.2.1, (A.2.2 7 h7).2.1, F.2.2.1]⟩
  have h1 := h.2.1
  have hv : v < b := by
    rw [← eb, F.1]
    exact h1.2.1
  have s2 : hS ρ v = hS σ v := (A.2.2 v hv).1.trans (congrFun F.2.1 v)
  have q := h1.2.2
  rw [← s2] at q
  exact (gI_eq (G.d v 0 h.1 (fun e => by rw [e] at q; exact absurd q (by decide)) (fun e => by rw [e] at q; exact absurd q (by decide)))).trans ((gI_eq (A.it hv rfl)).trans ((Old.fr F) v h))
theorem mk_law_from {σ : VH} {d : Int32} {N : Nat} : hI (mk_law σ d N) (hN σ) 0 = d := by
  have hb : hN (sN σ (1, 0)) = hN σ + 1 := hN_sN _ _
  have n9 : hN (in_X1 (hN σ) d N (sN σ (1, 0))) = hN σ + 9 := by rw [hN_X1, hb]
  have fA : FrA (hN σ + 9) (in_X1 (hN σ) d N (sN σ (1, 0))) (mk_law σ d N) := (FrA.nw (FrA.rf (by rw [n9]; exact Nat.le_refl _))).tr (FrA.X4 (by rw [hN_sN, n9]; omega) (Nat.le_refl _))
  refine fA.it (by omega) ?_
  unfold in_X1
  rw [hI_nf, if_neg (by simp only [hN_sI, hN_nf, hN_sh4, hN_sN]; omega), hI_sI, if_pos ⟨rfl, rfl⟩]
def LwX (σ τ : VH) (f d z : Int) : Prop := Old σ τ ∧ ((z ≤ 0 ∧ ∀ j, hR τ 7 j = hR σ 7 j) ∨ (0 < z ∧ (∀ j, j ≠ (4 * f + gI σ 8 f.toNat).toNat → hR τ 7 j = hR σ 7 j) ∧ LwD τ (4 * f + gI σ 8 f.toNat).toNat d))
theorem LwX.add {σ μ : VH} {f d : Int} {b : Nat} {x : Int32} {z : Int} (h : Old σ μ ∧ ∀ j, hR μ 7 j = hR σ 7 j) (hb : 87 ≤ b) (hd : gI μ b 0 = d) (hz : 0 < z) : LwX σ (sI (sR μ 7 (4 * f + gI σ 8 f.toNat).toNat (some b)) 8 f.toNat x) f d z := by
  refine ⟨fun v hv => (gI_eq (sk1t (by have := hv.1; omega) rfl)).trans (h.1 v hv), Or.inr ⟨hz, fun j hj => ?_, b, ?_, ?_⟩⟩
  · rw [hR_sI, hR_sR, if_neg (fun e => hj e.2)]
    exact h.2 j
  · rw [hR_sI, hR_sR, if_pos ⟨rfl, rfl⟩]
  · exact (gI_eq (sk1t (by omega) rfl)).trans hd
def HuX (σ τ : VH) : Prop := Old σ τ ∧ ∀ j, hR τ 7 j = hR σ 7 j
def LwY (σ τ : VH) (f d z : Int) : Prop := (z ≤ 0 ∧ gI τ 33 33 = gI σ 33 33 ∧ ∀ k : Nat, gI τ 36 k = gI σ 36 k ∧ gI τ 37 k = gI σ 37 k) ∨ (0 < z ∧ gI τ 33 33 = gI σ 33 33 + 1 ∧ ∀ k : Nat, gI τ 36 k = (if (k : Int) = gI σ 33 33 then f else gI σ 36 k) ∧ gI τ 37 k = (if (k : Int) = gI σ 33 33 then d else gI σ 37 k))
theorem cf_lt {F : Nat → Int} {f : Int} {l : Nat} (hF : F l = f) : ∀ n : Nat, l < n → cf F f l < cf F f n
  | 0, q => by omega
  | n + 1, q => by
    rw [cf_s]
    by_cases e : l = n
    · subst e
      rw [if_pos hF]
      omega
    · have := cf_lt hF n (by omega)
      omega
/-- behind both sides' law -/
theorem Cl.law {σ τ ρ : VH} {f d z w : Int} {tk pl : Nat → Int} {m : Nat} {W : Wl} (K : Cl σ) (I : InvX σ) (M : InvM σ) (It : InvX τ) (Mt : InvM τ) (e8 : ∀ k : Nat, gI σ 8 k = gI σ 38 k) (X : LwX σ τ f d z) (Y : LwY τ ρ f d w) (hz : z = w) (L : LawM τ ρ f d w tk pl m) (q36 : ∀ k, gI τ 36 k = gI σ 36 k) (q37 : ∀ k, gI τ 37 k = gI σ 37 k) (q38 : ∀ k, gI τ 38 k = gI σ 38 k) (q33 : gI τ 33 33 = gI σ 33 33) (F : Fr W τ ρ) : Cl ρ := by
  have e7 : ∀ j, hR ρ 7 j = hR τ 7 j := fun j => by rw [F.2.2.1]
  have oF : Old τ ρ := Old.fr F
  obtain ⟨oX, X⟩ := X
  have hb := M.2.2.1.2.1
  rcases Y with ⟨y0, y1, y2⟩ | ⟨y0, y1, y2⟩
  · have x := X.resolve_right (fun q => by have := q.1; omega)
    have m38 : ∀ k : Nat, gI ρ 38 k = gI τ 38 k := by
      rcases L with ⟨-, -, -, -, -, h⟩ | ⟨v, -, r, -, h | h⟩
      · exact h
      · have h9 := h.2.1
        have h8 := hb f.toNat (by omega)
        rw [q38] at h9
        omega
      · exact h.2.2.2.2
    exact ((K.mv I M q36 q37 q38 q33 x.2 oX).mv It Mt (fun k => (y2 k).1) (fun k => (y2 k).2) m38 y1 e7 oF)
  · obtain ⟨-, x1, x2⟩ := X.resolve_left (fun q => by have := q.1; omega)
    rcases L with ⟨h, -⟩ | ⟨⟨v1, v2, v3⟩, -, r, -, h | h⟩
    · omega
    · obtain ⟨-, -, -, -, h38⟩ := h
      have k0 := I.2.2.1
      have n0 : 0 ≤ gI σ 33 33 := by
        have := M.2.2.1.laws
        omega
      have kf := K.1 f.toNat (by omega)
      rw [show ((f.toNat : Nat) : Int) = f by omega] at kf
      rw [q38] at v3
      have ej : (4 * f + gI σ 8 f.toNat).toNat = 4 * f.toNat + cf (gI σ 36) f (gI σ 33 33).toNat := by
        rw [e8, kf]
        omega
      have r36 : ∀ k : Nat, (k : Int) < gI σ 33 33 → gI ρ 36 k = gI σ 36 k := fun k hk => by rw [(y2 k).1, q33, if_neg (by omega), q36]
      have en : (gI ρ 33 33).toNat = (gI σ 33 33).toNat + 1 := by
        rw [y1, q33]
        omega
      have cfe : ∀ (g : Int) (l : Nat), (l : Int) ≤ gI σ 33 33 → cf (gI ρ 36) g l = cf (gI σ 36) g l := fun g l hl => cf_congr l (fun i hi => r36 i (by omega))
      have f36 : gI ρ 36 (gI σ 33 33).toNat = f := by rw [(y2 _).1, q33, if_pos (by omega)]
      refine ⟨fun g hg => ?_, fun l hl => ?_⟩
      · rw [en, cf_s, cfe _ _ (by omega), f36, h38 g, q38, K.1 g hg]
        by_cases c : (g : Int) = f
        · rw [if_pos c, if_pos c.symm]
          omega
        · rw [if_neg c, if_neg (fun q => c q.symm)]
          omega
      · rw [y1, q33] at hl
        by_cases c : (l : Int) < gI σ 33 33
        · obtain ⟨h1, h2⟩ := K.2 l c
          rw [r36 l c, cfe _ _ (by omega), (y2 l).2, q33, if_neg (by omega), q37]
          refine ⟨h1, ?_⟩
          have h3 := cf_lt (F := gI σ 36) (f := gI σ 36 l) rfl (gI σ 33 33).toNat (by omega)
          have h4 := K.1 (gI σ 36 l).toNat (by omega)
          rw [show (((gI σ 36 l).toNat : Nat) : Int) = gI σ 36 l by omega] at h4
          have h5 := hb (gI σ 36 l).toNat (by omega)
          have hne : 4 * (gI σ 36 l).toNat + cf (gI σ 36) (gI σ 36 l) l ≠ (4 * f + gI σ 8 f.toNat).toNat := by
            rw [ej]
            by_cases cc : gI σ 36 l = f
            · rw [cc] at h3 ⊢
              omega
            · omega
          exact (h2.mv I (by omega) (x1 _ hne) oX).mv It (by omega) (e7 _) oF
        · have el : l = (gI σ 33 33).toNat := by omega
          subst el
          rw [f36, cfe _ _ (by omega), (y2 _).2, q33, if_pos (by omega), ← ej]
          exact ⟨⟨v1.1, v1.2, v2.1⟩, x2.mv It (by rw [ej]; omega) (e7 _) oF⟩
    · have := h.2.1
      omega
theorem HuX.add {σ ρ : VH} {b j : Nat} {r : Option Nat} {x : Int32} (eb : hN σ = b) (A : FrA b σ ρ) (h7 : 7 < b) : HuX σ (sI (sR ρ 26 j r) 2 12 x) := by
  refine ⟨fun v hv => ?_, fun k => ?_⟩
  · have h1 := hv.1
    have h2 := hv.2.1.2.1
    exact (gI_eq (sk1t (by omega) rfl)).trans (gI_eq (A.it (by omega) rfl))
  · rw [hR_sI, hR_sR, if_neg (fun e => absurd e.1 (by decide)), (A.2.2 7 h7).2.1]
