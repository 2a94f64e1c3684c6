/-! the class's reader at token j of the tokens tk at the places pl, END the m-th -/
theorem FrX.lay {b : Nat} {W : Wl} {σ τ : VH} (h : FrX b W σ τ) (J : Lay σ) : Lay τ := h.1.lay J
def TkE (σ : VH) (tk pl : Nat → Int) (m : Nat) : Prop := (∀ j, j ≤ m → tkr σ j = tk j) ∧ (∀ j, j ≤ m → gI σ 6 j = pl j) ∧ gI σ 4 2 = (m : Int) + 1 ∧ ∀ j, j ≤ m → TV (tk j)
def RdS (σ : VH) (b : Nat) (tk pl : Nat → Int) (m j : Nat) : Prop := RdX σ b ∧ TkE σ tk pl m ∧ (gI σ (b + 9) 2 = (j : Int) ∧ j ≤ m) ∧ (hL σ (b + 9) 3).toInt = tk j ∧ (gI σ (b + 9) 8 = 0 ∧ gI σ (b + 9) 9 = -1)
def Fl (τ : VH) (b : Nat) (pl : Nat → Int) (f : Int) (j : Nat) : Prop := gI τ (b + 9) 8 = f ∧ gI τ (b + 9) 9 = pl j
theorem TkE.fr {b : Nat} {W : Wl} {σ τ : VH} {tk pl : Nat → Int} {m : Nat} (h : TkE σ tk pl m) (F : FrX b W σ τ) (hb : 87 ≤ b) : TkE τ tk pl m := ⟨fun j hj => by rw [F.tk hb]; exact h.1 j hj, fun j hj => by rw [F.pl hb]; exact h.2.1 j hj, by rw [F.ct hb]; exact h.2.2.1, h.2.2.2⟩
theorem RdS.fr {b : Nat} {W : Wl} {σ τ : VH} {tk pl : Nat → Int} {m j : Nat} (h : RdS σ b tk pl m j) (F : FrX b W σ τ) (R : RdX τ b) (w2 : wr W 9 2 = false) (w3 : wr W 9 3 = false) (w8 : wr W 9 8 = false) (w9 : wr W 9 9 = false) : RdS τ b tk pl m j := ⟨R, h.2.1.fr F h.1.1.1, ⟨(gI_eq (FrX.it 9 F w2 rfl)).trans h.2.2.1.1, h.2.2.1.2⟩, (congrArg Int64.toInt (FrX.lt 9 F w3 rfl)).trans h.2.2.2.1, (gI_eq (FrX.it 9 F w8 rfl)).trans h.2.2.2.2.1, (gI_eq (FrX.it 9 F w9 rfl)).trans h.2.2.2.2.2⟩
theorem Fl.fr {b : Nat} {W : Wl} {σ τ : VH} {pl : Nat → Int} {f : Int} {j : Nat} (h : Fl σ b pl f j) (F : FrX b W σ τ) (w2 : wr W 9 8 = false) (w3 : wr W 9 9 = false) : Fl τ b pl f j := ⟨(gI_eq (FrX.it 9 F w2 rfl)).trans h.1, (gI_eq (FrX.it 9 F w3 rfl)).trans h.2⟩
theorem adv_le {m j : Nat} (h : j ≤ m) : adv m j ≤ m := by
  unfold adv
  split <;> omega
/-- what a step gives: on, at its token; or refused -/
def Rt (τ : VH) (b : Nat) (tk pl : Nat → Int) (m : Nat) (z : Int) (r : Int × Nat) : Prop := (z = 1 ∧ r.1 = 0 ∧ RdS τ b tk pl m r.2) ∨ (z = 0 ∧ ¬ r.1 = 0 ∧ Fl τ b pl r.1 r.2)
def RtS (τ : VH) (b : Nat) (tk pl : Nat → Int) (m : Nat) (z : Int) (r : Rs) : Prop := (z = 1 ∧ r.1 = 0 ∧ RdS τ b tk pl m r.2.1 ∧ gI τ (b + 9) 4 = r.2.2) ∨ (z = 0 ∧ ¬ r.1 = 0 ∧ Fl τ b pl r.1 r.2.1)
noncomputable def numR (tk : Nat → Int) (m j : Nat) (lo hi : Int) : Int × Nat := cif (0 ≤ tk j) (flt tk j 2, j) (cif (-1 - tk j < lo ∨ hi < -1 - tk j) (4, j) (0, adv m j))
noncomputable def exR (tk : Nat → Int) (m j : Nat) (t : Int) : Int × Nat := cif (tk j = t) (0, adv m j) (flt tk j 2, j)
noncomputable def thn (r : Int × Nat) (f : Nat → Int × Nat) : Int × Nat := cif (r.1 = 0) (f r.2) r
theorem exR_t {tk : Nat → Int} {m j : Nat} {t : Int} (h : tk j = t) : exR tk m j t = (0, adv m j) := cif_pos h
theorem exR_f {tk : Nat → Int} {m j : Nat} {t : Int} (h : ¬ tk j = t) : exR tk m j t = (flt tk j 2, j) := cif_neg h
theorem numR_2 {tk : Nat → Int} {m j : Nat} {lo hi : Int} (h : 0 ≤ tk j) : numR tk m j lo hi = (flt tk j 2, j) := cif_pos h
theorem numR_4 {tk : Nat → Int} {m j : Nat} {lo hi : Int} (h : tk j < 0) (g : -1 - tk j < lo ∨ hi < -1 - tk j) : numR tk m j lo hi = (4, j) := by
  unfold numR
  rw [cif_neg (by omega), cif_pos g]
theorem numR_0 {tk : Nat → Int} {m j : Nat} {lo hi : Int} (h : tk j < 0) (g1 : lo ≤ -1 - tk j) (g2 : -1 - tk j ≤ hi) : numR tk m j lo hi = (0, adv m j) := by
  unfold numR
  rw [cif_neg (by omega), cif_neg (by omega)]
theorem Rt.ok {τ : VH} {b : Nat} {tk pl : Nat → Int} {m j : Nat} {r : Int × Nat} (e : r = (0, j)) (h : RdS τ b tk pl m j) : Rt τ b tk pl m 1 r := by
  subst e
  exact Or.inl ⟨rfl, rfl, h⟩
theorem Rt.no {τ : VH} {b : Nat} {tk pl : Nat → Int} {m j : Nat} {f : Int} {r : Int × Nat} (e : r = (f, j)) (hf : ¬ f = 0) (h : Fl τ b pl f j) : Rt τ b tk pl m 0 r := by
  subst e
  exact Or.inr ⟨rfl, hf, h⟩
theorem RtS.ok {τ : VH} {b : Nat} {tk pl : Nat → Int} {m j : Nat} {s : Int} {r : Rs} (e : r = (0, j, s)) (h : RdS τ b tk pl m j) (hs : gI τ (b + 9) 4 = s) : RtS τ b tk pl m 1 r := by
  subst e
  exact Or.inl ⟨rfl, rfl, h, hs⟩
theorem RtS.no {τ : VH} {b : Nat} {tk pl : Nat → Int} {m j : Nat} {f s : Int} {r : Rs} (e : r = (f, j, s)) (hf : ¬ f = 0) (h : Fl τ b pl f j) : RtS τ b tk pl m 0 r := by
  subst e
  exact Or.inr ⟨rfl, hf, h⟩
theorem thn_f {r : Int × Nat} {f : Nat → Int × Nat} (h : ¬ r.1 = 0) : thn r f = r := cif_neg h
theorem thn_t {r : Int × Nat} {f : Nat → Int × Nat} (h : r.1 = 0) : thn r f = f r.2 := cif_pos h
/-- the static rows -/
def SRw (σ : VH) : Prop := (∀ j, hL σ 0 j = nnl.getD j 0) ∧ (∀ j, hL σ 1 j = fwl.getD j 0)
theorem SRw.fr {b : Nat} {W : Wl} {σ τ : VH} (h : SRw σ) (F : FrX b W σ τ) (hb : 87 ≤ b) : SRw τ := ⟨fun j => ((F.1.2.2.2 0 j (by omega)).2).trans (h.1 j), fun j => ((F.1.2.2.2 1 j (by omega)).2).trans (h.2 j)⟩
theorem fwl_in {t : Int} : (∃ j : Nat, j < 7 ∧ (fwl.getD j 0).toInt = t) ↔ Fw t := by
  unfold Fw
  constructor
  · rintro ⟨j, hj, h⟩
    have hq : j = 0 ∨ j = 1 ∨ j = 2 ∨ j = 3 ∨ j = 4 ∨ j = 5 ∨ j = 6 := by omega
    rcases hq with rfl | rfl | rfl | rfl | rfl | rfl | rfl
    · exact Or.inl (h.symm.trans (by decide))
    · exact Or.inr (Or.inl (h.symm.trans (by decide)))
    · exact Or.inr (Or.inr (Or.inl (h.symm.trans (by decide))))
    · exact Or.inr (Or.inr (Or.inr (Or.inl (h.symm.trans (by decide)))))
    · exact Or.inr (Or.inr (Or.inr (Or.inr (Or.inl (h.symm.trans (by decide))))))
    · exact Or.inr (Or.inr (Or.inr (Or.inr (Or.inr (Or.inl (h.symm.trans (by decide)))))))
    · exact Or.inr (Or.inr (Or.inr (Or.inr (Or.inr (Or.inr (h.symm.trans (by decide)))))))
  · rintro (h | h | h | h | h | h | h)
    · exact ⟨0, by decide, h ▸ (by decide)⟩
    · exact ⟨1, by decide, h ▸ (by decide)⟩
    · exact ⟨2, by decide, h ▸ (by decide)⟩
    · exact ⟨3, by decide, h ▸ (by decide)⟩
    · exact ⟨4, by decide, h ▸ (by decide)⟩
    · exact ⟨5, by decide, h ▸ (by decide)⟩
    · exact ⟨6, by decide, h ▸ (by decide)⟩
theorem TV.lo {t : Int} (h : TV t) : -1000000 ≤ t := by
  rcases h with h | h | h | h | h
  · have := h.bd
    omega
  · unfold Sg at h
    omega
  · omega
  · omega
  · omega
theorem numv {x w : Int64} {t z : Int} (hx : x.toInt = t) (h : TV t) (h0 : t < 0) (e1 : w = x ^^^ -1) (e2 : w.toInt32 = iz z) (hz : -2147483648 ≤ z ∧ z < 2147483648) : z = -1 - t := by
  have h1 := h.lo
  have h2 : w.toInt = -1 - t := by rw [e1, xorm, hx]
  have h3 := congrArg Int32.toInt e2
  rw [Int64.toInt_toInt32, h2, izt hz, Int.bmod_eq_of_le (by omega) (by omega)] at h3
  exact h3.symm
theorem Rt.is1 {τ : VH} {b : Nat} {tk pl : Nat → Int} {m : Nat} {z : Int} {r : Int × Nat} (h : Rt τ b tk pl m z r) (hz : ¬ z = 0) : r.1 = 0 ∧ RdS τ b tk pl m r.2 := by
  rcases h with ⟨-, h⟩ | ⟨h, -⟩
  · exact h
  · exact absurd h hz
theorem Rt.is0 {τ : VH} {b : Nat} {tk pl : Nat → Int} {m : Nat} {z : Int} {r : Int × Nat} (h : Rt τ b tk pl m z r) (hz : z = 0) : ¬ r.1 = 0 ∧ Fl τ b pl r.1 r.2 := by
  rcases h with ⟨h, -⟩ | ⟨-, h⟩
  · omega
  · exact h
theorem RtS.is1 {τ : VH} {b : Nat} {tk pl : Nat → Int} {m : Nat} {z : Int} {r : Rs} (h : RtS τ b tk pl m z r) (hz : ¬ z = 0) : r.1 = 0 ∧ RdS τ b tk pl m r.2.1 ∧ gI τ (b + 9) 4 = r.2.2 := by
  rcases h with ⟨-, h⟩ | ⟨h, -⟩
  · exact h
  · exact absurd h hz
theorem RtS.is0 {τ : VH} {b : Nat} {tk pl : Nat → Int} {m : Nat} {z : Int} {r : Rs} (h : RtS τ b tk pl m z r) (hz : z = 0) : ¬ r.1 = 0 ∧ Fl τ b pl r.1 r.2.1 := by
  rcases h with ⟨h, -⟩ | ⟨-, h⟩
  · omega
  · exact h
theorem RtS.fr {b : Nat} {W : Wl} {σ τ : VH} {tk pl : Nat → Int} {m : Nat} {z : Int} {r : Rs} (h : RtS σ b tk pl m z r) (F : FrX b W σ τ) (R : RdX τ b) (w : (!(wr W 9 2) && !(wr W 9 3) && !(wr W 9 4) && !(wr W 9 8) && !(wr W 9 9)) = true) : RtS τ b tk pl m z r := by
  simp only [Bool.and_eq_true, Bool.not_eq_true'] at w
  obtain ⟨⟨⟨⟨w2, w3⟩, w4⟩, w8⟩, w9⟩ := w
  rcases h with ⟨h1, h2, h3, h4⟩ | ⟨h1, h2, h3⟩
  · exact Or.inl ⟨h1, h2, h3.fr F R w2 w3 w8 w9, (gI_eq (FrX.it 9 F w4 rfl)).trans h4⟩
  · exact Or.inr ⟨h1, h2, h3.fr F w8 w9⟩
theorem fwp {σ : VH} {x : Int64} {t z : Int} (hs : SRw σ) (hx : x.toInt = t) (h : (z = -1 ∧ ∀ i : Nat, i < 7 → ¬ (hL σ 1 i).toInt = x.toInt) ∨ (0 ≤ z ∧ z < ((7 : Nat) : Int) ∧ (hL σ 1 z.toNat).toInt = x.toInt)) : z = -1 ↔ ¬ Fw t := by
  rw [hx] at h
  rcases h with ⟨h1, h2⟩ | ⟨h1, h2, h3⟩
  · refine ⟨fun _ hf => ?_, fun _ => h1⟩
    obtain ⟨i, hi, e⟩ := fwl_in.mpr hf
    exact h2 i hi (by rw [hs.2 i]; exact e)
  · refine ⟨fun e => by omega, fun hf => absurd (fwl_in.mp ⟨z.toNat, by omega, ?_⟩) hf⟩
    rw [← hs.2]
    exact h3
def NmR (τ : VH) (b : Nat) (tk pl : Nat → Int) (m j : Nat) (lo hi z : Int) : Prop := (z = -1 ∧ ¬ (numR tk m j lo hi).1 = 0 ∧ Fl τ b pl (numR tk m j lo hi).1 (numR tk m j lo hi).2) ∨ (0 ≤ z ∧ z = -1 - tk j ∧ numR tk m j lo hi = (0, adv m j) ∧ RdS τ b tk pl m (adv m j))
theorem NmR.no {τ : VH} {b : Nat} {tk pl : Nat → Int} {m j : Nat} {lo hi z : Int} (h : NmR τ b tk pl m j lo hi z) (hz : z = -1) : ¬ (numR tk m j lo hi).1 = 0 ∧ Fl τ b pl (numR tk m j lo hi).1 (numR tk m j lo hi).2 := by
  rcases h with ⟨-, h⟩ | ⟨h, -⟩
  · exact h
  · omega
theorem NmR.ok {τ : VH} {b : Nat} {tk pl : Nat → Int} {m j : Nat} {lo hi z : Int} (h : NmR τ b tk pl m j lo hi z) (hz : ¬ z = -1) : 0 ≤ z ∧ z = -1 - tk j ∧ numR tk m j lo hi = (0, adv m j) ∧ RdS τ b tk pl m (adv m j) := by
  rcases h with ⟨h, -⟩ | h
  · exact absurd h hz
  · exact h
theorem thn_ok {r : Int × Nat} {f : Nat → Int × Nat} {j : Nat} (e : r = (0, j)) : thn r f = f j := by
  subst e
  exact cif_pos rfl
