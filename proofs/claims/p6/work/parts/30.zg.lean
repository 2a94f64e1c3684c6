/-! the reader's frame by fields: (o, k) is field k of cell b + o -/
def FrX (b : Nat) (W : Wl) (σ τ : VH) : Prop := FrD b σ τ ∧ ∀ o k, o ≤ 9 → wr W o k = false → hI τ (b + o) k = hI σ (b + o) k ∧ hL τ (b + o) k = hL σ (b + o) k
theorem FrX.rf (b : Nat) (W : Wl) (σ : VH) : FrX b W σ σ := ⟨FrD.rf b σ, fun _ _ _ _ => ⟨rfl, rfl⟩⟩
theorem FrX.tr {b : Nat} {W : Wl} {σ τ ρ : VH} (h : FrX b W σ τ) (g : FrX b W τ ρ) : FrX b W σ ρ := ⟨h.1.tr g.1, fun o k e0 e => ⟨(g.2 o k e0 e).1.trans (h.2 o k e0 e).1, (g.2 o k e0 e).2.trans (h.2 o k e0 e).2⟩⟩
theorem FrX.mono {b : Nat} {W V : Wl} {σ τ : VH} (h : FrX b W σ τ) (s : Wsub W V = true) : FrX b V σ τ := ⟨h.1, fun o k e0 e => h.2 o k e0 (wr_sub s e)⟩
theorem FrX.pI {b : Nat} {W : Wl} {σ τ : VH} {j : Nat} {x : Int32} (o : Nat) (h : FrX b W σ τ) (ho : o ≤ 9) (s : wr W o j = true) : FrX b W σ (sI τ (b + o) j x) := ⟨h.1.pI (by omega), fun p k e0 e => ⟨by
  rw [hI_sI, if_neg]
  · exact (h.2 p k e0 e).1
  · rintro ⟨q1, rfl⟩
    have q2 : p = o := by omega
    subst q2
    rw [s] at e
    exact Bool.noConfusion e, (h.2 p k e0 e).2⟩⟩
theorem FrX.pL {b : Nat} {W : Wl} {σ τ : VH} {j : Nat} {x : Int64} (o : Nat) (h : FrX b W σ τ) (ho : o ≤ 9) (s : wr W o j = true) : FrX b W σ (sL τ (b + o) j x) := ⟨h.1.pL (by omega), fun p k e0 e => ⟨(h.2 p k e0 e).1, by
  rw [hL_sL, if_neg]
  · exact (h.2 p k e0 e).2
  · rintro ⟨q1, rfl⟩
    have q2 : p = o := by omega
    subst q2
    rw [s] at e
    exact Bool.noConfusion e⟩⟩
theorem FrX.it {b : Nat} {W : Wl} {σ τ : VH} {k : Nat} {y : Int32} (o : Nat) (h : FrX b W σ τ) (e : wr W o k = false) (p : hI σ (b + o) k = y) (ho : o ≤ 9 := by decide) : hI τ (b + o) k = y := ((h.2 o k ho e).1).trans p
theorem FrX.lt {b : Nat} {W : Wl} {σ τ : VH} {k : Nat} {y : Int64} (o : Nat) (h : FrX b W σ τ) (e : wr W o k = false) (p : hL σ (b + o) k = y) (ho : o ≤ 9 := by decide) : hL τ (b + o) k = y := ((h.2 o k ho e).2).trans p
theorem FrX.tk {b : Nat} {W : Wl} {σ τ : VH} (h : FrX b W σ τ) (hb : 87 ≤ b) : tkr τ = tkr σ := funext fun j => congrArg Int64.toInt (h.1.2.2.2 5 j (by omega)).2
theorem FrX.pl {b : Nat} {W : Wl} {σ τ : VH} (h : FrX b W σ τ) (hb : 87 ≤ b) : gI τ 6 = gI σ 6 := funext fun j => gI_eq (h.1.2.2.2 6 j (by omega)).1
theorem FrX.ct {b : Nat} {W : Wl} {σ τ : VH} (h : FrX b W σ τ) (hb : 87 ≤ b) : gI τ 4 2 = gI σ 4 2 := gI_eq (h.1.2.2.2 4 2 (by omega)).1
section ZJ
variable {κ : Kx} {γ : Gh} {cc : ByteArray} {nL D : Nat} {own nm : String} {ret : Option FieldType} {σ : VH} {cells slots pc : Nat} {Q : State → Prop} {ls : List (Nat × Value)} {st : List Value}
theorem zi_lci_eq {x y : Int64} (K : Int) {off : Int} {tgt : Nat} (O : OK κ γ cc nL own D ret nm) (d : decode cc pc = .ok (.ifCond .eq off, 3)) (ht : (pc : Int) + off = (tgt : Int)) (hK : y.toInt = K) (kt : x.toInt = K → Z κ γ nL σ cells slots Q tgt ls st) (kf : ¬ x.toInt = K → Z κ γ nL σ cells slots Q (pc + 3) ls st) : Z κ γ nL σ cells slots Q pc ls (.int (lg_cmp x y) :: st) := zi_lc_eq O d ht (fun h => kt (by rw [h, hK])) (fun h => kf (fun e => h (l_inj (e.trans hK.symm))))
theorem zi_lci_ne {x y : Int64} (K : Int) {off : Int} {tgt : Nat} (O : OK κ γ cc nL own D ret nm) (d : decode cc pc = .ok (.ifCond .ne off, 3)) (ht : (pc : Int) + off = (tgt : Int)) (hK : y.toInt = K) (kt : ¬ x.toInt = K → Z κ γ nL σ cells slots Q tgt ls st) (kf : x.toInt = K → Z κ γ nL σ cells slots Q (pc + 3) ls st) : Z κ γ nL σ cells slots Q pc ls (.int (lg_cmp x y) :: st) := zi_lc_ne O d ht (fun h => kt (fun e => h (l_inj (e.trans hK.symm)))) (fun h => kf (by rw [h, hK]))
theorem zi_lci_lt {x y : Int64} (K : Int) {off : Int} {tgt : Nat} (O : OK κ γ cc nL own D ret nm) (d : decode cc pc = .ok (.ifCond .lt off, 3)) (ht : (pc : Int) + off = (tgt : Int)) (hK : y.toInt = K) (kt : x.toInt < K → Z κ γ nL σ cells slots Q tgt ls st) (kf : K ≤ x.toInt → Z κ γ nL σ cells slots Q (pc + 3) ls st) : Z κ γ nL σ cells slots Q pc ls (.int (lg_cmp x y) :: st) := zi_lc_lt O d ht (fun h => kt (hK ▸ Int64.lt_iff_toInt_lt.mp h)) (fun h => kf (by
  have h9 : ¬ x.toInt < y.toInt := fun e => h (Int64.lt_iff_toInt_lt.mpr e)
  omega))
theorem zi_lci_ge {x y : Int64} (K : Int) {off : Int} {tgt : Nat} (O : OK κ γ cc nL own D ret nm) (d : decode cc pc = .ok (.ifCond .ge off, 3)) (ht : (pc : Int) + off = (tgt : Int)) (hK : y.toInt = K) (kt : K ≤ x.toInt → Z κ γ nL σ cells slots Q tgt ls st) (kf : x.toInt < K → Z κ γ nL σ cells slots Q (pc + 3) ls st) : Z κ γ nL σ cells slots Q pc ls (.int (lg_cmp x y) :: st) := zi_lc_ge O d ht (fun h => kt (hK ▸ Int64.le_iff_toInt_le.mp h)) (fun h => kf (by
  have h9 : ¬ y.toInt ≤ x.toInt := fun e => h (Int64.le_iff_toInt_le.mpr e)
  omega))
/-- two longs, by their numbers -/
theorem zi_lcj_ne {x y : Int64} {off : Int} {tgt : Nat} (O : OK κ γ cc nL own D ret nm) (d : decode cc pc = .ok (.ifCond .ne off, 3)) (ht : (pc : Int) + off = (tgt : Int)) (kt : ¬ x.toInt = y.toInt → Z κ γ nL σ cells slots Q tgt ls st) (kf : x.toInt = y.toInt → Z κ γ nL σ cells slots Q (pc + 3) ls st) : Z κ γ nL σ cells slots Q pc ls (.int (lg_cmp x y) :: st) := zi_lc_ne O d ht (fun h => kt (fun e => h (l_inj e))) (fun h => kf (by rw [h]))
theorem zi_lcj_eq {x y : Int64} {off : Int} {tgt : Nat} (O : OK κ γ cc nL own D ret nm) (d : decode cc pc = .ok (.ifCond .eq off, 3)) (ht : (pc : Int) + off = (tgt : Int)) (kt : x.toInt = y.toInt → Z κ γ nL σ cells slots Q tgt ls st) (kf : ¬ x.toInt = y.toInt → Z κ γ nL σ cells slots Q (pc + 3) ls st) : Z κ γ nL σ cells slots Q pc ls (.int (lg_cmp x y) :: st) := zi_lc_eq O d ht (fun h => kt (by rw [h])) (fun h => kf (fun e => h (l_inj e)))
end ZJ
