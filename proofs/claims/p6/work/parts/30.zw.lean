/-! the Law and its Reader before the text is read, as what a text begins with -/
theorem hL_nf (b k : Nat) (sh : Nat × Nat) (σ : VH) (v j : Nat) : hL (nf b k sh σ) v j = if v = hN σ then 0 else hL σ v j := rfl
theorem hL_sh4 (b : Nat) (σ : VH) (v j : Nat) : hL (sh4 b σ) v j = if v = hN σ then 0 else hL σ v j := rfl
theorem in_X1_L1 {b : Nat} {d : Int32} {N : Nat} {σ : VH} (h : hN σ = b + 1) (k : Nat) : hL (in_X1 b d N σ) (b + 1) k = 0 := by
  unfold in_X1
  simp only [hL_nf, hL_sI, hL_sh4, hN_nf, hN_sI, hN_sh4, h]
  repeat (first | rw [if_neg (by omega)] | rw [if_pos (by omega)] | rw [if_pos trivial])
theorem mk_tx {σ : VH} {d : Int32} {N : Nat} {S : Int → Int} {n : Int} (J : Lay σ) (h4 : 1 ≤ gI σ 4 2 ∧ gI σ 4 2 ≤ 701) (hN' : N < 2147483648) (T : TS S n (tkr σ) (gI σ 6) ((gI σ 4 2).toNat - 1)) : TxS (mk_law σ d N) (hN σ) (tkr σ) (gI σ 6) ((gI σ 4 2).toNat - 1) st00 := by
  have h87 := J.1
  have hb : hN (sN σ (1, 0)) = hN σ + 1 := hN_sN _ _
  have n9 : hN (in_X1 (hN σ) d N (sN σ (1, 0))) = hN σ + 9 := by rw [hN_X1, hb]
  have h0 : ∀ k, hI (sN σ (1, 0)) (hN σ) k = 0 := fun k => by rw [hI_sN, if_pos rfl]
  have fA : FrA (hN σ + 9) (in_X1 (hN σ) d N (sN σ (1, 0))) (mk_law σ d N) := (FrA.nw (FrA.rf (by rw [n9]; exact Nat.le_refl _))).tr (FrA.X4 (by rw [hN_sN, n9]; omega) (Nat.le_refl _))
  have ei : ∀ k, k ≠ 9 → gI (mk_law σ d N) (hN σ + 9) k = 0 := fun k hk => gI_iz (by
    show hI (sI (sN (in_X1 (hN σ) d N (sN σ (1, 0))) (4, 0)) (hN σ + 9) 9 (-1)) (hN σ + 9) k = 0
    rw [hI_sI, if_neg (fun e => hk e.2), hI_sN, if_pos n9.symm]) (by decide)
  have e9 : gI (mk_law σ d N) (hN σ + 9) 9 = -1 := gI_iz (by
    show hI (sI (sN (in_X1 (hN σ) d N (sN σ (1, 0))) (4, 0)) (hN σ + 9) 9 (-1)) (hN σ + 9) 9 = -1
    rw [hI_sI, if_pos ⟨rfl, rfl⟩]) (by decide)
  have eb : ∀ k, k ≠ 0 → k ≠ 7 → k ≠ 8 → gI (mk_law σ d N) (hN σ) k = 0 := fun k q1 q2 q3 => gI_iz (fA.it (by omega) (by rw [in_X1_I hb h0 k ⟨q1, q2, q3⟩]; rfl)) (by decide)
  have en : ∀ i, nmx (mk_law σ d N) (hN σ) i = 0 := fun i => by
    show (hL (mk_law σ d N) (hN σ + 1) i).toInt = 0
    rw [congrFun (fA.2.2 (hN σ + 1) (by omega)).2.2.2 i, in_X1_L1 hb]
    rfl
  have fS := mk_law_fr (σ := σ) (d := d) (N := N)
  have et : ∀ j, tkr (mk_law σ d N) j = tkr σ j := fun j => congrArg Int64.toInt (congrFun (fS.2.2 5 (by omega)).2.2.2 j)
  have ep : ∀ j, gI (mk_law σ d N) 6 j = gI σ 6 j := fun j => gI_eq (congrFun (fS.2.2 6 (by omega)).2.2.1 j)
  have ec : gI (mk_law σ d N) 4 2 = gI σ 4 2 := gI_eq (congrFun (fS.2.2 4 (by omega)).2.2.1 2)
  have e3 : (hL (mk_law σ d N) (hN σ + 9) 3).toInt = tkr σ 0 := by
    show (hL (sL (sR (sR (sI (sN (in_X1 (hN σ) d N (sN σ (1, 0))) (4, 0)) (hN σ + 9) 9 (-1)) (hN σ + 9) 0 (some 4)) (hN σ + 9) 1 (some (hN σ))) (hN σ + 9) 3 (hL (sN (in_X1 (hN σ) d N (sN σ (1, 0))) (4, 0)) 5 0)) (hN σ + 9) 3).toInt = tkr σ 0
    rw [hL_sL, if_pos ⟨rfl, rfl⟩, hL_sN, if_neg (by omega)]
    have fB : FrA (hN σ) σ (in_X1 (hN σ) d N (sN σ (1, 0))) := (FrA.nw (FrA.rf (Nat.le_refl _))).tr (FrA.X1 (by rw [hN_sN]; omega) (Nat.le_refl _))
    exact congrArg Int64.toInt (congrFun (fB.2.2 5 (by omega)).2.2.2 0)
  refine ⟨⟨mk_law_ok J h4 hN', ⟨fun j _ => et j, fun j _ => ep j, by rw [ec]; omega, fun j hj => T.tv hj⟩, ⟨ei 2 (by decide), Nat.zero_le _⟩, e3, ei 8 (by decide), e9⟩, ⟨ei 4 (by decide), Int.le_refl 0⟩, ⟨eb 3 (by decide) (by decide) (by decide), fun i hi => ?_, fun i _ _ => en i⟩, eb 4 (by decide) (by decide) (by decide), ⟨ei 5 (by decide), ei 6 (by decide), ei 7 (by decide)⟩, Or.inl (ei 5 (by decide)), Or.inl (ei 6 (by decide)), Or.inl (ei 7 (by decide))⟩
  have hi2 : (i : Int) < 0 := hi
  omega
theorem SRw.frA {n : Nat} {σ τ : VH} (h : SRw σ) (F : FrA n σ τ) (hn : 87 ≤ n) : SRw τ := ⟨fun j => (congrFun (F.2.2 0 (by omega)).2.2.2 j).trans (h.1 j), fun j => (congrFun (F.2.2 1 (by omega)).2.2.2 j).trans (h.2 j)⟩
theorem SRw.frW {W : Wl} {σ τ : VH} (h : SRw σ) (F : FrG W σ τ) (w0 : ∀ k, wr W 0 k = false) (w1 : ∀ k, wr W 1 k = false) : SRw τ := ⟨fun j => ((F.2 0 j (by decide) (w0 j)).2).trans (h.1 j), fun j => ((F.2 1 j (by decide) (w1 j)).2).trans (h.2 j)⟩
