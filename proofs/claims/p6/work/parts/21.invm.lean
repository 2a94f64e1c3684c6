/-! the reference's invariant -/
/-- which law is in force: the last of the greatest day -/
def lff (F Y : Nat → Int) (f d : Int) : Nat → Int
  | 0 => -1
  | n + 1 => if F n = f ∧ Y n ≤ d ∧ (lff F Y f d n < 0 ∨ Y (lff F Y f d n).toNat ≤ Y n) then (n : Int) else lff F Y f d n
theorem lff_step {F Y : Nat → Int} {f d k : Int} (h : 0 ≤ k) : lff F Y f d (k + 1).toNat = if F k.toNat = f ∧ Y k.toNat ≤ d ∧ (lff F Y f d k.toNat < 0 ∨ Y (lff F Y f d k.toNat).toNat ≤ Y k.toNat) then k else lff F Y f d k.toNat := by
  have e : (k + 1).toNat = k.toNat + 1 := by omega
  have e2 : ((k.toNat : Nat) : Int) = k := by omega
  rw [e]
  show (if _ then ((k.toNat : Nat) : Int) else _) = _
  rw [e2]
theorem lff_lt (F Y : Nat → Int) (f d : Int) : ∀ n : Nat, -1 ≤ lff F Y f d n ∧ lff F Y f d n < n
  | 0 => by simp [lff]
  | n + 1 => by
    have h := lff_lt F Y f d n
    unfold lff
    split <;> omega
def lffc (σ : VH) (c : Int) : Int := lff (gI σ 36) (gI σ 37) (gI σ 58 (gI σ 71 c.toNat).toNat) (gI σ 72 c.toNat) (gI σ 33 33).toNat
theorem gI_row {σ τ : VH} {v : Nat} (h : ∀ k, hI τ v k = hI σ v k) : gI τ v = gI σ v := by
  funext k
  exact gI_eq (h k)
theorem lffc_fr {W : Wl} {σ τ : VH} {c : Int} (h : Fr W σ τ) (h1 : ∀ k, wr W 36 k = false) (h2 : ∀ k, wr W 37 k = false) (h3 : ∀ k, wr W 58 k = false) (h4 : ∀ k, wr W 71 k = false) (h5 : ∀ k, wr W 72 k = false) (h6 : wr W 33 33 = false) : lffc τ c = lffc σ c := by
  unfold lffc
  rw [gI_row (fun k => h.i 36 k (h1 k)), gI_row (fun k => h.i 37 k (h2 k)), gI_row (fun k => h.i 58 k (h3 k)), gI_row (fun k => h.i 71 k (h4 k)), gI_row (fun k => h.i 72 k (h5 k)), h.g 33 33 h6]
/-- a step of a when's text: what it takes of the pile and leaves there -/
def Cd (c n x y : Int) : Prop := (0 ≤ x ∧ x ≤ 60) ∧ (((c = 110 ∨ c = 119) ∧ y = x + 1 ∧ (c = 119 → 0 ≤ n ∧ n < 7)) ∨ (c = 126 ∧ 1 ≤ x ∧ y = x) ∨ (¬ c = 110 ∧ ¬ c = 119 ∧ ¬ c = 126 ∧ 2 ≤ x ∧ y = x - 1))
def SegOK (σ : VH) (b : Int) (w : Nat) : Prop := (0 ≤ gI σ 42 w ∧ gI σ 42 w ≤ gI σ 43 w ∧ gI σ 43 w ≤ 700) ∧ ∃ dp : Int → Int, dp (700 * b + gI σ 42 w) = 0 ∧ ∀ i : Int, 700 * b + gI σ 42 w ≤ i → i < 700 * b + gI σ 43 w → Cd (gI σ 51 i.toNat) (gI σ 52 i.toNat) (dp i) (dp (i + 1))
def Bank (σ : VH) (b : Nat) : Prop := ((0 ≤ gI σ 46 (4 * b) ∧ gI σ 46 (4 * b) ≤ 100) ∧ (0 ≤ gI σ 46 (4 * b + 1) ∧ gI σ 46 (4 * b + 1) ≤ 100) ∧ (0 ≤ gI σ 46 (4 * b + 2) ∧ gI σ 46 (4 * b + 2) ≤ 100) ∧ (0 ≤ gI σ 46 (4 * b + 3) ∧ gI σ 46 (4 * b + 3) ≤ 100) ∧ 1 ≤ gI σ 46 (4 * b) + gI σ 46 (4 * b + 1) + gI σ 46 (4 * b + 2) + gI σ 46 (4 * b + 3)) ∧ (1 ≤ gI σ 49 b ∧ gI σ 49 b ≤ 6) ∧ ∀ w : Nat, 16 * b ≤ w → (w : Int) < 16 * b + gI σ 41 b → SegOK σ b w
def CaseM (σ : VH) (c : Nat) : Prop := (0 ≤ gI σ 70 c ∧ gI σ 70 c < 20) ∧ (0 ≤ gI σ 71 c ∧ gI σ 71 c < 20) ∧ (0 ≤ gI σ 75 c → 1 ≤ gI σ 77 c ∧ gI σ 77 c ≤ 6)
def InvM2 (σ : VH) : Prop := (0 ≤ gI σ 33 33 ∧ gI σ 33 33 = gI σ 38 0 + gI σ 38 1 + gI σ 38 2 + gI σ 38 3) ∧ (∀ f : Nat, f < 4 → 0 ≤ gI σ 38 f ∧ gI σ 38 f ≤ 4) ∧ (∀ b : Nat, b < 17 → 0 ≤ gI σ 39 b ∧ gI σ 39 b ≤ 12) ∧ (∀ b : Nat, b < 17 → 0 ≤ gI σ 41 b ∧ gI σ 41 b ≤ 16) ∧ (∀ b : Nat, (b : Int) < gI σ 33 33 → Bank σ b)
def InvM3 (σ : VH) : Prop := (0 ≤ gI σ 33 66 ∧ gI σ 33 66 ≤ 20) ∧ ∀ c : Nat, (c : Int) < gI σ 33 66 → CaseM σ c
def InvM1 (σ : VH) : Prop := (0 ≤ gI σ 33 2 ∧ gI σ 33 2 ≤ 700) ∧ (0 ≤ gI σ 33 52 ∧ gI σ 33 52 ≤ 20) ∧ (0 ≤ gI σ 33 53 ∧ gI σ 33 53 ≤ 60) ∧ (0 ≤ gI σ 33 54 ∧ gI σ 33 54 ≤ 10) ∧ (0 ≤ gI σ 33 73 ∧ gI σ 33 73 ≤ 100) ∧ (0 ≤ gI σ 33 74 ∧ gI σ 33 74 ≤ 60) ∧ (0 ≤ gI σ 33 6 ∧ gI σ 33 6 ≤ 100000)
def InvM (σ : VH) : Prop := Lay σ ∧ InvM1 σ ∧ InvM2 σ ∧ InvM3 σ
theorem InvM2.laws {σ : VH} (h : InvM2 σ) : 0 ≤ gI σ 33 33 ∧ gI σ 33 33 ≤ 16 := by
  obtain ⟨h1, h2, -⟩ := h
  have a0 := h2 0 (by decide)
  have a1 := h2 1 (by decide)
  have a2 := h2 2 (by decide)
  have a3 := h2 3 (by decide)
  omega
theorem InvM2.eq {σ τ : VH} (h : InvM2 σ) (e38 : ∀ k, gI τ 38 k = gI σ 38 k) (e39 : ∀ k, gI τ 39 k = gI σ 39 k) (e41 : ∀ k, gI τ 41 k = gI σ 41 k) (e42 : ∀ k, gI τ 42 k = gI σ 42 k) (e43 : ∀ k, gI τ 43 k = gI σ 43 k) (e46 : ∀ k, gI τ 46 k = gI σ 46 k) (e49 : ∀ k, gI τ 49 k = gI σ 49 k) (e51 : ∀ k, gI τ 51 k = gI σ 51 k) (e52 : ∀ k, gI τ 52 k = gI σ 52 k) (e33 : gI τ 33 33 = gI σ 33 33) : InvM2 τ := by
  unfold InvM2 Bank SegOK at *
  simp only [e38, e39, e41, e42, e43, e46, e49, e51, e52, e33]
  exact h
theorem InvM3.eq {σ τ : VH} (h : InvM3 σ) (e70 : ∀ k, gI τ 70 k = gI σ 70 k) (e71 : ∀ k, gI τ 71 k = gI σ 71 k) (e75 : ∀ k, gI τ 75 k = gI σ 75 k) (e77 : ∀ k, gI τ 77 k = gI σ 77 k) (e : gI τ 33 66 = gI σ 33 66) : InvM3 τ := by
  unfold InvM3 CaseM at *
  simp only [e70, e71, e75, e77, e]
  exact h
theorem InvM2.fr {W : Wl} {σ τ : VH} (h : Fr W σ τ) (I : InvM2 σ) (w38 : ∀ k, wr W 38 k = false) (w39 : ∀ k, wr W 39 k = false) (w41 : ∀ k, wr W 41 k = false) (w42 : ∀ k, wr W 42 k = false) (w43 : ∀ k, wr W 43 k = false) (w46 : ∀ k, wr W 46 k = false) (w49 : ∀ k, wr W 49 k = false) (w51 : ∀ k, wr W 51 k = false) (w52 : ∀ k, wr W 52 k = false) (w33 : wr W 33 33 = false) : InvM2 τ :=
  I.eq (fun k => h.g 38 k (w38 k)) (fun k => h.g 39 k (w39 k)) (fun k => h.g 41 k (w41 k)) (fun k => h.g 42 k (w42 k)) (fun k => h.g 43 k (w43 k)) (fun k => h.g 46 k (w46 k)) (fun k => h.g 49 k (w49 k)) (fun k => h.g 51 k (w51 k)) (fun k => h.g 52 k (w52 k)) (h.g 33 33 w33)
theorem InvM3.fr {W : Wl} {σ τ : VH} (h : Fr W σ τ) (I : InvM3 σ) (w70 : ∀ k, wr W 70 k = false) (w71 : ∀ k, wr W 71 k = false) (w75 : ∀ k, wr W 75 k = false) (w77 : ∀ k, wr W 77 k = false) (w33 : wr W 33 66 = false) : InvM3 τ :=
  I.eq (fun k => h.g 70 k (w70 k)) (fun k => h.g 71 k (w71 k)) (fun k => h.g 75 k (w75 k)) (fun k => h.g 77 k (w77 k)) (h.g 33 66 w33)
/-- behind a method that writes none of the banks and cases -/
theorem InvM.fr {W : Wl} {σ τ : VH} (h : Fr W σ τ) (I : InvM σ) (i1 : InvM1 τ) (w2 : ([38, 39, 41, 42, 43, 46, 49, 51, 52, 70, 71, 75, 77].all (fun v => W.all (fun q => !(q.1 == v))) && !(wr W 33 33) && !(wr W 33 66)) = true) : InvM τ := by
  simp only [Bool.and_eq_true, Bool.not_eq_true', List.all_eq_true] at w2
  obtain ⟨⟨w2, w3⟩, w4⟩ := w2
  have k0 : ∀ v, v ∈ [38, 39, 41, 42, 43, 46, 49, 51, 52, 70, 71, 75, 77] → ∀ k, wr W v k = false := by
    intro v hv k
    unfold wr
    rw [List.any_eq_false]
    intro q hq
    have h9 := w2 v hv q hq
    simp only [Bool.and_eq_true, not_and]
    intro h8
    rw [h8] at h9
    cases h9
  exact ⟨h.lay I.1, i1, I.2.2.1.fr h (k0 38 (by decide)) (k0 39 (by decide)) (k0 41 (by decide)) (k0 42 (by decide)) (k0 43 (by decide)) (k0 46 (by decide)) (k0 49 (by decide)) (k0 51 (by decide)) (k0 52 (by decide)) w3, I.2.2.2.fr h (k0 70 (by decide)) (k0 71 (by decide)) (k0 75 (by decide)) (k0 77 (by decide)) w4⟩
