theorem InvM2.seg {σ : VH} (h : InvM2 σ) {b w : Int} (h0 : 0 ≤ b) (h1 : b < gI σ 33 33) (h2 : 16 * b ≤ w) (h3 : w < 16 * b + gI σ 41 (b.toNat)) : SegOK σ b w.toNat := by
  have hb := h.2.2.2.2 b.toNat (by omega)
  have e : ((b.toNat : Nat) : Int) = b := by omega
  have h9 := hb.2.2 w.toNat (by omega) (by omega)
  rw [e] at h9
  exact h9
theorem InvM2.bank {σ : VH} (h : InvM2 σ) {b : Int} (h0 : 0 ≤ b) (h1 : b < gI σ 33 33) : Bank σ b.toNat := h.2.2.2.2 b.toNat (by omega)
theorem SegOK.fr {W : Wl} {σ τ : VH} {b : Int} {w : Nat} (h : Fr W σ τ) (g : SegOK σ b w) (w42 : ∀ k, wr W 42 k = false) (w43 : ∀ k, wr W 43 k = false) (w51 : ∀ k, wr W 51 k = false) (w52 : ∀ k, wr W 52 k = false) : SegOK τ b w := by
  have e42 := fun k => h.g 42 k (w42 k)
  have e43 := fun k => h.g 43 k (w43 k)
  have e51 := fun k => h.g 51 k (w51 k)
  have e52 := fun k => h.g 52 k (w52 k)
  unfold SegOK at *
  simp only [e42, e43, e51, e52]
  exact g
theorem iz_l0 {a : Int} (h : -2147483648 ≤ a ∧ a < 2147483648) (e : (iz a).toInt64 = 0) : a = 0 := by
  have h1 := congrArg Int64.toInt e
  rw [Int32.toInt_toInt64, izt h] at h1
  exact h1
/-- one case is written -/
theorem InvM3.up {σ τ : VH} {c : Nat} (h : InvM3 σ) (e66 : gI τ 33 66 = gI σ 33 66) (e70 : ∀ k, gI τ 70 k = gI σ 70 k) (e71 : ∀ k, gI τ 71 k = gI σ 71 k) (e75 : ∀ k, k ≠ c → gI τ 75 k = gI σ 75 k) (e77 : ∀ k, k ≠ c → gI τ 77 k = gI σ 77 k) (hc : 1 ≤ gI τ 77 c ∧ gI τ 77 c ≤ 6) : InvM3 τ := by
  refine ⟨by rw [e66]; exact h.1, fun k hk => ?_⟩
  rw [e66] at hk
  have h1 := h.2 k hk
  unfold CaseM at *
  rw [e70, e71]
  refine ⟨h1.1, h1.2.1, ?_⟩
  by_cases hkc : k = c
  · subst hkc
    exact fun _ => hc
  · rw [e75 k hkc, e77 k hkc]
    exact h1.2.2
/-- a case comes -/
theorem InvM3.new {σ τ : VH} {c : Nat} (h : InvM3 σ) (hc : (c : Int) = gI σ 33 66) (e66 : gI τ 33 66 = gI σ 33 66 + 1) (hl : gI σ 33 66 < 20) (e70 : ∀ k, k ≠ c → gI τ 70 k = gI σ 70 k) (e71 : ∀ k, k ≠ c → gI τ 71 k = gI σ 71 k) (e75 : ∀ k, k ≠ c → gI τ 75 k = gI σ 75 k) (e77 : ∀ k, gI τ 77 k = gI σ 77 k) (h70 : 0 ≤ gI τ 70 c ∧ gI τ 70 c < 20) (h71 : 0 ≤ gI τ 71 c ∧ gI τ 71 c < 20) (h75 : gI τ 75 c < 0) : InvM3 τ := by
  have h0 := h.1
  refine ⟨by omega, fun k hk => ?_⟩
  unfold CaseM
  by_cases hkc : k = c
  · subst hkc
    exact ⟨h70, h71, fun h9 => by omega⟩
  · have h1 := h.2 k (by omega)
    unfold CaseM at h1
    rw [e70 k hkc, e71 k hkc, e75 k hkc, e77]
    exact h1
theorem Bank.fr {W : Wl} {σ τ : VH} {b : Nat} (h : Fr W σ τ) (g : Bank σ b) (w41 : ∀ k, wr W 41 k = false) (w42 : ∀ k, wr W 42 k = false) (w43 : ∀ k, wr W 43 k = false) (w46 : ∀ k, wr W 46 k = false) (w49 : ∀ k, wr W 49 k = false) (w51 : ∀ k, wr W 51 k = false) (w52 : ∀ k, wr W 52 k = false) : Bank τ b := by
  have e41 := fun k => h.g 41 k (w41 k)
  have e42 := fun k => h.g 42 k (w42 k)
  have e43 := fun k => h.g 43 k (w43 k)
  have e46 := fun k => h.g 46 k (w46 k)
  have e49 := fun k => h.g 49 k (w49 k)
  have e51 := fun k => h.g 51 k (w51 k)
  have e52 := fun k => h.g 52 k (w52 k)
  unfold Bank SegOK at *
  simp only [e41, e42, e43, e46, e49, e51, e52]
  exact g
theorem lffc_lt {σ : VH} {c : Int} (I : InvM σ) : lffc σ c < gI σ 33 33 := by
  have h := lff_lt (gI σ 36) (gI σ 37) (gI σ 58 (gI σ 71 c.toNat).toNat) (gI σ 72 c.toNat) (gI σ 33 33).toNat
  have h2 := I.2.2.1.laws
  unfold lffc
  omega
