/-! the reference's reader: lines -/
def shs (S : Nat → Int) (o : Nat) : Nat → Int
  | 0 => 0
  | k + 1 => shs S o k + S (o + k)
def SHOK (S : Nat → Int) (o k : Nat) : Prop := ∀ j, j < k → 0 ≤ S (o + j) ∧ S (o + j) ≤ 100
theorem shs_congr {S R : Nat → Int} {o : Nat} : ∀ {k : Nat}, (∀ j, j < k → R (o + j) = S (o + j)) → shs R o k = shs S o k
  | 0, _ => rfl
  | k + 1, h => by
    unfold shs
    rw [shs_congr (fun j hj => h j (by omega)), h k (by omega)]
theorem SHOK.step {S R : Nat → Int} {o k : Nat} (h : SHOK S o k) (e : ∀ j, j < k → R (o + j) = S (o + j)) (hx : 0 ≤ R (o + k) ∧ R (o + k) ≤ 100) : SHOK R o (k + 1) := fun j hj => by
  by_cases hjk : j = k
  · rw [hjk]; exact hx
  · rw [e j (by omega)]; exact h j (by omega)
theorem SHOK.bd {S : Nat → Int} {o : Nat} : ∀ {k : Nat}, SHOK S o k → 0 ≤ shs S o k ∧ shs S o k ≤ 100 * k
  | 0, _ => ⟨Int.le_refl 0, Int.le_refl 0⟩
  | k + 1, h => by
    have h1 := SHOK.bd (k := k) (fun j hj => h j (by omega))
    have h2 := h k (by omega)
    unfold shs
    omega
/-- the other banks stay -/
def OB (σ τ : VH) (b : Int) : Prop := (∀ k : Nat, (k : Int) < b → gI τ 41 k = gI σ 41 k ∧ gI τ 49 k = gI σ 49 k) ∧ (∀ k : Nat, (k : Int) < 16 * b → gI τ 42 k = gI σ 42 k ∧ gI τ 43 k = gI σ 43 k) ∧ (∀ k : Nat, (k : Int) < 4 * b → gI τ 46 k = gI σ 46 k) ∧ ∀ k : Nat, (k : Int) < 700 * b → gI τ 51 k = gI σ 51 k ∧ gI τ 52 k = gI σ 52 k
theorem OB.rf (σ : VH) (b : Int) : OB σ σ b := ⟨fun _ _ => ⟨rfl, rfl⟩, fun _ _ => ⟨rfl, rfl⟩, fun _ _ => rfl, fun _ _ => ⟨rfl, rfl⟩⟩
theorem OB.tr {σ τ ρ : VH} {b : Int} (h : OB σ τ b) (g : OB τ ρ b) : OB σ ρ b := ⟨fun k e => ⟨(g.1 k e).1.trans (h.1 k e).1, (g.1 k e).2.trans (h.1 k e).2⟩, fun k e => ⟨(g.2.1 k e).1.trans (h.2.1 k e).1, (g.2.1 k e).2.trans (h.2.1 k e).2⟩, fun k e => (g.2.2.1 k e).trans (h.2.2.1 k e), fun k e => ⟨(g.2.2.2 k e).1.trans (h.2.2.2 k e).1, (g.2.2.2 k e).2.trans (h.2.2.2 k e).2⟩⟩
theorem OB.fr {W : Wl} {σ τ : VH} {b : Int} (h : Fr W σ τ) (w41 : ∀ k, wr W 41 k = false) (w42 : ∀ k, wr W 42 k = false) (w43 : ∀ k, wr W 43 k = false) (w46 : ∀ k, wr W 46 k = false) (w49 : ∀ k, wr W 49 k = false) (w51 : ∀ k, wr W 51 k = false) (w52 : ∀ k, wr W 52 k = false) : OB σ τ b := ⟨fun k _ => ⟨h.g 41 k (w41 k), h.g 49 k (w49 k)⟩, fun k _ => ⟨h.g 42 k (w42 k), h.g 43 k (w43 k)⟩, fun k _ => h.g 46 k (w46 k), fun k _ => ⟨h.g 51 k (w51 k), h.g 52 k (w52 k)⟩⟩
theorem Bank.ob {σ τ : VH} {b : Int} {k : Nat} (h : OB σ τ b) (hk : (k : Int) < b) (g : Bank σ k) (hw : 0 ≤ gI σ 41 k ∧ gI σ 41 k ≤ 16) : Bank τ k := by
  obtain ⟨h1, h2, h3, h4⟩ := h
  obtain ⟨g1, g2, g3⟩ := g
  have a0 := h3 (4 * k) (by omega)
  have a1 := h3 (4 * k + 1) (by omega)
  have a2 := h3 (4 * k + 2) (by omega)
  have a3 := h3 (4 * k + 3) (by omega)
  refine ⟨by rw [a0, a1, a2, a3]; exact g1, by rw [(h1 k hk).2]; exact g2, fun w w1 w2 => ?_⟩
  rw [(h1 k hk).1] at w2
  obtain ⟨s1, dp, s2, s3⟩ := g3 w w1 w2
  have e2 := h2 w (by omega)
  unfold SegOK
  rw [e2.1, e2.2]
  refine ⟨s1, dp, s2, fun i i1 i2 => ?_⟩
  have e4 := h4 i.toNat (by omega)
  rw [e4.1, e4.2]
  exact s3 i i1 i2
/-- a line's end: what holds of the bank that is read -/
def RLn (σ : VH) (b : Int) : Prop := (∀ k : Nat, k < 17 → 0 ≤ gI σ 39 k ∧ gI σ 39 k ≤ 12) ∧ (∀ k : Nat, k < 17 → 0 ≤ gI σ 41 k ∧ gI σ 41 k ≤ 16) ∧ (0 ≤ gI σ 33 36 ∧ gI σ 33 36 ≤ 60) ∧ (0 < gI σ 33 4 ∨ ((0 ≤ gI σ 33 35 ∧ gI σ 33 35 ≤ gI σ 33 7) ∧ Bank σ b.toNat ∧ ∀ w : Nat, 16 * b ≤ w → (w : Int) < 16 * b + gI σ 41 b.toNat → gI σ 43 w ≤ gI σ 33 35))
theorem SegOK.of {τ : VH} {b c0 c1 x : Int} {w : Nat} (h1 : gI τ 42 w = c0) (h2 : gI τ 43 w = c1) (h3 : 0 ≤ c0 ∧ c0 ≤ c1 ∧ c1 ≤ 700) (h : Chain (gI τ 51) (gI τ 52) b c0 c1 x) : SegOK τ b w := by
  obtain ⟨dp, d1, d2, d3⟩ := h
  unfold SegOK
  rw [h1, h2]
  exact ⟨h3, dp, d1, d2⟩
theorem Bank.share {σ τ : VH} {b : Nat} (g : Bank σ b) (e41 : ∀ k, gI τ 41 k = gI σ 41 k) (e42 : ∀ k, gI τ 42 k = gI σ 42 k) (e43 : ∀ k, gI τ 43 k = gI σ 43 k) (e49 : ∀ k, gI τ 49 k = gI σ 49 k) (e51 : ∀ k, gI τ 51 k = gI σ 51 k) (e52 : ∀ k, gI τ 52 k = gI σ 52 k) (h1 : SHOK (gI τ 46) (4 * b) 4) (h2 : 1 ≤ shs (gI τ 46) (4 * b) 4) : Bank τ b := by
  have a0 := h1 0 (by decide)
  have a1 := h1 1 (by decide)
  have a2 := h1 2 (by decide)
  have a3 := h1 3 (by decide)
  have a4 : shs (gI τ 46) (4 * b) 4 = 0 + gI τ 46 (4 * b + 0) + gI τ 46 (4 * b + 1) + gI τ 46 (4 * b + 2) + gI τ 46 (4 * b + 3) := rfl
  rw [Nat.add_zero] at a0 a4
  refine ⟨⟨a0, a1, a2, a3, by omega⟩, by rw [e49]; exact g.2.1, fun w w1 w2 => ?_⟩
  rw [e41] at w2
  have h9 := g.2.2 w w1 w2
  unfold SegOK at *
  simp only [e42, e43, e51, e52]
  exact h9
theorem Bank.terms {σ τ : VH} {b : Nat} (g : Bank σ b) (e41 : ∀ k, gI τ 41 k = gI σ 41 k) (e42 : ∀ k, gI τ 42 k = gI σ 42 k) (e43 : ∀ k, gI τ 43 k = gI σ 43 k) (e46 : ∀ k, gI τ 46 k = gI σ 46 k) (e51 : ∀ k, gI τ 51 k = gI σ 51 k) (e52 : ∀ k, gI τ 52 k = gI σ 52 k) (h : 1 ≤ gI τ 49 b ∧ gI τ 49 b ≤ 6) : Bank τ b := by
  refine ⟨by simp only [e46]; exact g.1, h, fun w w1 w2 => ?_⟩
  rw [e41] at w2
  have h9 := g.2.2 w w1 w2
  unfold SegOK at *
  simp only [e42, e43, e51, e52]
  exact h9
theorem Bank.when {σ τ : VH} {b c0 : Int} (hb : 0 ≤ b) (g : Bank σ b.toNat) (e46 : ∀ k, gI τ 46 k = gI σ 46 k) (e49 : ∀ k, gI τ 49 k = gI σ 49 k) (e41 : gI τ 41 b.toNat = gI σ 41 b.toNat + 1) (h41 : 0 ≤ gI σ 41 b.toNat) (e42 : ∀ k : Nat, k ≠ (16 * b + gI σ 41 b.toNat).toNat → gI τ 42 k = gI σ 42 k ∧ gI τ 43 k = gI σ 43 k) (e51 : ∀ k : Nat, (k : Int) < 700 * b + c0 → gI τ 51 k = gI σ 51 k ∧ gI τ 52 k = gI σ 52 k) (hto : ∀ w : Nat, 16 * b ≤ w → (w : Int) < 16 * b + gI σ 41 b.toNat → gI σ 43 w ≤ c0) (hs : SegOK τ b (16 * b + gI σ 41 b.toNat).toNat) : Bank τ b.toNat := by
  have eb : ((b.toNat : Nat) : Int) = b := by omega
  refine ⟨by simp only [e46]; exact g.1, by rw [e49]; exact g.2.1, fun w w1 w2 => ?_⟩
  rw [e41] at w2
  rw [eb]
  by_cases hw : w = (16 * b + gI σ 41 b.toNat).toNat
  · rw [hw]; exact hs
  · have h9 := g.2.2 w w1 (by omega)
    rw [eb] at h9
    obtain ⟨s1, dp, s2, s3⟩ := h9
    have q := e42 w hw
    have q3 := hto w (by omega) (by omega)
    unfold SegOK
    rw [q.1, q.2]
    refine ⟨s1, dp, s2, fun i i1 i2 => ?_⟩
    have q4 := e51 i.toNat (by omega)
    rw [q4.1, q4.2]
    exact s3 i i1 i2
theorem Bank.eq {σ τ : VH} {b : Nat} (g : Bank σ b) (e41 : ∀ k, gI τ 41 k = gI σ 41 k) (e42 : ∀ k, gI τ 42 k = gI σ 42 k) (e43 : ∀ k, gI τ 43 k = gI σ 43 k) (e46 : ∀ k, gI τ 46 k = gI σ 46 k) (e49 : ∀ k, gI τ 49 k = gI σ 49 k) (e51 : ∀ k, gI τ 51 k = gI σ 51 k) (e52 : ∀ k, gI τ 52 k = gI σ 52 k) : Bank τ b := by
  unfold Bank SegOK at *
  simp only [e41, e42, e43, e46, e49, e51, e52]
  exact g
theorem InvM2.l15 {σ : VH} (h : InvM2 σ) {f : Int} (h0 : 0 ≤ f ∧ f < 4) (hl : gI σ 38 f.toNat < 4) : gI σ 33 33 ≤ 15 := by
  obtain ⟨h1, h2, -⟩ := h
  have a0 := h2 0 (by decide)
  have a1 := h2 1 (by decide)
  have a2 := h2 2 (by decide)
  have a3 := h2 3 (by decide)
  have hf : f = 0 ∨ f = 1 ∨ f = 2 ∨ f = 3 := by omega
  rcases hf with rfl | rfl | rfl | rfl
  · have e : (0 : Int).toNat = 0 := rfl
    rw [e] at hl; omega
  · have e : (1 : Int).toNat = 1 := rfl
    rw [e] at hl; omega
  · have e : (2 : Int).toNat = 2 := rfl
    rw [e] at hl; omega
  · have e : (3 : Int).toNat = 3 := rfl
    rw [e] at hl; omega
/-- no bank comes -/
theorem InvM2.no {σ τ : VH} {b : Int} (h : InvM2 σ) (eb : gI σ 33 33 = b) (e33 : gI τ 33 33 = b) (e38 : ∀ k, gI τ 38 k = gI σ 38 k) (h39 : ∀ k : Nat, k < 17 → 0 ≤ gI τ 39 k ∧ gI τ 39 k ≤ 12) (h41 : ∀ k : Nat, k < 17 → 0 ≤ gI τ 41 k ∧ gI τ 41 k ≤ 16) (ob : OB σ τ b) : InvM2 τ := by
  have hl := h.laws
  obtain ⟨h1, h2, h3, h4, h5⟩ := h
  refine ⟨by rw [e33, e38, e38, e38, e38, ← eb]; exact h1, fun f hf => by rw [e38]; exact h2 f hf, h39, h41, fun k hk => ?_⟩
  rw [e33] at hk
  exact Bank.ob ob hk (h5 k (by omega)) (h4 k (by omega))
/-- a bank comes -/
theorem InvM2.one {σ τ : VH} {b f : Int} (h : InvM2 σ) (eb : gI σ 33 33 = b) (hf : 0 ≤ f ∧ f < 4) (hl : gI σ 38 f.toNat < 4) (e33 : gI τ 33 33 = b + 1) (e38 : ∀ k, k ≠ f.toNat → gI τ 38 k = gI σ 38 k) (e38f : gI τ 38 f.toNat = gI σ 38 f.toNat + 1) (h39 : ∀ k : Nat, k < 17 → 0 ≤ gI τ 39 k ∧ gI τ 39 k ≤ 12) (h41 : ∀ k : Nat, k < 17 → 0 ≤ gI τ 41 k ∧ gI τ 41 k ≤ 16) (ob : OB σ τ b) (hb : Bank τ b.toNat) : InvM2 τ := by
  have hlw := h.laws
  obtain ⟨h1, h2, h3, h4, h5⟩ := h
  have hq : f = 0 ∨ f = 1 ∨ f = 2 ∨ f = 3 := by omega
  refine ⟨?_, fun k hk => ?_, h39, h41, fun k hk => ?_⟩
  · rw [e33]
    rcases hq with rfl | rfl | rfl | rfl
    · have e : (0 : Int).toNat = 0 := rfl
      rw [e] at e38 e38f
      rw [e38f, e38 1 (by decide), e38 2 (by decide), e38 3 (by decide)]; omega
    · have e : (1 : Int).toNat = 1 := rfl
      rw [e] at e38 e38f
      rw [e38f, e38 0 (by decide), e38 2 (by decide), e38 3 (by decide)]; omega
    · have e : (2 : Int).toNat = 2 := rfl
      rw [e] at e38 e38f
      rw [e38f, e38 0 (by decide), e38 1 (by decide), e38 3 (by decide)]; omega
    · have e : (3 : Int).toNat = 3 := rfl
      rw [e] at e38 e38f
      rw [e38f, e38 0 (by decide), e38 1 (by decide), e38 2 (by decide)]; omega
  · by_cases hkf : k = f.toNat
    · have h9 := h2 f.toNat (by omega)
      rw [hkf, e38f]; omega
    · rw [e38 k hkf]; exact h2 k hk
  · rw [e33] at hk
    by_cases hkb : (k : Int) < b
    · exact Bank.ob ob hkb (h5 k (by omega)) (h4 k (by omega))
    · have e : k = b.toNat := by omega
      rw [e]; exact hb
theorem Bank.nil {σ : VH} {b : Nat} (h0 : gI σ 46 (4 * b) = 1) (h1 : gI σ 46 (4 * b + 1) = 0) (h2 : gI σ 46 (4 * b + 2) = 0) (h3 : gI σ 46 (4 * b + 3) = 0) (ht : gI σ 49 b = 1) (hw : gI σ 41 b = 0) : Bank σ b := by
  refine ⟨by omega, by omega, fun w w1 w2 => by omega⟩
