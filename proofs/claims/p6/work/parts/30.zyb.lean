/-! what next gives, by the kinds -/
theorem Nx.end {σ τ : VH} {a : Int} (b : Bl (sg σ) (gI σ 33 8) a) (ha : a = gI σ 33 3) (h7 : gI τ 33 7 = gI σ 33 3) (h8 : gI τ 33 8 = gI σ 33 3) (h9 : gI τ 33 9 = 0) : Nx σ τ := ⟨by rw [h7, ← ha]; exact b, 1, Or.inl ⟨h7, rfl, h8⟩, Or.inl ⟨rfl, h9⟩⟩
theorem Nx.long {σ τ : VH} {a e : Int} (b : Bl (sg σ) (gI σ 33 8) a) (h7 : gI τ 33 7 = a) (h8 : gI τ 33 8 = e) (ha : a < gI σ 33 3) (he : e ≤ gI σ 33 3) (r : RunL (sg σ) a e) (hl : 8 < e - a) (h9 : gI τ 33 9 = 1) : Nx σ τ := ⟨by rw [h7]; exact b, 0, by rw [h7, h8]; exact Or.inr ⟨ha, he, Or.inl ⟨r, Or.inl ⟨hl, rfl⟩⟩⟩, Or.inr (Or.inl ⟨rfl, h9⟩)⟩
theorem RunL.wy {S : Int → Int} {a e : Int} (r : RunL S a e) (hl : e - a ≤ 8) : Wy (wN S a (e - a).toNat) := by
  have h1 := r.1
  exact ⟨(e - a).toNat, by omega, by omega, wN_wy _ (fun i hi => r.2.1 (a + (i : Int)) (by omega) (by omega))⟩
theorem Nx.word {σ τ : VH} {a e : Int} (b : Bl (sg σ) (gI σ 33 8) a) (h7 : gI τ 33 7 = a) (h8 : gI τ 33 8 = e) (ha : a < gI σ 33 3) (he : e ≤ gI σ 33 3) (r : RunL (sg σ) a e) (hl : e - a ≤ 8) (hn : (hL τ 33 11).toInt = wN (sg σ) a (e - a).toNat) (hk : (gI τ 33 9 = 3 ∧ Kp (wN (sg σ) a (e - a).toNat)) ∨ (gI τ 33 9 = 2 ∧ ¬ Kp (wN (sg σ) a (e - a).toNat))) : Nx σ τ := by
  refine ⟨by rw [h7]; exact b, wN (sg σ) a (e - a).toNat, by rw [h7, h8]; exact Or.inr ⟨ha, he, Or.inl ⟨r, Or.inr ⟨hl, rfl⟩⟩⟩, ?_⟩
  rcases hk with ⟨k1, k2⟩ | ⟨k1, k2⟩
  · exact Or.inr (Or.inr (Or.inl ⟨r.wy hl, k2, k1, hn⟩))
  · exact Or.inr (Or.inr (Or.inr (Or.inl ⟨r.wy hl, k2, k1, hn⟩)))
theorem Nx.badn {σ τ : VH} {a e : Int} (b : Bl (sg σ) (gI σ 33 8) a) (h7 : gI τ 33 7 = a) (h8 : gI τ 33 8 = e) (ha : a < gI σ 33 3) (he : e ≤ gI σ 33 3) (r : RunD (sg σ) a e) (hl : 6 < e - a ∨ (97 ≤ sg σ e ∧ sg σ e ≤ 122)) (h9 : gI τ 33 9 = 1) : Nx σ τ := ⟨by rw [h7]; exact b, 0, by rw [h7, h8]; exact Or.inr ⟨ha, he, Or.inr (Or.inl ⟨r, Or.inl ⟨hl, rfl⟩⟩)⟩, Or.inr (Or.inl ⟨rfl, h9⟩)⟩
theorem Nx.num {σ τ : VH} {a e : Int} (b : Bl (sg σ) (gI σ 33 8) a) (h7 : gI τ 33 7 = a) (h8 : gI τ 33 8 = e) (ha : a < gI σ 33 3) (he : e ≤ gI σ 33 3) (r : RunD (sg σ) a e) (hl : e - a ≤ 6) (hl2 : ¬ (97 ≤ sg σ e ∧ sg σ e ≤ 122)) (hn : gI τ 33 10 = dN (sg σ) a (e - a).toNat) (h9 : gI τ 33 9 = 4) : Nx σ τ := by
  have h1 := r.1
  have hd := (dN_bd (S := sg σ) (p := a) (e - a).toNat (fun i hi => r.2.1 (a + (i : Int)) (by omega) (by omega))).1
  exact ⟨by rw [h7]; exact b, -1 - dN (sg σ) a (e - a).toNat, by rw [h7, h8]; exact Or.inr ⟨ha, he, Or.inr (Or.inl ⟨r, Or.inr ⟨hl, hl2, rfl⟩⟩)⟩, Or.inr (Or.inr (Or.inr (Or.inr (Or.inl ⟨by omega, h9, by omega⟩))))⟩
theorem Nx.one {σ τ : VH} {a : Int} (b : Bl (sg σ) (gI σ 33 8) a) (hs : sg τ = sg σ) (h7 : gI τ 33 7 = a) (h8 : gI τ 33 8 = a + 1) (ha : a < gI σ 33 3) (hl : ¬ (97 ≤ sg σ a ∧ sg σ a ≤ 122)) (hd : ¬ (48 ≤ sg σ a ∧ sg σ a ≤ 57)) (hb : ¬ (sg σ a = 32 ∨ sg σ a = 10)) (hk : (gI τ 33 9 = 5 ∧ Sg (sg σ a)) ∨ (gI τ 33 9 = 1 ∧ ¬ Sg (sg σ a))) : Nx σ τ := by
  rcases hk with ⟨k1, k2⟩ | ⟨k1, k2⟩
  · exact ⟨by rw [h7]; exact b, sg σ a, by rw [h7, h8]; exact Or.inr ⟨ha, by omega, Or.inr (Or.inr ⟨hl, hd, hb, rfl, Or.inl ⟨k2, rfl⟩⟩)⟩, Or.inr (Or.inr (Or.inr (Or.inr (Or.inr ⟨k2, k1, by rw [hs, h7]⟩))))⟩
  · exact ⟨by rw [h7]; exact b, 0, by rw [h7, h8]; exact Or.inr ⟨ha, by omega, Or.inr (Or.inr ⟨hl, hd, hb, rfl, Or.inr ⟨k2, rfl⟩⟩)⟩, Or.inr (Or.inl ⟨rfl, k1⟩)⟩
theorem all_snoc {P : Int → Prop} {a e f : Int} (h : ∀ i, a ≤ i → i < e → P i) (hf : f = e + 1) (he : P e) : ∀ i, a ≤ i → i < f → P i := fun i h1 h2 => by
  by_cases q : i = e
  · rw [q]
    exact he
  · exact h i h1 (by omega)
theorem wN_lt {S : Int → Int} {a : Int} {k : Nat} (h : ∀ i : Nat, i < k → 97 ≤ S (a + (i : Int)) ∧ S (a + (i : Int)) ≤ 122) (hk : k ≤ 7) : 0 ≤ wN S a k ∧ wN S a k < 36028797018963968 := by
  have h1 := (wN_wy (S := S) (p := a) k h).bd
  have h2 := p256' hk
  by_cases h0 : 1 ≤ k
  · have := h1.2.2 h0
    omega
  · have e : k = 0 := by omega
    subst e
    exact ⟨Int.le_refl 0, (by decide : (0 : Int) < 36028797018963968)⟩
theorem wN_s {S : Int → Int} {a k k' : Int} (hk : a ≤ k) (e : k' = k + 1) : wN S a (k' - a).toNat = 256 * wN S a (k - a).toNat + S k := by
  have e1 : (k' - a).toNat = (k - a).toNat + 1 := by omega
  rw [e1]
  show 256 * wN S a (k - a).toNat + S (a + ((k - a).toNat : Int)) = _
  rw [show a + ((k - a).toNat : Int) = k by omega]
theorem dN_s {S : Int → Int} {a k k' : Int} (hk : a ≤ k) (e : k' = k + 1) : dN S a (k' - a).toNat = 10 * dN S a (k - a).toNat + (S k - 48) := by
  have e1 : (k' - a).toNat = (k - a).toNat + 1 := by omega
  rw [e1]
  show 10 * dN S a (k - a).toNat + (S (a + ((k - a).toNat : Int)) - 48) = _
  rw [show a + ((k - a).toNat : Int) = k by omega]
theorem dN_z {S : Int → Int} {a k : Int} (e : k = a) : dN S a (k - a).toNat = 0 := by
  rw [show (k - a).toNat = 0 by omega]
  rfl
theorem wN_z {S : Int → Int} {a k : Int} (e : k = a) : wN S a (k - a).toNat = 0 := by
  rw [show (k - a).toNat = 0 by omega]
  rfl
