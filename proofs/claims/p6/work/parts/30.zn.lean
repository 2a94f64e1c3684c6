/-! the class's test of a NAME -/
theorem nnl_in {t : Int} : (∃ j : Nat, j < 21 ∧ (nnl.getD j 0).toInt = t) ↔ Kp t := by
  unfold Kp
  constructor
  · rintro ⟨j, hj, h⟩
    have hq : j = 0 ∨ j = 1 ∨ j = 2 ∨ j = 3 ∨ j = 4 ∨ j = 5 ∨ j = 6 ∨ j = 7 ∨ j = 8 ∨ j = 9 ∨ j = 10 ∨ j = 11 ∨ j = 12 ∨ j = 13 ∨ j = 14 ∨ j = 15 ∨ j = 16 ∨ j = 17 ∨ j = 18 ∨ j = 19 ∨ j = 20 := by omega
    rcases hq with rfl | rfl | rfl | rfl | rfl | rfl | rfl | rfl | rfl | rfl | rfl | rfl | rfl | rfl | rfl | rfl | rfl | rfl | rfl | rfl | rfl
    · exact Or.inl (h.symm.trans (by decide))
    · exact Or.inr (Or.inl (h.symm.trans (by decide)))
    · exact Or.inr (Or.inr (Or.inl (h.symm.trans (by decide))))
    · exact Or.inr (Or.inr (Or.inr (Or.inl (h.symm.trans (by decide)))))
    · exact Or.inr (Or.inr (Or.inr (Or.inr (Or.inl (h.symm.trans (by decide))))))
    · exact Or.inr (Or.inr (Or.inr (Or.inr (Or.inr (Or.inl (h.symm.trans (by decide)))))))
    · exact Or.inr (Or.inr (Or.inr (Or.inr (Or.inr (Or.inr (Or.inl (h.symm.trans (by decide))))))))
    · exact Or.inr (Or.inr (Or.inr (Or.inr (Or.inr (Or.inr (Or.inr (Or.inl (h.symm.trans (by decide)))))))))
    · exact Or.inr (Or.inr (Or.inr (Or.inr (Or.inr (Or.inr (Or.inr (Or.inr (Or.inl (h.symm.trans (by decide))))))))))
    · exact Or.inr (Or.inr (Or.inr (Or.inr (Or.inr (Or.inr (Or.inr (Or.inr (Or.inr (Or.inl (h.symm.trans (by decide)))))))))))
    · exact Or.inr (Or.inr (Or.inr (Or.inr (Or.inr (Or.inr (Or.inr (Or.inr (Or.inr (Or.inr (Or.inl (h.symm.trans (by decide))))))))))))
    · exact Or.inr (Or.inr (Or.inr (Or.inr (Or.inr (Or.inr (Or.inr (Or.inr (Or.inr (Or.inr (Or.inr (Or.inl (h.symm.trans (by decide)))))))))))))
    · exact Or.inr (Or.inr (Or.inr (Or.inr (Or.inr (Or.inr (Or.inr (Or.inr (Or.inr (Or.inr (Or.inr (Or.inr (Or.inl (h.symm.trans (by decide))))))))))))))
    · exact Or.inr (Or.inr (Or.inr (Or.inr (Or.inr (Or.inr (Or.inr (Or.inr (Or.inr (Or.inr (Or.inr (Or.inr (Or.inr (Or.inl (h.symm.trans (by decide)))))))))))))))
    · exact Or.inr (Or.inr (Or.inr (Or.inr (Or.inr (Or.inr (Or.inr (Or.inr (Or.inr (Or.inr (Or.inr (Or.inr (Or.inr (Or.inr (Or.inl (h.symm.trans (by decide))))))))))))))))
    · exact Or.inr (Or.inr (Or.inr (Or.inr (Or.inr (Or.inr (Or.inr (Or.inr (Or.inr (Or.inr (Or.inr (Or.inr (Or.inr (Or.inr (Or.inr (Or.inl (h.symm.trans (by decide)))))))))))))))))
    · exact Or.inr (Or.inr (Or.inr (Or.inr (Or.inr (Or.inr (Or.inr (Or.inr (Or.inr (Or.inr (Or.inr (Or.inr (Or.inr (Or.inr (Or.inr (Or.inr (Or.inl (h.symm.trans (by decide))))))))))))))))))
    · exact Or.inr (Or.inr (Or.inr (Or.inr (Or.inr (Or.inr (Or.inr (Or.inr (Or.inr (Or.inr (Or.inr (Or.inr (Or.inr (Or.inr (Or.inr (Or.inr (Or.inr (Or.inl (h.symm.trans (by decide)))))))))))))))))))
    · exact Or.inr (Or.inr (Or.inr (Or.inr (Or.inr (Or.inr (Or.inr (Or.inr (Or.inr (Or.inr (Or.inr (Or.inr (Or.inr (Or.inr (Or.inr (Or.inr (Or.inr (Or.inr (Or.inl (h.symm.trans (by decide))))))))))))))))))))
    · exact Or.inr (Or.inr (Or.inr (Or.inr (Or.inr (Or.inr (Or.inr (Or.inr (Or.inr (Or.inr (Or.inr (Or.inr (Or.inr (Or.inr (Or.inr (Or.inr (Or.inr (Or.inr (Or.inr (Or.inl (h.symm.trans (by decide)))))))))))))))))))))
    · exact Or.inr (Or.inr (Or.inr (Or.inr (Or.inr (Or.inr (Or.inr (Or.inr (Or.inr (Or.inr (Or.inr (Or.inr (Or.inr (Or.inr (Or.inr (Or.inr (Or.inr (Or.inr (Or.inr (Or.inr ((h.symm.trans (by decide))))))))))))))))))))))
  · rintro (h | h | h | h | h | h | h | h | h | h | h | h | h | h | h | h | h | h | h | h | h)
    · exact ⟨0, by decide, h ▸ (by decide)⟩
    · exact ⟨1, by decide, h ▸ (by decide)⟩
    · exact ⟨2, by decide, h ▸ (by decide)⟩
    · exact ⟨3, by decide, h ▸ (by decide)⟩
    · exact ⟨4, by decide, h ▸ (by decide)⟩
    · exact ⟨5, by decide, h ▸ (by decide)⟩
    · exact ⟨6, by decide, h ▸ (by decide)⟩
    · exact ⟨7, by decide, h ▸ (by decide)⟩
    · exact ⟨8, by decide, h ▸ (by decide)⟩
    · exact ⟨9, by decide, h ▸ (by decide)⟩
    · exact ⟨10, by decide, h ▸ (by decide)⟩
    · exact ⟨11, by decide, h ▸ (by decide)⟩
    · exact ⟨12, by decide, h ▸ (by decide)⟩
    · exact ⟨13, by decide, h ▸ (by decide)⟩
    · exact ⟨14, by decide, h ▸ (by decide)⟩
    · exact ⟨15, by decide, h ▸ (by decide)⟩
    · exact ⟨16, by decide, h ▸ (by decide)⟩
    · exact ⟨17, by decide, h ▸ (by decide)⟩
    · exact ⟨18, by decide, h ▸ (by decide)⟩
    · exact ⟨19, by decide, h ▸ (by decide)⟩
    · exact ⟨20, by decide, h ▸ (by decide)⟩
def NmI (u n k : Int) : Prop := ∃ i : Nat, k + 8 = 8 * (i : Int) ∧ i ≤ 8 ∧ WyB n.toNat (u / 256 ^ i)
theorem div256 {u : Int} {i : Nat} (h : 1 ≤ i) : u / 256 ^ (i - 1) / 256 = u / 256 ^ i := by
  obtain ⟨q, rfl⟩ : ∃ q, i = q + 1 := ⟨i - 1, by omega⟩
  rw [show q + 1 - 1 = q by omega, Int.ediv_ediv_of_nonneg (p256n q), Int.pow_succ]
theorem NmI.start {u : Int} (h0 : 0 ≤ u) (h : u < 18446744073709551616) : NmI u 0 56 := ⟨8, by decide, by decide, by
  show u / 256 ^ 8 = 0
  rw [show (256 : Int) ^ 8 = 18446744073709551616 by decide]
  omega⟩
theorem NmI.letter {u n k c : Int} {i : Nat} (hn : 0 ≤ n) (h1 : k + 8 = 8 * (i : Int)) (h2 : i ≤ 8) (h3 : WyB n.toNat (u / 256 ^ i)) (hk : 0 ≤ k) (hc : c = (u / 256 ^ (i - 1)) % 256) (hl : 97 ≤ c ∧ c ≤ 122) : NmI u (n + 1) (k - 8) := ⟨i - 1, by omega, by omega, by
  rw [show (n + 1).toNat = n.toNat + 1 by omega]
  exact ⟨by rw [div256 (by omega)]; exact h3, by omega, by omega⟩⟩
theorem NmI.zero {u n k c : Int} {i : Nat} (hn : n = 0) (h1 : k + 8 = 8 * (i : Int)) (h2 : i ≤ 8) (h3 : WyB n.toNat (u / 256 ^ i)) (hk : 0 ≤ k) (hc : c = (u / 256 ^ (i - 1)) % 256) (hl : c = 0) : NmI u n (k - 8) := ⟨i - 1, by omega, by omega, by
  subst hn
  have e : u / 256 ^ i = 0 := h3
  rw [← div256 (by omega)] at e
  show u / 256 ^ (i - 1) = 0
  omega⟩
theorem NmI.no {u n k c : Int} {i : Nat} (hn : 0 ≤ n) (h1 : k + 8 = 8 * (i : Int)) (h3 : WyB n.toNat (u / 256 ^ i)) (hk : 0 ≤ k) (hc : c = (u / 256 ^ (i - 1)) % 256) (hl : ¬ (97 ≤ c ∧ c ≤ 122)) (hz : ¬ c = 0 ∨ 0 < n) : ¬ Wy u := by
  rintro ⟨K, k1, k2, k3⟩
  have h4 := WyB.div (j := i - 1) k3
  by_cases hj : i - 1 < K
  · have h5 := h4.1 (by omega)
    obtain ⟨q, hq⟩ : ∃ q, K - (i - 1) = q + 1 := ⟨K - (i - 1) - 1, by omega⟩
    rw [hq] at h5
    have h6 := h5.2
    omega
  · have h5 := h4.2 (by omega)
    rw [h5] at hc
    have c0 : c = 0 := hc.trans (by decide)
    have n0 : 0 < n := hz.resolve_left (fun q => q c0)
    have h7 : u / 256 ^ i = 0 := by
      rw [← div256 (by omega), h5]
      rfl
    rw [h7] at h3
    obtain ⟨q, hq⟩ : ∃ q, n.toNat = q + 1 := ⟨n.toNat - 1, by omega⟩
    rw [hq] at h3
    have h8 := h3.2.1
    omega
theorem wy_u {v : Int64} : Wy v.toInt ↔ Wy ((v.toBitVec.toNat : Nat) : Int) := by
  rcases uns (v := v) with ⟨h1, h2⟩ | ⟨h1, h2⟩
  · rw [h1]
  · constructor
    · intro h
      have := h.bd
      omega
    · intro h
      have := h.bd
      have := l_rg v
      omega
theorem NmI.yes {u n : Int} (hn : 1 ≤ n ∧ n ≤ 8) (h : NmI u n (-8)) : Wy u := by
  obtain ⟨i, h1, h2, h3⟩ := h
  have i0 : i = 0 := by omega
  subst i0
  rw [show (256 : Int) ^ 0 = 1 from rfl, Int.ediv_one] at h3
  exact ⟨n.toNat, by omega, by omega, h3⟩
theorem NmI.nil {u n : Int} (hn : n = 0) (h : NmI u n (-8)) : ¬ Wy u := by
  obtain ⟨i, h1, h2, h3⟩ := h
  have i0 : i = 0 := by omega
  subst i0 hn
  rw [show (256 : Int) ^ 0 = 1 from rfl, Int.ediv_one] at h3
  have e : u = 0 := h3
  intro hw
  have := hw.bd
  omega
theorem kpp {σ : VH} {x : Int64} {z : Int} (hs : SRw σ) (h : (z = -1 ∧ ∀ i : Nat, i < 21 → ¬ (hL σ 0 i).toInt = x.toInt) ∨ (0 ≤ z ∧ z < ((21 : Nat) : Int) ∧ (hL σ 0 z.toNat).toInt = x.toInt)) : z = -1 ↔ ¬ Kp x.toInt := by
  rcases h with ⟨h1, h2⟩ | ⟨h1, h2, h3⟩
  · refine ⟨fun _ hf => ?_, fun _ => h1⟩
    obtain ⟨i, hi, e⟩ := nnl_in.mpr hf
    exact h2 i hi (by rw [hs.1 i]; exact e)
  · refine ⟨fun e => by omega, fun hf => absurd (nnl_in.mp ⟨z.toNat, by omega, ?_⟩) hf⟩
    rw [← hs.1]
    exact h3
