/-! the reference's law: its text -/
theorem b255 (x : Int32) : x.toInt8.toInt32 &&& 255 = x &&& 255 := by
  apply Int32.toBitVec_inj.mp
  rw [Int32.toBitVec_and, Int32.toBitVec_and, Int8.toBitVec_toInt32, Int32.toBitVec_toInt8]
  apply BitVec.eq_of_getLsbD_eq
  intro i hi
  rw [BitVec.getLsbD_and, BitVec.getLsbD_and, BitVec.getLsbD_signExtend]
  by_cases h : i < 8
  · rw [if_pos h, BitVec.getLsbD_signExtend, if_pos (by omega), decide_eq_true h, decide_eq_true hi, Bool.true_and, Bool.true_and]
  · have : (Int32.toBitVec 255).getLsbD i = false := by
      have e : Int32.toBitVec 255 = BitVec.ofNat 32 255 := rfl
      rw [e, BitVec.getLsbD_ofNat]
      have : Nat.testBit 255 i = false := Nat.testBit_lt_two_pow (Nat.lt_of_lt_of_le (by decide : 255 < 2 ^ 8) (Nat.pow_le_pow_right (by decide) (by omega)))
      rw [this, Bool.and_false]
    rw [this, Bool.and_false, Bool.and_false]
theorem TS.nil0 {S S' : Int → Int} {tk pl : Nat → Int} {m : Nat} (h : TS S 0 tk pl m) : TS S' 0 tk pl m := by
  obtain ⟨⟨h1, h2⟩, h3, h4⟩ := h
  have m0 : m = 0 := by
    by_cases q : m = 0
    · exact q
    · have a := (h4 0 (by omega)).1
      have c := h3.1
      omega
  subst m0
  refine ⟨⟨h1, h2⟩, ?_, fun j hj => absurd hj (by omega)⟩
  rw [h1]
  exact Bl.rf _ _
theorem TS.row {f g : Nat → Int32} {n : Int} {tk pl : Nat → Int} {m : Nat} (h : TS (Sx f n) n tk pl m) (hn : 0 ≤ n) (e : ∀ k : Nat, (k : Int) < n → g k &&& 255 = f k &&& 255) : TS (Sx g n) n tk pl m := by
  by_cases n0 : n = 0
  · subst n0
    exact h.nil0
  · have q : Sx g n = Sx f n := funext fun i => by
      unfold Sx
      by_cases hi : i < n
      · rw [if_pos hi, if_pos hi, e i.toNat (by omega)]
      · rw [if_neg hi, if_neg hi]
    rw [q]
    exact h
theorem snoc255 {f g g' : Nat → Int32} {k : Int} (h : ∀ i : Nat, (i : Int) < k → g i &&& 255 = f i &&& 255) (hk : 0 ≤ k) (e : ∀ i, i ≠ k.toNat → g' i = g i) (e2 : g' k.toNat = (f k.toNat).toInt8.toInt32) : ∀ i : Nat, (i : Int) < k + 1 → g' i &&& 255 = f i &&& 255 := fun i hi => by
  by_cases q : i = k.toNat
  · rw [q, e2]
    exact b255 _
  · rw [e i q]
    exact h i (by omega)
theorem RPre.start {τ : VH} {tk pl : Nat → Int} {m : Nat} (h : TS (Sx (hI τ 35) (gI τ 33 3)) (gI τ 33 3) tk pl m) (h8 : gI τ 33 8 = 0) (h5 : gI τ 33 5 = -1) : RPre τ tk pl m 0 := ⟨h, Nat.zero_le _, by rw [h8]; exact h.2.1, h5⟩
theorem LwI.start {τ : VH} {b : Int} {tk pl : Nat → Int} {m : Nat} (h4 : gI τ 33 4 = 0) (A : RAt τ tk pl m 0) (e36 : gI τ 33 36 = 0) (e39 : gI τ 39 b.toNat = 0) (e41 : gI τ 41 b.toNat = 0) (e54 : gI τ 54 b.toNat = 0) (e55 : gI τ 55 b.toNat = 0) (e56 : gI τ 56 b.toNat = 0) : LwI τ b tk pl m st00 := Or.inr ⟨h4, st00, A, ⟨e36, e39, fun i hi => absurd hi (by show ¬ (i : Int) < 0; omega), e41, ⟨e54, e55, e56⟩, Or.inl e54, Or.inl e55, Or.inl e56⟩, fun _ q => q⟩
