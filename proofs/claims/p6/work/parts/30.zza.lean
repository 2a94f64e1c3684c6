/-! the tape's bytes; what law gives on both sides -/
theorem ushr8 (x s : Int32) (hs : s = 24 ∨ s = 16 ∨ s = 8 ∨ s = 0) : (x.toUInt32 >>> (s.toUInt32 &&& Int32.toUInt32 31)).toInt32 &&& 255 = (x >>> (s &&& 31)) &&& 255 := by
  apply Int32.toBitVec_inj.mp
  rw [Int32.toBitVec_and, Int32.toBitVec_and]
  apply BitVec.eq_of_getLsbD_eq
  intro i hi
  rw [BitVec.getLsbD_and, BitVec.getLsbD_and]
  by_cases h : i < 8
  · congr 1
    rcases hs with rfl | rfl | rfl | rfl
    · show (x.toBitVec >>> 24).getLsbD i = (x.toBitVec.sshiftRight 24).getLsbD i
      rw [BitVec.getLsbD_ushiftRight, BitVec.getLsbD_sshiftRight, if_pos (by omega), decide_eq_false (by omega), Bool.not_false, Bool.true_and]
    · show (x.toBitVec >>> 16).getLsbD i = (x.toBitVec.sshiftRight 16).getLsbD i
      rw [BitVec.getLsbD_ushiftRight, BitVec.getLsbD_sshiftRight, if_pos (by omega), decide_eq_false (by omega), Bool.not_false, Bool.true_and]
    · show (x.toBitVec >>> 8).getLsbD i = (x.toBitVec.sshiftRight 8).getLsbD i
      rw [BitVec.getLsbD_ushiftRight, BitVec.getLsbD_sshiftRight, if_pos (by omega), decide_eq_false (by omega), Bool.not_false, Bool.true_and]
    · show (x.toBitVec >>> 0).getLsbD i = (x.toBitVec.sshiftRight 0).getLsbD i
      rw [BitVec.getLsbD_ushiftRight, BitVec.getLsbD_sshiftRight, if_pos (by omega), decide_eq_false (by omega), Bool.not_false, Bool.true_and]
  · have q : (Int32.toBitVec 255).getLsbD i = false := by
      have e : Int32.toBitVec 255 = BitVec.ofNat 32 255 := rfl
      rw [e, BitVec.getLsbD_ofNat]
      have : Nat.testBit 255 i = false := Nat.testBit_lt_two_pow (Nat.lt_of_lt_of_le (by decide : 255 < 2 ^ 8) (Nat.pow_le_pow_right (by decide) (by omega)))
      rw [this, Bool.and_false]
    rw [q, Bool.and_false, Bool.and_false]
def Wb (x : Int) (n : Nat) : Int32 := (iz x >>> (iz (24 - 8 * (n : Int)) &&& 31)) &&& 255
theorem wbM {v s q q2 : Int} {k : Nat} (e1 : iz v >>> (iz s &&& 31) = iz q) (e2 : (iz q).toInt8.toInt32 = iz q2) (hs : s = 24 - 8 * (k : Int)) : (iz q2).toInt8.toInt32 &&& 255 = Wb v k := by
  rw [b255, ← e2, b255, ← e1, hs]
  rfl
theorem wbC {v s q q2 : Int} {k : Nat} (e1 : ((iz v).toUInt32 >>> ((iz s).toUInt32 &&& Int32.toUInt32 31)).toInt32 = iz q) (e2 : (iz q).toInt8.toInt32 = iz q2) (hs : s = 24 - 8 * (k : Int)) (h4 : s = 24 ∨ s = 16 ∨ s = 8 ∨ s = 0) : (iz q2).toInt8.toInt32 &&& 255 = Wb v k := by
  have hs' : iz s = 24 ∨ iz s = 16 ∨ iz s = 8 ∨ iz s = 0 := by
    rcases h4 with h | h | h | h
    · exact Or.inl (by rw [h]; rfl)
    · exact Or.inr (Or.inl (by rw [h]; rfl))
    · exact Or.inr (Or.inr (Or.inl (by rw [h]; rfl)))
    · exact Or.inr (Or.inr (Or.inr (by rw [h]; rfl)))
  rw [b255, ← e2, b255, ← e1, ushr8 _ _ hs', hs]
  rfl
/-- R' is R with k bytes of F from t on -/
def FdK (R R' : Nat → Int32) (t k : Int) (F : Nat → Int32) : Prop := ∀ i : Nat, R' i &&& 255 = if t ≤ (i : Int) ∧ (i : Int) < t + k then F ((i : Int) - t).toNat else R i &&& 255
theorem FdK.nil {R R' : Nat → Int32} {t k : Int} {F : Nat → Int32} (hk : k = 0) (e : ∀ i, R' i = R i) : FdK R R' t k F := fun i => by
  rw [if_neg (by omega), e i]
theorem FdK.snoc {R R1 R2 : Nat → Int32} {t k k1 : Int} {F : Nat → Int32} (h : FdK R R1 t k F) (ht : 0 ≤ t) (hk : 0 ≤ k) (ek : k1 = k + 1) (j : Nat) (hj : (j : Int) = t + k) (e : ∀ i, i ≠ j → R2 i = R1 i) (e2 : R2 j &&& 255 = F k.toNat) : FdK R R2 t k1 F := fun i => by
  by_cases q : i = j
  · rw [q, e2, if_pos (by omega), show ((j : Int) - t).toNat = k.toNat by omega]
  · rw [e i q, h i]
    by_cases c : t ≤ (i : Int) ∧ (i : Int) < t + k
    · rw [if_pos c, if_pos (by omega)]
    · rw [if_neg c, if_neg (by omega)]
def Fdd (a b c d e : Int) (n : Nat) : Int32 := if n < 4 then Wb a n else if n < 8 then Wb b (n - 4) else if n < 12 then Wb c (n - 8) else if n < 16 then Wb d (n - 12) else Wb e (n - 16)
theorem fd5 {R0 R1 R2 R3 R4 R5 : Nat → Int32} {t t1 t2 t3 t4 a b c d e : Int} (h1 : FdK R0 R1 t 4 (Wb a)) (h2 : FdK R1 R2 t1 4 (Wb b)) (h3 : FdK R2 R3 t2 4 (Wb c)) (h4 : FdK R3 R4 t3 4 (Wb d)) (h5 : FdK R4 R5 t4 4 (Wb e)) (e1 : t1 = t + 4) (e2 : t2 = t + 8) (e3 : t3 = t + 12) (e4 : t4 = t + 16) : FdK R0 R5 t 20 (Fdd a b c d e) := fun i => by
  rw [h5 i, h4 i, h3 i, h2 i, h1 i]
  by_cases q : t ≤ (i : Int) ∧ (i : Int) < t + 20
  · rw [if_pos q]
    unfold Fdd
    by_cases q5 : t4 ≤ (i : Int)
    · rw [if_pos (by omega), if_neg (by omega), if_neg (by omega), if_neg (by omega), if_neg (by omega)]
      congr 1
      omega
    · rw [if_neg (by omega)]
      by_cases q4 : t3 ≤ (i : Int)
      · rw [if_pos (by omega), if_neg (by omega), if_neg (by omega), if_neg (by omega), if_pos (by omega)]
        congr 1
        omega
      · rw [if_neg (by omega)]
        by_cases q3 : t2 ≤ (i : Int)
        · rw [if_pos (by omega), if_neg (by omega), if_neg (by omega), if_pos (by omega)]
          congr 1
          omega
        · rw [if_neg (by omega)]
          by_cases q2 : t1 ≤ (i : Int)
          · rw [if_pos (by omega), if_neg (by omega), if_pos (by omega)]
            congr 1
            omega
          · rw [if_neg (by omega), if_pos (by omega), if_pos (by omega)]
  · rw [if_neg q, if_neg (by omega), if_neg (by omega), if_neg (by omega), if_neg (by omega), if_neg (by omega)]
theorem and3 {k q : Int} (hk : 0 ≤ k ∧ k < 20) (e : iz k &&& iz 3 = iz q) (rq : -2147483648 ≤ q ∧ q < 2147483648) : q = k % 4 := by
  have h : k = 0 ∨ k = 1 ∨ k = 2 ∨ k = 3 ∨ k = 4 ∨ k = 5 ∨ k = 6 ∨ k = 7 ∨ k = 8 ∨ k = 9 ∨ k = 10 ∨ k = 11 ∨ k = 12 ∨ k = 13 ∨ k = 14 ∨ k = 15 ∨ k = 16 ∨ k = 17 ∨ k = 18 ∨ k = 19 := by omega
  have key : iz k &&& iz 3 = iz (k % 4) := by
    rcases h with rfl | rfl | rfl | rfl | rfl | rfl | rfl | rfl | rfl | rfl | rfl | rfl | rfl | rfl | rfl | rfl | rfl | rfl | rfl | rfl <;> decide
  exact (iz_eq rq (by omega)).mp (e.symm.trans key)
theorem fdM {a b c d e v k q1 q q2 : Int} (hk : 0 ≤ k ∧ k < 20) (hv : (k < 4 ∧ v = a) ∨ (4 ≤ k ∧ k < 8 ∧ v = b) ∨ (8 ≤ k ∧ k < 12 ∧ v = c) ∨ (12 ≤ k ∧ k < 16 ∧ v = d) ∨ (16 ≤ k ∧ v = e)) (e0 : iz k &&& iz 3 = iz q1) (r1 : -2147483648 ≤ q1 ∧ q1 < 2147483648) (e1 : iz v >>> (iz (24 - 8 * q1) &&& 31) = iz q) (e2 : (iz q).toInt8.toInt32 = iz q2) : (iz q2).toInt8.toInt32 &&& 255 = Fdd a b c d e k.toNat := by
  have h3 := and3 hk e0 r1
  unfold Fdd
  rcases hv with ⟨h1, h2⟩ | ⟨h0, h1, h2⟩ | ⟨h0, h1, h2⟩ | ⟨h0, h1, h2⟩ | ⟨h0, h2⟩
  · rw [if_pos (by omega), ← h2]
    exact wbM e1 e2 (by omega)
  · rw [if_neg (by omega), if_pos (by omega), ← h2]
    exact wbM e1 e2 (by omega)
  · rw [if_neg (by omega), if_neg (by omega), if_pos (by omega), ← h2]
    exact wbM e1 e2 (by omega)
  · rw [if_neg (by omega), if_neg (by omega), if_neg (by omega), if_pos (by omega), ← h2]
    exact wbM e1 e2 (by omega)
  · rw [if_neg (by omega), if_neg (by omega), if_neg (by omega), if_neg (by omega), ← h2]
    exact wbM e1 e2 (by omega)
def FdP (R R' : Nat → Int32) (t : Int) (F : Nat → Int32) : Prop := (700 < t + 20 ∧ ∀ i, R' i = R i) ∨ (t + 20 ≤ 700 ∧ FdK R R' t 20 F)
theorem FdP.eq {R R' S S' : Nat → Int32} {t u : Int} {F : Nat → Int32} (h : FdP R R' t F) (g : FdP S S' u F) (e : t = u) (q : ∀ i, R i &&& 255 = S i &&& 255) (i : Nat) : R' i &&& 255 = S' i &&& 255 := by
  subst e
  rcases h with ⟨h1, h2⟩ | ⟨h1, h2⟩
  · rcases g with ⟨g1, g2⟩ | ⟨g1, g2⟩
    · rw [h2, g2]
      exact q i
    · omega
  · rcases g with ⟨g1, g2⟩ | ⟨g1, g2⟩
    · omega
    · rw [h2 i, g2 i]
      by_cases c : t ≤ (i : Int) ∧ (i : Int) < t + 20
      · rw [if_pos c, if_pos c]
      · rw [if_neg c, if_neg c]
        exact q i
def LawC0 (σ τ : VH) (f d z : Int) : Prop := (z = -2 ∧ ¬ ((0 ≤ f ∧ f < 4) ∧ (0 ≤ d ∧ d ≤ 100000) ∧ gI σ 8 (f.toNat) < 4) ∧ gI τ 2 1 = gI σ 2 1 ∧ gI τ 2 5 = gI σ 2 5 ∧ gI τ 2 6 = gI σ 2 6 ∧ ∀ k : Nat, gI τ 8 k = gI σ 8 k) ∨ (((0 ≤ f ∧ f < 4) ∧ (0 ≤ d ∧ d ≤ 100000) ∧ gI σ 8 (f.toNat) < 4) ∧ gI τ 2 1 = 0 ∧ ∃ (tk pl : Nat → Int) (m : Nat) (r : Int × Nat), TS (Sx (hI σ 3) (gI σ 2 1)) (gI σ 2 1) tk pl m ∧ m ≤ 700 ∧ LwE tk m st00 r ∧ ((r.1 = 0 ∧ z = gI σ 8 (f.toNat) + 1 ∧ gI τ 2 5 = 0 ∧ gI τ 2 6 = -1 ∧ ∀ k : Nat, gI τ 8 k = if (k : Int) = f then gI σ 8 k + 1 else gI σ 8 k) ∨ (¬ r.1 = 0 ∧ z = -1 ∧ gI τ 2 5 = r.1 ∧ gI τ 2 6 = pl r.2 ∧ ∀ k : Nat, gI τ 8 k = gI σ 8 k)))
def LawC (σ τ : VH) (f d z : Int) (tk pl : Nat → Int) (m : Nat) : Prop := (z = -2 ∧ ¬ ((0 ≤ f ∧ f < 4) ∧ (0 ≤ d ∧ d ≤ 100000) ∧ gI σ 8 (f.toNat) < 4) ∧ gI τ 2 1 = gI σ 2 1 ∧ gI τ 2 5 = gI σ 2 5 ∧ gI τ 2 6 = gI σ 2 6 ∧ ∀ k : Nat, gI τ 8 k = gI σ 8 k) ∨ (((0 ≤ f ∧ f < 4) ∧ (0 ≤ d ∧ d ≤ 100000) ∧ gI σ 8 (f.toNat) < 4) ∧ gI τ 2 1 = 0 ∧ TS (Sx (hI σ 3) (gI σ 2 1)) (gI σ 2 1) tk pl m ∧ ∃ r : Int × Nat, LwE tk m st00 r ∧ ((r.1 = 0 ∧ z = gI σ 8 (f.toNat) + 1 ∧ gI τ 2 5 = 0 ∧ gI τ 2 6 = -1 ∧ ∀ k : Nat, gI τ 8 k = if (k : Int) = f then gI σ 8 k + 1 else gI σ 8 k) ∨ (¬ r.1 = 0 ∧ z = -1 ∧ gI τ 2 5 = r.1 ∧ gI τ 2 6 = pl r.2 ∧ ∀ k : Nat, gI τ 8 k = gI σ 8 k)))
theorem LawC0.out {σ τ : VH} {f d z : Int} (h : LawC0 σ τ f d z) : ∃ (tk pl : Nat → Int) (m : Nat), LawC σ τ f d z tk pl m := by
  rcases h with h | ⟨h1, h2, tk, pl, m, r, h3, -, h5, h6⟩
  · exact ⟨fun _ => 0, fun _ => 0, 0, Or.inl h⟩
  · exact ⟨tk, pl, m, Or.inr ⟨h1, h2, h3, r, h5, h6⟩⟩
def LawM (σ τ : VH) (f d z : Int) (tk pl : Nat → Int) (m : Nat) : Prop := (z = -2 ∧ ¬ ((0 ≤ f ∧ f < 4) ∧ (0 ≤ d ∧ d ≤ 100000) ∧ gI σ 38 (f.toNat) < 4) ∧ gI τ 33 2 = gI σ 33 2 ∧ gI τ 33 4 = gI σ 33 4 ∧ gI τ 33 5 = gI σ 33 5 ∧ ∀ k : Nat, gI τ 38 k = gI σ 38 k) ∨ (((0 ≤ f ∧ f < 4) ∧ (0 ≤ d ∧ d ≤ 100000) ∧ gI σ 38 (f.toNat) < 4) ∧ gI τ 33 2 = 0 ∧ ∃ r : Int × Nat, LwE tk m st00 r ∧ ((r.1 = 0 ∧ z = gI σ 38 (f.toNat) + 1 ∧ gI τ 33 4 = 0 ∧ gI τ 33 5 = -1 ∧ ∀ k : Nat, gI τ 38 k = if (k : Int) = f then gI σ 38 k + 1 else gI σ 38 k) ∨ (¬ r.1 = 0 ∧ z = -1 ∧ gI τ 33 4 = r.1 ∧ gI τ 33 5 = pl r.2 ∧ ∀ k : Nat, gI τ 38 k = gI σ 38 k)))
/-- the tapes and the numbers of laws are the same -/
def Cxt (σ : VH) : Prop := (∀ k : Nat, hI σ 3 k &&& 255 = hI σ 34 k &&& 255) ∧ (∀ k : Nat, gI σ 8 k = gI σ 38 k) ∧ SRw σ
theorem law_ts {σ τ : VH} {f d z : Int} {tk pl : Nat → Int} {m : Nat} (C : LawC σ τ f d z tk pl m) (K : Cxt σ) (e1 : gI σ 2 1 = gI σ 33 2) (hn : 0 ≤ gI σ 2 1) (q2 : gI τ 33 2 = gI σ 33 2) (q34 : ∀ k, hI τ 34 k = hI σ 34 k) (q38 : ∀ k, gI τ 38 k = gI σ 38 k) : Opq (((0 ≤ f ∧ f < 4) ∧ (0 ≤ d ∧ d ≤ 100000) ∧ gI τ 38 (f.toNat) < 4) → TS (Sx (hI τ 34) (gI τ 33 2)) (gI τ 33 2) tk pl m) := Opq.mk (fun v => by
  rcases C with ⟨-, h, -⟩ | ⟨-, -, h, -⟩
  · rw [q38, ← K.2.1] at v
    exact absurd v h
  · rw [q2, ← e1]
    exact h.row hn (fun k _ => by rw [q34, K.1 k]))
theorem law_eq {σ τ ρ : VH} {f d z w : Int} {tk pl : Nat → Int} {m : Nat} (C : LawC σ τ f d z tk pl m) (M : LawM τ ρ f d w tk pl m) (K : Cxt σ) (e1 : gI σ 2 1 = gI σ 33 2) (e5 : gI σ 2 5 = gI σ 33 4) (e6 : gI σ 2 6 = gI σ 33 5) (q2 : gI τ 33 2 = gI σ 33 2) (q4 : gI τ 33 4 = gI σ 33 4) (q5 : gI τ 33 5 = gI σ 33 5) (q38 : ∀ k, gI τ 38 k = gI σ 38 k) (p1 : gI ρ 2 1 = gI τ 2 1) (p5 : gI ρ 2 5 = gI τ 2 5) (p6 : gI ρ 2 6 = gI τ 2 6) (p8 : ∀ k, gI ρ 8 k = gI τ 8 k) : z = w ∧ gI ρ 2 1 = gI ρ 33 2 ∧ gI ρ 2 5 = gI ρ 33 4 ∧ gI ρ 2 6 = gI ρ 33 5 ∧ ∀ k, gI ρ 8 k = gI ρ 38 k := by
  have k8 := K.2.1
  rcases C with ⟨c1, c2, c3, c4, c5, c6⟩ | ⟨c1, c2, -, r, c3, c4⟩
  · rcases M with ⟨m1, m2, m3, m4, m5, m6⟩ | ⟨m1, -⟩
    · exact ⟨c1.trans m1.symm, by rw [p1, c3, m3, q2, e1], by rw [p5, c4, m4, q4, e5], by rw [p6, c5, m5, q5, e6], fun k => by rw [p8, c6, m6, q38, k8]⟩
    · rw [q38, ← k8] at m1
      exact absurd m1 c2
  · rcases M with ⟨-, m2, -⟩ | ⟨m1, m2, q, m3, m4⟩
    · rw [q38, ← k8] at m2
      exact absurd c1 m2
    · have er := c3.eq m3
      subst er
      rcases c4 with ⟨c5, c6, c7, c8, c9⟩ | ⟨c5, c6, c7, c8, c9⟩
      · rcases m4 with ⟨m5, m6, m7, m8, m9⟩ | ⟨m5, m6, m7, m8, m9⟩
        · refine ⟨by rw [c6, m6, q38, k8], by rw [p1, c2, m2], by rw [p5, c7, m7], by rw [p6, c8, m8], fun k => ?_⟩
          rw [p8, c9, m9, q38, k8]
        · exact absurd c5 m5
      · rcases m4 with ⟨m5, m6, m7, m8, m9⟩ | ⟨m5, m6, m7, m8, m9⟩
        · exact absurd m5 c5
        · refine ⟨c6.trans m6.symm, by rw [p1, c2, m2], by rw [p5, c7, m7], by rw [p6, c8, m8], fun k => ?_⟩
          rw [p8, c9, m9, q38, k8]
