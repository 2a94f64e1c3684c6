def bt (x : Int32) (i : Nat) : Bool := x.toBitVec.getLsbD i
theorem b_ext {x y : Int32} (h : ∀ i, i < 32 → bt x i = bt y i) : x = y := Int32.toBitVec_inj.mp (BitVec.eq_of_getLsbD_eq (fun i hi => h i hi))
theorem b_or (x y : Int32) (i : Nat) : bt (x ||| y) i = (bt x i || bt y i) := by unfold bt; rw [Int32.toBitVec_or, BitVec.getLsbD_or]
theorem b_and (x y : Int32) (i : Nat) : bt (x &&& y) i = (bt x i && bt y i) := by unfold bt; rw [Int32.toBitVec_and, BitVec.getLsbD_and]
theorem b_xor (x y : Int32) (i : Nat) : bt (x ^^^ y) i = (bt x i ^^ bt y i) := by unfold bt; rw [Int32.toBitVec_xor, BitVec.getLsbD_xor]
theorem b_big {x : Int32} {i : Nat} (h : 32 ≤ i) : bt x i = false := BitVec.getLsbD_of_ge _ _ h
theorem b_255 (i : Nat) : bt 255 i = decide (i < 8) := by
  rcases Nat.lt_or_ge i 32 with h | h
  · exact (by decide +kernel : ∀ i, i < 32 → bt 255 i = decide (i < 8)) i h
  · rw [b_big h, decide_eq_false (by omega)]
theorem b_65535 (i : Nat) : bt 65535 i = decide (i < 16) := by
  rcases Nat.lt_or_ge i 32 with h | h
  · exact (by decide +kernel : ∀ i, i < 32 → bt 65535 i = decide (i < 16)) i h
  · rw [b_big h, decide_eq_false (by omega)]
theorem b_m1 : ∀ i, i < 32 → bt (-1) i = true := by decide +kernel
theorem b_0 (i : Nat) : bt 0 i = false := BitVec.getLsbD_zero
theorem s_l : ∀ n, n < 32 → ((nI n &&& 31).toBitVec.smod 32).toNat = n := by decide +kernel
theorem s_u : ∀ n, n < 32 → (((nI n).toUInt32 &&& Int32.toUInt32 31).toBitVec % 32).toNat = n := by decide +kernel
theorem b_shl (n : Nat) (hn : n < 32) (x : Int32) {i : Nat} (hi : i < 32) : bt (x <<< (nI n &&& 31)) i = (decide (n ≤ i) && bt x (i - n)) := by
  unfold bt
  rw [Int32.toBitVec_shiftLeft]
  show (x.toBitVec <<< ((nI n &&& 31).toBitVec.smod 32).toNat).getLsbD i = _
  rw [s_l n hn, BitVec.getLsbD_shiftLeft]
  rcases Nat.lt_or_ge i n with h | h
  · simp [h, Nat.not_le.mpr h]
  · simp [hi, h, Nat.not_lt.mpr h]
theorem b_ushr (n : Nat) (hn : n < 32) (x : Int32) (i : Nat) : bt ((x.toUInt32 >>> ((nI n).toUInt32 &&& Int32.toUInt32 31)).toInt32) i = bt x (n + i) := by
  show (x.toUInt32 >>> ((nI n).toUInt32 &&& Int32.toUInt32 31)).toBitVec.getLsbD i = x.toUInt32.toBitVec.getLsbD (n + i)
  rw [UInt32.toBitVec_shiftRight]
  show (x.toUInt32.toBitVec >>> (((nI n).toUInt32 &&& Int32.toUInt32 31).toBitVec % 32).toNat).getLsbD i = _
  rw [s_u n hn, BitVec.getLsbD_ushiftRight]
theorem b_sshr (n : Nat) (hn : n < 32) (x : Int32) {i : Nat} (hi : i < 32) : bt (x >>> (nI n &&& 31)) i = if n + i < 32 then bt x (n + i) else bt x 31 := by
  unfold bt
  rw [Int32.toBitVec_shiftRight]
  show (x.toBitVec.sshiftRight ((nI n &&& 31).toBitVec.smod 32).toNat).getLsbD i = _
  rw [s_l n hn, BitVec.getLsbD_sshiftRight, BitVec.msb_eq_getLsbD_last]
  simp [hi]
/-! degrees: the least number of steps -/
def Ed (c : Int) (M F : Nat → Int) (p q : Nat) : Prop := (p : Int) < c ∧ (M p = (q : Int) ∨ F p = (q : Int))
def Sn (c : Int) (M F : Nat → Int) (a : Nat) : Nat → Nat → Prop
  | 0, q => q = a
  | n + 1, q => Sn c M F a n q ∨ ∃ p, Sn c M F a n p ∧ (Ed c M F p q ∨ Ed c M F q p)
theorem Sn.le {c : Int} {M F : Nat → Int} {a n m q : Nat} (h : n ≤ m) (g : Sn c M F a n q) : Sn c M F a m q := by
  induction m with
  | zero =>
    have e : n = 0 := by omega
    subst e
    exact g
  | succ m ih =>
    by_cases e : n = m + 1
    · subst e
      exact g
    · exact Or.inl (ih (by omega))
def BD (c : Int) (M F : Nat → Int) : Prop := ∀ p : Nat, (p : Int) < c → (-1 ≤ M p ∧ M p < c) ∧ (-1 ≤ F p ∧ F p < c)
theorem Sn.lt {c : Int} {M F : Nat → Int} {a : Nat} (hb : BD c M F) (ha : (a : Int) < c) : ∀ {n q : Nat}, Sn c M F a n q → (q : Int) < c
  | 0, q, h => by
    have e : q = a := h
    rw [e]
    exact ha
  | n + 1, q, h => by
    rcases h with h | ⟨p, h1, h2 | h2⟩
    · exact Sn.lt hb ha h
    · have h3 := hb p h2.1
      rcases h2.2 with e | e <;> omega
    · exact h2.1
def DV (c : Int) (M F : Nat → Int) (a n q : Nat) (z : Int) : Prop := (z = -1 ∧ ¬ Sn c M F a n q) ∨ ∃ v : Nat, z = (v : Int) ∧ v ≤ n ∧ Sn c M F a v q ∧ ∀ m, m < v → ¬ Sn c M F a m q
theorem DV.eq {c : Int} {M F : Nat → Int} {a n q : Nat} {z w : Int} (h : DV c M F a n q z) (g : DV c M F a n q w) : z = w := by
  rcases h with ⟨h1, h2⟩ | ⟨v, h1, h2, h3, h4⟩
  · rcases g with ⟨g1, g2⟩ | ⟨u, g1, g2, g3, g4⟩
    · omega
    · exact absurd (g3.le g2) h2
  · rcases g with ⟨g1, g2⟩ | ⟨u, g1, g2, g3, g4⟩
    · exact absurd (h3.le h2) g2
    · have e1 : ¬ v < u := fun e => g4 v e h3
      have e2 : ¬ u < v := fun e => h4 u e g3
      omega
theorem DV.rg {c : Int} {M F : Nat → Int} {a n q : Nat} {z : Int} (h : DV c M F a n q z) : -1 ≤ z ∧ z ≤ n := by
  rcases h with ⟨h1, h2⟩ | ⟨v, h1, h2, h3, h4⟩ <;> omega
theorem DV.at {c : Int} {M F : Nat → Int} {a n q : Nat} {z : Int} (h : DV c M F a n q z) (e : z = (n : Int)) : Sn c M F a n q := by
  rcases h with ⟨h1, h2⟩ | ⟨v, h1, h2, h3, h4⟩
  · omega
  · exact h3.le h2
theorem DV.no {c : Int} {M F : Nat → Int} {a n q : Nat} {z : Int} (h : DV c M F a n q z) (e : z = -1) : ¬ Sn c M F a n q := by
  rcases h with ⟨h1, h2⟩ | ⟨v, h1, h2, h3, h4⟩
  · exact h2
  · omega
/-- in round n, the edges P walked -/
def Mid (c : Int) (M F : Nat → Int) (a n : Nat) (P : Nat → Nat → Prop) (g : Nat → Int) : Prop := (∀ q : Nat, (q : Int) < c → DV c M F a n q (g q) ∨ (g q = (n : Int) + 1 ∧ Sn c M F a (n + 1) q ∧ ¬ Sn c M F a n q)) ∧ ∀ p r, P p r → ((g p = (n : Int) → g r ≠ -1) ∧ (g r = (n : Int) → g p ≠ -1))
theorem Mid.imp {c : Int} {M F : Nat → Int} {a n : Nat} {P P' : Nat → Nat → Prop} {g : Nat → Int} (h : Mid c M F a n P g) (i : ∀ p r, P' p r → P p r) : Mid c M F a n P' g := ⟨h.1, fun p r q => h.2 p r (i p r q)⟩
theorem Mid.put {c : Int} {M F : Nat → Int} {a n : Nat} {P : Nat → Nat → Prop} {g : Nat → Int} (h : Mid c M F a n P g) {x : Nat} (h2 : Sn c M F a (n + 1) x) (h3 : ¬ Sn c M F a n x) : Mid c M F a n P (fun k => if (k : Int) = (x : Int) then (n : Int) + 1 else g k) := by
  refine ⟨fun q hq => ?_, fun p r hpr => ?_⟩
  · show DV c M F a n q (if (q : Int) = (x : Int) then (n : Int) + 1 else g q) ∨ ((if (q : Int) = (x : Int) then (n : Int) + 1 else g q) = (n : Int) + 1 ∧ _)
    by_cases e : (q : Int) = (x : Int)
    · have e2 : q = x := by omega
      subst e2
      exact Or.inr ⟨if_pos rfl, h2, h3⟩
    · rw [if_neg e]
      exact h.1 q hq
  · have hh := h.2 p r hpr
    show ((if (p : Int) = (x : Int) then (n : Int) + 1 else g p) = (n : Int) → (if (r : Int) = (x : Int) then (n : Int) + 1 else g r) ≠ -1) ∧ ((if (r : Int) = (x : Int) then (n : Int) + 1 else g r) = (n : Int) → (if (p : Int) = (x : Int) then (n : Int) + 1 else g p) ≠ -1)
    constructor
    · intro e1
      split
      · omega
      · split at e1
        · omega
        · exact hh.1 e1
    · intro e1
      split
      · omega
      · split at e1
        · omega
        · exact hh.2 e1
theorem Mid.edge {c : Int} {M F : Nat → Int} {a n p r : Nat} {P : Nat → Nat → Prop} {g : Nat → Int} (h : Mid c M F a n P g) (hn : (g p = (n : Int) → g r ≠ -1) ∧ (g r = (n : Int) → g p ≠ -1)) : Mid c M F a n (fun x y => P x y ∨ (x = p ∧ y = r)) g := ⟨h.1, fun x y hxy => by
  rcases hxy with e | ⟨e1, e2⟩
  · exact h.2 x y e
  · rw [e1, e2]
    exact hn⟩
def stp (g : Nat → Int) (c p r n : Int) (k : Nat) : Int := if 0 ≤ r ∧ r < c then (if g p.toNat = n ∧ g r.toNat = -1 then (if (k : Int) = r then n + 1 else g k) else if g r.toNat = n ∧ g p.toNat = -1 then (if (k : Int) = p then n + 1 else g k) else g k) else g k
theorem Mid.step {c : Int} {M F : Nat → Int} {a n p r : Nat} {P : Nat → Nat → Prop} {g : Nat → Int} (h : Mid c M F a n P g) (hp : (p : Int) < c) (hr : (r : Int) < c) (he : Ed c M F p r) : Mid c M F a n (fun x y => P x y ∨ (x = p ∧ y = r)) (stp g c p r n) := by
  have ep : ((p : Int)).toNat = p := Int.toNat_natCast p
  have er : ((r : Int)).toNat = r := Int.toNat_natCast r
  by_cases hA : g p = (n : Int) ∧ g r = -1
  · have e : stp g c p r n = fun k : Nat => if (k : Int) = (r : Int) then (n : Int) + 1 else g k := by
      funext k
      unfold stp
      rw [ep, er, if_pos ⟨by omega, hr⟩, if_pos hA]
    rw [e]
    have s1 : Sn c M F a n p := by
      rcases h.1 p hp with q | q
      · exact q.at hA.1
      · omega
    have s2 : ¬ Sn c M F a n r := by
      rcases h.1 r hr with q | q
      · exact q.no hA.2
      · omega
    refine Mid.edge (h.put (Or.inr ⟨p, s1, Or.inl he⟩) s2) ⟨fun _ => ?_, fun e1 => ?_⟩
    · rw [if_pos rfl]
      omega
    · rw [if_pos rfl] at e1
      omega
  · by_cases hB : g r = (n : Int) ∧ g p = -1
    · have e : stp g c p r n = fun k : Nat => if (k : Int) = (p : Int) then (n : Int) + 1 else g k := by
        funext k
        unfold stp
        rw [ep, er, if_pos ⟨by omega, hr⟩, if_neg hA, if_pos hB]
      rw [e]
      have s1 : Sn c M F a n r := by
        rcases h.1 r hr with q | q
        · exact q.at hB.1
        · omega
      have s2 : ¬ Sn c M F a n p := by
        rcases h.1 p hp with q | q
        · exact q.no hB.2
        · omega
      refine Mid.edge (h.put (Or.inr ⟨r, s1, Or.inr he⟩) s2) ⟨fun e1 => ?_, fun _ => ?_⟩
      · rw [if_pos rfl] at e1
        omega
      · rw [if_pos rfl]
        omega
    · have e : stp g c p r n = g := by
        funext k
        unfold stp
        rw [ep, er, if_pos ⟨by omega, hr⟩, if_neg hA, if_neg hB]
      rw [e]
      exact Mid.edge h ⟨fun e1 e2 => hA ⟨e1, e2⟩, fun e1 e2 => hB ⟨e1, e2⟩⟩
theorem stp_out {g : Nat → Int} {c p r n : Int} (h : ¬ (0 ≤ r ∧ r < c)) : stp g c p r n = g := by
  funext k
  unfold stp
  rw [if_neg h]
def Pk (M F : Nat → Int) (k : Int) : Nat → Nat → Prop := fun x y => (x : Int) < k ∧ (M x = (y : Int) ∨ F x = (y : Int))
theorem Mid.one {c : Int} {M F : Nat → Int} {a n p : Nat} {v : Int} {P : Nat → Nat → Prop} {g : Nat → Int} (h : Mid c M F a n P g) (hb : BD c M F) (hp : (p : Int) < c) (hv : M p = v ∨ F p = v) : Mid c M F a n (fun x y => P x y ∨ (x = p ∧ (y : Int) = v)) (stp g c p v n) := by
  have hb1 := hb p hp
  by_cases hv0 : 0 ≤ v
  · obtain ⟨r, rfl⟩ := Int.eq_ofNat_of_zero_le hv0
    have hr : (r : Int) < c := by rcases hv with e | e <;> omega
    exact (h.step hp hr ⟨hp, hv⟩).imp (fun x y q => by
      rcases q with q | q
      · exact Or.inl q
      · exact Or.inr ⟨q.1, by omega⟩)
  · rw [stp_out (by omega)]
    exact h.imp (fun x y q => by
      rcases q with q | q
      · exact q
      · omega)
theorem Mid.child {c k n : Int} {M F : Nat → Int} {a : Nat} {g : Nat → Int} (hb : BD c M F) (h0 : 0 ≤ k) (hk : k < c) (hn : 0 ≤ n) (h : Mid c M F a n.toNat (Pk M F k) g) : Mid c M F a n.toNat (Pk M F (k + 1)) (stp (stp g c k (M k.toNat) n) c k (F k.toNat) n) := by
  obtain ⟨p, rfl⟩ := Int.eq_ofNat_of_zero_le h0
  obtain ⟨m, rfl⟩ := Int.eq_ofNat_of_zero_le hn
  rw [Int.toNat_natCast, Int.toNat_natCast] at *
  have h1 := (h.one hb hk (v := M p) (Or.inl rfl)).one hb hk (v := F p) (Or.inr rfl)
  refine h1.imp (fun x y q => ?_)
  by_cases e : x = p
  · subst e
    rcases q.2 with e | e
    · exact Or.inl (Or.inr ⟨rfl, e.symm⟩)
    · exact Or.inr ⟨rfl, e.symm⟩
  · exact Or.inl (Or.inl ⟨by have := q.1; omega, q.2⟩)
theorem Mid.start {c : Int} {M F : Nat → Int} {a n : Nat} {g : Nat → Int} (h : ∀ q : Nat, (q : Int) < c → DV c M F a n q (g q)) : Mid c M F a n (Pk M F 0) g := ⟨fun q hq => Or.inl (h q hq), fun p r q => by have := q.1; omega⟩
theorem Mid.fin {c k : Int} {M F : Nat → Int} {a n : Nat} {g : Nat → Int} (hb : BD c M F) (ha : (a : Int) < c) (hk : c ≤ k) (h : Mid c M F a n (Pk M F k) g) : ∀ q : Nat, (q : Int) < c → DV c M F a (n + 1) q (g q) := by
  intro q hq
  rcases h.1 q hq with (⟨h1, h2⟩ | ⟨v, h1, h2, h3, h4⟩) | ⟨h1, h2, h3⟩
  · refine Or.inl ⟨h1, fun hs => ?_⟩
    rcases hs with hs | ⟨p, hs, hE⟩
    · exact h2 hs
    · have hp := Sn.lt hb ha hs
      have hgp : g p = (n : Int) := by
        rcases h.1 p hp with (⟨k1, k2⟩ | ⟨w, k1, k2, k3, k4⟩) | ⟨k1, k2, k3⟩
        · exact absurd hs k2
        · by_cases e : w = n
          · rw [k1, e]
          · exact absurd (Sn.le (n := w + 1) (by omega) (Or.inr ⟨p, k3, hE⟩)) h2
        · exact absurd hs k3
      rcases hE with e | e
      · exact (h.2 p q ⟨by have := e.1; omega, e.2⟩).1 hgp h1
      · exact (h.2 q p ⟨by have := e.1; omega, e.2⟩).2 hgp h1
  · exact Or.inr ⟨v, h1, by omega, h3, h4⟩
  · exact Or.inr ⟨n + 1, by omega, Nat.le_refl _, h2, fun m hm hs => h3 (hs.le (by omega))⟩
theorem DV.zero {c s : Int} {M F : Nat → Int} {g : Nat → Int} (hs : 0 ≤ s) (h : ∀ q : Nat, (q : Int) < c → g q = if (q : Int) = s then 0 else -1) : ∀ q : Nat, (q : Int) < c → DV c M F s.toNat 0 q (g q) := by
  intro q hq
  rw [h q hq]
  by_cases e : (q : Int) = s
  · rw [if_pos e]
    exact Or.inr ⟨0, rfl, Nat.le_refl _, (show q = s.toNat by omega), fun m hm => by omega⟩
  · rw [if_neg e]
    exact Or.inl ⟨rfl, fun (hq : q = s.toNat) => e (by omega)⟩
/-! the reference's sets of bits -/
def UB (v : Int) (x : Int32) : Prop := ∀ q : Nat, q < 32 → (bt x q = true ↔ v = (q : Int))
theorem bt1 : ∀ q : Nat, q < 32 → (bt 1 q = true ↔ q = 0) := by decide +kernel
theorem ub0 {v : Int} (h : v < 0) : UB v (iz 0) := fun q _ => by
  rw [show iz 0 = 0 from rfl, b_0]
  constructor
  · intro e
    cases e
  · intro e
    omega
theorem ub1 {v z : Int} (h : 0 ≤ v ∧ v < 32) (e : iz 1 <<< (iz v &&& 31) = iz z) : UB v (iz z) := fun q hq => by
  rw [← e, iz_nI (a := v) (j := v.toNat) (by omega), b_shl v.toNat (by omega) (iz 1) hq, Bool.and_eq_true, decide_eq_true_eq, show iz 1 = 1 from rfl, bt1 _ (by omega)]
  omega
theorem ub_or {v w x y z : Int} (h1 : UB v (iz x)) (h2 : UB w (iz y)) (e : iz x ||| iz y = iz z) : ∀ q : Nat, q < 32 → (bt (iz z) q = true ↔ (v = (q : Int) ∨ w = (q : Int))) := fun q hq => by
  rw [← e, b_or, Bool.or_eq_true, h1 q hq, h2 q hq]
theorem bit1 {s k x y : Int} (hk : 0 ≤ k ∧ k < 31) (hy : -2147483648 ≤ y ∧ y < 2147483648) (e1 : iz s >>> (iz k &&& 31) = iz x) (e2 : iz x &&& iz 1 = iz y) : y = 1 ↔ bt (iz s) k.toNat = true := by
  have h0 : ∀ i : Nat, i < 32 → bt (iz y) i = (bt (iz x) i && bt 1 i) := fun i _ => by rw [← e2, b_and]; rfl
  have hx : bt (iz x) 0 = bt (iz s) k.toNat := by
    rw [← e1, iz_nI (a := k) (j := k.toNat) (by omega), b_sshr k.toNat (by omega) (iz s) (by decide), if_pos (by omega), Nat.add_zero]
  rw [← hx]
  constructor
  · intro h
    subst h
    have h1 := h0 0 (by decide)
    rw [show bt (iz 1) 0 = true by decide, show bt 1 0 = true by decide, Bool.and_true] at h1
    exact h1.symm
  · intro h
    have e9 : iz y = iz 1 := b_ext (fun i hi => by
      rw [h0 i hi]
      by_cases hi0 : i = 0
      · subst hi0
        rw [h]
        decide
      · have h2 : bt 1 i = false := by
          cases hb : bt 1 i with
          | false => rfl
          | true => exact absurd ((bt1 i hi).mp hb) hi0
        rw [h2, Bool.and_false]
        exact h2.symm)
    exact (iz_eq hy (by decide)).mp e9
theorem and0 {s u z : Int} (hz : -2147483648 ≤ z ∧ z < 2147483648) (e : iz s &&& iz u = iz z) : z = 0 ↔ ¬ ∃ r : Nat, r < 32 ∧ bt (iz s) r = true ∧ bt (iz u) r = true := by
  constructor
  · intro h
    subst h
    rintro ⟨r, h1, h2, h3⟩
    have h4 := congrArg (fun x => bt x r) e
    simp only [b_and, h2, h3] at h4
    rw [show iz 0 = 0 from rfl, b_0] at h4
    cases h4
  · intro h
    refine (iz_eq hz (by decide)).mp ?_
    rw [← e]
    refine b_ext (fun i hi => ?_)
    rw [b_and, show iz 0 = 0 from rfl, b_0]
    cases h1 : bt (iz s) i with
    | false => rfl
    | true =>
      cases h2 : bt (iz u) i with
      | false => rfl
      | true => exact absurd ⟨i, hi, h1, h2⟩ h
/-- the set z is s and its neighbours by the edges of those below k -/
def WdB (k : Int) (M F : Nat → Int) (s z : Int32) : Prop := ∀ q : Nat, q < 32 → (bt z q = true ↔ (bt s q = true ∨ ∃ p : Nat, (p : Int) < k ∧ ((bt s p = true ∧ (M p = (q : Int) ∨ F p = (q : Int))) ∨ (p = q ∧ ∃ r : Nat, r < 32 ∧ bt s r = true ∧ (M p = (r : Int) ∨ F p = (r : Int))))))
theorem WdB.zero {M F : Nat → Int} {s : Int32} : WdB 0 M F s s := fun q _ => by
  constructor
  · exact Or.inl
  · rintro (h | ⟨p, h, -⟩)
    · exact h
    · omega
theorem WdB.step {k : Int} {M F : Nat → Int} {s u m m1 m2 : Int32} (h0 : 0 ≤ k) (hm : WdB k M F s m) (hu : ∀ q : Nat, q < 32 → (bt u q = true ↔ (M k.toNat = (q : Int) ∨ F k.toNat = (q : Int)))) (h1 : ∀ q : Nat, q < 32 → (bt m1 q = true ↔ (bt m q = true ∨ (bt s k.toNat = true ∧ bt u q = true)))) (h2 : ∀ q : Nat, q < 32 → (bt m2 q = true ↔ (bt m1 q = true ∨ ((q : Int) = k ∧ ∃ r : Nat, r < 32 ∧ bt s r = true ∧ bt u r = true)))) : WdB (k + 1) M F s m2 := by
  intro q hq
  rw [h2 q hq, h1 q hq, hm q hq, hu q hq]
  constructor
  · rintro (((h | ⟨p, g1, g2⟩) | ⟨g1, g2⟩) | ⟨g1, r, r1, r2, r3⟩)
    · exact Or.inl h
    · exact Or.inr ⟨p, by omega, g2⟩
    · exact Or.inr ⟨k.toNat, by omega, Or.inl ⟨g1, g2⟩⟩
    · exact Or.inr ⟨k.toNat, by omega, Or.inr ⟨by omega, r, r1, r2, (hu r r1).mp r3⟩⟩
  · rintro (h | ⟨p, g1, g2⟩)
    · exact Or.inl (Or.inl (Or.inl h))
    · by_cases e : (p : Int) < k
      · exact Or.inl (Or.inl (Or.inr ⟨p, e, g2⟩))
      · have ep : p = k.toNat := by omega
        subst ep
        rcases g2 with ⟨g3, g4⟩ | ⟨g3, r, r1, r2, r3⟩
        · exact Or.inl (Or.inr ⟨g3, g4⟩)
        · exact Or.inr ⟨by omega, r, r1, r2, (hu r r1).mpr r3⟩
def SB (c : Int) (M F : Nat → Int) (a n : Nat) (s : Int32) : Prop := ∀ q : Nat, q < 32 → (bt s q = true ↔ Sn c M F a n q)
theorem SB.step {c : Int} {M F : Nat → Int} {a n : Nat} {s z : Int32} (hc : c ≤ 20) (hb : BD c M F) (ha : (a : Int) < c) (h : SB c M F a n s) (w : WdB c M F s z) : SB c M F a (n + 1) z := by
  intro q hq
  rw [w q hq, h q hq]
  constructor
  · rintro (g | ⟨p, g1, ⟨g2, g3⟩ | ⟨g2, r, r1, r2, r3⟩⟩)
    · exact Or.inl g
    · exact Or.inr ⟨p, (h p (by omega)).mp g2, Or.inl ⟨g1, g3⟩⟩
    · subst g2
      exact Or.inr ⟨r, (h r r1).mp r2, Or.inr ⟨g1, r3⟩⟩
  · rintro (g | ⟨p, g1, g2 | g2⟩)
    · exact Or.inl g
    · exact Or.inr ⟨p, g2.1, Or.inl ⟨(h p (by have := g2.1; omega)).mpr g1, g2.2⟩⟩
    · have hp := Sn.lt hb ha g1
      exact Or.inr ⟨q, g2.1, Or.inr ⟨rfl, p, by omega, (h p (by omega)).mpr g1, g2.2⟩⟩
theorem SB.zero {c a z : Int} {M F : Nat → Int} (h : 0 ≤ a ∧ a < 32) (e : iz 1 <<< (iz a &&& 31) = iz z) : SB c M F a.toNat 0 (iz z) := fun q hq => by
  rw [ub1 h e q hq]
  show a = (q : Int) ↔ q = a.toNat
  omega
