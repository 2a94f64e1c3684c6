/-! the class's tokens while they are made: c of them, k signs read -/
def Sx (f : Nat → Int32) (n i : Int) : Int := if i < n then (f i.toNat &&& 255).toInt else 0
def LxC (S : Int → Int) (n k q t : Int) : Prop := q < n ∧ ∃ e, Tok S n q t e ∧ Bl S e k
def LxO1 (S : Int → Int) (k q t len : Int) : Prop := q < k ∧ len = k - q ∧ (∀ i, q ≤ i → i < k → 97 ≤ S i ∧ S i ≤ 122) ∧ ((8 < k - q ∧ t = 0) ∨ (k - q ≤ 8 ∧ t = wN S q (k - q).toNat))
def LxO2 (S : Int → Int) (k q t len : Int) : Prop := q < k ∧ len = k - q ∧ (∀ i, q ≤ i → i < k → 48 ≤ S i ∧ S i ≤ 57) ∧ ((6 < k - q ∧ t = 0) ∨ (k - q ≤ 6 ∧ t = -1 - dN S q (k - q).toNat))
def LxL (S : Int → Int) (n k bf len q t : Int) : Prop := (bf = 1 ∧ LxO1 S k q t len) ∨ (bf = 2 ∧ LxO2 S k q t len) ∨ (¬ bf = 1 ∧ ¬ bf = 2 ∧ LxC S n k q t)
def LxI (S : Int → Int) (n k bf len : Int) (c : Nat) (tk pl : Nat → Int) : Prop := (∀ j, j + 1 < c → LxC S n (pl (j + 1)) (pl j) (tk j)) ∧ (0 < c → Bl S 0 (pl 0)) ∧ ((c = 0 ∧ ¬ bf = 1 ∧ ¬ bf = 2 ∧ Bl S 0 k) ∨ (0 < c ∧ LxL S n k bf len (pl (c - 1)) (tk (c - 1))))
theorem LxL.close {S : Int → Int} {n k bf len q t : Int} (h : LxL S n k bf len q t) (hk : k ≤ n) (h1 : bf = 1 → ¬ (97 ≤ S k ∧ S k ≤ 122)) (h2 : bf = 2 → ¬ (48 ≤ S k ∧ S k ≤ 57) ∧ ¬ (97 ≤ S k ∧ S k ≤ 122)) : LxC S n k q t := by
  rcases h with ⟨b, a1, a2, a3, a4⟩ | ⟨b, a1, a2, a3, a4⟩ | ⟨-, -, h⟩
  · exact ⟨by omega, k, Or.inr ⟨by omega, hk, Or.inl ⟨⟨a1, a3, h1 b⟩, a4⟩⟩, Bl.rf S k⟩
  · refine ⟨by omega, k, Or.inr ⟨by omega, hk, Or.inr (Or.inl ⟨⟨a1, a3, (h2 b).1⟩, ?_⟩)⟩, Bl.rf S k⟩
    rcases a4 with ⟨c1, c2⟩ | ⟨c1, c2⟩
    · exact Or.inl ⟨Or.inl c1, c2⟩
    · exact Or.inr ⟨c1, (h2 b).2, c2⟩
  · exact h
theorem LxL.spoil {S : Int → Int} {n k bf len q t : Int} (h : LxL S n k bf len q t) (hk : k ≤ n) (hb : bf = 2) (h1 : 97 ≤ S k ∧ S k ≤ 122) : LxC S n k q 0 := by
  rcases h with ⟨b, -⟩ | ⟨b, a1, a2, a3, a4⟩ | ⟨-, b, -⟩
  · omega
  · exact ⟨by omega, k, Or.inr ⟨by omega, hk, Or.inr (Or.inl ⟨⟨a1, a3, by omega⟩, Or.inl ⟨Or.inr h1, rfl⟩⟩)⟩, Bl.rf S k⟩
  · exact absurd hb b
theorem LxI.push {S : Int → Int} {n k bf len bf' tp t0 : Int} {c : Nat} {tk pl tk' pl' : Nat → Int} (h : LxI S n k bf len c tk pl) (hp : 0 < c → LxC S n k (pl (c - 1)) tp) (hl : LxL S n (k + 1) bf' 1 k t0) {len' : Int} {c' : Nat} (hl' : len' = 1) (hc' : c' = c + 1) (e1 : ∀ j, j < c → pl' j = pl j) (e2 : ∀ j, j + 1 < c → tk' j = tk j) (e3 : 0 < c → tk' (c - 1) = tp) (e4 : pl' c = k) (e5 : tk' c = t0) : LxI S n (k + 1) bf' len' c' tk' pl' := by
  subst hl' hc'
  obtain ⟨g1, g2, g3⟩ := h
  refine ⟨fun j hj => ?_, fun _ => ?_, Or.inr ⟨by omega, ?_⟩⟩
  · by_cases hjc : j + 1 < c
    · rw [e1 (j + 1) hjc, e1 j (by omega), e2 j hjc]
      exact g1 j hjc
    · have ej : j = c - 1 := by omega
      have hp1 := hp (by omega)
      rw [e1 j (by omega), ej, e3 (by omega), show c - 1 + 1 = c by omega, e4]
      exact hp1
  · by_cases hc : 0 < c
    · rw [e1 0 hc]
      exact g2 hc
    · have hc0 : c = 0 := by omega
      subst hc0
      rw [e4]
      rcases g3 with ⟨-, -, -, g⟩ | ⟨g, -⟩
      · exact g
      · omega
  · rw [show c + 1 - 1 = c by omega, e4, e5]
    exact hl
theorem LxI.blank {S : Int → Int} {n k bf len len' : Int} {c : Nat} {tk pl : Nat → Int} (h : LxI S n k bf len c tk pl) (hk : k < n) (hb : S k = 32 ∨ S k = 10) {bf' : Int} (hb' : bf' = 4) : LxI S n (k + 1) bf' len' c tk pl := by
  subst hb'
  obtain ⟨g1, g2, g3⟩ := h
  refine ⟨g1, g2, ?_⟩
  rcases g3 with ⟨a1, a2, a3, a4⟩ | ⟨a1, a2⟩
  · exact Or.inl ⟨a1, by decide, by decide, a4.snoc hb⟩
  · obtain ⟨b1, e, b2, b3⟩ := a2.close (by omega) (fun _ => by omega) (fun _ => by omega)
    exact Or.inr ⟨a1, Or.inr (Or.inr ⟨by decide, by decide, b1, e, b2, b3.snoc hb⟩)⟩
theorem wN_snoc {S : Int → Int} {q k : Int} (h : q ≤ k) : wN S q (k + 1 - q).toNat = 256 * wN S q (k - q).toNat + S k := by
  have e : (k + 1 - q).toNat = (k - q).toNat + 1 := by omega
  rw [e]
  show 256 * wN S q (k - q).toNat + S (q + (((k - q).toNat : Nat) : Int)) = _
  rw [show q + (((k - q).toNat : Nat) : Int) = k by omega]
theorem dN_snoc {S : Int → Int} {q k : Int} (h : q ≤ k) : dN S q (k + 1 - q).toNat = 10 * dN S q (k - q).toNat + (S k - 48) := by
  have e : (k + 1 - q).toNat = (k - q).toNat + 1 := by omega
  rw [e]
  show 10 * dN S q (k - q).toNat + (S (q + (((k - q).toNat : Nat) : Int)) - 48) = _
  rw [show q + (((k - q).toNat : Nat) : Int) = k by omega]
theorem LxI.more1 {S : Int → Int} {n k bf bf' len len' t' : Int} {c : Nat} {tk pl tk' : Nat → Int} (h : LxI S n k bf len c tk pl) (hb : bf = 1) (hb' : bf' = 1) (hl : len' = len + 1) (hs : 97 ≤ S k ∧ S k ≤ 122) (ht : (8 < len + 1 ∧ t' = 0) ∨ (len + 1 ≤ 8 ∧ t' = 256 * tk (c - 1) + S k)) (e1 : ∀ j, j + 1 < c → tk' j = tk j) (e2 : 0 < c → tk' (c - 1) = t') : LxI S n (k + 1) bf' len' c tk' pl := by
  subst hb hb' hl
  obtain ⟨g1, g2, g3⟩ := h
  rcases g3 with ⟨-, a2, -⟩ | ⟨a1, a2⟩
  · exact absurd rfl a2
  · refine ⟨fun j hj => by rw [e1 j hj]; exact g1 j hj, g2, Or.inr ⟨a1, Or.inl ⟨rfl, ?_⟩⟩⟩
    rw [e2 a1]
    rcases a2 with ⟨-, b1, b2, b3, b4⟩ | ⟨b, -⟩ | ⟨b, -⟩
    · refine ⟨by omega, by omega, fun i h1 h2 => ?_, ?_⟩
      · by_cases ei : i = k
        · rw [ei]
          exact hs
        · exact b3 i h1 (by omega)
      · rw [wN_snoc (by omega)]
        rcases ht with ⟨c1, c2⟩ | ⟨c1, c2⟩
        · exact Or.inl ⟨by omega, c2⟩
        · rcases b4 with ⟨d1, d2⟩ | ⟨d1, d2⟩
          · omega
          · exact Or.inr ⟨by omega, by rw [c2, d2]⟩
    · omega
    · exact absurd rfl b
theorem LxI.more2 {S : Int → Int} {n k bf bf' len len' t' : Int} {c : Nat} {tk pl tk' : Nat → Int} (h : LxI S n k bf len c tk pl) (hb : bf = 2) (hb' : bf' = 2) (hl : len' = len + 1) (hs : 48 ≤ S k ∧ S k ≤ 57) (ht : (6 < len + 1 ∧ t' = 0) ∨ (len + 1 ≤ 6 ∧ t' = -1 - (10 * (-1 - tk (c - 1)) + (S k - 48)))) (e1 : ∀ j, j + 1 < c → tk' j = tk j) (e2 : 0 < c → tk' (c - 1) = t') : LxI S n (k + 1) bf' len' c tk' pl := by
  subst hb hb' hl
  obtain ⟨g1, g2, g3⟩ := h
  rcases g3 with ⟨-, -, a2, -⟩ | ⟨a1, a2⟩
  · exact absurd rfl a2
  · refine ⟨fun j hj => by rw [e1 j hj]; exact g1 j hj, g2, Or.inr ⟨a1, Or.inr (Or.inl ⟨rfl, ?_⟩)⟩⟩
    rw [e2 a1]
    rcases a2 with ⟨b, -⟩ | ⟨-, b1, b2, b3, b4⟩ | ⟨-, b, -⟩
    · omega
    · refine ⟨by omega, by omega, fun i h1 h2 => ?_, ?_⟩
      · by_cases ei : i = k
        · rw [ei]
          exact hs
        · exact b3 i h1 (by omega)
      · rw [dN_snoc (by omega)]
        rcases ht with ⟨c1, c2⟩ | ⟨c1, c2⟩
        · exact Or.inl ⟨by omega, c2⟩
        · rcases b4 with ⟨d1, d2⟩ | ⟨d1, d2⟩
          · omega
          · exact Or.inr ⟨by omega, by omega⟩
    · exact absurd rfl b
/-- what is known of the last token, where it is open -/
theorem LxI.last {S : Int → Int} {n k bf len : Int} {c : Nat} {tk pl : Nat → Int} (h : LxI S n k bf len c tk pl) (hb : bf = 1 ∨ bf = 2) : 0 < c ∧ 1 ≤ len ∧ (bf = 1 → (8 < len ∧ tk (c - 1) = 0) ∨ (len ≤ 8 ∧ 0 ≤ tk (c - 1) ∧ 2 * tk (c - 1) < 256 ^ len.toNat)) ∧ (bf = 2 → (6 < len ∧ tk (c - 1) = 0) ∨ (len ≤ 6 ∧ 0 ≤ -1 - tk (c - 1) ∧ -1 - tk (c - 1) < 10 ^ len.toNat)) := by
  obtain ⟨g1, g2, g3⟩ := h
  rcases g3 with ⟨-, a2, a3, -⟩ | ⟨a1, a2⟩
  · omega
  · rcases a2 with ⟨b, b1, b2, b3, b4⟩ | ⟨b, b1, b2, b3, b4⟩ | ⟨b, b', -⟩
    · refine ⟨a1, by omega, fun _ => ?_, fun e => by omega⟩
      rcases b4 with ⟨c1, c2⟩ | ⟨c1, c2⟩
      · exact Or.inl ⟨by omega, c2⟩
      · have h9 := (wN_wy (S := S) (p := pl (c - 1)) (k - pl (c - 1)).toNat (fun i hi => b3 _ (by omega) (by omega))).bd
        rw [← c2, ← b2] at h9
        exact Or.inr ⟨by omega, h9.1, (h9.2.2 (by omega)).2⟩
    · refine ⟨a1, by omega, fun e => by omega, fun _ => ?_⟩
      rcases b4 with ⟨c1, c2⟩ | ⟨c1, c2⟩
      · exact Or.inl ⟨by omega, c2⟩
      · have h9 := dN_bd (S := S) (p := pl (c - 1)) (k - pl (c - 1)).toNat (fun i hi => b3 _ (by omega) (by omega))
        rw [← b2] at h9 c2
        exact Or.inr ⟨by omega, by omega, by omega⟩
    · omega
/-- a token's first sign -/
theorem LxL.first {S : Int → Int} {n k b : Int} (hk : k < n) (h : (b = 1 ∧ 97 ≤ S k ∧ S k ≤ 122) ∨ (b = 2 ∧ 48 ≤ S k ∧ S k ≤ 57) ∨ (b = 3 ∧ Sg (S k)) ∨ (b = 5 ∧ ¬ (97 ≤ S k ∧ S k ≤ 122) ∧ ¬ (48 ≤ S k ∧ S k ≤ 57) ∧ ¬ (S k = 32 ∨ S k = 10) ∧ ¬ Sg (S k))) {t : Int} (ht : (b = 5 ∧ t = 0) ∨ (b = 2 ∧ t = -1 - (S k - 48)) ∨ (¬ b = 5 ∧ ¬ b = 2 ∧ t = S k)) : LxL S n (k + 1) b 1 k t := by
  rcases h with ⟨h1, h2⟩ | ⟨h1, h2⟩ | ⟨h1, h2⟩ | ⟨h1, h2, h3, h4, h5⟩
  · refine Or.inl ⟨h1, by omega, by omega, fun i a b => ?_, Or.inr ⟨by omega, ?_⟩⟩
    · rw [show i = k by omega]
      exact h2
    · rw [wN_snoc (Int.le_refl k), show (k - k).toNat = 0 by omega]
      show t = 256 * 0 + S k
      omega
  · refine Or.inr (Or.inl ⟨h1, by omega, by omega, fun i a b => ?_, Or.inr ⟨by omega, ?_⟩⟩)
    · rw [show i = k by omega]
      exact h2
    · rw [dN_snoc (Int.le_refl k), show (k - k).toNat = 0 by omega]
      show t = -1 - (10 * 0 + (S k - 48))
      omega
  · have h6 : ¬ (97 ≤ S k ∧ S k ≤ 122) ∧ ¬ (48 ≤ S k ∧ S k ≤ 57) ∧ ¬ (S k = 32 ∨ S k = 10) := by
      unfold Sg at h2
      omega
    exact Or.inr (Or.inr ⟨by omega, by omega, hk, k + 1, Or.inr ⟨hk, by omega, Or.inr (Or.inr ⟨h6.1, h6.2.1, h6.2.2, rfl, Or.inl ⟨h2, by omega⟩⟩)⟩, Bl.rf S _⟩)
  · exact Or.inr (Or.inr ⟨by omega, by omega, hk, k + 1, Or.inr ⟨hk, by omega, Or.inr (Or.inr ⟨h2, h3, h4, rfl, Or.inr ⟨h5, by omega⟩⟩)⟩, Bl.rf S _⟩)
theorem LxI.start {S : Int → Int} {n len : Int} {tk pl : Nat → Int} : LxI S n 0 4 len 0 tk pl := ⟨fun j hj => absurd hj (by omega), fun h => absurd h (by omega), Or.inl ⟨rfl, by decide, by decide, Bl.rf S 0⟩⟩
theorem LxI.fin {S : Int → Int} {n bf len : Int} {c : Nat} {tk pl tk' pl' : Nat → Int} (h : LxI S n n bf len c tk pl) (h0 : S n = 0) (e1 : ∀ j, j < c → pl' j = pl j) (e2 : ∀ j, j < c → tk' j = tk j) (e4 : pl' c = n) (e5 : tk' c = 1) : TS S n tk' pl' c := by
  obtain ⟨g1, g2, g3⟩ := h
  refine ⟨⟨e4, e5⟩, ?_, fun j hj => ?_⟩
  · rcases g3 with ⟨a1, -, -, a4⟩ | ⟨a1, -⟩
    · subst a1
      rw [e4]
      exact a4
    · rw [e1 0 a1]
      exact g2 a1
  · rw [e1 j hj, e2 j hj]
    by_cases hjc : j + 1 < c
    · rw [e1 (j + 1) hjc]
      exact g1 j hjc
    · have ej : j + 1 = c := by omega
      rw [ej, e4]
      rcases g3 with ⟨a1, -⟩ | ⟨a1, a2⟩
      · omega
      · have h9 := a2.close (Int.le_refl n) (fun _ => by omega) (fun _ => by omega)
        rw [show j = c - 1 by omega]
        exact h9
def tkr (σ : VH) (j : Nat) : Int := (hL σ 5 j).toInt
theorem sx_at {f : Nat → Int32} {σ : VH} {v : Nat} {n i z : Int} (hf : f = hI σ v) (h : i < n) (e : iz (gI σ v i.toNat) &&& iz 255 = iz z) (hz : -2147483648 ≤ z ∧ z < 2147483648) : Sx f n i = z := by
  unfold Sx
  rw [if_pos h, hf, izg σ v, show (255 : Int32) = iz 255 from rfl, e, izt hz]
theorem and255 (x : Int32) : 0 ≤ (x &&& 255).toInt ∧ (x &&& 255).toInt ≤ 255 := by
  have h : (x &&& 255).toBitVec.toNat ≤ 255 := by
    rw [Int32.toBitVec_and, BitVec.toNat_and]
    exact Nat.and_le_right
  have e : (x &&& 255).toInt = (x &&& 255).toBitVec.toInt := rfl
  rw [e, BitVec.toInt_eq_toNat_cond]
  split <;> omega
theorem sx_rg (f : Nat → Int32) (n i : Int) : 0 ≤ Sx f n i ∧ Sx f n i ≤ 255 := by
  unfold Sx
  split
  · exact and255 _
  · decide
theorem sx_out {f : Nat → Int32} {n i : Int} (h : n ≤ i) : Sx f n i = 0 := by
  unfold Sx
  rw [if_neg (by omega)]
theorem p256' {k : Nat} (h : k ≤ 7) : (256 : Int) ^ k ≤ 72057594037927936 := by
  have hk : k = 0 ∨ k = 1 ∨ k = 2 ∨ k = 3 ∨ k = 4 ∨ k = 5 ∨ k = 6 ∨ k = 7 := by omega
  rcases hk with rfl | rfl | rfl | rfl | rfl | rfl | rfl | rfl <;> decide
theorem LxI.last1 {S : Int → Int} {n k bf len : Int} {c : Nat} {tk pl : Nat → Int} (h : LxI S n k bf len c tk pl) (hb : bf = 1) (hl : len < 8) : 0 ≤ tk (c - 1) ∧ tk (c - 1) < 36028797018963968 := by
  have h1 := h.last (Or.inl hb)
  have h3 := p256' (k := len.toNat) (by omega)
  rcases h1.2.2.1 hb with h2 | h2
  · omega
  · omega
theorem LxI.last2 {S : Int → Int} {n k bf len : Int} {c : Nat} {tk pl : Nat → Int} (h : LxI S n k bf len c tk pl) (hb : bf = 2) (hl : len < 6) : 0 ≤ -1 - tk (c - 1) ∧ -1 - tk (c - 1) < 1000000 := by
  have h1 := h.last (Or.inr hb)
  have h3 := ten6 (k := len.toNat) (by omega)
  rcases h1.2.2.2 hb with h2 | h2
  · omega
  · omega
