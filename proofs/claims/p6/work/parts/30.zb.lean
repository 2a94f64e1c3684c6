/-! the tokens of a text: its signs S (0 behind the end), n of them. A token by its value: words and signs as they are, END 1, none 0, a number k as -1 - k -/
noncomputable def cif {α : Type} (p : Prop) (a b : α) : α := @ite α p (Classical.propDecidable p) a b
theorem cif_pos {α : Type} {p : Prop} {a b : α} (h : p) : cif p a b = a := @if_pos p (Classical.propDecidable p) h α a b
theorem cif_neg {α : Type} {p : Prop} {a b : α} (h : ¬ p) : cif p a b = b := @if_neg p (Classical.propDecidable p) h α a b
def Sg (c : Int) : Prop := c = 59 ∨ c = 40 ∨ c = 41 ∨ c = 60 ∨ c = 62 ∨ c = 61
def wN (S : Int → Int) (p : Int) : Nat → Int
  | 0 => 0
  | k + 1 => 256 * wN S p k + S (p + (k : Int))
def dN (S : Int → Int) (p : Int) : Nat → Int
  | 0 => 0
  | k + 1 => 10 * dN S p k + (S (p + (k : Int)) - 48)
def RunL (S : Int → Int) (q e : Int) : Prop := q < e ∧ (∀ i, q ≤ i → i < e → 97 ≤ S i ∧ S i ≤ 122) ∧ ¬ (97 ≤ S e ∧ S e ≤ 122)
def RunD (S : Int → Int) (q e : Int) : Prop := q < e ∧ (∀ i, q ≤ i → i < e → 48 ≤ S i ∧ S i ≤ 57) ∧ ¬ (48 ≤ S e ∧ S e ≤ 57)
def Bl (S : Int → Int) (p q : Int) : Prop := p ≤ q ∧ ∀ i, p ≤ i → i < q → (S i = 32 ∨ S i = 10)
def Tok (S : Int → Int) (n q t e : Int) : Prop := (q = n ∧ t = 1 ∧ e = n) ∨ (q < n ∧ e ≤ n ∧ ((RunL S q e ∧ ((8 < e - q ∧ t = 0) ∨ (e - q ≤ 8 ∧ t = wN S q (e - q).toNat))) ∨ (RunD S q e ∧ (((6 < e - q ∨ (97 ≤ S e ∧ S e ≤ 122)) ∧ t = 0) ∨ (e - q ≤ 6 ∧ ¬ (97 ≤ S e ∧ S e ≤ 122) ∧ t = -1 - dN S q (e - q).toNat))) ∨ (¬ (97 ≤ S q ∧ S q ≤ 122) ∧ ¬ (48 ≤ S q ∧ S q ≤ 57) ∧ ¬ (S q = 32 ∨ S q = 10) ∧ e = q + 1 ∧ ((Sg (S q) ∧ t = S q) ∨ (¬ Sg (S q) ∧ t = 0)))))
/-- the tokens tk at the places pl, END as the m-th -/
def TS (S : Int → Int) (n : Int) (tk pl : Nat → Int) (m : Nat) : Prop := (pl m = n ∧ tk m = 1) ∧ Bl S 0 (pl 0) ∧ ∀ j, j < m → pl j < n ∧ ∃ e, Tok S n (pl j) (tk j) e ∧ Bl S e (pl (j + 1))
theorem Bl.rf (S : Int → Int) (p : Int) : Bl S p p := ⟨Int.le_refl p, fun i h1 h2 => by omega⟩
theorem Bl.snoc {S : Int → Int} {p q : Int} (h : Bl S p q) (hq : S q = 32 ∨ S q = 10) : Bl S p (q + 1) := ⟨by have := h.1; omega, fun i h1 h2 => by
  by_cases e : i = q
  · rw [e]
    exact hq
  · exact h.2 i h1 (by omega)⟩
theorem RunL.eq {S : Int → Int} {q e f : Int} (h : RunL S q e) (g : RunL S q f) : e = f := by
  have h1 := h.1
  have g1 := g.1
  by_cases h2 : e < f
  · exact absurd (g.2.1 e (by omega) h2) h.2.2
  · by_cases h3 : f < e
    · exact absurd (h.2.1 f (by omega) h3) g.2.2
    · omega
theorem RunD.eq {S : Int → Int} {q e f : Int} (h : RunD S q e) (g : RunD S q f) : e = f := by
  have h1 := h.1
  have g1 := g.1
  by_cases h2 : e < f
  · exact absurd (g.2.1 e (by omega) h2) h.2.2
  · by_cases h3 : f < e
    · exact absurd (h.2.1 f (by omega) h3) g.2.2
    · omega
theorem RunL.hd {S : Int → Int} {q e : Int} (h : RunL S q e) : 97 ≤ S q ∧ S q ≤ 122 := h.2.1 q (Int.le_refl q) h.1
theorem RunD.hd {S : Int → Int} {q e : Int} (h : RunD S q e) : 48 ≤ S q ∧ S q ≤ 57 := h.2.1 q (Int.le_refl q) h.1
/-- one place, one token -/
theorem Tok.eq {S : Int → Int} {n q t e u f : Int} (h : Tok S n q t e) (g : Tok S n q u f) : t = u ∧ e = f := by
  rcases h with ⟨h1, h2, h3⟩ | ⟨h1, h2, h3⟩
  · rcases g with ⟨g1, g2, g3⟩ | ⟨g1, g2, g3⟩
    · omega
    · omega
  · rcases g with ⟨g1, g2, g3⟩ | ⟨g1, g2, g3⟩
    · omega
    · rcases h3 with ⟨h4, h5⟩ | ⟨h4, h5⟩ | ⟨h4, h5, h6, h7, h8⟩
      · have hh := h4.hd
        rcases g3 with ⟨g4, g5⟩ | ⟨g4, g5⟩ | ⟨g4, g5, g6, g7, g8⟩
        · have e1 := h4.eq g4
          subst e1
          refine ⟨?_, rfl⟩
          rcases h5 with ⟨a, b⟩ | ⟨a, b⟩ <;> rcases g5 with ⟨c, d⟩ | ⟨c, d⟩ <;> omega
        · have := g4.hd
          omega
        · exact absurd hh g4
      · have hh := h4.hd
        rcases g3 with ⟨g4, g5⟩ | ⟨g4, g5⟩ | ⟨g4, g5, g6, g7, g8⟩
        · have := g4.hd
          omega
        · have e1 := h4.eq g4
          subst e1
          refine ⟨?_, rfl⟩
          rcases h5 with ⟨a, b⟩ | ⟨a, b, b'⟩ <;> rcases g5 with ⟨c, d⟩ | ⟨c, d, d'⟩ <;> omega
        · exact absurd hh g5
      · rcases g3 with ⟨g4, g5⟩ | ⟨g4, g5⟩ | ⟨g4, g5, g6, g7, g8⟩
        · exact absurd g4.hd h4
        · exact absurd g4.hd h5
        · refine ⟨?_, by omega⟩
          rcases h8 with ⟨a, b⟩ | ⟨a, b⟩ <;> rcases g8 with ⟨c, d⟩ | ⟨c, d⟩
          · omega
          · exact absurd a c
          · exact absurd c a
          · omega
/-- a word of k letters, by its bytes -/
def WyB : Nat → Int → Prop
  | 0, t => t = 0
  | k + 1, t => WyB k (t / 256) ∧ 97 ≤ t % 256 ∧ t % 256 ≤ 122
def Wy (t : Int) : Prop := ∃ k, 1 ≤ k ∧ k ≤ 8 ∧ WyB k t
theorem wN_wy {S : Int → Int} {p : Int} : ∀ k : Nat, (∀ i : Nat, i < k → 97 ≤ S (p + (i : Int)) ∧ S (p + (i : Int)) ≤ 122) → WyB k (wN S p k)
  | 0, _ => rfl
  | k + 1, h => by
    have ih := wN_wy k (fun i hi => h i (by omega))
    have h1 := h k (by omega)
    have e : wN S p (k + 1) = 256 * wN S p k + S (p + (k : Int)) := rfl
    have e1 : wN S p (k + 1) / 256 = wN S p k := by omega
    have e2 : wN S p (k + 1) % 256 = S (p + (k : Int)) := by omega
    exact ⟨by rw [e1]; exact ih, by rw [e2]; exact h1.1, by rw [e2]; exact h1.2⟩
theorem WyB.bd : ∀ {k : Nat} {t : Int}, WyB k t → 0 ≤ t ∧ t < 256 ^ k ∧ (1 ≤ k → 97 ≤ t ∧ 2 * t < 256 ^ k)
  | 0, t, h => by
    have h : t = 0 := h
    subst h
    exact ⟨Int.le_refl 0, by decide, fun h => absurd h (by decide)⟩
  | k + 1, t, h => by
    have ih := WyB.bd h.1
    have h1 := h.2
    have e2 : (256 : Int) ^ (k + 1) = 256 ^ k * 256 := Int.pow_succ 256 k
    rw [e2]
    refine ⟨by omega, by omega, fun _ => ⟨by omega, ?_⟩⟩
    by_cases hk : 1 ≤ k
    · have := ih.2.2 hk
      omega
    · have hk0 : k = 0 := by omega
      subst hk0
      have e3 : t / 256 = 0 := h.1
      have e4 : (256 : Int) ^ 0 = 1 := rfl
      omega
theorem p256 {k : Nat} (h : k ≤ 8) : (256 : Int) ^ k ≤ 18446744073709551616 := by
  have hk : k = 0 ∨ k = 1 ∨ k = 2 ∨ k = 3 ∨ k = 4 ∨ k = 5 ∨ k = 6 ∨ k = 7 ∨ k = 8 := by omega
  rcases hk with rfl | rfl | rfl | rfl | rfl | rfl | rfl | rfl | rfl <;> decide
theorem Wy.bd {t : Int} (h : Wy t) : 97 ≤ t ∧ t < 9223372036854775808 := by
  obtain ⟨k, h1, h2, h3⟩ := h
  have h5 := h3.bd.2.2 h1
  have h6 := p256 h2
  omega
theorem p256n : ∀ k : Nat, (0 : Int) ≤ 256 ^ k
  | 0 => by decide
  | k + 1 => by
    have ih := p256n k
    have e2 : (256 : Int) ^ (k + 1) = 256 ^ k * 256 := Int.pow_succ 256 k
    omega
theorem WyB.div : ∀ {j k : Nat} {t : Int}, WyB k t → (j ≤ k → WyB (k - j) (t / 256 ^ j)) ∧ (k ≤ j → t / 256 ^ j = 0)
  | 0, k, t, h => by
    refine ⟨fun _ => ?_, fun hk => ?_⟩
    · rw [show (256 : Int) ^ 0 = 1 from rfl, Int.ediv_one]
      exact h
    · have hk0 : k = 0 := by omega
      subst hk0
      rw [show (256 : Int) ^ 0 = 1 from rfl, Int.ediv_one]
      exact h
  | j + 1, k, t, h => by
    have ih := WyB.div (j := j) h
    have e : t / 256 ^ (j + 1) = t / 256 ^ j / 256 := by rw [Int.pow_succ, Int.ediv_ediv_of_nonneg (p256n j)]
    rw [e]
    refine ⟨fun hj => ?_, fun hk => ?_⟩
    · have h1 := ih.1 (by omega)
      obtain ⟨q, hq⟩ : ∃ q, k - j = q + 1 := ⟨k - j - 1, by omega⟩
      rw [hq] at h1
      rw [show k - (j + 1) = q by omega]
      exact h1.1
    · by_cases hkj : k ≤ j
      · rw [ih.2 hkj]
        rfl
      · have h1 := ih.1 (by omega)
        rw [show k - j = 0 + 1 by omega] at h1
        exact h1.1
theorem dN_bd {S : Int → Int} {p : Int} : ∀ k : Nat, (∀ i : Nat, i < k → 48 ≤ S (p + (i : Int)) ∧ S (p + (i : Int)) ≤ 57) → 0 ≤ dN S p k ∧ dN S p k < 10 ^ k
  | 0, _ => ⟨Int.le_refl 0, (by decide : (0 : Int) < 1)⟩
  | k + 1, h => by
    have ih := dN_bd k (fun i hi => h i (by omega))
    have h1 := h k (by omega)
    have e : dN S p (k + 1) = 10 * dN S p k + (S (p + (k : Int)) - 48) := rfl
    have e2 : (10 : Int) ^ (k + 1) = 10 ^ k * 10 := Int.pow_succ 10 k
    rw [e, e2]
    omega
theorem ten6 {k : Nat} (h : k ≤ 6) : (10 : Int) ^ k ≤ 1000000 := by
  have hk : k = 0 ∨ k = 1 ∨ k = 2 ∨ k = 3 ∨ k = 4 ∨ k = 5 ∨ k = 6 := by omega
  rcases hk with rfl | rfl | rfl | rfl | rfl | rfl | rfl <;> decide
/-- the words that are kept -/
def Kp (t : Int) : Prop := t = 1752527476 ∨ t = 2003330414 ∨ t = 25711 ∨ t = 110429873532005 ∨ t = 1751215206 ∨ t = 6382692 ∨ t = 1818588019 ∨ t = 495672455781 ∨ t = 1852138852 ∨ t = 1918987883 ∨ t = 499918204275 ∨ t = 1684109683 ∨ t = 28530 ∨ t = 6385252 ∨ t = 7237492 ∨ t = 478694368626 ∨ t = 482854658917 ∨ t = 474214787188 ∨ t = 7039342 ∨ t = 500136502117 ∨ t = 7566701
/-- what a token's value can be -/
def TV (t : Int) : Prop := Wy t ∨ Sg t ∨ t = 0 ∨ t = 1 ∨ (-1000000 ≤ t ∧ t ≤ -1)
theorem Tok.tv {S : Int → Int} {n q t e : Int} (h : Tok S n q t e) : TV t := by
  rcases h with ⟨h1, h2, h3⟩ | ⟨h1, h2, h3⟩
  · exact Or.inr (Or.inr (Or.inr (Or.inl h2)))
  · rcases h3 with ⟨h4, ⟨h5, h6⟩ | ⟨h5, h6⟩⟩ | ⟨h4, ⟨h5, h6⟩ | ⟨h5, h5', h6⟩⟩ | ⟨h4, h5, h6, h7, ⟨h8, h9⟩ | ⟨h8, h9⟩⟩
    · exact Or.inr (Or.inr (Or.inl h6))
    · have := h4.1
      exact Or.inl ⟨(e - q).toNat, by omega, by omega, h6 ▸ wN_wy _ (fun i hi => h4.2.1 (q + (i : Int)) (by omega) (by omega))⟩
    · exact Or.inr (Or.inr (Or.inl h6))
    · have h7 := dN_bd (S := S) (p := q) (e - q).toNat (fun i hi => h4.2.1 (q + (i : Int)) (by omega) (by omega))
      have h8 := ten6 (k := (e - q).toNat) (by omega)
      exact Or.inr (Or.inr (Or.inr (Or.inr (by omega))))
    · exact Or.inr (Or.inl (h9 ▸ h8))
    · exact Or.inr (Or.inr (Or.inl h9))
theorem TS.tv {S : Int → Int} {n : Int} {tk pl : Nat → Int} {m j : Nat} (h : TS S n tk pl m) (hj : j ≤ m) : TV (tk j) := by
  by_cases e : j = m
  · rw [e, h.1.2]
    exact Or.inr (Or.inr (Or.inr (Or.inl rfl)))
  · obtain ⟨-, f, hf, -⟩ := h.2.2 j (by omega)
    exact hf.tv
