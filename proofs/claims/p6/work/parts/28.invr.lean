/-! the reference's reader: piles, chains -/
/-- how many of the first p have a kind in the set -/
def cnt (P : Int → Bool) (E : Nat → Int) : Nat → Int
  | 0 => 0
  | p + 1 => cnt P E p + if P (E p) then 1 else 0
theorem cnt_congr {P : Int → Bool} {E F : Nat → Int} : ∀ {p : Nat}, (∀ i, i < p → F i = E i) → cnt P F p = cnt P E p
  | 0, _ => rfl
  | p + 1, h => by
    unfold cnt
    rw [cnt_congr (fun i hi => h i (by omega)), h p (by omega)]
theorem cnt_nn {P : Int → Bool} {E : Nat → Int} : ∀ p : Nat, 0 ≤ cnt P E p ∧ cnt P E p ≤ p
  | 0 => ⟨Int.le_refl 0, Int.le_refl 0⟩
  | p + 1 => by
    have h := @cnt_nn P E p
    unfold cnt
    split <;> omega
def b34 (x : Int) : Bool := x == 3 || x == 4
def b12 (x : Int) : Bool := x == 1 || x == 2
def b123 (x : Int) : Bool := x == 1 || x == 2 || x == 3
/-- the pile: its lowest is 5, the others 1 .. 4; not too high -/
def PI (E : Nat → Int) (p : Nat) : Prop := E 0 = 5 ∧ (∀ i, 0 < i → i < p → 1 ≤ E i ∧ E i ≤ 4) ∧ ∀ i, i < p → (i : Int) ≤ 3 * cnt b34 E (i + 1) + (if E i = 1 then 1 else if E i = 2 then 2 else 0)
theorem PI.top {E : Nat → Int} {p : Nat} (h : PI E p) (hp : 0 < p) : (p : Int) ≤ 3 * cnt b34 E p + 3 := by
  have h1 := h.2.2 (p - 1) (by omega)
  have e : p - 1 + 1 = p := by omega
  rw [e] at h1
  split at h1
  · omega
  · split at h1 <;> omega
theorem PI.pop {E : Nat → Int} {p : Nat} (h : PI E (p + 1)) : PI E p := ⟨h.1, fun i h1 h2 => h.2.1 i h1 (by omega), fun i h1 => h.2.2 i (by omega)⟩
theorem PI.congr {E F : Nat → Int} {p : Nat} (hp : 0 < p) (e : ∀ i, i < p → F i = E i) (h : PI E p) : PI F p := by
  refine ⟨by rw [e 0 hp]; exact h.1, fun i h1 h2 => by rw [e i h2]; exact h.2.1 i h1 h2, fun i h1 => ?_⟩
  rw [e i h1, cnt_congr (fun j hj => e j (by omega))]
  exact h.2.2 i h1
/-- something comes on the pile -/
theorem PI.push {E F : Nat → Int} {p : Nat} (hp : 0 < p) (h : PI E p) (e : ∀ i, i < p → F i = E i) (h1 : 1 ≤ F p ∧ F p ≤ 4) (h2 : F p = 3 ∨ F p = 4 ∨ (F p = 1 ∧ ¬ E (p - 1) = 1 ∧ ¬ E (p - 1) = 2) ∨ (F p = 2 ∧ ¬ E (p - 1) = 2)) : PI F (p + 1) := by
  have g := h.congr hp e
  refine ⟨g.1, fun i a b => ?_, fun i a => ?_⟩
  · by_cases hi : i = p
    · rw [hi]; exact h1
    · exact g.2.1 i a (by omega)
  · by_cases hi : i = p
    · subst hi
      have h3 := h.2.2 (i - 1) (by omega)
      have e1 : i - 1 + 1 = i := by omega
      rw [e1] at h3
      have e2 : cnt b34 F (i + 1) = cnt b34 E i + if b34 (F i) then 1 else 0 := by
        show cnt b34 F i + _ = _
        rw [cnt_congr e]
      rw [e2]
      rcases h2 with q | q | ⟨q, q1, q2⟩ | ⟨q, q1⟩
      · rw [q]
        have e3 : (if b34 3 then (1 : Int) else 0) = 1 := rfl
        rw [e3]
        split at h3
        · simp; omega
        · split at h3 <;> (simp; omega)
      · rw [q]
        have e3 : (if b34 4 then (1 : Int) else 0) = 1 := rfl
        rw [e3]
        split at h3
        · simp; omega
        · split at h3 <;> (simp; omega)
      · rw [if_neg q1, if_neg q2] at h3
        rw [if_pos q]
        split <;> omega
      · rw [if_neg (by omega : ¬ F i = 1), if_pos q]
        split at h3
        · split <;> omega
        · split <;> omega
    · exact g.2.2 i (by omega)
/-- the steps of a when from c0 on: dp before the next is x -/
def Chain (C N : Nat → Int) (b c0 c x : Int) : Prop := ∃ dp : Int → Int, dp (700 * b + c0) = 0 ∧ (∀ i : Int, 700 * b + c0 ≤ i → i < 700 * b + c → Cd (C i.toNat) (N i.toNat) (dp i) (dp (i + 1))) ∧ dp (700 * b + c) = x
theorem Chain.nil (C N : Nat → Int) (b c0 : Int) : Chain C N b c0 c0 0 := ⟨fun _ => 0, rfl, fun i h1 h2 => by omega, rfl⟩
theorem Chain.put {C N C' N' : Nat → Int} {b c0 c x y : Int} (h : Chain C N b c0 c x) (hb : 0 ≤ b) (hc : 0 ≤ c0) (hcc : c0 ≤ c) (eC : ∀ k : Nat, (k : Int) < 700 * b + c → C' k = C k) (eN : ∀ k : Nat, (k : Int) < 700 * b + c → N' k = N k) (hd : Cd (C' (700 * b + c).toNat) (N' (700 * b + c).toNat) x y) : Chain C' N' b c0 (c + 1) y := by
  obtain ⟨dp, h1, h2, h3⟩ := h
  refine ⟨fun i => if i ≤ 700 * b + c then dp i else y, ?_, fun i g1 g2 => ?_, ?_⟩
  · show (if _ then _ else _) = _
    rw [if_pos (by omega)]
    exact h1
  · show Cd _ _ (if _ then _ else _) (if _ then _ else _)
    by_cases hi : i = 700 * b + c
    · rw [if_pos (by omega), if_neg (by omega), hi, h3]
      exact hd
    · rw [if_pos (by omega), if_pos (by omega), eC i.toNat (by omega), eN i.toNat (by omega)]
      exact h2 i g1 (by omega)
  · show (if _ then _ else _) = _
    rw [if_neg (by omega)]
theorem Chain.congr {C N C' N' : Nat → Int} {b c0 c x : Int} (h : Chain C N b c0 c x) (hb : 0 ≤ b) (hc : 0 ≤ c0) (eC : ∀ k : Nat, (k : Int) < 700 * b + c → C' k = C k) (eN : ∀ k : Nat, (k : Int) < 700 * b + c → N' k = N k) : Chain C' N' b c0 c x := by
  obtain ⟨dp, h1, h2, h3⟩ := h
  exact ⟨dp, h1, fun i g1 g2 => by rw [eC i.toNat (by omega), eN i.toNat (by omega)]; exact h2 i g1 g2, h3⟩
/-- the k-th sign of the text, 0 behind its end -/
def sg (σ : VH) (k : Int) : Int := if k < gI σ 33 3 then (hI σ 35 k.toNat &&& 255).toInt else 0
theorem sg_fr {W : Wl} {σ τ : VH} {k : Int} (h : Fr W σ τ) (w35 : ∀ k, wr W 35 k = false) (w3 : wr W 33 3 = false) : sg τ k = sg σ k := by
  unfold sg
  rw [h.g 33 3 w3, h.i 35 k.toNat (w35 _)]
theorem push34 {E F : Nat → Int} {p : Nat} (hp : 0 < p) (pi : PI E p) (e : ∀ i, i < p → F i = E i) (hx : F p = 3 ∨ F p = 4) : PI F (p + 1) ∧ cnt b34 F (p + 1) = cnt b34 E p + 1 ∧ cnt b12 F (p + 1) = cnt b12 E p ∧ cnt b123 F (p + 1) ≤ cnt b123 E p + 1 := by
  refine ⟨pi.push hp e (by omega) (by omega), ?_, ?_, ?_⟩
  · show cnt b34 F p + _ = _
    rw [cnt_congr e]
    rcases hx with h | h <;> (rw [h]; rfl)
  · show cnt b12 F p + _ = _
    rw [cnt_congr e]
    rcases hx with h | h <;> (rw [h]; exact Int.add_zero _)
  · show cnt b123 F p + _ ≤ _
    rw [cnt_congr e]
    split <;> omega
theorem push12 {E F : Nat → Int} {p : Nat} (hp : 0 < p) (pi : PI E p) (e : ∀ i, i < p → F i = E i) (hx : (F p = 1 ∧ ¬ E (p - 1) = 1 ∧ ¬ E (p - 1) = 2) ∨ (F p = 2 ∧ ¬ E (p - 1) = 2)) : PI F (p + 1) ∧ cnt b34 F (p + 1) = cnt b34 E p ∧ cnt b12 F (p + 1) = cnt b12 E p + 1 ∧ cnt b123 F (p + 1) ≤ cnt b123 E p + 1 := by
  refine ⟨pi.push hp e (by omega) (by omega), ?_, ?_, ?_⟩
  · show cnt b34 F p + _ = _
    rw [cnt_congr e]
    rcases hx with ⟨h, -⟩ | ⟨h, -⟩ <;> (rw [h]; exact Int.add_zero _)
  · show cnt b12 F p + _ = _
    rw [cnt_congr e]
    rcases hx with ⟨h, -⟩ | ⟨h, -⟩ <;> (rw [h]; rfl)
  · show cnt b123 F p + _ ≤ _
    rw [cnt_congr e]
    split <;> omega
theorem cnt_s (P : Int → Bool) (E : Nat → Int) (p : Nat) : cnt P E (p + 1) = cnt P E p + if P (E p) then 1 else 0 := rfl
theorem pop_n {E : Nat → Int} {p : Nat} (h : E p = 3) : cnt b34 E (p + 1) = cnt b34 E p + 1 ∧ cnt b12 E (p + 1) = cnt b12 E p ∧ cnt b123 E (p + 1) = cnt b123 E p + 1 := by
  rw [cnt_s, cnt_s, cnt_s, h]
  exact ⟨rfl, Int.add_zero _, rfl⟩
theorem pop_b {E : Nat → Int} {p : Nat} (h : E p = 4) : cnt b34 E (p + 1) = cnt b34 E p + 1 ∧ cnt b12 E (p + 1) = cnt b12 E p ∧ cnt b123 E (p + 1) = cnt b123 E p := by
  rw [cnt_s, cnt_s, cnt_s, h]
  exact ⟨rfl, Int.add_zero _, Int.add_zero _⟩
theorem pop_a {E : Nat → Int} {p : Nat} (h : E p = 1 ∨ E p = 2) : cnt b34 E (p + 1) = cnt b34 E p ∧ cnt b12 E (p + 1) = cnt b12 E p + 1 ∧ cnt b123 E (p + 1) = cnt b123 E p + 1 := by
  rw [cnt_s, cnt_s, cnt_s]
  rcases h with h | h <;> (rw [h]; exact ⟨Int.add_zero _, rfl, rfl⟩)
theorem pop_5 {E : Nat → Int} {p : Nat} (h : E p = 5) : cnt b34 E (p + 1) = cnt b34 E p ∧ cnt b12 E (p + 1) = cnt b12 E p ∧ cnt b123 E (p + 1) = cnt b123 E p := by
  rw [cnt_s, cnt_s, cnt_s, h]
  exact ⟨Int.add_zero _, Int.add_zero _, Int.add_zero _⟩
/-- within a when's e: the pile, the steps so far; w is 1 where a one is wanted -/
def ES (σ : VH) (b c0 w : Int) : Prop := ∃ (p : Nat) (c : Int), gI σ 33 38 = (p : Int) ∧ gI σ 33 35 = c ∧ (0 ≤ c0 ∧ c0 ≤ c) ∧ c + cnt b123 (gI σ 57) p ≤ gI σ 33 7 ∧ gI σ 33 39 = cnt b34 (gI σ 57) p ∧ cnt b34 (gI σ 57) p ≤ 5 ∧ (0 < p → PI (gI σ 57) p) ∧ Chain (gI σ 51) (gI σ 52) b c0 c (cnt b12 (gI σ 57) p + (1 - w))
theorem ES.of {σ : VH} {b c0 w : Int} {E : Nat → Int} (p : Nat) (c : Int) {x : Int} (h1 : gI σ 33 38 = (p : Int)) (h2 : gI σ 33 35 = c) (h3 : 0 ≤ c0 ∧ c0 ≤ c) (hE : ∀ i, i < p → gI σ 57 i = E i) (h4 : c + cnt b123 E p ≤ gI σ 33 7) (h5 : gI σ 33 39 = cnt b34 E p) (h6 : cnt b34 E p ≤ 5) (h7 : 0 < p → PI E p) (h8 : Chain (gI σ 51) (gI σ 52) b c0 c x) (hx : x = cnt b12 E p + (1 - w)) : ES σ b c0 w := by
  refine ⟨p, c, h1, h2, h3, ?_, ?_, ?_, fun h => (h7 h).congr h hE, ?_⟩
  · rw [cnt_congr hE]; exact h4
  · rw [cnt_congr hE]; exact h5
  · rw [cnt_congr hE]; exact h6
  · rw [cnt_congr hE, ← hx]; exact h8
theorem Cd_push {c n x : Int} (h : 0 ≤ x ∧ x ≤ 60) (hc : c = 110 ∨ (c = 119 ∧ 0 ≤ n ∧ n < 7)) : Cd c n x (x + 1) := by
  unfold Cd
  omega
theorem Cd_not {n x : Int} (h : 1 ≤ x ∧ x ≤ 60) : Cd 126 n x x := by
  unfold Cd
  omega
theorem Cd_two {c n x : Int} (h : 2 ≤ x ∧ x ≤ 60) (hc : ¬ c = 110 ∧ ¬ c = 119 ∧ ¬ c = 126) : Cd c n x (x - 1) := by
  unfold Cd
  omega
theorem PI.one {E : Nat → Int} (h : E 0 = 5) : PI E 1 := ⟨h, fun i h1 h2 => by omega, fun i h1 => by
  have e : i = 0 := by omega
  subst e
  have h9 := (@cnt_nn b34 E 1).1
  rw [if_neg (by omega), if_neg (by omega)]
  simp
  omega⟩
/-- behind an e -/
def ED (σ : VH) (b c0 : Int) : Prop := ∃ (c x : Int), gI σ 33 35 = c ∧ c0 ≤ c ∧ c ≤ gI σ 33 7 ∧ Chain (gI σ 51) (gI σ 52) b c0 c x
theorem ES.ed {σ : VH} {b c0 w : Int} (h : ES σ b c0 w) : ED σ b c0 := by
  obtain ⟨p, c, h1, h2, h3, h4, -, -, -, h5⟩ := h
  have h9 := @cnt_nn b123 (gI σ 57) p
  exact ⟨c, _, h2, h3.2, by omega, h5⟩
theorem pop_ge {E : Nat → Int} {p : Nat} (h : E p = 1 ∨ E p = 2 ∨ E p = 3) : 1 ≤ cnt b123 E (p + 1) := by
  have h9 := (@cnt_nn b123 E p).1
  rw [cnt_s]
  rcases h with h | h | h <;> (rw [h]; have e : (if b123 1 = true then (1 : Int) else 0) = 1 := rfl; have e2 : (if b123 2 = true then (1 : Int) else 0) = 1 := rfl; have e3 : (if b123 3 = true then (1 : Int) else 0) = 1 := rfl; omega)
