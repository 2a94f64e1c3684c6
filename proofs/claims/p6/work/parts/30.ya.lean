/-! the rank as known: the last of the greatest day -/
def rix (P D T : Nat → Int) (p d y : Int) : Nat → Int
  | 0 => -1
  | n + 1 => if P n = p ∧ D n ≤ d ∧ T n ≤ y ∧ (rix P D T p d y n < 0 ∨ D (rix P D T p d y n).toNat ≤ D n) then (n : Int) else rix P D T p d y n
def rkv (P R D T : Nat → Int) (p d y : Int) (n : Nat) : Int := if rix P D T p d y n < 0 then 0 else R (rix P D T p d y n).toNat
def rkf (P D T : Nat → Int) (p d y : Int) (n : Nat) : Int := if rix P D T p d y n < 0 then -1 else D (rix P D T p d y n).toNat
theorem rix_step {P D T : Nat → Int} {p d y k : Int} (h : 0 ≤ k) : rix P D T p d y (k + 1).toNat = if P k.toNat = p ∧ D k.toNat ≤ d ∧ T k.toNat ≤ y ∧ (rix P D T p d y k.toNat < 0 ∨ D (rix P D T p d y k.toNat).toNat ≤ D k.toNat) then k else rix P D T p d y k.toNat := by
  have e : (k + 1).toNat = k.toNat + 1 := by omega
  have e2 : ((k.toNat : Nat) : Int) = k := by omega
  rw [e]
  show (if _ then ((k.toNat : Nat) : Int) else _) = _
  rw [e2]
theorem rkf_le {P D T : Nat → Int} {p d y : Int} {n : Nat} {x : Int} (hx : 0 ≤ x) : rkf P D T p d y n ≤ x ↔ (rix P D T p d y n < 0 ∨ D (rix P D T p d y n).toNat ≤ x) := by
  unfold rkf
  split <;> omega
theorem rkv_step {P R D T : Nat → Int} {p d y k : Int} (h : 0 ≤ k) (hD : 0 ≤ D k.toNat) : rkv P R D T p d y (k + 1).toNat = if P k.toNat = p ∧ T k.toNat ≤ y ∧ D k.toNat ≤ d ∧ rkf P D T p d y k.toNat ≤ D k.toNat then R k.toNat else rkv P R D T p d y k.toNat := by
  have hs := rix_step (P := P) (D := D) (T := T) (p := p) (d := d) (y := y) h
  have hl := rkf_le (P := P) (D := D) (T := T) (p := p) (d := d) (y := y) (n := k.toNat) hD
  by_cases hc : P k.toNat = p ∧ T k.toNat ≤ y ∧ D k.toNat ≤ d ∧ rkf P D T p d y k.toNat ≤ D k.toNat
  · rw [if_pos hc]
    rw [if_pos ⟨hc.1, hc.2.2.1, hc.2.1, hl.mp hc.2.2.2⟩] at hs
    unfold rkv
    rw [hs, if_neg (by omega)]
  · rw [if_neg hc]
    rw [if_neg (fun q => hc ⟨q.1, q.2.2.1, q.2.1, hl.mpr q.2.2.2⟩)] at hs
    unfold rkv
    rw [hs]
theorem rkf_step {P D T : Nat → Int} {p d y k : Int} (h : 0 ≤ k) (hD : 0 ≤ D k.toNat) : rkf P D T p d y (k + 1).toNat = if P k.toNat = p ∧ T k.toNat ≤ y ∧ D k.toNat ≤ d ∧ rkf P D T p d y k.toNat ≤ D k.toNat then D k.toNat else rkf P D T p d y k.toNat := by
  have hs := rix_step (P := P) (D := D) (T := T) (p := p) (d := d) (y := y) h
  have hl := rkf_le (P := P) (D := D) (T := T) (p := p) (d := d) (y := y) (n := k.toNat) hD
  by_cases hc : P k.toNat = p ∧ T k.toNat ≤ y ∧ D k.toNat ≤ d ∧ rkf P D T p d y k.toNat ≤ D k.toNat
  · rw [if_pos hc]
    rw [if_pos ⟨hc.1, hc.2.2.1, hc.2.1, hl.mp hc.2.2.2⟩] at hs
    unfold rkf
    rw [hs, if_neg (by omega)]
  · rw [if_neg hc]
    rw [if_neg (fun q => hc ⟨q.1, q.2.2.1, q.2.1, hl.mpr q.2.2.2⟩)] at hs
    show rkf P D T p d y (k + 1).toNat = rkf P D T p d y k.toNat
    unfold rkf
    rw [hs]
