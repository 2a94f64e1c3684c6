/-! ints as whole numbers: rows over Z whose ints are iz of a whole number -/
def iz (z : Int) : Int32 := Int32.ofInt z
def gI (σ : VH) (v k : Nat) : Int := (hI σ v k).toInt
theorem izt {z : Int} (h : -2147483648 ≤ z ∧ z < 2147483648) : (iz z).toInt = z := by
  unfold iz
  have e : Int32.size = 4294967296 := rfl
  rw [Int32.toInt_ofInt, e]
  exact Int.bmod_eq_of_le (by omega) (by omega)
theorem izi (x : Int32) : x = iz x.toInt := by
  unfold iz
  exact (Int32.ofInt_toInt x).symm
theorem izg (σ : VH) (v k : Nat) : hI σ v k = iz (gI σ v k) := izi _
theorem rng (x : Int32) : -2147483648 ≤ x.toInt ∧ x.toInt < 2147483648 := ⟨Int32.le_toInt x, Int32.toInt_lt x⟩
theorem rgI (σ : VH) (v k : Nat) : -2147483648 ≤ gI σ v k ∧ gI σ v k < 2147483648 := rng _
theorem iz_add (a b : Int) : iz a + iz b = iz (a + b) := (Int32.ofInt_add a b).symm
theorem iz_sub (a b : Int) : iz a - iz b = iz (a - b) := by
  unfold iz
  rw [Int32.ofInt_sub]
theorem iz_mul (a b : Int) : iz a * iz b = iz (a * b) := (Int32.ofInt_mul a b).symm
theorem iz_neg (a : Int) : - iz a = iz (- a) := (Int32.ofInt_neg a).symm
theorem iz_nI {a : Int} {j : Nat} (h : a = (j : Int)) : iz a = nI j := by
  rw [h]
  exact Int32.ofInt_eq_ofNat
theorem iz_lt {a b : Int} (ha : -2147483648 ≤ a ∧ a < 2147483648) (hb : -2147483648 ≤ b ∧ b < 2147483648) : iz a < iz b ↔ a < b := by rw [Int32.lt_iff_toInt_lt, izt ha, izt hb]
theorem iz_le {a b : Int} (ha : -2147483648 ≤ a ∧ a < 2147483648) (hb : -2147483648 ≤ b ∧ b < 2147483648) : iz a ≤ iz b ↔ a ≤ b := by rw [Int32.le_iff_toInt_le, izt ha, izt hb]
theorem iz_eq {a b : Int} (ha : -2147483648 ≤ a ∧ a < 2147483648) (hb : -2147483648 ≤ b ∧ b < 2147483648) : iz a = iz b ↔ a = b := by rw [← Int32.toInt_inj, izt ha, izt hb]
theorem iz_0 : iz 0 = 0 := rfl
theorem nar_z {z : Int} (h : z = 0 ∨ z = 1) : narrow .boolean (.int (iz z)) = .int (iz z) := by
  rcases h with h | h <;> (subst h; rfl)
theorem gI_iz {σ : VH} {v k : Nat} {z : Int} (h : hI σ v k = iz z) (hz : -2147483648 ≤ z ∧ z < 2147483648) : gI σ v k = z := by
  unfold gI
  rw [h, izt hz]
theorem gI_eq {σ τ : VH} {v k : Nat} (h : hI τ v k = hI σ v k) : gI τ v k = gI σ v k := by
  unfold gI
  rw [h]
section ZI
variable {κ : Kx} {γ : Gh} {cc : ByteArray} {nL D : Nat} {own nm : String} {ret : Option FieldType} {σ : VH} {cells slots pc : Nat} {Q : State → Prop} {ls : List (Nat × Value)} {st : List Value}
theorem zi_iadd {a b : Int} (O : OK κ γ cc nL own D ret nm) (d : decode cc pc = .ok (.iadd, 1)) (k : Z κ γ nL σ cells slots Q (pc + 1) ls (.int (iz (a + b)) :: st)) : Z κ γ nL σ cells slots Q pc ls (.int (iz b) :: .int (iz a) :: st) := z_iadd O d (by rw [iz_add]; exact k)
theorem zi_isub {a b : Int} (O : OK κ γ cc nL own D ret nm) (d : decode cc pc = .ok (.isub, 1)) (k : Z κ γ nL σ cells slots Q (pc + 1) ls (.int (iz (a - b)) :: st)) : Z κ γ nL σ cells slots Q pc ls (.int (iz b) :: .int (iz a) :: st) := z_isub O d (by rw [iz_sub]; exact k)
theorem zi_imul {a b : Int} (O : OK κ γ cc nL own D ret nm) (d : decode cc pc = .ok (.imul, 1)) (k : Z κ γ nL σ cells slots Q (pc + 1) ls (.int (iz (a * b)) :: st)) : Z κ γ nL σ cells slots Q pc ls (.int (iz b) :: .int (iz a) :: st) := z_imul O d (by rw [iz_mul]; exact k)
theorem zi_ineg {a : Int} (O : OK κ γ cc nL own D ret nm) (d : decode cc pc = .ok (.ineg, 1)) (k : Z κ γ nL σ cells slots Q (pc + 1) ls (.int (iz (- a)) :: st)) : Z κ γ nL σ cells slots Q pc ls (.int (iz a) :: st) := z_ineg O d (by rw [iz_neg]; exact k)
theorem zi_iinc {i : Nat} {n : Int} {a : Int} (v : Int) (ls' : List (Nat × Value)) (O : OK κ γ cc nL own D ret nm) (d : decode cc pc = .ok (.iinc i n, 3)) (hl : lkL ls i = some (.int (iz a))) (hv : a + n = v) (hn : i < nL) (hs : st1 i (.int (iz v)) ls = ls') (k : Z κ γ nL σ cells slots Q (pc + 3) ls' st) : Z κ γ nL σ cells slots Q pc ls st := z_iinc (iz v) ls' O d hl (by rw [← hv]; exact iz_add a n) hn hs k
theorem zi_any {x : Int32} (k : ∀ z : Int, (-2147483648 ≤ z ∧ z < 2147483648) → x = iz z → Z κ γ nL σ cells slots Q pc ls (.int (iz z) :: st)) : Z κ γ nL σ cells slots Q pc ls (.int x :: st) := by
  have h := k x.toInt (rng x) (izi x)
  rw [← izi x] at h
  exact h
theorem zi_val {x : Int32} (z : Int) (h : x = iz z) (k : Z κ γ nL σ cells slots Q pc ls (.int (iz z) :: st)) : Z κ γ nL σ cells slots Q pc ls (.int x :: st) := h ▸ k
theorem zi_icmp_eq {a b : Int} {off : Int} {tgt : Nat} (O : OK κ γ cc nL own D ret nm) (d : decode cc pc = .ok (.if_icmp .eq off, 3)) (ht : (pc : Int) + off = (tgt : Int)) (ha : -2147483648 ≤ a ∧ a < 2147483648) (hb : -2147483648 ≤ b ∧ b < 2147483648) (kt : a = b → Z κ γ nL σ cells slots Q tgt ls st) (kf : ¬ a = b → Z κ γ nL σ cells slots Q (pc + 3) ls st) : Z κ γ nL σ cells slots Q pc ls (.int (iz b) :: .int (iz a) :: st) := z_icmp_eq O d ht (fun h => kt ((iz_eq ha hb).mp h)) (fun h => kf (fun e => h ((iz_eq ha hb).mpr e)))
theorem zi_if_eq {a : Int} {off : Int} {tgt : Nat} (O : OK κ γ cc nL own D ret nm) (d : decode cc pc = .ok (.ifCond .eq off, 3)) (ht : (pc : Int) + off = (tgt : Int)) (ha : -2147483648 ≤ a ∧ a < 2147483648) (kt : a = 0 → Z κ γ nL σ cells slots Q tgt ls st) (kf : ¬ a = 0 → Z κ γ nL σ cells slots Q (pc + 3) ls st) : Z κ γ nL σ cells slots Q pc ls (.int (iz a) :: st) := z_if_eq O d ht (fun h => kt ((iz_eq ha (by omega : -2147483648 ≤ (0 : Int) ∧ (0 : Int) < 2147483648)).mp h)) (fun h => kf (fun e => h ((iz_eq ha (by omega : -2147483648 ≤ (0 : Int) ∧ (0 : Int) < 2147483648)).mpr e)))
theorem zi_icmp_ne {a b : Int} {off : Int} {tgt : Nat} (O : OK κ γ cc nL own D ret nm) (d : decode cc pc = .ok (.if_icmp .ne off, 3)) (ht : (pc : Int) + off = (tgt : Int)) (ha : -2147483648 ≤ a ∧ a < 2147483648) (hb : -2147483648 ≤ b ∧ b < 2147483648) (kt : ¬ a = b → Z κ γ nL σ cells slots Q tgt ls st) (kf : a = b → Z κ γ nL σ cells slots Q (pc + 3) ls st) : Z κ γ nL σ cells slots Q pc ls (.int (iz b) :: .int (iz a) :: st) := z_icmp_ne O d ht (fun h => kt (fun e => h ((iz_eq ha hb).mpr e))) (fun h => kf ((iz_eq ha hb).mp h))
theorem zi_if_ne {a : Int} {off : Int} {tgt : Nat} (O : OK κ γ cc nL own D ret nm) (d : decode cc pc = .ok (.ifCond .ne off, 3)) (ht : (pc : Int) + off = (tgt : Int)) (ha : -2147483648 ≤ a ∧ a < 2147483648) (kt : ¬ a = 0 → Z κ γ nL σ cells slots Q tgt ls st) (kf : a = 0 → Z κ γ nL σ cells slots Q (pc + 3) ls st) : Z κ γ nL σ cells slots Q pc ls (.int (iz a) :: st) := z_if_ne O d ht (fun h => kt (fun e => h ((iz_eq ha (by omega : -2147483648 ≤ (0 : Int) ∧ (0 : Int) < 2147483648)).mpr e))) (fun h => kf ((iz_eq ha (by omega : -2147483648 ≤ (0 : Int) ∧ (0 : Int) < 2147483648)).mp h))
theorem zi_icmp_lt {a b : Int} {off : Int} {tgt : Nat} (O : OK κ γ cc nL own D ret nm) (d : decode cc pc = .ok (.if_icmp .lt off, 3)) (ht : (pc : Int) + off = (tgt : Int)) (ha : -2147483648 ≤ a ∧ a < 2147483648) (hb : -2147483648 ≤ b ∧ b < 2147483648) (kt : a < b → Z κ γ nL σ cells slots Q tgt ls st) (kf : b ≤ a → Z κ γ nL σ cells slots Q (pc + 3) ls st) : Z κ γ nL σ cells slots Q pc ls (.int (iz b) :: .int (iz a) :: st) := z_icmp_lt O d ht (fun h => kt ((iz_lt ha hb).mp h)) (fun h => kf (by have h9 : ¬ (a < b) := fun e => h ((iz_lt ha hb).mpr e); omega))
theorem zi_if_lt {a : Int} {off : Int} {tgt : Nat} (O : OK κ γ cc nL own D ret nm) (d : decode cc pc = .ok (.ifCond .lt off, 3)) (ht : (pc : Int) + off = (tgt : Int)) (ha : -2147483648 ≤ a ∧ a < 2147483648) (kt : a < 0 → Z κ γ nL σ cells slots Q tgt ls st) (kf : 0 ≤ a → Z κ γ nL σ cells slots Q (pc + 3) ls st) : Z κ γ nL σ cells slots Q pc ls (.int (iz a) :: st) := z_if_lt O d ht (fun h => kt ((iz_lt ha (by omega : -2147483648 ≤ (0 : Int) ∧ (0 : Int) < 2147483648)).mp h)) (fun h => kf (by have h9 : ¬ (a < 0) := fun e => h ((iz_lt ha (by omega : -2147483648 ≤ (0 : Int) ∧ (0 : Int) < 2147483648)).mpr e); omega))
theorem zi_icmp_ge {a b : Int} {off : Int} {tgt : Nat} (O : OK κ γ cc nL own D ret nm) (d : decode cc pc = .ok (.if_icmp .ge off, 3)) (ht : (pc : Int) + off = (tgt : Int)) (ha : -2147483648 ≤ a ∧ a < 2147483648) (hb : -2147483648 ≤ b ∧ b < 2147483648) (kt : b ≤ a → Z κ γ nL σ cells slots Q tgt ls st) (kf : a < b → Z κ γ nL σ cells slots Q (pc + 3) ls st) : Z κ γ nL σ cells slots Q pc ls (.int (iz b) :: .int (iz a) :: st) := z_icmp_ge O d ht (fun h => kt ((iz_le hb ha).mp h)) (fun h => kf (by have h9 : ¬ (b ≤ a) := fun e => h ((iz_le hb ha).mpr e); omega))
theorem zi_if_ge {a : Int} {off : Int} {tgt : Nat} (O : OK κ γ cc nL own D ret nm) (d : decode cc pc = .ok (.ifCond .ge off, 3)) (ht : (pc : Int) + off = (tgt : Int)) (ha : -2147483648 ≤ a ∧ a < 2147483648) (kt : 0 ≤ a → Z κ γ nL σ cells slots Q tgt ls st) (kf : a < 0 → Z κ γ nL σ cells slots Q (pc + 3) ls st) : Z κ γ nL σ cells slots Q pc ls (.int (iz a) :: st) := z_if_ge O d ht (fun h => kt ((iz_le (by omega : -2147483648 ≤ (0 : Int) ∧ (0 : Int) < 2147483648) ha).mp h)) (fun h => kf (by have h9 : ¬ (0 ≤ a) := fun e => h ((iz_le (by omega : -2147483648 ≤ (0 : Int) ∧ (0 : Int) < 2147483648) ha).mpr e); omega))
theorem zi_icmp_gt {a b : Int} {off : Int} {tgt : Nat} (O : OK κ γ cc nL own D ret nm) (d : decode cc pc = .ok (.if_icmp .gt off, 3)) (ht : (pc : Int) + off = (tgt : Int)) (ha : -2147483648 ≤ a ∧ a < 2147483648) (hb : -2147483648 ≤ b ∧ b < 2147483648) (kt : b < a → Z κ γ nL σ cells slots Q tgt ls st) (kf : a ≤ b → Z κ γ nL σ cells slots Q (pc + 3) ls st) : Z κ γ nL σ cells slots Q pc ls (.int (iz b) :: .int (iz a) :: st) := z_icmp_gt O d ht (fun h => kt ((iz_lt hb ha).mp h)) (fun h => kf (by have h9 : ¬ (b < a) := fun e => h ((iz_lt hb ha).mpr e); omega))
theorem zi_if_gt {a : Int} {off : Int} {tgt : Nat} (O : OK κ γ cc nL own D ret nm) (d : decode cc pc = .ok (.ifCond .gt off, 3)) (ht : (pc : Int) + off = (tgt : Int)) (ha : -2147483648 ≤ a ∧ a < 2147483648) (kt : 0 < a → Z κ γ nL σ cells slots Q tgt ls st) (kf : a ≤ 0 → Z κ γ nL σ cells slots Q (pc + 3) ls st) : Z κ γ nL σ cells slots Q pc ls (.int (iz a) :: st) := z_if_gt O d ht (fun h => kt ((iz_lt (by omega : -2147483648 ≤ (0 : Int) ∧ (0 : Int) < 2147483648) ha).mp h)) (fun h => kf (by have h9 : ¬ (0 < a) := fun e => h ((iz_lt (by omega : -2147483648 ≤ (0 : Int) ∧ (0 : Int) < 2147483648) ha).mpr e); omega))
theorem zi_icmp_le {a b : Int} {off : Int} {tgt : Nat} (O : OK κ γ cc nL own D ret nm) (d : decode cc pc = .ok (.if_icmp .le off, 3)) (ht : (pc : Int) + off = (tgt : Int)) (ha : -2147483648 ≤ a ∧ a < 2147483648) (hb : -2147483648 ≤ b ∧ b < 2147483648) (kt : a ≤ b → Z κ γ nL σ cells slots Q tgt ls st) (kf : b < a → Z κ γ nL σ cells slots Q (pc + 3) ls st) : Z κ γ nL σ cells slots Q pc ls (.int (iz b) :: .int (iz a) :: st) := z_icmp_le O d ht (fun h => kt ((iz_le ha hb).mp h)) (fun h => kf (by have h9 : ¬ (a ≤ b) := fun e => h ((iz_le ha hb).mpr e); omega))
theorem zi_if_le {a : Int} {off : Int} {tgt : Nat} (O : OK κ γ cc nL own D ret nm) (d : decode cc pc = .ok (.ifCond .le off, 3)) (ht : (pc : Int) + off = (tgt : Int)) (ha : -2147483648 ≤ a ∧ a < 2147483648) (kt : a ≤ 0 → Z κ γ nL σ cells slots Q tgt ls st) (kf : 0 < a → Z κ γ nL σ cells slots Q (pc + 3) ls st) : Z κ γ nL σ cells slots Q pc ls (.int (iz a) :: st) := z_if_le O d ht (fun h => kt ((iz_le ha (by omega : -2147483648 ≤ (0 : Int) ∧ (0 : Int) < 2147483648)).mp h)) (fun h => kf (by have h9 : ¬ (a ≤ 0) := fun e => h ((iz_le ha (by omega : -2147483648 ≤ (0 : Int) ∧ (0 : Int) < 2147483648)).mpr e); omega))
theorem zi_lc_eq {x y : Int64} {off : Int} {tgt : Nat} (O : OK κ γ cc nL own D ret nm) (d : decode cc pc = .ok (.ifCond .eq off, 3)) (ht : (pc : Int) + off = (tgt : Int)) (kt : x = y → Z κ γ nL σ cells slots Q tgt ls st) (kf : ¬ x = y → Z κ γ nL σ cells slots Q (pc + 3) ls st) : Z κ γ nL σ cells slots Q pc ls (.int (lg_cmp x y) :: st) := z_if_eq O d ht (fun h => kt ((lg_cmp_eq x y).mp h)) (fun h => kf (fun e => h ((lg_cmp_eq x y).mpr e)))
theorem zi_lc_ne {x y : Int64} {off : Int} {tgt : Nat} (O : OK κ γ cc nL own D ret nm) (d : decode cc pc = .ok (.ifCond .ne off, 3)) (ht : (pc : Int) + off = (tgt : Int)) (kt : ¬ x = y → Z κ γ nL σ cells slots Q tgt ls st) (kf : x = y → Z κ γ nL σ cells slots Q (pc + 3) ls st) : Z κ γ nL σ cells slots Q pc ls (.int (lg_cmp x y) :: st) := z_if_ne O d ht (fun h => kt (fun e => h ((lg_cmp_eq x y).mpr e))) (fun h => kf ((lg_cmp_eq x y).mp h))
theorem zi_lc_lt {x y : Int64} {off : Int} {tgt : Nat} (O : OK κ γ cc nL own D ret nm) (d : decode cc pc = .ok (.ifCond .lt off, 3)) (ht : (pc : Int) + off = (tgt : Int)) (kt : x < y → Z κ γ nL σ cells slots Q tgt ls st) (kf : ¬ x < y → Z κ γ nL σ cells slots Q (pc + 3) ls st) : Z κ γ nL σ cells slots Q pc ls (.int (lg_cmp x y) :: st) := z_if_lt O d ht (fun h => kt ((lg_cmp_lt x y).mp h)) (fun h => kf (fun e => h ((lg_cmp_lt x y).mpr e)))
theorem zi_lc_ge {x y : Int64} {off : Int} {tgt : Nat} (O : OK κ γ cc nL own D ret nm) (d : decode cc pc = .ok (.ifCond .ge off, 3)) (ht : (pc : Int) + off = (tgt : Int)) (kt : y ≤ x → Z κ γ nL σ cells slots Q tgt ls st) (kf : ¬ y ≤ x → Z κ γ nL σ cells slots Q (pc + 3) ls st) : Z κ γ nL σ cells slots Q pc ls (.int (lg_cmp x y) :: st) := z_if_ge O d ht (fun h => kt ((lg_cmp_ge x y).mp h)) (fun h => kf (fun e => h ((lg_cmp_ge x y).mpr e)))
theorem zi_lc_gt {x y : Int64} {off : Int} {tgt : Nat} (O : OK κ γ cc nL own D ret nm) (d : decode cc pc = .ok (.ifCond .gt off, 3)) (ht : (pc : Int) + off = (tgt : Int)) (kt : y < x → Z κ γ nL σ cells slots Q tgt ls st) (kf : ¬ y < x → Z κ γ nL σ cells slots Q (pc + 3) ls st) : Z κ γ nL σ cells slots Q pc ls (.int (lg_cmp x y) :: st) := z_if_gt O d ht (fun h => kt ((lg_cmp_gt x y).mp h)) (fun h => kf (fun e => h ((lg_cmp_gt x y).mpr e)))
theorem zi_lc_le {x y : Int64} {off : Int} {tgt : Nat} (O : OK κ γ cc nL own D ret nm) (d : decode cc pc = .ok (.ifCond .le off, 3)) (ht : (pc : Int) + off = (tgt : Int)) (kt : x ≤ y → Z κ γ nL σ cells slots Q tgt ls st) (kf : ¬ x ≤ y → Z κ γ nL σ cells slots Q (pc + 3) ls st) : Z κ γ nL σ cells slots Q pc ls (.int (lg_cmp x y) :: st) := z_if_le O d ht (fun h => kt ((lg_cmp_le x y).mp h)) (fun h => kf (fun e => h ((lg_cmp_le x y).mpr e)))
theorem zi_iald {v len : Nat} {a : Int} (j : Nat) (O : OK κ γ cc nL own D ret nm) (ha : Ar σ v 22 len) (hj : a = (j : Int)) (hlt : j < len) (hl : len < 2147483648) (d : decode cc pc = .ok (.iaload, 1)) (kk : Z κ γ nL σ cells slots Q (pc + 1) ls (.int (iz (gI σ v j)) :: st)) : Z κ γ nL σ cells slots Q pc ls (.int (iz a) :: .ref v :: st) := z_iald j O ha (iz_nI hj) hlt hl d (by rw [izg]; exact kk)
theorem zi_ialdv {v len : Nat} {a : Int} (j : Nat) (e : Int) (O : OK κ γ cc nL own D ret nm) (ha : Ar σ v 22 len) (hj : a = (j : Int)) (hlt : j < len) (hl : len < 2147483648) (he : hI σ v j = iz e) (d : decode cc pc = .ok (.iaload, 1)) (kk : Z κ γ nL σ cells slots Q (pc + 1) ls (.int (iz e) :: st)) : Z κ γ nL σ cells slots Q pc ls (.int (iz a) :: .ref v :: st) := z_iald j O ha (iz_nI hj) hlt hl d (by rw [he]; exact kk)
theorem zi_bald {v len : Nat} {a : Int} (j : Nat) (O : OK κ γ cc nL own D ret nm) (ha : Ar σ v 21 len) (hj : a = (j : Int)) (hlt : j < len) (hl : len < 2147483648) (d : decode cc pc = .ok (.baload, 1)) (kk : Z κ γ nL σ cells slots Q (pc + 1) ls (.int (iz (gI σ v j)) :: st)) : Z κ γ nL σ cells slots Q pc ls (.int (iz a) :: .ref v :: st) := z_bald j O ha (iz_nI hj) hlt hl d (by rw [izg]; exact kk)
theorem zi_baldv {v len : Nat} {a : Int} (j : Nat) (e : Int) (O : OK κ γ cc nL own D ret nm) (ha : Ar σ v 21 len) (hj : a = (j : Int)) (hlt : j < len) (hl : len < 2147483648) (he : hI σ v j = iz e) (d : decode cc pc = .ok (.baload, 1)) (kk : Z κ γ nL σ cells slots Q (pc + 1) ls (.int (iz e) :: st)) : Z κ γ nL σ cells slots Q pc ls (.int (iz a) :: .ref v :: st) := z_bald j O ha (iz_nI hj) hlt hl d (by rw [he]; exact kk)
theorem zi_zald {v len : Nat} {a : Int} (j : Nat) (O : OK κ γ cc nL own D ret nm) (ha : Ar σ v 20 len) (hj : a = (j : Int)) (hlt : j < len) (hl : len < 2147483648) (d : decode cc pc = .ok (.baload, 1)) (kk : Z κ γ nL σ cells slots Q (pc + 1) ls (.int (iz (gI σ v j)) :: st)) : Z κ γ nL σ cells slots Q pc ls (.int (iz a) :: .ref v :: st) := z_zald j O ha (iz_nI hj) hlt hl d (by rw [izg]; exact kk)
theorem zi_zaldv {v len : Nat} {a : Int} (j : Nat) (e : Int) (O : OK κ γ cc nL own D ret nm) (ha : Ar σ v 20 len) (hj : a = (j : Int)) (hlt : j < len) (hl : len < 2147483648) (he : hI σ v j = iz e) (d : decode cc pc = .ok (.baload, 1)) (kk : Z κ γ nL σ cells slots Q (pc + 1) ls (.int (iz e) :: st)) : Z κ γ nL σ cells slots Q pc ls (.int (iz a) :: .ref v :: st) := z_zald j O ha (iz_nI hj) hlt hl d (by rw [he]; exact kk)
theorem zi_lald {v len : Nat} {a : Int} (j : Nat) (O : OK κ γ cc nL own D ret nm) (ha : ArL σ v len) (hj : a = (j : Int)) (hlt : j < len) (hl : len < 2147483648) (d : decode cc pc = .ok (.laload, 1)) (kk : Z κ γ nL σ cells slots Q (pc + 1) ls (.long (hL σ v j) :: st)) : Z κ γ nL σ cells slots Q pc ls (.int (iz a) :: .ref v :: st) := z_lald j O ha (iz_nI hj) hlt hl d kk
theorem zi_aald {v kd len t0 : Nat} {a : Int} {C : String} (j : Nat) (O : OK κ γ cc nL own D ret nm) (ha : Ar σ v kd len) (hkd : 24 ≤ kd) (ht : (tysG γ)[t0]? = some (γ.2.2.2.2.1 kd, .object C)) (hj : a = (j : Int)) (hlt : j < len) (hl : len < 2147483648) (d : decode cc pc = .ok (.aaload, 1)) (kk : Z κ γ nL σ cells slots Q (pc + 1) ls (va_rf (hR σ v j) :: st)) : Z κ γ nL σ cells slots Q pc ls (.int (iz a) :: .ref v :: st) := z_aald j O ha hkd ht (iz_nI hj) hlt hl d kk
theorem zi_iast {v len : Nat} {a x : Int} (j : Nat) (O : OK κ γ cc nL own D ret nm) (ha : Ar σ v 22 len) (hj : a = (j : Int)) (hlt : j < len) (hl : len < 2147483648) (d : decode cc pc = .ok (.iastore, 1)) (kk : Z κ γ nL (sI σ v j (iz x)) cells slots Q (pc + 1) ls st) : Z κ γ nL σ cells slots Q pc ls (.int (iz x) :: .int (iz a) :: .ref v :: st) := z_iast j O ha (iz_nI hj) hlt hl d kk
theorem zi_bast {v len : Nat} {a x : Int} (j : Nat) (O : OK κ γ cc nL own D ret nm) (ha : Ar σ v 21 len) (hj : a = (j : Int)) (hlt : j < len) (hl : len < 2147483648) (d : decode cc pc = .ok (.bastore, 1)) (kk : Z κ γ nL (sI σ v j ((iz x).toInt8.toInt32)) cells slots Q (pc + 1) ls st) : Z κ γ nL σ cells slots Q pc ls (.int (iz x) :: .int (iz a) :: .ref v :: st) := z_bast j O ha (iz_nI hj) hlt hl d kk
theorem zi_zast {v len : Nat} {a x : Int} (j : Nat) (O : OK κ γ cc nL own D ret nm) (ha : Ar σ v 20 len) (hx : x = 0 ∨ x = 1) (hj : a = (j : Int)) (hlt : j < len) (hl : len < 2147483648) (d : decode cc pc = .ok (.bastore, 1)) (kk : Z κ γ nL (sI σ v j (iz x)) cells slots Q (pc + 1) ls st) : Z κ γ nL σ cells slots Q pc ls (.int (iz x) :: .int (iz a) :: .ref v :: st) := z_zast j O ha (nar_z hx) (iz_nI hj) hlt hl d kk
theorem zi_last {v len : Nat} {a : Int} {x : Int64} (j : Nat) (O : OK κ γ cc nL own D ret nm) (ha : Ar σ v 23 len) (hj : a = (j : Int)) (hlt : j < len) (hl : len < 2147483648) (d : decode cc pc = .ok (.lastore, 1)) (kk : Z κ γ nL (sL σ v j x) cells slots Q (pc + 1) ls st) : Z κ γ nL σ cells slots Q pc ls (.long x :: .int (iz a) :: .ref v :: st) := z_last j O ha (iz_nI hj) hlt hl d kk
theorem zi_aast {v kd len t0 w ci : Nat} {a : Int} {r : vw_C} (j : Nat) (O : OK κ γ cc nL own D ret nm) (ha : Ar σ v kd len) (hkd : 24 ≤ kd) (ht : (tysG γ)[t0]? = some (γ.2.2.2.2.1 kd, .object r.1)) (hc : classes[ci]? = some r) (hci : ci < 10) (hw : Is σ w ci) (hj : a = (j : Int)) (hlt : j < len) (hl : len < 2147483648) (d : decode cc pc = .ok (.aastore, 1)) (kk : Z κ γ nL (sR σ v j (some w)) cells slots Q (pc + 1) ls st) : Z κ γ nL σ cells slots Q pc ls (.ref w :: .int (iz a) :: .ref v :: st) := z_aast j O ha hkd ht hc hci hw (iz_nI hj) hlt hl d kk
theorem zi_get {index ci k v : Nat} {fin : Bool} (O : OK κ γ cc nL own D ret nm) (f : FL own index ci k fin) (ht : tk (tyOf ci k) = 0) (hv : Is σ v ci) (d : decode cc pc = .ok (.getfield index, 3)) (kk : Z κ γ nL σ cells slots Q (pc + 3) ls (.int (iz (gI σ v k)) :: st)) : Z κ γ nL σ cells slots Q pc ls (.ref v :: st) := z_getI O f ht hv d (by rw [izg]; exact kk)
theorem zi_getv {index ci k v : Nat} {fin : Bool} (e : Int) (O : OK κ γ cc nL own D ret nm) (f : FL own index ci k fin) (ht : tk (tyOf ci k) = 0) (hv : Is σ v ci) (he : hI σ v k = iz e) (d : decode cc pc = .ok (.getfield index, 3)) (kk : Z κ γ nL σ cells slots Q (pc + 3) ls (.int (iz e) :: st)) : Z κ γ nL σ cells slots Q pc ls (.ref v :: st) := z_getI O f ht hv d (by rw [he]; exact kk)
theorem zi_getLv {index ci k v : Nat} {fin : Bool} (e : Int64) (O : OK κ γ cc nL own D ret nm) (f : FL own index ci k fin) (ht : tk (tyOf ci k) = 1) (hv : Is σ v ci) (he : hL σ v k = e) (d : decode cc pc = .ok (.getfield index, 3)) (kk : Z κ γ nL σ cells slots Q (pc + 3) ls (.long e :: st)) : Z κ γ nL σ cells slots Q pc ls (.ref v :: st) := z_getL O f ht hv d (by rw [he]; exact kk)
theorem zi_tableOut {dflt lo hi : Int} {offs : Array Int} {len : Nat} {a : Int} {tgt : Nat} (O : OK κ γ cc nL own D ret nm) (d : decode cc pc = .ok (.tableswitch dflt lo hi offs, len)) (ha : -2147483648 ≤ a ∧ a < 2147483648) (h : a < lo ∨ hi < a) (ht : (pc : Int) + dflt = (tgt : Int)) (k : Z κ γ nL σ cells slots Q tgt ls st) : Z κ γ nL σ cells slots Q pc ls (.int (iz a) :: st) := z_tableOut O d (by rw [izt ha]; exact h) ht k
theorem zi_tableIn {dflt lo hi : Int} {offs : Array Int} {len : Nat} {a : Int} {off : Int} {tgt : Nat} (O : OK κ γ cc nL own D ret nm) (d : decode cc pc = .ok (.tableswitch dflt lo hi offs, len)) (h1 : -2147483648 ≤ a ∧ a < 2147483648) (ha : ¬ a < lo) (hb : ¬ hi < a) (ho : offs[(a - lo).toNat]? = some off) (ht : (pc : Int) + off = (tgt : Int)) (k : Z κ γ nL σ cells slots Q tgt ls st) : Z κ γ nL σ cells slots Q pc ls (.int (iz a) :: st) := z_tableIn O d (by rw [izt h1]; exact ha) (by rw [izt h1]; exact hb) (by rw [izt h1]; exact ho) ht k
theorem zi_mmax {a b : Int} {index : Nat} (O : OK κ γ cc nL own D ret nm) (hD : 1 ≤ D) (w1 : Cond.methodLink own index Lib.Math.max.name ∈ GW) (w2 : Cond.static Lib.Math.max.name ∈ GW) (w3 : Cond.initialized "java/lang/Math" ∈ GW) (w4 : Cond.code Lib.Math.max.name Lib.Math.max.code 2 (some .int) ∈ GW) (hr : (st.map fun v => v.category).sum ≤ 8) (hc : cells ≤ κ.2.2.2.1.cells ∧ slots ≤ κ.2.2.2.1.slots) (d : decode cc pc = .ok (.invokestatic index, 3)) (k : ∀ z : Int, (-2147483648 ≤ z ∧ z < 2147483648) → Z κ γ nL σ cells slots Q (pc + 3) ls (.int (iz z) :: st)) : Z κ γ nL σ cells slots Q pc ls (.int (iz b) :: .int (iz a) :: st) := by
  intro H locs la h1 h2 h3
  obtain ⟨r1, r2⟩ := O.2.2.2.2.2.2.2.2.1
  have hts := O.2.2.2.2.1
  have h9 : ((st.map (cv γ)).map fun v => v.category).sum ≤ 8 := by
    rw [List.map_map]
    have e : ((fun v : Value => v.category) ∘ cv γ) = fun v => v.category := by funext v; exact cv_cat γ v
    rw [e]
    exact hr
  refine va_mmax O.1 O.2.1 (by rw [O.2.2.1]; exact h3.1.symm) O.2.2.2.1 (hts _ w1) (hts _ w2) (hts _ w3) (hts _ w4) (by omega) (by omega) hc.1 hc.2 d ?_
  have h := k (if iz a < iz b then iz b else iz a).toInt (rng _) H locs la h1 h2 h3
  rw [← izi (if iz a < iz b then iz b else iz a)] at h
  exact h
theorem zi_mmin {a b : Int} {index : Nat} (O : OK κ γ cc nL own D ret nm) (hD : 1 ≤ D) (w1 : Cond.methodLink own index Lib.Math.min.name ∈ GW) (w2 : Cond.static Lib.Math.min.name ∈ GW) (w3 : Cond.initialized "java/lang/Math" ∈ GW) (w4 : Cond.code Lib.Math.min.name Lib.Math.min.code 2 (some .int) ∈ GW) (hr : (st.map fun v => v.category).sum ≤ 8) (hc : cells ≤ κ.2.2.2.1.cells ∧ slots ≤ κ.2.2.2.1.slots) (d : decode cc pc = .ok (.invokestatic index, 3)) (k : ∀ z : Int, (-2147483648 ≤ z ∧ z < 2147483648) → Z κ γ nL σ cells slots Q (pc + 3) ls (.int (iz z) :: st)) : Z κ γ nL σ cells slots Q pc ls (.int (iz b) :: .int (iz a) :: st) := by
  intro H locs la h1 h2 h3
  obtain ⟨r1, r2⟩ := O.2.2.2.2.2.2.2.2.1
  have hts := O.2.2.2.2.1
  have h9 : ((st.map (cv γ)).map fun v => v.category).sum ≤ 8 := by
    rw [List.map_map]
    have e : ((fun v : Value => v.category) ∘ cv γ) = fun v => v.category := by funext v; exact cv_cat γ v
    rw [e]
    exact hr
  refine va_mmin O.1 O.2.1 (by rw [O.2.2.1]; exact h3.1.symm) O.2.2.2.1 (hts _ w1) (hts _ w2) (hts _ w3) (hts _ w4) (by omega) (by omega) hc.1 hc.2 d ?_
  have h := k (if iz b < iz a then iz b else iz a).toInt (rng _) H locs la h1 h2 h3
  rw [← izi (if iz b < iz a then iz b else iz a)] at h
  exact h
end ZI
/-! frames: what a method may write -/
abbrev Wl : Type := List (Nat × Nat)
/-- (v, k): place k of cell v; (v, 99999): all of it -/
def wr (W : Wl) (v k : Nat) : Bool := W.any (fun q => q.1 == v && (q.2 == 99999 || q.2 == k))
def Fr (W : Wl) (σ τ : VH) : Prop := hN τ = hN σ ∧ hS τ = hS σ ∧ hR τ = hR σ ∧ (∀ v k, v < 87 → wr W v k = false → hI τ v k = hI σ v k ∧ hL τ v k = hL σ v k) ∧ ∀ v k, 87 ≤ v → hS σ v ≠ (22, 60) → hS σ v ≠ (0, 0) → hI τ v k = hI σ v k ∧ hL τ v k = hL σ v k
theorem Fr.rf (W : Wl) (σ : VH) : Fr W σ σ := ⟨rfl, rfl, rfl, fun _ _ _ _ => ⟨rfl, rfl⟩, fun _ _ _ _ _ => ⟨rfl, rfl⟩⟩
theorem Fr.tr {W : Wl} {σ τ ρ : VH} (h : Fr W σ τ) (g : Fr W τ ρ) : Fr W σ ρ := ⟨g.1.trans h.1, g.2.1.trans h.2.1, g.2.2.1.trans h.2.2.1, fun v k e0 e => ⟨(g.2.2.2.1 v k e0 e).1.trans (h.2.2.2.1 v k e0 e).1, (g.2.2.2.1 v k e0 e).2.trans (h.2.2.2.1 v k e0 e).2⟩, fun v k e0 e1 e2 => ⟨(g.2.2.2.2 v k e0 (by rw [h.2.1]; exact e1) (by rw [h.2.1]; exact e2)).1.trans (h.2.2.2.2 v k e0 e1 e2).1, (g.2.2.2.2 v k e0 (by rw [h.2.1]; exact e1) (by rw [h.2.1]; exact e2)).2.trans (h.2.2.2.2 v k e0 e1 e2).2⟩⟩
def Wsub (W V : Wl) : Bool := W.all (fun q => V.any (fun p => p.1 == q.1 && (p.2 == 99999 || p.2 == q.2)))
theorem wr_sub {W V : Wl} (h : Wsub W V = true) {v k : Nat} (e : wr V v k = false) : wr W v k = false := by
  unfold wr Wsub at *
  rw [List.any_eq_false] at *
  intro q hq hc
  have h1 := List.all_eq_true.mp h q hq
  obtain ⟨p, hp, h2⟩ := List.any_eq_true.mp h1
  have h3 := e p hp
  simp only [Bool.and_eq_true, Bool.or_eq_true, beq_iff_eq] at hc h2 h3
  refine h3 ⟨by rw [h2.1]; exact hc.1, ?_⟩
  rcases h2.2 with h4 | h4
  · exact Or.inl h4
  · rcases hc.2 with h5 | h5
    · exact Or.inl (by rw [h4]; exact h5)
    · exact Or.inr (by rw [h4]; exact h5)
theorem Fr.mono {W V : Wl} {σ τ : VH} (h : Fr W σ τ) (s : Wsub W V = true) : Fr V σ τ := ⟨h.1, h.2.1, h.2.2.1, fun v k e0 e => h.2.2.2.1 v k e0 (wr_sub s e), h.2.2.2.2⟩
theorem Fr.pI {W : Wl} {σ τ : VH} {a j : Nat} {x : Int32} (h : Fr W σ τ) (s : wr W a j = true) (ha : a < 87 := by decide) : Fr W σ (sI τ a j x) := ⟨h.1, h.2.1, h.2.2.1, fun v k e0 e => ⟨by
  rw [hI_sI, if_neg]
  · exact (h.2.2.2.1 v k e0 e).1
  · rintro ⟨rfl, rfl⟩
    rw [s] at e
    exact Bool.noConfusion e, (h.2.2.2.1 v k e0 e).2⟩, fun v k e0 e1 e2 => ⟨by
  rw [hI_sI, if_neg]
  · exact (h.2.2.2.2 v k e0 e1 e2).1
  · rintro ⟨rfl, rfl⟩
    omega, (h.2.2.2.2 v k e0 e1 e2).2⟩⟩
theorem Fr.pL {W : Wl} {σ τ : VH} {a j : Nat} {x : Int64} (h : Fr W σ τ) (s : wr W a j = true) (ha : a < 87 := by decide) : Fr W σ (sL τ a j x) := ⟨h.1, h.2.1, h.2.2.1, fun v k e0 e => ⟨(h.2.2.2.1 v k e0 e).1, by
  rw [hL_sL, if_neg]
  · exact (h.2.2.2.1 v k e0 e).2
  · rintro ⟨rfl, rfl⟩
    rw [s] at e
    cases e⟩, fun v k e0 e1 e2 => ⟨(h.2.2.2.2 v k e0 e1 e2).1, by
  rw [hL_sL, if_neg]
  · exact (h.2.2.2.2 v k e0 e1 e2).2
  · rintro ⟨rfl, rfl⟩
    omega⟩⟩
/-- a stack's or a case's cell is written -/
theorem Fr.pD {W : Wl} {σ τ : VH} {a j : Nat} {x : Int32} (h : Fr W σ τ) (ha : 87 ≤ a) (s : hS σ a = (22, 60) ∨ hS σ a = (0, 0)) : Fr W σ (sI τ a j x) := ⟨h.1, h.2.1, h.2.2.1, fun v k e0 e => ⟨by
  rw [hI_sI, if_neg]
  · exact (h.2.2.2.1 v k e0 e).1
  · rintro ⟨rfl, rfl⟩
    omega, (h.2.2.2.1 v k e0 e).2⟩, fun v k e0 e1 e2 => ⟨by
  rw [hI_sI, if_neg]
  · exact (h.2.2.2.2 v k e0 e1 e2).1
  · rintro ⟨rfl, rfl⟩
    rcases s with s | s
    · exact e1 s
    · exact e2 s, (h.2.2.2.2 v k e0 e1 e2).2⟩⟩
theorem Fr.i {W : Wl} {σ τ : VH} (h : Fr W σ τ) (v k : Nat) (e : wr W v k = false) (hv : v < 87 := by decide) : hI τ v k = hI σ v k := (h.2.2.2.1 v k hv e).1
theorem Fr.l {W : Wl} {σ τ : VH} (h : Fr W σ τ) (v k : Nat) (e : wr W v k = false) (hv : v < 87 := by decide) : hL τ v k = hL σ v k := (h.2.2.2.1 v k hv e).2
theorem Fr.g {W : Wl} {σ τ : VH} (h : Fr W σ τ) (v k : Nat) (e : wr W v k = false) (hv : v < 87 := by decide) : gI τ v k = gI σ v k := gI_eq (h.i v k e hv)
theorem Fr.d {W : Wl} {σ τ : VH} (h : Fr W σ τ) (v k : Nat) (hv : 87 ≤ v) (h1 : hS σ v ≠ (22, 60)) (h2 : hS σ v ≠ (0, 0)) : hI τ v k = hI σ v k := (h.2.2.2.2 v k hv h1 h2).1
theorem Fr.lay {W : Wl} {σ τ : VH} (h : Fr W σ τ) (J : Lay σ) : Lay τ := by
  obtain ⟨h1, h2, h3, -⟩ := h
  unfold Lay
  rw [h1, h2, h3]
  exact J
theorem hI_at (σ : VH) (v k : Nat) (x : Int32) : hI (sI σ v k x) v k = x := by rw [hI_sI, if_pos ⟨rfl, rfl⟩]
theorem hI_ne (σ : VH) (v j k : Nat) (x : Int32) (h : k ≠ j) : hI (sI σ v j x) v k = hI σ v k := by rw [hI_sI, if_neg (fun e => h e.2)]
theorem sk1t {σ : VH} {c j v k : Nat} {x y : Int32} (h : v ≠ c) (p : hI σ v k = y) : hI (sI σ c j x) v k = y := by rw [hI_sI, if_neg (fun e => h e.1)]; exact p
theorem sk2t {σ : VH} {c j v k : Nat} {x y : Int32} (h : k ≠ j) (p : hI σ v k = y) : hI (sI σ c j x) v k = y := by rw [hI_sI, if_neg (fun e => h e.2)]; exact p
theorem skL {σ : VH} {c j v k : Nat} {x : Int64} {y : Int32} (p : hI σ v k = y) : hI (sL σ c j x) v k = y := p
theorem Fr.it {W : Wl} {σ τ : VH} {v k : Nat} {y : Int32} (h : Fr W σ τ) (e : wr W v k = false) (p : hI σ v k = y) (hv : v < 87 := by decide) : hI τ v k = y := (h.i v k e hv).trans p
theorem hI_sk (σ : VH) (c j : Nat) (x : Int32) (v k : Nat) (h : ¬ (v = c ∧ k = j)) : hI (sI σ c j x) v k = hI σ v k := by rw [hI_sI, if_neg h]
