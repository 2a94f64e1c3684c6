/-! small rows: values that are known, results of a call weakened, numbers -/
def lkAll (ls : List (Nat × Value)) : List (Nat × Value) → Prop
  | [] => True
  | q :: r => lkL ls q.1 = some q.2 ∧ lkAll ls r
theorem lkAll_mem {ls : List (Nat × Value)} : ∀ {ls' : List (Nat × Value)}, lkAll ls ls' → ∀ q ∈ ls', q ∈ ls
  | [], _, q, hq => absurd hq List.not_mem_nil
  | p :: r, h, q, hq => by
    rcases List.mem_cons.mp hq with e | e
    · rw [e]; exact lkL_mem h.1
    · exact lkAll_mem h.2 q e
section ZV
variable {κ : Kx} {γ : Gh} {cc : ByteArray} {nL D : Nat} {own nm : String} {ret : Option FieldType} {σ : VH} {cells slots pc : Nat} {Q : State → Prop} {ls : List (Nat × Value)} {st : List Value}
theorem z_getIv {index ci k v : Nat} {fin : Bool} {x : Int32} (O : OK κ γ cc nL own D ret nm) (f : FL own index ci k fin) (ht : tk (tyOf ci k) = 0) (hv : Is σ v ci) (hx : hI σ v k = x) (d : decode cc pc = .ok (.getfield index, 3)) (kk : Z κ γ nL σ cells slots Q (pc + 3) ls (.int x :: st)) : Z κ γ nL σ cells slots Q pc ls (.ref v :: st) := z_getI O f ht hv d (by rw [hx]; exact kk)
theorem z_ialdv {v len : Nat} {i x : Int32} (j : Nat) (O : OK κ γ cc nL own D ret nm) (ha : Ar σ v 22 len) (hx : hI σ v j = x) (hi : i = nI j) (hj : j < len) (hl : len < 2147483648) (d : decode cc pc = .ok (.iaload, 1)) (kk : Z κ γ nL σ cells slots Q (pc + 1) ls (.int x :: st)) : Z κ γ nL σ cells slots Q pc ls (.int i :: .ref v :: st) := z_iald j O ha hi hj hl d (by rw [hx]; exact kk)
theorem z_lk (ls' : List (Nat × Value)) (h : lkAll ls ls') (k : Z κ γ nL σ cells slots Q pc ls' st) : Z κ γ nL σ cells slots Q pc ls st := z_ls (lkAll_mem h) k
theorem z_topv {x : Int32} (y : Int32) (h : x = y) (k : Z κ γ nL σ cells slots Q pc ls (.int y :: st)) : Z κ γ nL σ cells slots Q pc ls (.int x :: st) := h ▸ k
end ZV
theorem Ct.imp {l : Launch} {y : MethodName} {cc : ByteArray} {mL : Nat} {ret : Option FieldType} {d mc ms : Nat} {as : List Value} {σ : VH} {P P' : Option Value → VH → Prop} (h : Ct l y cc mL ret d mc ms as σ P) (hi : ∀ r τ, P r τ → P' r τ) : Ct l y cc mL ret d mc ms as σ P' := by
  intro γ p e ha hc hk s m args below hf hap hP hK
  obtain ⟨k, o, h1, h2, h3, hq, L, hL⟩ := h γ p e ha hc hk s m args below hf hap hP hK
  obtain ⟨⟨r, τ, e1, e2, e3⟩, hF⟩ := hq
  exact ⟨k, o, h1, h2, h3, ⟨⟨r, τ, e1, hi r τ e2, e3⟩, hF⟩, L, hL⟩
theorem rb0 {c : Prop} [Decidable c] (h : ¬ c) : (some (Value.int 0)) = some (Value.int (bI (decide c))) := by simp [bI, h]
theorem rb1 {c : Prop} [Decidable c] (h : c) : (some (Value.int 1)) = some (Value.int (bI (decide c))) := by simp [bI, h]
theorem addI {x y : Int32} (h1 : -2147483648 ≤ x.toInt + y.toInt) (h2 : x.toInt + y.toInt < 2147483648) : (x + y).toInt = x.toInt + y.toInt := by
  rw [Int32.toInt_add]
  exact Int.bmod_eq_of_le (by omega) (by omega)
theorem subI {x y : Int32} (h1 : -2147483648 ≤ x.toInt - y.toInt) (h2 : x.toInt - y.toInt < 2147483648) : (x - y).toInt = x.toInt - y.toInt := by
  rw [Int32.toInt_sub]
  exact Int.bmod_eq_of_le (by omega) (by omega)
