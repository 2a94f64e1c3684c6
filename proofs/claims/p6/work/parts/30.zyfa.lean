/-! the reference's e: what is asked of a token; the pile as it falls -/
theorem RAt.is3 {σ : VH} {tk pl : Nat → Int} {m j : Nat} {c z : Int} (A : RAt σ tk pl m j) (hc : Sg c) (f : (z = 1 ∧ gI σ 33 9 = 5 ∧ sg σ (gI σ 33 7) = c) ∨ (z = 0 ∧ ¬ (gI σ 33 9 = 5 ∧ sg σ (gI σ 33 7) = c))) : (z = 1 ∧ gI σ 33 9 = 5 ∧ sg σ (gI σ 33 7) = c ∧ tk j = c) ∨ (z = 0 ∧ Opq (¬ tk j = c)) := by
  rcases f with ⟨f1, f2, f3⟩ | ⟨f1, f2⟩
  · exact Or.inl ⟨f1, f2, f3, (A.sign hc).mp ⟨f2, f3⟩⟩
  · exact Or.inr ⟨f1, Opq.mk (fun q => f2 ((A.sign hc).mpr q))⟩
theorem RAt.isw3 {σ : VH} {tk pl : Nat → Int} {m j : Nat} {v : Int64} {z : Int} (w : Int) (A : RAt σ tk pl m j) (hv : v.toInt = w) (hk : Kp w) (f : (z = 1 ∧ gI σ 33 9 = 3 ∧ (hL σ 33 11).toInt = v.toInt) ∨ (z = 0 ∧ ¬ (gI σ 33 9 = 3 ∧ (hL σ 33 11).toInt = v.toInt))) : (z = 1 ∧ gI σ 33 9 = 3 ∧ tk j = w) ∨ (z = 0 ∧ Opq (¬ tk j = w)) := by
  rw [hv] at f
  rcases f with ⟨f1, f2, f3⟩ | ⟨f1, f2⟩
  · exact Or.inl ⟨f1, f2, (A.word hk).mp ⟨f2, f3⟩⟩
  · exact Or.inr ⟨f1, Opq.mk (fun q => f2 ((A.word hk).mpr q))⟩
theorem Cw.un {tk : Nat → Int} {m p j : Nat} {E F : Nat → Int} {s : Int} {r : Rs} (e : ∀ i, i < p → F i = E i) (h : F p = 1 ∨ F p = 2) (g : Cw tk m F (p + 1) (dpt F (p + 1)) j s r) : Cw tk m E p (dpt E p) j s r := by
  have ed : dpt F (p + 1) = dpt E p := by rw [dpt_s, dpt_congr p e, if_neg (by omega), Nat.add_zero]
  obtain ⟨q, hq, hr⟩ := g
  rw [ed] at hq
  refine ⟨q, hq, ?_⟩
  rcases hr with hr | ⟨h3, h4⟩
  · exact Or.inl hr
  · exact Or.inr ⟨h3, Cn.congr p e ((Cn.op (by omega)).mp h4)⟩
/-- the pile as it falls -/
def Bh (E : Nat → Int) (tk : Nat → Int) (m j0 : Nat) (s0 : Int) (j : Nat) (s q : Int) : Prop := ∃ p : Nat, q = (p : Int) ∧ Nt E p ∧ ∀ r, Cn tk m E p j s r → PR tk m 2 0 j0 s0 r
theorem Bh.at {E tk : Nat → Int} {m j0 j n : Nat} {s0 s q : Int} (h : Bh E tk m j0 s0 j s q) (e : q = (n : Int)) : Nt E n ∧ ∀ r, Cn tk m E n j s r → PR tk m 2 0 j0 s0 r := by
  obtain ⟨p, ep, nt, K⟩ := h
  have hp : p = n := by omega
  subst hp
  exact ⟨nt, K⟩
theorem Bh.pop {E tk : Nat → Int} {m j0 j n : Nat} {s0 s q q' : Int} (h : Bh E tk m j0 s0 j s q) (e : q = ((n + 1 : Nat) : Int)) (e' : q' = (n : Int)) (ho : E n = 1 ∨ E n = 2 ∨ E n = 3) : Bh E tk m j0 s0 j s q' := by
  obtain ⟨nt, K⟩ := h.at e
  exact ⟨n, e', nt.pop, fun r hr => K r ((Cn.op ho).mpr hr)⟩
theorem Bh.more {σ τ : VH} {tk pl : Nat → Int} {m j0 j n : Nat} {s0 rk q : Int} (h : Bh (gI σ 57) tk m j0 s0 j (gI σ 33 36) q) (e : q = ((n + 1 : Nat) : Int)) (pi : PI (gI σ 57) (n + 1)) (ht : ¬ gI σ 57 n = 3) (e57 : ∀ i, i < n + 1 → gI τ 57 i = gI σ 57 i) (e57p : gI τ 57 (n + 1) = rk) (hk : (rk = 2 ∧ tk j = 6385252) ∨ (rk = 1 ∧ tk j = 28530)) (e38 : gI τ 33 38 = ((n + 1 + 1 : Nat) : Int)) (e36 : gI τ 33 36 = gI σ 33 36) (h0 : gI τ 33 4 = 0) (A : RAt τ tk pl m (adv m j)) : EsR τ tk pl m j0 s0 1 := by
  obtain ⟨nt, K⟩ := h.at e
  refine Or.inr ⟨h0, n + 1 + 1, adv m j, e38, A, nt.push e57 (Or.inr ht), Or.inl ⟨rfl, by omega, fun r hr => K r (Cn.more (n + 1) ⟨0, by omega, Or.inl pi.1⟩ (fun i hi e5 => ?_) (by omega) (Cw.un e57 (by omega) (by rw [← e36]; exact hr)) (fun i hi => ⟨?_, fun e3 => ?_⟩))⟩⟩
  · by_cases hi0 : i = 0
    · subst hi0
      rw [dpt_s, if_neg (by omega)]
      rfl
    · have := pi.2.1 i (by omega) hi
      omega
  · by_cases hi0 : i = 0
    · subst hi0
      have := pi.1
      omega
    · have := pi.2.1 i (by omega) hi
      omega
  · exact Nt.all nt ht (n + 1 - i) i rfl hi e3
theorem Bh.close {σ τ : VH} {tk pl : Nat → Int} {m j0 j n : Nat} {s0 q : Int} (h : Bh (gI σ 57) tk m j0 s0 j (gI σ 33 36) q) (e : q = ((n + 1 : Nat) : Int)) (h4 : gI σ 57 n = 4) (hs : ¬ (tk j = 6385252 ∨ tk j = 28530)) (hc : tk j = 41) (e57 : ∀ i, i < n → gI τ 57 i = gI σ 57 i) (e38 : gI τ 33 38 = (n : Int)) (e36 : gI τ 33 36 = gI σ 33 36) (h0 : gI τ 33 4 = 0) (A : RAt τ tk pl m (adv m j)) : EsR τ tk pl m j0 s0 0 := by
  obtain ⟨nt, K⟩ := h.at e
  refine Or.inr ⟨h0, n, adv m j, e38, A, nt.pop.congr e57, Or.inr ⟨rfl, fun r hr => K r (Or.inr (Or.inl ⟨h4, (0, j, gI σ 33 36), PR.stop hs, Or.inr (Or.inl ⟨rfl, hc, ?_⟩)⟩))⟩⟩
  rw [e36] at hr
  exact Cn.congr n e57 hr
theorem Bh.noclose {σ τ : VH} {tk pl : Nat → Int} {m j0 j n : Nat} {s0 q w : Int} (h : Bh (gI σ 57) tk m j0 s0 j (gI σ 33 36) q) (e : q = ((n + 1 : Nat) : Int)) (h4 : gI σ 57 n = 4) (hs : ¬ (tk j = 6385252 ∨ tk j = 28530)) (hc : ¬ tk j = 41) (hr : Rf τ tk pl m (flt tk j 2, j)) : EsR τ tk pl m j0 s0 w := by
  obtain ⟨nt, K⟩ := h.at e
  exact Or.inl (EsB.of (q := (flt tk j 2, j, gI σ 33 36)) (K _ (Or.inr (Or.inl ⟨h4, (0, j, gI σ 33 36), PR.stop hs, Or.inr (Or.inr ⟨rfl, hc, rfl⟩)⟩))) (flt_ne (by decide)) hr)
theorem Bh.end5 {σ τ : VH} {tk pl : Nat → Int} {m j0 j n : Nat} {s0 q : Int} (h : Bh (gI σ 57) tk m j0 s0 j (gI σ 33 36) q) (e : q = ((n + 1 : Nat) : Int)) (h5 : gI σ 57 n = 5) (n0 : n = 0) (hs : ¬ (tk j = 6385252 ∨ tk j = 28530)) (e57 : ∀ i, i < n → gI τ 57 i = gI σ 57 i) (e38 : gI τ 33 38 = (n : Int)) (e36 : gI τ 33 36 = gI σ 33 36) (h0 : gI τ 33 4 = 0) (A : RAt τ tk pl m j) : EsR τ tk pl m j0 s0 0 := by
  obtain ⟨nt, K⟩ := h.at e
  refine Or.inr ⟨h0, n, j, e38, A, nt.pop.congr e57, Or.inr ⟨rfl, fun r hr => K r (Or.inl ⟨h5, ?_⟩)⟩⟩
  subst n0
  have hr : r = (0, j, gI τ 33 36) := hr
  rw [hr, e36]
  exact PR.stop hs
theorem Est.start {τ : VH} {tk pl : Nat → Int} {m j0 : Nat} {s0 : Int} (e38 : gI τ 33 38 = 1) (e5 : gI τ 57 0 = 5) (A : RAt τ tk pl m j0) (e36 : gI τ 33 36 = s0) (h0 : gI τ 33 4 = 0) : EsR τ tk pl m j0 s0 1 := by
  refine Or.inr ⟨h0, 1, j0, e38, A, fun i hi => absurd hi (by omega), Or.inl ⟨rfl, by omega, fun r hr => ?_⟩⟩
  obtain ⟨q, hq, hr⟩ := hr
  have d0 : dpt (gI τ 57) 1 = 0 := by
    rw [dpt_s, if_neg (by omega)]
    rfl
  rw [d0, e36] at hq
  rcases hr with ⟨h1, h2⟩ | ⟨h1, h2⟩
  · rw [h2]
    exact hq.bad h1
  · rcases h2 with ⟨-, h3⟩ | ⟨h3, -⟩ | ⟨h3, -, -⟩
    · exact hq.two h1 h3
    · exact absurd (e5.symm.trans h3) (by decide)
    · exact absurd e5 h3
theorem EsR.out {τ : VH} {tk pl : Nat → Int} {m j0 : Nat} {s0 w : Int} (h : EsR τ tk pl m j0 s0 w) (hd : 0 < gI τ 33 4 ∨ gI τ 33 38 ≤ 0) : ∃ q : Rs, PR tk m 2 0 j0 s0 q ∧ RfS τ tk pl m q := by
  rcases h with ⟨h4, q, h1, h2, h3, h5⟩ | ⟨h4, p, j, ep, A, nt, hK⟩
  · exact ⟨q, h1, Or.inr ⟨h4, h2, h3, h5⟩, fun e => absurd e h2⟩
  · have p0 : p = 0 := by omega
    subst p0
    rcases hK with ⟨-, q, -⟩ | ⟨-, K⟩
    · omega
    · exact ⟨(0, j, gI τ 33 36), K _ rfl, Rf.at h4 A, fun _ => rfl⟩
