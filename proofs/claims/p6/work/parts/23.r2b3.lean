set_option maxHeartbeats 4000000 in
set_option maxRecDepth 20000 in
theorem k9_part (l : Launch) (σ : VH) (c : Int) (rc : (-2147483648 ≤ c ∧ c < 2147483648)) (p : Int) (rp : (-2147483648 ≤ p ∧ p < 2147483648)) (m : Int) (rm : (-2147483648 ≤ m ∧ m < 2147483648)) (b : Int) (rb : (-2147483648 ≤ b ∧ b < 2147483648)) (s : Int) (rs : (-2147483648 ≤ s ∧ s < 2147483648)) (J : Lay σ) (hpe : 0 ≤ gI σ 33 52 ∧ gI σ 33 52 ≤ 20) (hla : 0 ≤ gI σ 33 33 ∧ gI σ 33 33 ≤ 16) (hc : 0 ≤ c ∧ c < 20) (hk : 0 ≤ gI σ 71 (c.toNat) ∧ gI σ 71 (c.toNat) < 20) (hp : 0 ≤ p ∧ p < 20) (hm : 0 ≤ m ∧ m < 20) (hb0 : 0 ≤ lffc σ c) (hbk : Bank σ (lffc σ c).toNat) : Ct l yX9_part cX9_part 13 (some .int) 3 0 0 [.ref 33, .int (iz c), .int (iz p), .int (iz m), .int (iz b), .int (iz s)] σ (fun r τ => ∃ z : Int, r = some (.int (iz z)) ∧ (-2147483648 ≤ z ∧ z < 2147483648) ∧ (σ = τ)) := by
  refine Ct.enter rfl (Nat.le_of_ble_eq_true rfl) ?_
  intro κ γ hκ O hrc hrs
  subst hκ
  refine z_aload_n (pc := 0) O dX9_part_0 rfl ?_
  refine z_iload_n (pc := 1) O dX9_part_1 rfl ?_
  refine z_callV (pc := 2) O cl_X9_386 (k9_lawOf _ _ c (by omega) J (by omega) (by omega) (by omega)) (by decide) (jo_33 J) kc_9 rfl rfl (Nat.le_of_ble_eq_true rfl) ⟨Nat.zero_le _, Nat.zero_le _⟩ dX9_part_2 (fun r τ1 hp => ?_)
  obtain ⟨z2, rfl, fτ1_0, fτ1_1, fτ1_2, rfl⟩ := hp
  have hb2 : Bank σ z2.toNat := by rw [fτ1_1]; exact hbk
  unfold Bank at hb2
  refine z_istore (pc := 5) [(0, .ref 33), (1, .int (iz c)), (2, .int (iz p)), (3, .int (iz m)), (4, .int (iz b)), (5, .int (iz s)), (6, .int (iz z2))] O dX9_part_5 (by decide) rfl ?_
  have cut42 : ∀ (all : Int), (-2147483648 ≤ all ∧ all < 2147483648) → (1 ≤ all ∧ all ≤ 400) → Z κ γ 13 σ 0 0 (QM κ γ (fun r τ => ∃ z : Int, r = some (.int (iz z)) ∧ (-2147483648 ≤ z ∧ z < 2147483648) ∧ (σ = τ)) 0 0) 42 [(0, .ref 33), (1, .int (iz c)), (2, .int (iz p)), (3, .int (iz m)), (4, .int (iz b)), (5, .int (iz s)), (6, .int (iz z2)), (7, .int (iz all))] [] := by
    intro all rr42_0 ff42_0
    refine z_iload (pc := 42) O dX9_part_42 rfl ?_
    refine z_istore (pc := 44) [(0, .ref 33), (1, .int (iz c)), (2, .int (iz p)), (3, .int (iz m)), (4, .int (iz b)), (5, .int (iz s)), (6, .int (iz z2)), (7, .int (iz all)), (8, .int (iz s))] O dX9_part_44 (by decide) rfl ?_
    refine z_iconst (pc := 46) (v := iz (0)) O dX9_part_46 (by decide) ?_
    refine z_istore (pc := 47) [(0, .ref 33), (1, .int (iz c)), (2, .int (iz p)), (3, .int (iz m)), (4, .int (iz b)), (5, .int (iz s)), (6, .int (iz z2)), (7, .int (iz all)), (8, .int (iz s)), (9, .int (iz 0))] O dX9_part_47 (by decide) rfl ?_
    refine z_iconst (pc := 49) (v := iz (1)) O dX9_part_49 (by decide) ?_
    refine z_istore (pc := 50) [(0, .ref 33), (1, .int (iz c)), (2, .int (iz p)), (3, .int (iz m)), (4, .int (iz b)), (5, .int (iz s)), (6, .int (iz z2)), (7, .int (iz all)), (8, .int (iz s)), (9, .int (iz 0)), (10, .int (iz 1))] O dX9_part_50 (by decide) rfl ?_
    have cut52 : ∀ (mu52 : Nat) (left : Int) (own : Int) (d : Int), (mu52 = (4 - d).toNat) → (-2147483648 ≤ left ∧ left < 2147483648) → (-2147483648 ≤ own ∧ own < 2147483648) → (-2147483648 ≤ d ∧ d < 2147483648) → (1 ≤ d ∧ d ≤ 4) → Z κ γ 13 σ 0 0 (QM κ γ (fun r τ => ∃ z : Int, r = some (.int (iz z)) ∧ (-2147483648 ≤ z ∧ z < 2147483648) ∧ (σ = τ)) 0 0) 52 [(0, .ref 33), (1, .int (iz c)), (2, .int (iz p)), (3, .int (iz m)), (4, .int (iz b)), (5, .int (iz s)), (6, .int (iz z2)), (7, .int (iz all)), (8, .int (iz left)), (9, .int (iz own)), (10, .int (iz d))] [] := by
      intro mu52
      induction mu52 using Nat.strongRecOn with
      | ind mu52 ih52 =>
      intro left own d hmu52 rr52_0 rr52_1 rr52_2 ff52_0
      refine z_iload (pc := 52) O dX9_part_52 rfl ?_
      refine z_iconst (pc := 54) (v := iz (4)) O dX9_part_54 (by decide) ?_
      refine zi_icmp_ge (pc := 55) (tgt := 173) O dX9_part_55 (by decide) (by omega) (by decide) (fun h55 => ?_) (fun h55 => ?_)
      · refine z_iload_n (pc := 173) O dX9_part_173 rfl ?_
        refine z_iload_n (pc := 174) O dX9_part_174 rfl ?_
        refine zi_icmp_ne (pc := 175) (tgt := 183) O dX9_part_175 (by decide) (by omega) (by omega) (fun h175 => ?_) (fun h175 => ?_)
        · refine z_iload (pc := 183) O dX9_part_183 rfl ?_
          refine z_iret (pc := 185) O dX9_part_185 ?_
          exact ⟨own, rfl, (by omega), rfl⟩
        · refine z_iload (pc := 178) O dX9_part_178 rfl ?_
          refine z_goto (pc := 180) (tgt := 185) O dX9_part_180 (by decide) ?_
          refine z_iret (pc := 185) O dX9_part_185 ?_
          exact ⟨left, rfl, (by omega), rfl⟩
      · refine z_iconst (pc := 58) (v := iz (0)) O dX9_part_58 (by decide) ?_
        refine z_istore (pc := 59) [(0, .ref 33), (1, .int (iz c)), (2, .int (iz p)), (3, .int (iz m)), (4, .int (iz b)), (5, .int (iz s)), (6, .int (iz z2)), (7, .int (iz all)), (8, .int (iz left)), (9, .int (iz own)), (10, .int (iz d)), (11, .int (iz 0))] O dX9_part_59 (by decide) rfl ?_
        refine z_iconst (pc := 61) (v := iz (0)) O dX9_part_61 (by decide) ?_
        refine z_istore (pc := 62) [(0, .ref 33), (1, .int (iz c)), (2, .int (iz p)), (3, .int (iz m)), (4, .int (iz b)), (5, .int (iz s)), (6, .int (iz z2)), (7, .int (iz all)), (8, .int (iz left)), (9, .int (iz own)), (10, .int (iz d)), (11, .int (iz 0)), (12, .int (iz 0))] O dX9_part_62 (by decide) rfl ?_
        have cut64 : ∀ (mu64 : Nat) (n : Int) (q : Int), (mu64 = (gI σ 33 52 - q).toNat) → (-2147483648 ≤ n ∧ n < 2147483648) → (-2147483648 ≤ q ∧ q < 2147483648) → (0 ≤ q ∧ q ≤ gI σ 33 52) → (0 ≤ n ∧ n ≤ q) → Z κ γ 13 σ 0 0 (QM κ γ (fun r τ => ∃ z : Int, r = some (.int (iz z)) ∧ (-2147483648 ≤ z ∧ z < 2147483648) ∧ (σ = τ)) 0 0) 64 [(0, .ref 33), (1, .int (iz c)), (2, .int (iz p)), (3, .int (iz m)), (4, .int (iz b)), (5, .int (iz s)), (6, .int (iz z2)), (7, .int (iz all)), (8, .int (iz left)), (9, .int (iz own)), (10, .int (iz d)), (11, .int (iz n)), (12, .int (iz q))] [] := by
          intro mu64
          induction mu64 using Nat.strongRecOn with
          | ind mu64 ih64 =>
          intro n q hmu64 rr64_0 rr64_1 ff64_0 ff64_1
          refine z_iload (pc := 64) O dX9_part_64 rfl ?_
          refine z_aload_n (pc := 66) O dX9_part_66 rfl ?_
          refine zi_getv (pc := 67) (gI σ 33 52) O fl_X9_353 rfl (jo_33 J) (izg σ 33 52) dX9_part_67 ?_
          have := rgI σ 33 52
          refine zi_icmp_ge (pc := 70) (tgt := 104) O dX9_part_70 (by decide) (by omega) (by omega) (fun h70 => ?_) (fun h70 => ?_)
          · refine z_iload (pc := 104) O dX9_part_104 rfl ?_
            refine zi_if_ne (pc := 106) (tgt := 112) O dX9_part_106 (by decide) (by omega) (fun h106 => ?_) (fun h106 => ?_)
            · refine z_iload (pc := 112) O dX9_part_112 rfl ?_
              refine z_i2l (pc := 114) O dX9_part_114 ?_
              refine z_topl (pc := 115) (fun w3 ew3 => ?_)
              refine z_aload_n (pc := 115) O dX9_part_115 rfl ?_
              refine z_getR (pc := 116) 46 O fl_X9_51 rfl (jo_33 J) (jr_33_22 J) dX9_part_116 ?_
              refine z_iconst (pc := 119) (v := iz (4)) O dX9_part_119 (by decide) ?_
              refine z_iload (pc := 120) O dX9_part_120 rfl ?_
              refine zi_imul (pc := 122) O dX9_part_122 ?_
              refine z_iload (pc := 123) O dX9_part_123 rfl ?_
              refine zi_iadd (pc := 125) O dX9_part_125 ?_
              refine zi_ialdv (pc := 126) ((4 * z2 + d).toNat) (gI σ 46 ((4 * z2 + d).toNat)) O (ja_46 J) (by omega) (by omega) (by omega) (izg σ 46 ((4 * z2 + d).toNat)) dX9_part_126 ?_
              have := rgI σ 46 ((4 * z2 + d).toNat)
              refine z_i2l (pc := 127) O dX9_part_127 ?_
              refine z_topl (pc := 128) (fun w4 ew4 => ?_)
              refine z_lmul (pc := 128) O dX9_part_128 ?_
              refine z_topl (pc := 129) (fun w5 ew5 => ?_)
              refine z_iload (pc := 129) O dX9_part_129 rfl ?_
              refine z_i2l (pc := 131) O dX9_part_131 ?_
              refine z_topl (pc := 132) (fun w6 ew6 => ?_)
              refine z_ldiv (pc := 132) O dX9_part_132 (fun h0 => by have h1 := iz_l0 (a := all) (by omega) ((ew6).symm.trans h0); omega) ?_
              refine z_topl (pc := 133) (fun w7 ew7 => ?_)
              refine z_l2i (pc := 133) O dX9_part_133 ?_
              refine zi_any (fun z8 rz8 ez8 => ?_)
              refine z_iload (pc := 134) O dX9_part_134 rfl ?_
              refine z_idiv (pc := 136) O dX9_part_136 (fun h0 => by have h1 := (iz_eq (a := n) (b := 0) (by omega) (by omega)).mp h0; omega) ?_
              refine zi_any (fun z9 rz9 ez9 => ?_)
              refine z_istore (pc := 137) [(0, .ref 33), (1, .int (iz c)), (2, .int (iz p)), (3, .int (iz m)), (4, .int (iz b)), (5, .int (iz s)), (6, .int (iz z2)), (7, .int (iz all)), (8, .int (iz left)), (9, .int (iz own)), (10, .int (iz d)), (11, .int (iz n)), (12, .int (iz z9))] O dX9_part_137 (by decide) rfl ?_
              refine z_iload (pc := 139) O dX9_part_139 rfl ?_
              refine z_iload (pc := 141) O dX9_part_141 rfl ?_
              refine z_iload (pc := 143) O dX9_part_143 rfl ?_
              refine zi_imul (pc := 145) O dX9_part_145 ?_
              refine zi_any (fun z10 rz10 ez10 => ?_)
              refine zi_isub (pc := 146) O dX9_part_146 ?_
              refine zi_any (fun z11 rz11 ez11 => ?_)
              refine z_istore (pc := 147) [(0, .ref 33), (1, .int (iz c)), (2, .int (iz p)), (3, .int (iz m)), (4, .int (iz b)), (5, .int (iz s)), (6, .int (iz z2)), (7, .int (iz all)), (8, .int (iz z11)), (9, .int (iz own)), (10, .int (iz d)), (11, .int (iz n)), (12, .int (iz z9))] O dX9_part_147 (by decide) rfl ?_
              refine z_aload_n (pc := 149) O dX9_part_149 rfl ?_
              refine z_iload_n (pc := 150) O dX9_part_150 rfl ?_
              refine z_iload_n (pc := 151) O dX9_part_151 rfl ?_
              refine z_iload_n (pc := 152) O dX9_part_152 rfl ?_
              refine z_iload (pc := 153) O dX9_part_153 rfl ?_
              refine z_iload (pc := 155) O dX9_part_155 rfl ?_
              refine z_callV (pc := 157) O cl_X9_420 (k9_isOf _ _ c (by omega) p (by omega) m (by omega) b (by omega) d (by omega) J (by omega) (by omega) (by omega) (by omega)) (by decide) (jo_33 J) kc_9 rfl rfl (Nat.le_of_ble_eq_true rfl) ⟨Nat.zero_le _, Nat.zero_le _⟩ dX9_part_157 (fun r τ12 hp => ?_)
              obtain ⟨z13, rfl, fτ12_0, rfl⟩ := hp
              refine zi_if_eq (pc := 160) (tgt := 167) O dX9_part_160 (by decide) (by omega) (fun h160 => ?_) (fun h160 => ?_)
              · refine zi_iinc (pc := 167) (d + 1) [(0, .ref 33), (1, .int (iz c)), (2, .int (iz p)), (3, .int (iz m)), (4, .int (iz b)), (5, .int (iz s)), (6, .int (iz z2)), (7, .int (iz all)), (8, .int (iz z11)), (9, .int (iz own)), (10, .int (iz (d + 1))), (11, .int (iz n)), (12, .int (iz z9))] O dX9_part_167 rfl (by omega) (by decide) rfl ?_
                refine z_goto (pc := 170) (tgt := 52) O dX9_part_170 (by decide) ?_
                refine z_lk [(0, .ref 33), (1, .int (iz c)), (2, .int (iz p)), (3, .int (iz m)), (4, .int (iz b)), (5, .int (iz s)), (6, .int (iz z2)), (7, .int (iz all)), (8, .int (iz z11)), (9, .int (iz own)), (10, .int (iz (d + 1)))] ⟨rfl, rfl, rfl, rfl, rfl, rfl, rfl, rfl, rfl, rfl, rfl, trivial⟩ ?_
                exact ih52 _ (by omega) z11 own (d + 1) rfl (by omega) (by omega) (by omega) (by omega)
              · refine z_iload (pc := 163) O dX9_part_163 rfl ?_
                refine z_istore (pc := 165) [(0, .ref 33), (1, .int (iz c)), (2, .int (iz p)), (3, .int (iz m)), (4, .int (iz b)), (5, .int (iz s)), (6, .int (iz z2)), (7, .int (iz all)), (8, .int (iz z11)), (9, .int (iz z9)), (10, .int (iz d)), (11, .int (iz n)), (12, .int (iz z9))] O dX9_part_165 (by decide) rfl ?_
                refine zi_iinc (pc := 167) (d + 1) [(0, .ref 33), (1, .int (iz c)), (2, .int (iz p)), (3, .int (iz m)), (4, .int (iz b)), (5, .int (iz s)), (6, .int (iz z2)), (7, .int (iz all)), (8, .int (iz z11)), (9, .int (iz z9)), (10, .int (iz (d + 1))), (11, .int (iz n)), (12, .int (iz z9))] O dX9_part_167 rfl (by omega) (by decide) rfl ?_
                refine z_goto (pc := 170) (tgt := 52) O dX9_part_170 (by decide) ?_
                refine z_lk [(0, .ref 33), (1, .int (iz c)), (2, .int (iz p)), (3, .int (iz m)), (4, .int (iz b)), (5, .int (iz s)), (6, .int (iz z2)), (7, .int (iz all)), (8, .int (iz z11)), (9, .int (iz z9)), (10, .int (iz (d + 1)))] ⟨rfl, rfl, rfl, rfl, rfl, rfl, rfl, rfl, rfl, rfl, rfl, trivial⟩ ?_
                exact ih52 _ (by omega) z11 z9 (d + 1) rfl (by omega) (by omega) (by omega) (by omega)
            · refine z_goto (pc := 109) (tgt := 167) O dX9_part_109 (by decide) ?_
              refine zi_iinc (pc := 167) (d + 1) [(0, .ref 33), (1, .int (iz c)), (2, .int (iz p)), (3, .int (iz m)), (4, .int (iz b)), (5, .int (iz s)), (6, .int (iz z2)), (7, .int (iz all)), (8, .int (iz left)), (9, .int (iz own)), (10, .int (iz (d + 1))), (11, .int (iz n)), (12, .int (iz q))] O dX9_part_167 rfl (by omega) (by decide) rfl ?_
              refine z_goto (pc := 170) (tgt := 52) O dX9_part_170 (by decide) ?_
              refine z_lk [(0, .ref 33), (1, .int (iz c)), (2, .int (iz p)), (3, .int (iz m)), (4, .int (iz b)), (5, .int (iz s)), (6, .int (iz z2)), (7, .int (iz all)), (8, .int (iz left)), (9, .int (iz own)), (10, .int (iz (d + 1)))] ⟨rfl, rfl, rfl, rfl, rfl, rfl, rfl, rfl, rfl, rfl, rfl, trivial⟩ ?_
              exact ih52 _ (by omega) left own (d + 1) rfl (by omega) (by omega) (by omega) (by omega)
          · have cut95 : ∀ (x6 : Int), (-2147483648 ≤ x6 ∧ x6 < 2147483648) → (x6 = 0 ∨ x6 = 1) → Z κ γ 13 σ 0 0 (QM κ γ (fun r τ => ∃ z : Int, r = some (.int (iz z)) ∧ (-2147483648 ≤ z ∧ z < 2147483648) ∧ (σ = τ)) 0 0) 95 [(0, .ref 33), (1, .int (iz c)), (2, .int (iz p)), (3, .int (iz m)), (4, .int (iz b)), (5, .int (iz s)), (6, .int (iz z2)), (7, .int (iz all)), (8, .int (iz left)), (9, .int (iz own)), (10, .int (iz d)), (11, .int (iz n)), (12, .int (iz q))] [.int (iz x6), .int (iz n)] := by
              intro x6 rr95_0 ff95_0
              refine zi_iadd (pc := 95) O dX9_part_95 ?_
              refine z_istore (pc := 96) [(0, .ref 33), (1, .int (iz c)), (2, .int (iz p)), (3, .int (iz m)), (4, .int (iz b)), (5, .int (iz s)), (6, .int (iz z2)), (7, .int (iz all)), (8, .int (iz left)), (9, .int (iz own)), (10, .int (iz d)), (11, .int (iz (n + x6))), (12, .int (iz q))] O dX9_part_96 (by decide) rfl ?_
              refine zi_iinc (pc := 98) (q + 1) [(0, .ref 33), (1, .int (iz c)), (2, .int (iz p)), (3, .int (iz m)), (4, .int (iz b)), (5, .int (iz s)), (6, .int (iz z2)), (7, .int (iz all)), (8, .int (iz left)), (9, .int (iz own)), (10, .int (iz d)), (11, .int (iz (n + x6))), (12, .int (iz (q + 1)))] O dX9_part_98 rfl (by omega) (by decide) rfl ?_
              refine z_goto (pc := 101) (tgt := 64) O dX9_part_101 (by decide) ?_
              refine z_lk [(0, .ref 33), (1, .int (iz c)), (2, .int (iz p)), (3, .int (iz m)), (4, .int (iz b)), (5, .int (iz s)), (6, .int (iz z2)), (7, .int (iz all)), (8, .int (iz left)), (9, .int (iz own)), (10, .int (iz d)), (11, .int (iz (n + x6))), (12, .int (iz (q + 1)))] ⟨rfl, rfl, rfl, rfl, rfl, rfl, rfl, rfl, rfl, rfl, rfl, rfl, rfl, trivial⟩ ?_
              exact ih64 _ (by omega) (n + x6) (q + 1) rfl (by omega) (by omega) (by omega) (by omega)
            refine z_iload (pc := 73) O dX9_part_73 rfl ?_
            refine z_aload_n (pc := 75) O dX9_part_75 rfl ?_
            refine z_iload_n (pc := 76) O dX9_part_76 rfl ?_
            refine z_iload (pc := 77) O dX9_part_77 rfl ?_
            refine z_iload_n (pc := 79) O dX9_part_79 rfl ?_
            refine z_iload (pc := 80) O dX9_part_80 rfl ?_
            refine z_iload (pc := 82) O dX9_part_82 rfl ?_
            refine z_callV (pc := 84) O cl_X9_420 (k9_isOf _ _ c (by omega) q (by omega) m (by omega) b (by omega) d (by omega) J (by omega) (by omega) (by omega) (by omega)) (by decide) (jo_33 J) kc_9 rfl rfl (Nat.le_of_ble_eq_true rfl) ⟨Nat.zero_le _, Nat.zero_le _⟩ dX9_part_84 (fun r τ14 hp => ?_)
            obtain ⟨z15, rfl, fτ14_0, rfl⟩ := hp
            refine zi_if_eq (pc := 87) (tgt := 94) O dX9_part_87 (by decide) (by omega) (fun h87 => ?_) (fun h87 => ?_)
            · refine z_iconst (pc := 94) (v := iz (0)) O dX9_part_94 (by decide) ?_
              refine z_lk [(0, .ref 33), (1, .int (iz c)), (2, .int (iz p)), (3, .int (iz m)), (4, .int (iz b)), (5, .int (iz s)), (6, .int (iz z2)), (7, .int (iz all)), (8, .int (iz left)), (9, .int (iz own)), (10, .int (iz d)), (11, .int (iz n)), (12, .int (iz q))] ⟨rfl, rfl, rfl, rfl, rfl, rfl, rfl, rfl, rfl, rfl, rfl, rfl, rfl, trivial⟩ ?_
              exact cut95 0 (by omega) (by omega)
            · refine z_iconst (pc := 90) (v := iz (1)) O dX9_part_90 (by decide) ?_
              refine z_goto (pc := 91) (tgt := 95) O dX9_part_91 (by decide) ?_
              refine z_lk [(0, .ref 33), (1, .int (iz c)), (2, .int (iz p)), (3, .int (iz m)), (4, .int (iz b)), (5, .int (iz s)), (6, .int (iz z2)), (7, .int (iz all)), (8, .int (iz left)), (9, .int (iz own)), (10, .int (iz d)), (11, .int (iz n)), (12, .int (iz q))] ⟨rfl, rfl, rfl, rfl, rfl, rfl, rfl, rfl, rfl, rfl, rfl, rfl, rfl, trivial⟩ ?_
              exact cut95 1 (by omega) (by omega)
        refine z_lk [(0, .ref 33), (1, .int (iz c)), (2, .int (iz p)), (3, .int (iz m)), (4, .int (iz b)), (5, .int (iz s)), (6, .int (iz z2)), (7, .int (iz all)), (8, .int (iz left)), (9, .int (iz own)), (10, .int (iz d)), (11, .int (iz 0)), (12, .int (iz 0))] ⟨rfl, rfl, rfl, rfl, rfl, rfl, rfl, rfl, rfl, rfl, rfl, rfl, rfl, trivial⟩ ?_
        exact cut64 _ 0 0 rfl (by omega) (by omega) (by omega) (by omega)
    refine z_lk [(0, .ref 33), (1, .int (iz c)), (2, .int (iz p)), (3, .int (iz m)), (4, .int (iz b)), (5, .int (iz s)), (6, .int (iz z2)), (7, .int (iz all)), (8, .int (iz s)), (9, .int (iz 0)), (10, .int (iz 1))] ⟨rfl, rfl, rfl, rfl, rfl, rfl, rfl, rfl, rfl, rfl, rfl, trivial⟩ ?_
    exact cut52 _ s 0 1 rfl (by omega) (by omega) (by omega) (by omega)
  refine z_iconst (pc := 7) (v := iz (0)) O dX9_part_7 (by decide) ?_
  refine z_istore (pc := 8) [(0, .ref 33), (1, .int (iz c)), (2, .int (iz p)), (3, .int (iz m)), (4, .int (iz b)), (5, .int (iz s)), (6, .int (iz z2)), (7, .int (iz 0))] O dX9_part_8 (by decide) rfl ?_
  refine z_iconst (pc := 10) (v := iz (0)) O dX9_part_10 (by decide) ?_
  refine z_istore (pc := 11) [(0, .ref 33), (1, .int (iz c)), (2, .int (iz p)), (3, .int (iz m)), (4, .int (iz b)), (5, .int (iz s)), (6, .int (iz z2)), (7, .int (iz 0)), (8, .int (iz 0))] O dX9_part_11 (by decide) rfl ?_
  refine z_iload (pc := 13) O dX9_part_13 rfl ?_
  refine z_iconst (pc := 15) (v := iz (4)) O dX9_part_15 (by decide) ?_
  refine zi_icmp_ge (pc := 16) (tgt := 42) O dX9_part_16 (by decide) (by decide) (by decide) (fun hh => absurd hh (by decide)) (fun _ => ?_)
  refine z_iload (pc := 19) O dX9_part_19 rfl ?_
  refine z_aload_n (pc := 21) O dX9_part_21 rfl ?_
  refine z_getR (pc := 22) 46 O fl_X9_51 rfl (jo_33 J) (jr_33_22 J) dX9_part_22 ?_
  refine z_iconst (pc := 25) (v := iz (4)) O dX9_part_25 (by decide) ?_
  refine z_iload (pc := 26) O dX9_part_26 rfl ?_
  refine zi_imul (pc := 28) O dX9_part_28 ?_
  refine z_iload (pc := 29) O dX9_part_29 rfl ?_
  refine zi_iadd (pc := 31) O dX9_part_31 ?_
  refine zi_ialdv (pc := 32) (4 * z2.toNat) (gI σ 46 (4 * z2.toNat)) O (ja_46 J) (by omega) (by omega) (by omega) (izg σ 46 (4 * z2.toNat)) dX9_part_32 ?_
  have := rgI σ 46 (4 * z2.toNat)
  refine zi_iadd (pc := 33) O dX9_part_33 ?_
  refine z_istore (pc := 34) [(0, .ref 33), (1, .int (iz c)), (2, .int (iz p)), (3, .int (iz m)), (4, .int (iz b)), (5, .int (iz s)), (6, .int (iz z2)), (7, .int (iz (0 + (gI σ 46 (4 * z2.toNat))))), (8, .int (iz 0))] O dX9_part_34 (by decide) rfl ?_
  refine zi_iinc (pc := 36) (1) [(0, .ref 33), (1, .int (iz c)), (2, .int (iz p)), (3, .int (iz m)), (4, .int (iz b)), (5, .int (iz s)), (6, .int (iz z2)), (7, .int (iz (0 + (gI σ 46 (4 * z2.toNat))))), (8, .int (iz 1))] O dX9_part_36 rfl (by omega) (by decide) rfl ?_
  refine z_goto (pc := 39) (tgt := 13) O dX9_part_39 (by decide) ?_
  refine z_iload (pc := 13) O dX9_part_13 rfl ?_
  refine z_iconst (pc := 15) (v := iz (4)) O dX9_part_15 (by decide) ?_
  refine zi_icmp_ge (pc := 16) (tgt := 42) O dX9_part_16 (by decide) (by decide) (by decide) (fun hh => absurd hh (by decide)) (fun _ => ?_)
  refine z_iload (pc := 19) O dX9_part_19 rfl ?_
  refine z_aload_n (pc := 21) O dX9_part_21 rfl ?_
  refine z_getR (pc := 22) 46 O fl_X9_51 rfl (jo_33 J) (jr_33_22 J) dX9_part_22 ?_
  refine z_iconst (pc := 25) (v := iz (4)) O dX9_part_25 (by decide) ?_
  refine z_iload (pc := 26) O dX9_part_26 rfl ?_
  refine zi_imul (pc := 28) O dX9_part_28 ?_
  refine z_iload (pc := 29) O dX9_part_29 rfl ?_
  refine zi_iadd (pc := 31) O dX9_part_31 ?_
  refine zi_ialdv (pc := 32) (4 * z2.toNat + 1) (gI σ 46 (4 * z2.toNat + 1)) O (ja_46 J) (by omega) (by omega) (by omega) (izg σ 46 (4 * z2.toNat + 1)) dX9_part_32 ?_
  have := rgI σ 46 (4 * z2.toNat + 1)
  refine zi_iadd (pc := 33) O dX9_part_33 ?_
  refine z_istore (pc := 34) [(0, .ref 33), (1, .int (iz c)), (2, .int (iz p)), (3, .int (iz m)), (4, .int (iz b)), (5, .int (iz s)), (6, .int (iz z2)), (7, .int (iz ((0 + (gI σ 46 (4 * z2.toNat))) + (gI σ 46 (4 * z2.toNat + 1))))), (8, .int (iz 1))] O dX9_part_34 (by decide) rfl ?_
  refine zi_iinc (pc := 36) (2) [(0, .ref 33), (1, .int (iz c)), (2, .int (iz p)), (3, .int (iz m)), (4, .int (iz b)), (5, .int (iz s)), (6, .int (iz z2)), (7, .int (iz ((0 + (gI σ 46 (4 * z2.toNat))) + (gI σ 46 (4 * z2.toNat + 1))))), (8, .int (iz 2))] O dX9_part_36 rfl (by omega) (by decide) rfl ?_
  refine z_goto (pc := 39) (tgt := 13) O dX9_part_39 (by decide) ?_
  refine z_iload (pc := 13) O dX9_part_13 rfl ?_
  refine z_iconst (pc := 15) (v := iz (4)) O dX9_part_15 (by decide) ?_
  refine zi_icmp_ge (pc := 16) (tgt := 42) O dX9_part_16 (by decide) (by decide) (by decide) (fun hh => absurd hh (by decide)) (fun _ => ?_)
  refine z_iload (pc := 19) O dX9_part_19 rfl ?_
  refine z_aload_n (pc := 21) O dX9_part_21 rfl ?_
  refine z_getR (pc := 22) 46 O fl_X9_51 rfl (jo_33 J) (jr_33_22 J) dX9_part_22 ?_
  refine z_iconst (pc := 25) (v := iz (4)) O dX9_part_25 (by decide) ?_
  refine z_iload (pc := 26) O dX9_part_26 rfl ?_
  refine zi_imul (pc := 28) O dX9_part_28 ?_
  refine z_iload (pc := 29) O dX9_part_29 rfl ?_
  refine zi_iadd (pc := 31) O dX9_part_31 ?_
  refine zi_ialdv (pc := 32) (4 * z2.toNat + 2) (gI σ 46 (4 * z2.toNat + 2)) O (ja_46 J) (by omega) (by omega) (by omega) (izg σ 46 (4 * z2.toNat + 2)) dX9_part_32 ?_
  have := rgI σ 46 (4 * z2.toNat + 2)
  refine zi_iadd (pc := 33) O dX9_part_33 ?_
  refine z_istore (pc := 34) [(0, .ref 33), (1, .int (iz c)), (2, .int (iz p)), (3, .int (iz m)), (4, .int (iz b)), (5, .int (iz s)), (6, .int (iz z2)), (7, .int (iz (((0 + (gI σ 46 (4 * z2.toNat))) + (gI σ 46 (4 * z2.toNat + 1))) + (gI σ 46 (4 * z2.toNat + 2))))), (8, .int (iz 2))] O dX9_part_34 (by decide) rfl ?_
  refine zi_iinc (pc := 36) (3) [(0, .ref 33), (1, .int (iz c)), (2, .int (iz p)), (3, .int (iz m)), (4, .int (iz b)), (5, .int (iz s)), (6, .int (iz z2)), (7, .int (iz (((0 + (gI σ 46 (4 * z2.toNat))) + (gI σ 46 (4 * z2.toNat + 1))) + (gI σ 46 (4 * z2.toNat + 2))))), (8, .int (iz 3))] O dX9_part_36 rfl (by omega) (by decide) rfl ?_
  refine z_goto (pc := 39) (tgt := 13) O dX9_part_39 (by decide) ?_
  refine z_iload (pc := 13) O dX9_part_13 rfl ?_
  refine z_iconst (pc := 15) (v := iz (4)) O dX9_part_15 (by decide) ?_
  refine zi_icmp_ge (pc := 16) (tgt := 42) O dX9_part_16 (by decide) (by decide) (by decide) (fun hh => absurd hh (by decide)) (fun _ => ?_)
  refine z_iload (pc := 19) O dX9_part_19 rfl ?_
  refine z_aload_n (pc := 21) O dX9_part_21 rfl ?_
  refine z_getR (pc := 22) 46 O fl_X9_51 rfl (jo_33 J) (jr_33_22 J) dX9_part_22 ?_
  refine z_iconst (pc := 25) (v := iz (4)) O dX9_part_25 (by decide) ?_
  refine z_iload (pc := 26) O dX9_part_26 rfl ?_
  refine zi_imul (pc := 28) O dX9_part_28 ?_
  refine z_iload (pc := 29) O dX9_part_29 rfl ?_
  refine zi_iadd (pc := 31) O dX9_part_31 ?_
  refine zi_ialdv (pc := 32) (4 * z2.toNat + 3) (gI σ 46 (4 * z2.toNat + 3)) O (ja_46 J) (by omega) (by omega) (by omega) (izg σ 46 (4 * z2.toNat + 3)) dX9_part_32 ?_
  have := rgI σ 46 (4 * z2.toNat + 3)
  refine zi_iadd (pc := 33) O dX9_part_33 ?_
  refine z_istore (pc := 34) [(0, .ref 33), (1, .int (iz c)), (2, .int (iz p)), (3, .int (iz m)), (4, .int (iz b)), (5, .int (iz s)), (6, .int (iz z2)), (7, .int (iz ((((0 + (gI σ 46 (4 * z2.toNat))) + (gI σ 46 (4 * z2.toNat + 1))) + (gI σ 46 (4 * z2.toNat + 2))) + (gI σ 46 (4 * z2.toNat + 3))))), (8, .int (iz 3))] O dX9_part_34 (by decide) rfl ?_
  refine zi_iinc (pc := 36) (4) [(0, .ref 33), (1, .int (iz c)), (2, .int (iz p)), (3, .int (iz m)), (4, .int (iz b)), (5, .int (iz s)), (6, .int (iz z2)), (7, .int (iz ((((0 + (gI σ 46 (4 * z2.toNat))) + (gI σ 46 (4 * z2.toNat + 1))) + (gI σ 46 (4 * z2.toNat + 2))) + (gI σ 46 (4 * z2.toNat + 3))))), (8, .int (iz 4))] O dX9_part_36 rfl (by omega) (by decide) rfl ?_
  refine z_goto (pc := 39) (tgt := 13) O dX9_part_39 (by decide) ?_
  refine z_iload (pc := 13) O dX9_part_13 rfl ?_
  refine z_iconst (pc := 15) (v := iz (4)) O dX9_part_15 (by decide) ?_
  refine zi_icmp_ge (pc := 16) (tgt := 42) O dX9_part_16 (by decide) (by decide) (by decide) (fun _ => ?_) (fun hh => absurd hh (by decide))
  refine z_lk [(0, .ref 33), (1, .int (iz c)), (2, .int (iz p)), (3, .int (iz m)), (4, .int (iz b)), (5, .int (iz s)), (6, .int (iz z2)), (7, .int (iz ((((0 + (gI σ 46 (4 * z2.toNat))) + (gI σ 46 (4 * z2.toNat + 1))) + (gI σ 46 (4 * z2.toNat + 2))) + (gI σ 46 (4 * z2.toNat + 3)))))] ⟨rfl, rfl, rfl, rfl, rfl, rfl, rfl, rfl, trivial⟩ ?_
  exact cut42 ((((0 + (gI σ 46 (4 * z2.toNat))) + (gI σ 46 (4 * z2.toNat + 1))) + (gI σ 46 (4 * z2.toNat + 2))) + (gI σ 46 (4 * z2.toNat + 3))) (by omega) (by omega)
