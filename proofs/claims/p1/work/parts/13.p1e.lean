set_option maxHeartbeats 4000000 in
set_option maxRecDepth 20000 in
theorem p1m_law (l : Launch) (σ : VH) (F : FrM σ) (f : Int32) (d : Int32)  : Ct l yX9_law cX9_law 4 (some .int) 2 0 0 [.ref 33, .int f, .int d] σ (fun r τ => r = some (.int (a_law f d))) := by
  refine Ct.enter rfl (Nat.le_of_ble_eq_true rfl) ?_
  intro κ γ hκ O hrc hrs
  subst hκ
  refine z_iload_n (pc := 0) O dX9_law_0 rfl ?_
  refine z_if_lt (pc := 1) (tgt := 30) O dX9_law_1 (by decide) (fun h1 => ?_) (fun h1 => ?_)
  · refine z_bipush (pc := 30) (v := -2) O dX9_law_30 (by decide) ?_
    refine z_iret (pc := 32) O dX9_law_32 ?_
    refine congrArg (fun z => some (Value.int z)) ?_
    (try simp only [bI_0, decide_eq_false_iff_not, Decidable.not_not] at *)
    unfold a_law
    split <;> (simp only [Int32.lt_iff_toInt_lt, Int32.le_iff_toInt_le, ← Int32.toInt_inj, Int32.reduceToInt] at * <;> omega)
  · refine z_iload_n (pc := 4) O dX9_law_4 rfl ?_
    refine z_iconst (pc := 5) (v := 4) O dX9_law_5 (by decide) ?_
    refine z_icmp_ge (pc := 6) (tgt := 30) O dX9_law_6 (by decide) (fun h6 => ?_) (fun h6 => ?_)
    · refine z_bipush (pc := 30) (v := -2) O dX9_law_30 (by decide) ?_
      refine z_iret (pc := 32) O dX9_law_32 ?_
      refine congrArg (fun z => some (Value.int z)) ?_
      (try simp only [bI_0, decide_eq_false_iff_not, Decidable.not_not] at *)
      unfold a_law
      split <;> (simp only [Int32.lt_iff_toInt_lt, Int32.le_iff_toInt_le, ← Int32.toInt_inj, Int32.reduceToInt] at * <;> omega)
    · refine z_iload_n (pc := 9) O dX9_law_9 rfl ?_
      refine z_if_lt (pc := 10) (tgt := 30) O dX9_law_10 (by decide) (fun h10 => ?_) (fun h10 => ?_)
      · refine z_bipush (pc := 30) (v := -2) O dX9_law_30 (by decide) ?_
        refine z_iret (pc := 32) O dX9_law_32 ?_
        refine congrArg (fun z => some (Value.int z)) ?_
        (try simp only [bI_0, decide_eq_false_iff_not, Decidable.not_not] at *)
        unfold a_law
        split <;> (simp only [Int32.lt_iff_toInt_lt, Int32.le_iff_toInt_le, ← Int32.toInt_inj, Int32.reduceToInt] at * <;> omega)
      · refine z_iload_n (pc := 13) O dX9_law_13 rfl ?_
        refine z_ldcw (pc := 14) O tw_989 dX9_law_14 ?_
        refine z_icmp_gt (pc := 17) (tgt := 30) O dX9_law_17 (by decide) (fun h17 => ?_) (fun h17 => ?_)
        · refine z_bipush (pc := 30) (v := -2) O dX9_law_30 (by decide) ?_
          refine z_iret (pc := 32) O dX9_law_32 ?_
          refine congrArg (fun z => some (Value.int z)) ?_
          (try simp only [bI_0, decide_eq_false_iff_not, Decidable.not_not] at *)
          unfold a_law
          split <;> (simp only [Int32.lt_iff_toInt_lt, Int32.le_iff_toInt_le, ← Int32.toInt_inj, Int32.reduceToInt] at * <;> omega)
        · obtain ⟨j, hj, rfl⟩ := ix4 (show 0 ≤ f ∧ f < 4 by simp only [Int32.lt_iff_toInt_lt, Int32.le_iff_toInt_le, ← Int32.toInt_inj, Int32.reduceToInt] at *; omega)
          refine z_aload_n (pc := 20) O dX9_law_20 rfl ?_
          refine z_getR (pc := 21) 38 O fl_X9_27 rfl (jo_33 F.1) (jr_33_14 F.1) dX9_law_21 ?_
          refine z_iload_n (pc := 24) O dX9_law_24 rfl ?_
          refine z_ialdv (pc := 25) (x := 0) j O (ja_38 F.1) (frm0 F 38 j (by decide) (by decide) (by omega)) rfl hj (by decide) dX9_law_25 ?_
          refine z_iconst (pc := 26) (v := 4) O dX9_law_26 (by decide) ?_
          refine z_icmp_ne (pc := 27) (tgt := 33) O dX9_law_27 (by decide) (fun _ => ?_) (fun h => absurd h (by decide))
          refine z_aload_n (pc := 33) O dX9_law_33 rfl ?_
          refine z_iconst (pc := 34) (v := 0) O dX9_law_34 (by decide) ?_
          refine z_putI (pc := 35) O fl_X9_179 rfl ⟨rfl, rfl⟩ (jo_33 F.1) dX9_law_35 ?_
          refine z_aload_n (pc := 38) O dX9_law_38 rfl ?_
          refine z_iconst (pc := 39) (v := -1) O dX9_law_39 (by decide) ?_
          refine z_putI (pc := 40) O fl_X9_16 rfl ⟨rfl, rfl⟩ (jo_33 F.1) dX9_law_40 ?_
          refine z_aload_n (pc := 43) O dX9_law_43 rfl ?_
          refine z_aload_n (pc := 44) O dX9_law_44 rfl ?_
          refine z_getIv (pc := 45) (x := 0) O fl_X9_277 rfl (jo_33 F.1) (frm0 F 33 2 (by decide) (by decide) (by decide)) dX9_law_45 ?_
          refine z_putI (pc := 48) O fl_X9_176 rfl ⟨rfl, rfl⟩ (jo_33 F.1) dX9_law_48 ?_
          refine z_iconst (pc := 51) (v := 0) O dX9_law_51 (by decide) ?_
          refine z_istore_n (pc := 52) _ O dX9_law_52 (by decide) rfl ?_
          refine z_iload_n (pc := 53) O dX9_law_53 rfl ?_
          refine z_aload_n (pc := 54) O dX9_law_54 rfl ?_
          refine z_getIv (pc := 55) (x := 0) O fl_X9_176 rfl (jo_33 F.1) rfl dX9_law_55 ?_
          refine z_icmp_ge (pc := 58) (tgt := 79) O dX9_law_58 (by decide) (fun _ => ?_) (fun h => absurd h (by decide))
          refine z_aload_n (pc := 79) O dX9_law_79 rfl ?_
          refine z_iconst (pc := 80) (v := 0) O dX9_law_80 (by decide) ?_
          refine z_putI (pc := 81) O fl_X9_277 rfl ⟨rfl, rfl⟩ (jo_33 F.1) dX9_law_81 ?_
          refine z_aload_n (pc := 84) O dX9_law_84 rfl ?_
          refine z_iconst (pc := 85) (v := 0) O dX9_law_85 (by decide) ?_
          refine z_putI (pc := 86) O fl_X9_228 rfl ⟨rfl, rfl⟩ (jo_33 F.1) dX9_law_86 ?_
          refine z_aload_n (pc := 89) O dX9_law_89 rfl ?_
          refine z_aload_n (pc := 90) O dX9_law_90 rfl ?_
          refine z_getIv (pc := 91) (x := 0) O fl_X9_280 rfl (jo_33 F.1) (frm0 F 33 33 (by decide) (by decide) (by decide)) dX9_law_91 ?_
          refine z_putI (pc := 94) O fl_X9_283 rfl ⟨rfl, rfl⟩ (jo_33 F.1) dX9_law_94 ?_
          refine z_aload_n (pc := 97) O dX9_law_97 rfl ?_
          refine z_getR (pc := 98) 39 O fl_X9_30 rfl (jo_33 F.1) (jr_33_15 F.1) dX9_law_98 ?_
          refine z_aload_n (pc := 101) O dX9_law_101 rfl ?_
          refine z_getIv (pc := 102) (x := 0) O fl_X9_283 rfl (jo_33 F.1) rfl dX9_law_102 ?_
          refine z_iconst (pc := 105) (v := 0) O dX9_law_105 (by decide) ?_
          refine z_iast (pc := 106) 0 O (ja_39 F.1) rfl (by decide) (by decide) dX9_law_106 ?_
          refine z_aload_n (pc := 107) O dX9_law_107 rfl ?_
          refine z_getR (pc := 108) 41 O fl_X9_36 rfl (jo_33 F.1) (jr_33_17 F.1) dX9_law_108 ?_
          refine z_aload_n (pc := 111) O dX9_law_111 rfl ?_
          refine z_getIv (pc := 112) (x := 0) O fl_X9_283 rfl (jo_33 F.1) rfl dX9_law_112 ?_
          refine z_iconst (pc := 115) (v := 0) O dX9_law_115 (by decide) ?_
          refine z_iast (pc := 116) 0 O (ja_41 F.1) rfl (by decide) (by decide) dX9_law_116 ?_
          refine z_aload_n (pc := 117) O dX9_law_117 rfl ?_
          refine z_getR (pc := 118) 54 O fl_X9_76 rfl (jo_33 F.1) (jr_33_30 F.1) dX9_law_118 ?_
          refine z_aload_n (pc := 121) O dX9_law_121 rfl ?_
          refine z_getIv (pc := 122) (x := 0) O fl_X9_283 rfl (jo_33 F.1) rfl dX9_law_122 ?_
          refine z_iconst (pc := 125) (v := 0) O dX9_law_125 (by decide) ?_
          refine z_zast (pc := 126) 0 O (ja_54 F.1) rfl rfl (by decide) (by decide) dX9_law_126 ?_
          refine z_aload_n (pc := 127) O dX9_law_127 rfl ?_
          refine z_getR (pc := 128) 55 O fl_X9_80 rfl (jo_33 F.1) (jr_33_31 F.1) dX9_law_128 ?_
          refine z_aload_n (pc := 131) O dX9_law_131 rfl ?_
          refine z_getIv (pc := 132) (x := 0) O fl_X9_283 rfl (jo_33 F.1) rfl dX9_law_132 ?_
          refine z_iconst (pc := 135) (v := 0) O dX9_law_135 (by decide) ?_
          refine z_zast (pc := 136) 0 O (ja_55 F.1) rfl rfl (by decide) (by decide) dX9_law_136 ?_
          refine z_aload_n (pc := 137) O dX9_law_137 rfl ?_
          refine z_getR (pc := 138) 56 O fl_X9_83 rfl (jo_33 F.1) (jr_33_32 F.1) dX9_law_138 ?_
          refine z_aload_n (pc := 141) O dX9_law_141 rfl ?_
          refine z_getIv (pc := 142) (x := 0) O fl_X9_283 rfl (jo_33 F.1) rfl dX9_law_142 ?_
          refine z_iconst (pc := 145) (v := 0) O dX9_law_145 (by decide) ?_
          refine z_zast (pc := 146) 0 O (ja_56 F.1) rfl rfl (by decide) (by decide) dX9_law_146 ?_
          refine z_iconst (pc := 147) (v := 0) O dX9_law_147 (by decide) ?_
          refine z_istore_n (pc := 148) _ O dX9_law_148 (by decide) rfl ?_
          refine z_iload_n (pc := 149) O dX9_law_149 rfl ?_
          refine z_iconst (pc := 150) (v := 4) O dX9_law_150 (by decide) ?_
          refine z_icmp_ge (pc := 151) (tgt := 182) O dX9_law_151 (by decide) (fun h => absurd h (by decide)) (fun _ => ?_)
          refine z_aload_n (pc := 154) O dX9_law_154 rfl ?_
          refine z_getR (pc := 155) 46 O fl_X9_51 rfl (jo_33 F.1) (jr_33_22 F.1) dX9_law_155 ?_
          refine z_iconst (pc := 158) (v := 4) O dX9_law_158 (by decide) ?_
          refine z_aload_n (pc := 159) O dX9_law_159 rfl ?_
          refine z_getIv (pc := 160) (x := 0) O fl_X9_283 rfl (jo_33 F.1) rfl dX9_law_160 ?_
          refine z_imul (pc := 163) O dX9_law_163 ?_
          refine z_topv (pc := 164) (0) (by decide) ?_
          refine z_iload_n (pc := 164) O dX9_law_164 rfl ?_
          refine z_iadd (pc := 165) O dX9_law_165 ?_
          refine z_topv (pc := 166) (0) (by decide) ?_
          refine z_iload_n (pc := 166) O dX9_law_166 rfl ?_
          refine z_if_ne (pc := 167) (tgt := 174) O dX9_law_167 (by decide) (fun h => absurd h (by decide)) (fun _ => ?_)
          refine z_iconst (pc := 170) (v := 1) O dX9_law_170 (by decide) ?_
          refine z_goto (pc := 171) (tgt := 175) O dX9_law_171 (by decide) ?_
          refine z_iast (pc := 175) 0 O (ja_46 F.1) rfl (by decide) (by decide) dX9_law_175 ?_
          refine z_iinc (pc := 176) (1) _ O dX9_law_176 rfl (by decide) (by decide) rfl ?_
          refine z_goto (pc := 179) (tgt := 149) O dX9_law_179 (by decide) ?_
          refine z_iload_n (pc := 149) O dX9_law_149 rfl ?_
          refine z_iconst (pc := 150) (v := 4) O dX9_law_150 (by decide) ?_
          refine z_icmp_ge (pc := 151) (tgt := 182) O dX9_law_151 (by decide) (fun h => absurd h (by decide)) (fun _ => ?_)
          refine z_aload_n (pc := 154) O dX9_law_154 rfl ?_
          refine z_getR (pc := 155) 46 O fl_X9_51 rfl (jo_33 F.1) (jr_33_22 F.1) dX9_law_155 ?_
          refine z_iconst (pc := 158) (v := 4) O dX9_law_158 (by decide) ?_
          refine z_aload_n (pc := 159) O dX9_law_159 rfl ?_
          refine z_getIv (pc := 160) (x := 0) O fl_X9_283 rfl (jo_33 F.1) rfl dX9_law_160 ?_
          refine z_imul (pc := 163) O dX9_law_163 ?_
          refine z_topv (pc := 164) (0) (by decide) ?_
          refine z_iload_n (pc := 164) O dX9_law_164 rfl ?_
          refine z_iadd (pc := 165) O dX9_law_165 ?_
          refine z_topv (pc := 166) (1) (by decide) ?_
          refine z_iload_n (pc := 166) O dX9_law_166 rfl ?_
          refine z_if_ne (pc := 167) (tgt := 174) O dX9_law_167 (by decide) (fun _ => ?_) (fun h => absurd h (by decide))
          refine z_iconst (pc := 174) (v := 0) O dX9_law_174 (by decide) ?_
          refine z_iast (pc := 175) 1 O (ja_46 F.1) rfl (by decide) (by decide) dX9_law_175 ?_
          refine z_iinc (pc := 176) (2) _ O dX9_law_176 rfl (by decide) (by decide) rfl ?_
          refine z_goto (pc := 179) (tgt := 149) O dX9_law_179 (by decide) ?_
          refine z_iload_n (pc := 149) O dX9_law_149 rfl ?_
          refine z_iconst (pc := 150) (v := 4) O dX9_law_150 (by decide) ?_
          refine z_icmp_ge (pc := 151) (tgt := 182) O dX9_law_151 (by decide) (fun h => absurd h (by decide)) (fun _ => ?_)
          refine z_aload_n (pc := 154) O dX9_law_154 rfl ?_
          refine z_getR (pc := 155) 46 O fl_X9_51 rfl (jo_33 F.1) (jr_33_22 F.1) dX9_law_155 ?_
          refine z_iconst (pc := 158) (v := 4) O dX9_law_158 (by decide) ?_
          refine z_aload_n (pc := 159) O dX9_law_159 rfl ?_
          refine z_getIv (pc := 160) (x := 0) O fl_X9_283 rfl (jo_33 F.1) rfl dX9_law_160 ?_
          refine z_imul (pc := 163) O dX9_law_163 ?_
          refine z_topv (pc := 164) (0) (by decide) ?_
          refine z_iload_n (pc := 164) O dX9_law_164 rfl ?_
          refine z_iadd (pc := 165) O dX9_law_165 ?_
          refine z_topv (pc := 166) (2) (by decide) ?_
          refine z_iload_n (pc := 166) O dX9_law_166 rfl ?_
          refine z_if_ne (pc := 167) (tgt := 174) O dX9_law_167 (by decide) (fun _ => ?_) (fun h => absurd h (by decide))
          refine z_iconst (pc := 174) (v := 0) O dX9_law_174 (by decide) ?_
          refine z_iast (pc := 175) 2 O (ja_46 F.1) rfl (by decide) (by decide) dX9_law_175 ?_
          refine z_iinc (pc := 176) (3) _ O dX9_law_176 rfl (by decide) (by decide) rfl ?_
          refine z_goto (pc := 179) (tgt := 149) O dX9_law_179 (by decide) ?_
          refine z_iload_n (pc := 149) O dX9_law_149 rfl ?_
          refine z_iconst (pc := 150) (v := 4) O dX9_law_150 (by decide) ?_
          refine z_icmp_ge (pc := 151) (tgt := 182) O dX9_law_151 (by decide) (fun h => absurd h (by decide)) (fun _ => ?_)
          refine z_aload_n (pc := 154) O dX9_law_154 rfl ?_
          refine z_getR (pc := 155) 46 O fl_X9_51 rfl (jo_33 F.1) (jr_33_22 F.1) dX9_law_155 ?_
          refine z_iconst (pc := 158) (v := 4) O dX9_law_158 (by decide) ?_
          refine z_aload_n (pc := 159) O dX9_law_159 rfl ?_
          refine z_getIv (pc := 160) (x := 0) O fl_X9_283 rfl (jo_33 F.1) rfl dX9_law_160 ?_
          refine z_imul (pc := 163) O dX9_law_163 ?_
          refine z_topv (pc := 164) (0) (by decide) ?_
          refine z_iload_n (pc := 164) O dX9_law_164 rfl ?_
          refine z_iadd (pc := 165) O dX9_law_165 ?_
          refine z_topv (pc := 166) (3) (by decide) ?_
          refine z_iload_n (pc := 166) O dX9_law_166 rfl ?_
          refine z_if_ne (pc := 167) (tgt := 174) O dX9_law_167 (by decide) (fun _ => ?_) (fun h => absurd h (by decide))
          refine z_iconst (pc := 174) (v := 0) O dX9_law_174 (by decide) ?_
          refine z_iast (pc := 175) 3 O (ja_46 F.1) rfl (by decide) (by decide) dX9_law_175 ?_
          refine z_iinc (pc := 176) (4) _ O dX9_law_176 rfl (by decide) (by decide) rfl ?_
          refine z_goto (pc := 179) (tgt := 149) O dX9_law_179 (by decide) ?_
          refine z_iload_n (pc := 149) O dX9_law_149 rfl ?_
          refine z_iconst (pc := 150) (v := 4) O dX9_law_150 (by decide) ?_
          refine z_icmp_ge (pc := 151) (tgt := 182) O dX9_law_151 (by decide) (fun _ => ?_) (fun h => absurd h (by decide))
          refine z_aload_n (pc := 182) O dX9_law_182 rfl ?_
          refine z_getR (pc := 183) 47 O fl_X9_54 rfl (jo_33 F.1) (jr_33_23 F.1) dX9_law_183 ?_
          refine z_aload_n (pc := 186) O dX9_law_186 rfl ?_
          refine z_getIv (pc := 187) (x := 0) O fl_X9_283 rfl (jo_33 F.1) rfl dX9_law_187 ?_
          refine z_iconst (pc := 190) (v := 0) O dX9_law_190 (by decide) ?_
          refine z_iast (pc := 191) 0 O (ja_47 F.1) rfl (by decide) (by decide) dX9_law_191 ?_
          refine z_aload_n (pc := 192) O dX9_law_192 rfl ?_
          refine z_getR (pc := 193) 48 O fl_X9_57 rfl (jo_33 F.1) (jr_33_24 F.1) dX9_law_193 ?_
          refine z_aload_n (pc := 196) O dX9_law_196 rfl ?_
          refine z_getIv (pc := 197) (x := 0) O fl_X9_283 rfl (jo_33 F.1) rfl dX9_law_197 ?_
          refine z_iconst (pc := 200) (v := 0) O dX9_law_200 (by decide) ?_
          refine z_iast (pc := 201) 0 O (ja_48 F.1) rfl (by decide) (by decide) dX9_law_201 ?_
          refine z_aload_n (pc := 202) O dX9_law_202 rfl ?_
          refine z_getR (pc := 203) 49 O fl_X9_60 rfl (jo_33 F.1) (jr_33_25 F.1) dX9_law_203 ?_
          refine z_aload_n (pc := 206) O dX9_law_206 rfl ?_
          refine z_getIv (pc := 207) (x := 0) O fl_X9_283 rfl (jo_33 F.1) rfl dX9_law_207 ?_
          refine z_iconst (pc := 210) (v := 1) O dX9_law_210 (by decide) ?_
          refine z_iast (pc := 211) 0 O (ja_49 F.1) rfl (by decide) (by decide) dX9_law_211 ?_
          refine z_aload_n (pc := 212) O dX9_law_212 rfl ?_
          refine z_getR (pc := 213) 50 O fl_X9_63 rfl (jo_33 F.1) (jr_33_26 F.1) dX9_law_213 ?_
          refine z_aload_n (pc := 216) O dX9_law_216 rfl ?_
          refine z_getIv (pc := 217) (x := 0) O fl_X9_283 rfl (jo_33 F.1) rfl dX9_law_217 ?_
          refine z_iconst (pc := 220) (v := 1) O dX9_law_220 (by decide) ?_
          refine z_iast (pc := 221) 0 O (ja_50 F.1) rfl (by decide) (by decide) dX9_law_221 ?_
          refine z_aload_n (pc := 222) O dX9_law_222 rfl ?_
          refine z_iconst (pc := 223) (v := 0) O dX9_law_223 (by decide) ?_
          refine z_putI (pc := 224) O fl_X9_286 rfl ⟨rfl, rfl⟩ (jo_33 F.1) dX9_law_224 ?_
          refine z_aload_n (pc := 227) O dX9_law_227 rfl ?_
          refine z_iconst (pc := 228) (v := 0) O dX9_law_228 (by decide) ?_
          refine z_putI (pc := 229) O fl_X9_289 rfl ⟨rfl, rfl⟩ (jo_33 F.1) dX9_law_229 ?_
          refine z_aload_n (pc := 232) O dX9_law_232 rfl ?_
          refine z_callV (pc := 233) O cl_X9_266 (p1_next _ _ F.1 rfl rfl) (by decide) (jo_33 F.1) kc_9 rfl rfl (Nat.le_of_ble_eq_true rfl) ⟨Nat.zero_le _, Nat.zero_le _⟩ dX9_law_233 (fun r τ hp => ?_)
          obtain ⟨rfl, rfl⟩ := hp
          refine z_aload_n (pc := 236) O dX9_law_236 rfl ?_
          refine z_callV (pc := 237) O cl_X9_272 (p1_isGood _ _ F.1 rfl) (by decide) (jo_33 F.1) kc_9 rfl rfl (Nat.le_of_ble_eq_true rfl) ⟨Nat.zero_le _, Nat.zero_le _⟩ dX9_law_237 (fun r τ hp => ?_)
          obtain ⟨rfl, rfl⟩ := hp
          refine z_if_eq (pc := 240) (tgt := 257) O dX9_law_240 (by decide) (fun h => absurd h (by decide)) (fun _ => ?_)
          refine z_aload_n (pc := 243) O dX9_law_243 rfl ?_
          refine z_getIv (pc := 244) (x := 0) O fl_X9_238 rfl (jo_33 F.1) rfl dX9_law_244 ?_
          refine z_if_eq (pc := 247) (tgt := 257) O dX9_law_247 (by decide) (fun _ => ?_) (fun h => absurd h (by decide))
          refine z_aload_n (pc := 257) O dX9_law_257 rfl ?_
          refine z_callV (pc := 258) O cl_X9_272 (p1_isGood _ _ F.1 rfl) (by decide) (jo_33 F.1) kc_9 rfl rfl (Nat.le_of_ble_eq_true rfl) ⟨Nat.zero_le _, Nat.zero_le _⟩ dX9_law_258 (fun r τ hp => ?_)
          obtain ⟨rfl, rfl⟩ := hp
          refine z_if_ne (pc := 261) (tgt := 266) O dX9_law_261 (by decide) (fun _ => ?_) (fun h => absurd h (by decide))
          refine z_aload_n (pc := 266) O dX9_law_266 rfl ?_
          refine z_getR (pc := 267) 36 O fl_X9_20 rfl (jo_33 F.1) (jr_33_12 F.1) dX9_law_267 ?_
          refine z_aload_n (pc := 270) O dX9_law_270 rfl ?_
          refine z_getIv (pc := 271) (x := 0) O fl_X9_280 rfl (jo_33 F.1) (frm0 F 33 33 (by decide) (by decide) (by decide)) dX9_law_271 ?_
          refine z_iload_n (pc := 274) O dX9_law_274 rfl ?_
          refine z_iast (pc := 275) 0 O (ja_36 F.1) rfl (by decide) (by decide) dX9_law_275 ?_
          refine z_aload_n (pc := 276) O dX9_law_276 rfl ?_
          refine z_getR (pc := 277) 37 O fl_X9_24 rfl (jo_33 F.1) (jr_33_13 F.1) dX9_law_277 ?_
          refine z_aload_n (pc := 280) O dX9_law_280 rfl ?_
          refine z_getIv (pc := 281) (x := 0) O fl_X9_280 rfl (jo_33 F.1) (frm0 F 33 33 (by decide) (by decide) (by decide)) dX9_law_281 ?_
          refine z_iload_n (pc := 284) O dX9_law_284 rfl ?_
          refine z_iast (pc := 285) 0 O (ja_37 F.1) rfl (by decide) (by decide) dX9_law_285 ?_
          refine z_aload_n (pc := 286) O dX9_law_286 rfl ?_
          refine z_dup (pc := 287) O dX9_law_287 rfl ?_
          refine z_getIv (pc := 288) (x := 0) O fl_X9_280 rfl (jo_33 F.1) (frm0 F 33 33 (by decide) (by decide) (by decide)) dX9_law_288 ?_
          refine z_iconst (pc := 291) (v := 1) O dX9_law_291 (by decide) ?_
          refine z_iadd (pc := 292) O dX9_law_292 ?_
          refine z_topv (pc := 293) (1) (by decide) ?_
          refine z_putI (pc := 293) O fl_X9_280 rfl ⟨rfl, rfl⟩ (jo_33 F.1) dX9_law_293 ?_
          refine z_aload_n (pc := 296) O dX9_law_296 rfl ?_
          refine z_getR (pc := 297) 38 O fl_X9_27 rfl (jo_33 F.1) (jr_33_14 F.1) dX9_law_297 ?_
          refine z_iload_n (pc := 300) O dX9_law_300 rfl ?_
          refine z_dup2 (pc := 301) O dX9_law_301 rfl rfl ?_
          refine z_ialdv (pc := 302) (x := 0) j O (ja_38 F.1) (frm0 F 38 j (by decide) (by decide) (by omega)) rfl hj (by decide) dX9_law_302 ?_
          refine z_iconst (pc := 303) (v := 1) O dX9_law_303 (by decide) ?_
          refine z_iadd (pc := 304) O dX9_law_304 ?_
          refine z_topv (pc := 305) (1) (by decide) ?_
          refine z_iast (pc := 305) j O (ja_38 F.1) rfl hj (by decide) dX9_law_305 ?_
          refine z_aload_n (pc := 306) O dX9_law_306 rfl ?_
          refine z_getR (pc := 307) 38 O fl_X9_27 rfl (jo_33 F.1) (jr_33_14 F.1) dX9_law_307 ?_
          refine z_iload_n (pc := 310) O dX9_law_310 rfl ?_
          refine z_iald (pc := 311) j O (ja_38 F.1) rfl hj (by decide) dX9_law_311 ?_
          refine z_iret (pc := 312) O dX9_law_312 ?_
          refine congrArg (fun z => some (Value.int z)) ?_
          rw [hI_sI, if_pos ⟨rfl, rfl⟩]
          unfold a_law
          rw [if_pos]
          simp only [Int32.lt_iff_toInt_lt, Int32.le_iff_toInt_le, ← Int32.toInt_inj, Int32.reduceToInt] at *
          omega
